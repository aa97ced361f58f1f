/-! ===== the chooser, class: what is settled ===== -/
theorem bNd_c {A : gd_C} {v v' : Nat → Nat} : ∀ k, (∀ g < k, v g = v' g) → bNd A v k = bNd A v' k := by
  intro k
  induction k with
  | zero => intro _; rfl
  | succ k ih =>
    intro h
    show bNd A v k + _ = bNd A v' k + _
    rw [ih fun g hg => h g (by omega), h k (by omega)]
theorem bNd_b {A : gd_C} (Id : iCd A) {v : Nat → Nat} : ∀ k, k ≤ 5 → 0 ≤ bNd A v k ∧ bNd A v k ≤ 20 * (k : Int) := by
  intro k
  induction k with
  | zero =>
    intro _
    show (0 : Int) ≤ 0 ∧ (0 : Int) ≤ 20 * ((0 : Nat) : Int)
    exact ⟨by decide, by decide⟩
  | succ k ih =>
    intro h
    have := ih (by omega)
    obtain ⟨w, -, hw2, hwe⟩ := iCd_wth Id k (by omega)
    show 0 ≤ bNd A v k + _ ∧ bNd A v k + _ ≤ _
    rw [hwe, gn_toInt (by omega)]
    by_cases q : 0 < gn (A 13 k) ∧ gn (A 13 k) ≤ v k
    · rw [if_pos q]; omega
    · rw [if_neg q]; omega
theorem bExt_b {A : gd_C} (Id : iCd A) (v : Nat → Nat) (num : Nat) : -99 ≤ bExt A v num ∧ bExt A v num ≤ 100 := by
  have := bNd_b Id (v := v) 5 (Nat.le_refl 5)
  obtain ⟨L, -, hL, hLe⟩ := iCd_les Id
  unfold bExt
  rw [hLe, gn_toInt (by omega)]
  by_cases q : num < gn (A 0 19)
  · rw [if_pos q]; omega
  · rw [if_neg q]; omega
def vS (v : Nat → Nat) : Nat → Nat
  | 0 => 0
  | g + 1 => vS v g + v g
section P66
variable {c d n p : Nat} {m : gd_M} {A : gd_C} {r l : Nat} {e : Nat → Int32}
theorem dd_le {z : Nat → Nat} {s g : Nat} : dD z g s ≤ s := Nat.le_trans (Nat.mod_le _ _) (Nat.div_le_self _ _)
theorem c_extra_11 (K : gK c d n p m) (Id : iCd A) (Cd : cCd c (gI m) A) {z : Nat → Nat} (hz : ∀ g, 0 < z g) (hz2 : ∀ g, z g ≤ 17) (Z : zL z m) {s : Nat} (hs : s < 1280) : ∀ j g x4 v7 v8, g + j = 5 → x4.toInt = bNd A (fun h => dD z h s) g → ∃ x, gd_Den (128, 11, [.ref 15, .ref c, .int (Int32.ofNat s), .int (Int32.ofNat (vS (fun h => dD z h s) g)), .int x4, .int (Int32.ofNat (s / dP z g)), .int (Int32.ofNat g), v7, v8], [], m) = some (.int x, m) ∧ (gn (A 0 18) < vS (fun h => dD z h s) 5 → x = -1073741824) ∧ (vS (fun h => dD z h s) 5 ≤ gn (A 0 18) → x.toInt = 65536 * bExt A (fun h => dD z h s) (vS (fun h => dD z h s) 5)) := by
  have hvb : ∀ k, k ≤ 5 → vS (fun h => dD z h s) k ≤ 1280 * k := by
    intro k
    induction k with
    | zero => intro _; exact Nat.le_refl 0
    | succ k ih =>
      intro hk
      have := ih (by omega)
      have h2 : dD z k s ≤ s := dd_le
      show vS (fun h => dD z h s) k + dD z k s ≤ _
      omega
  intro j
  induction j with
  | zero =>
    intro g x4 v7 v8 h hx4
    have : g = 5 := by omega
    subst this
    have hv5 := hvb 5 (Nat.le_refl 5)
    have hb := bNd_b Id (v := fun h => dD z h s) 5 (Nat.le_refl 5)
    obtain ⟨cn, -, hcn, hcne⟩ := iCd_cnt Id
    obtain ⟨sh, -, hsh, hshe⟩ := iCd_sho Id
    obtain ⟨le, -, hle, hlee⟩ := iCd_les Id
    have h18 : gn (A 0 18) = cn := by rw [hcne, gn_of (by omega)]
    have h19 : gn (A 0 19) = sh := by rw [hshe, gn_of (by omega)]
    have hlt : (A 0 20).toInt = (le : Int) := by rw [hlee, gn_toInt (by omega)]
    have e5 : (5 : Int32).toNatClampNeg = 5 := rfl
    have e6 : (6 : Int32).toNatClampNeg = 6 := rfl
    have e7 : (7 : Int32).toNatClampNeg = 7 := rfl
    have e65 : (65536 : Int32).toInt = 65536 := rfl
    unfold bExt
    rw [h18, h19, hlt, q_Ch_extra_11, if_neg (by decide)]
    simp only [gK_N K, gK_8_0 K, gK_8_1 K, gK_8_2 K, gK_8_3 K, gK_8_4 K, gK_8_5 K, gK_8_6 K, gK_8_7 K, gK_8_8 K, gK_10_0 K, gK_10_1 K, gK_10_2 K, gK_11_0 K, gK_15_0 K, gK_15_1 K, gK_15_2 K, gK_15_3 K, gK_20_0 K, gK_20_1 K, gK_20_2 K, gK_20_3 K, gK_20_4 K, gK_20_5 K, gK_698_0 K, gK_698_3 K, gK_698_16 K, gK_698_17 K, gK_698_20 K, gK_698_21 K, gK_698_22 K, gK_698_23 K, gK_698_24 K, gK_698_25 K, gK_698_26 K, gK_698_27 K, gK_698_28 K, gK_698_29 K, gK_698_30 K, gK_698_31 K, gK_698_32 K, gK_698_33 K, gK_698_34 K, gK_698_35 K, gK_698_36 K, gK_698_37 K, gK_698_38 K, gK_698_39 K, gK_698_41 K, gK_698_42 K, gK_698_44 K, gK_c K, gK_d K, gK_n K, gK_p K, gok_8, gok_10, gok_11, gok_15, gok_20, gok_698, gok_699, goA_9, goA_12, goA_13, goA_14, goA_16, goA_17, goA_18, goA_19, goA_21, goA_22, goA_23, goA_24, goA_25, goA_26, goA_27, goA_28, goA_29, goA_30, goA_31, goA_732, goA_733, goA_734, goA_735, goA_736, goA_737, goA_738, goA_739, goA_740, goA_741, goA_742, goA_743, goA_744, goA_745, goA_746, goA_747, goA_748, goA_749, goA_750, goA_751, goA_752, goA_753, goA_754, goA_755, goA_756, goA_757, gN_wI, gR_wI, gL_wI, if_true, eq_self, gok_c K, gok_d K, gok_n K, gok_p K, gK_c_0 K, gK_c_1 K, gK_c_2 K, gK_c_3 K, gK_c_4 K, gK_c_5 K, gK_c_6 K, gK_c_7 K, gK_c_8 K, gK_c_9 K, gK_c_10 K, gK_c_11 K, gK_n_3 K, gK_n_4 K, gK_n_5 K, gK_n_6 K, gK_n_7 K, gK_n_8 K, gK_n_9 K, gK_n_10 K, gK_n_11 K, gK_n_12 K, gK_n_13 K, gK_n_14 K, gK_n_15 K, gK_n_16 K, gK_n_17 K, goA_c1 K, goA_c2 K, goA_c3 K, goA_c4 K, goA_c5 K, goA_c6 K, goA_c7 K, goA_c8 K, goA_c9 K, goA_c10 K, goA_c11 K, goA_c12 K, goA_n1 K, goA_n2 K, goA_n3 K, goA_n4 K, goA_n5 K, goA_n6 K, goA_n7 K, goA_n8 K, goA_n9 K, goA_n10 K, goA_n11 K, goA_n12 K, goA_n13 K, goA_n14 K, goA_n15 K]
    rw [show gd_in 5 12 = true from rfl, show gd_in 6 12 = true from rfl, show gd_in 7 12 = true from rfl, if_pos rfl, if_pos rfl, if_pos rfl, e5, e6, e7, cCd_cnt Cd, cCd_sho Cd, cCd_les Cd, hcne, hshe]
    by_cases h1 : cn < vS (fun h => dD z h s) 5
    · refine ⟨-1073741824, ?_, fun _ => rfl, fun q => by omega⟩
      rw [if_pos ((gn_lt (by omega) (by omega)).2 h1)]
    · rw [if_neg (fun q => h1 ((gn_lt (by omega) (by omega)).1 q))]
      by_cases h2 : vS (fun h => dD z h s) 5 < sh
      · rw [if_pos ((gn_lt (by omega) (by omega)).2 h2), if_pos h2]
        have hsub : (x4 - A 0 20).toInt = bNd A (fun h => dD z h s) 5 - (le : Int) := by
          rw [gt_sub (by rw [hx4, hlt]; omega), hx4, hlt]
        refine ⟨_, rfl, fun q => absurd q h1, fun _ => ?_⟩
        rw [gt_mul (by rw [hsub, e65]; omega), hsub, e65]; omega
      · rw [if_neg (fun q => h2 ((gn_lt (by omega) (by omega)).1 q)), if_neg h2]
        refine ⟨_, rfl, fun q => absurd q h1, fun _ => ?_⟩
        rw [gt_mul (by rw [hx4, e65]; omega), hx4, e65]; omega
  | succ j ih =>
    intro g x4 v7 v8 h hx4
    have hzg := hz g
    have hzg2 := hz2 g
    have hgb := hvb g (by omega)
    have hsd : s / dP z g ≤ s := Nat.div_le_self _ _
    have hmo : s / dP z g % z g ≤ s / dP z g := Nat.mod_le _ _
    have hb := bNd_b Id (v := fun h => dD z h s) g (by omega)
    have hz0 : ¬ Int32.ofNat (z g) = 0 := fun h => by have := (gneb_0 (by omega) (by decide)).1 h; omega
    obtain ⟨nd, -, hnd, hnde⟩ := iCd_nds Id g (by omega)
    obtain ⟨w, -, hw2, hwe⟩ := iCd_wth Id g (by omega)
    have h13 : gn (A 13 g) = nd := by rw [hnde, gn_of (by omega)]
    have hdq : dD z g s = s / dP z g % z g := rfl
    have hv : vS (fun h => dD z h s) (g + 1) = vS (fun h => dD z h s) g + dD z g s := rfl
    have hbn : bNd A (fun h => dD z h s) (g + 1) = bNd A (fun h => dD z h s) g + if 0 < nd ∧ nd ≤ dD z g s then (w : Int) else 0 := by
      show bNd A (fun h => dD z h s) g + (if 0 < gn (A 13 g) ∧ gn (A 13 g) ≤ dD z g s then (A 14 g).toInt else 0) = _
      rw [h13, hwe, gn_toInt (by omega)]
    have hdv : s / dP z g / z g = s / dP z (g + 1) := Nat.div_div_eq_div_mul _ _ _
    rw [q_Ch_extra_11, if_pos ((gnlb_5 (by omega) (by decide)).2 (by omega))]
    simp only [gK_N K, gK_8_0 K, gK_8_1 K, gK_8_2 K, gK_8_3 K, gK_8_4 K, gK_8_5 K, gK_8_6 K, gK_8_7 K, gK_8_8 K, gK_10_0 K, gK_10_1 K, gK_10_2 K, gK_11_0 K, gK_15_0 K, gK_15_1 K, gK_15_2 K, gK_15_3 K, gK_20_0 K, gK_20_1 K, gK_20_2 K, gK_20_3 K, gK_20_4 K, gK_20_5 K, gK_698_0 K, gK_698_3 K, gK_698_16 K, gK_698_17 K, gK_698_20 K, gK_698_21 K, gK_698_22 K, gK_698_23 K, gK_698_24 K, gK_698_25 K, gK_698_26 K, gK_698_27 K, gK_698_28 K, gK_698_29 K, gK_698_30 K, gK_698_31 K, gK_698_32 K, gK_698_33 K, gK_698_34 K, gK_698_35 K, gK_698_36 K, gK_698_37 K, gK_698_38 K, gK_698_39 K, gK_698_41 K, gK_698_42 K, gK_698_44 K, gK_c K, gK_d K, gK_n K, gK_p K, gok_8, gok_10, gok_11, gok_15, gok_20, gok_698, gok_699, goA_9, goA_12, goA_13, goA_14, goA_16, goA_17, goA_18, goA_19, goA_21, goA_22, goA_23, goA_24, goA_25, goA_26, goA_27, goA_28, goA_29, goA_30, goA_31, goA_732, goA_733, goA_734, goA_735, goA_736, goA_737, goA_738, goA_739, goA_740, goA_741, goA_742, goA_743, goA_744, goA_745, goA_746, goA_747, goA_748, goA_749, goA_750, goA_751, goA_752, goA_753, goA_754, goA_755, goA_756, goA_757, gN_wI, gR_wI, gL_wI, if_true, eq_self]
    rw [gn_in (by omega) (show g < 5 by omega), if_pos rfl, gn_nat (show g < 2147483648 by omega), Z.2.1 g (by omega), c_max, gMx_1 hzg (by omega)]
    simp only [gK_N K, gK_8_0 K, gK_8_1 K, gK_8_2 K, gK_8_3 K, gK_8_4 K, gK_8_5 K, gK_8_6 K, gK_8_7 K, gK_8_8 K, gK_10_0 K, gK_10_1 K, gK_10_2 K, gK_11_0 K, gK_15_0 K, gK_15_1 K, gK_15_2 K, gK_15_3 K, gK_20_0 K, gK_20_1 K, gK_20_2 K, gK_20_3 K, gK_20_4 K, gK_20_5 K, gK_698_0 K, gK_698_3 K, gK_698_16 K, gK_698_17 K, gK_698_20 K, gK_698_21 K, gK_698_22 K, gK_698_23 K, gK_698_24 K, gK_698_25 K, gK_698_26 K, gK_698_27 K, gK_698_28 K, gK_698_29 K, gK_698_30 K, gK_698_31 K, gK_698_32 K, gK_698_33 K, gK_698_34 K, gK_698_35 K, gK_698_36 K, gK_698_37 K, gK_698_38 K, gK_698_39 K, gK_698_41 K, gK_698_42 K, gK_698_44 K, gK_c K, gK_d K, gK_n K, gK_p K, gok_8, gok_10, gok_11, gok_15, gok_20, gok_698, gok_699, goA_9, goA_12, goA_13, goA_14, goA_16, goA_17, goA_18, goA_19, goA_21, goA_22, goA_23, goA_24, goA_25, goA_26, goA_27, goA_28, goA_29, goA_30, goA_31, goA_732, goA_733, goA_734, goA_735, goA_736, goA_737, goA_738, goA_739, goA_740, goA_741, goA_742, goA_743, goA_744, goA_745, goA_746, goA_747, goA_748, goA_749, goA_750, goA_751, goA_752, goA_753, goA_754, goA_755, goA_756, goA_757, gN_wI, gR_wI, gL_wI, if_true, eq_self, gok_c K, gok_d K, gok_n K, gok_p K, gK_c_0 K, gK_c_1 K, gK_c_2 K, gK_c_3 K, gK_c_4 K, gK_c_5 K, gK_c_6 K, gK_c_7 K, gK_c_8 K, gK_c_9 K, gK_c_10 K, gK_c_11 K, gK_n_3 K, gK_n_4 K, gK_n_5 K, gK_n_6 K, gK_n_7 K, gK_n_8 K, gK_n_9 K, gK_n_10 K, gK_n_11 K, gK_n_12 K, gK_n_13 K, gK_n_14 K, gK_n_15 K, gK_n_16 K, gK_n_17 K, goA_c1 K, goA_c2 K, goA_c3 K, goA_c4 K, goA_c5 K, goA_c6 K, goA_c7 K, goA_c8 K, goA_c9 K, goA_c10 K, goA_c11 K, goA_c12 K, goA_n1 K, goA_n2 K, goA_n3 K, goA_n4 K, goA_n5 K, goA_n6 K, goA_n7 K, goA_n8 K, goA_n9 K, goA_n10 K, goA_n11 K, goA_n12 K, goA_n13 K, goA_n14 K, goA_n15 K, Option.bind_some, gd_k0I_i]
    rw [if_neg hz0, if_neg hz0, gn_in (by omega) (show g < 5 by omega), if_pos rfl, if_pos rfl, cCd_nds Cd g (by omega), cCd_wth Cd g (by omega), hnde, hwe, gn_mod (by omega) (by omega), gn_add, gn_div (by omega) (by omega), gn_succ, hdv, ← hdq, ← hv]
    by_cases h1 : 0 < nd
    · rw [if_pos ((gnla_0 (by decide) (by omega)).2 h1)]
      by_cases h2 : dD z g s < nd
      · rw [if_pos ((gn_lt (by omega) (by omega)).2 h2)]
        exact ih (g + 1) x4 _ _ (by omega) (by rw [hbn, if_neg (by omega), hx4]; omega)
      · rw [if_neg (fun q => h2 ((gn_lt (by omega) (by omega)).1 q))]
        exact ih (g + 1) _ _ _ (by omega) (by rw [hbn, if_pos (by omega), gt_add (by rw [hx4, gn_toInt (by omega)]; omega), hx4, gn_toInt (by omega)])
    · rw [if_neg (fun q => h1 ((gnla_0 (by decide) (by omega)).1 q))]
      exact ih (g + 1) x4 _ _ (by omega) (by rw [hbn, if_neg (by omega), hx4]; omega)
theorem c_extra (K : gK c d n p m) (Id : iCd A) (Cd : cCd c (gI m) A) {z : Nat → Nat} (hz : ∀ g, 0 < z g) (hz2 : ∀ g, z g ≤ 17) (Z : zL z m) {s : Nat} (hs : s < 1280) : ∃ x, gd_call 128 [.ref 15, .ref c, .int (Int32.ofNat s)] m = some (.int x, m) ∧ (gn (A 0 18) < vS (fun h => dD z h s) 5 → x = -1073741824) ∧ (vS (fun h => dD z h s) 5 ≤ gn (A 0 18) → x.toInt = 65536 * bExt A (fun h => dD z h s) (vS (fun h => dD z h s) 5)) := by
  rw [q_Ch_extra]
  have := c_extra_11 K Id Cd hz hz2 Z hs 5 0 0 .null .null rfl rfl
  rw [show s / dP z 0 = s from Nat.div_one s] at this
  exact this
/-- the whole worth of a choice of all entries that count, in units, less its set -/
def fVl (A : gd_C) (e : Nat → Int32) (l : Nat) (f : Nat → Bool) : Int := cVl (bWo A e) (eLj A e) (bC e l) f + 65536 * bExt A (fun g => bCnt (eGr A e) f g (bC e l)) (bNum f (bC e l))
/-- choices of a state; of the states below t that may stand -/
def fSt (A : gd_C) (e : Nat → Int32) (l s : Nat) (f : Nat → Bool) : Prop := cFE (eMay A e l) (eGr A e) (bC e l) (fun g => dD (eZ A e l) g s) false f ∨ cFE (eMay A e l) (eGr A e) (bC e l) (fun g => dD (eZ A e l) g s) true f
def fLo (A : gd_C) (e : Nat → Int32) (l t : Nat) (f : Nat → Bool) : Prop := ∃ s, s < t ∧ fSt A e l s f ∧ vS (fun g => dD (eZ A e l) g s) 5 ≤ gn (A 0 18)
theorem fSt_1 {s : Nat} {f : Nat → Bool} (h : fSt A e l s f) : (∀ i, f i = true → i < bC e l ∧ eMay A e l i = true) ∧ ∀ g < 5, bCnt (eGr A e) f g (bC e l) = dD (eZ A e l) g s := by
  rcases h with h | h
  · exact ⟨h.1, h.2.1⟩
  · exact ⟨h.1, h.2.1⟩
theorem fSt_num (Id : iCd A) (hE : eOk A e l) {s : Nat} {f : Nat → Bool} (h : fSt A e l s f) : bNum f (bC e l) = vS (fun g => dD (eZ A e l) g s) 5 := by
  obtain ⟨h1, h2⟩ := fSt_1 h
  rw [← bNum_sum (gr := eGr A e) (bC e l) fun i hi _ => e_gr Id hE hi, h2 0 (by decide), h2 1 (by decide), h2 2 (by decide), h2 3 (by decide), h2 4 (by decide)]
  show dD (eZ A e l) 0 s + dD (eZ A e l) 1 s + dD (eZ A e l) 2 s + dD (eZ A e l) 3 s + dD (eZ A e l) 4 s = 0 + dD (eZ A e l) 0 s + dD (eZ A e l) 1 s + dD (eZ A e l) 2 s + dD (eZ A e l) 3 s + dD (eZ A e l) 4 s
  omega
theorem fSt_ext (Id : iCd A) (hE : eOk A e l) {s : Nat} {f : Nat → Bool} (h : fSt A e l s f) : bExt A (fun g => bCnt (eGr A e) f g (bC e l)) (bNum f (bC e l)) = bExt A (fun g => dD (eZ A e l) g s) (vS (fun g => dD (eZ A e l) g s) 5) := by
  rw [fSt_num Id hE h]
  unfold bExt
  rw [bNd_c 5 fun g hg => (fSt_1 h).2 g hg]
theorem fVl_lo (Id : iCd A) (hE : eOk A e l) {f : Nat → Bool} (h : ∀ i, f i = true → eMay A e l i = true) : -6488064 ≤ fVl A e l f ∧ fVl A e l f ≤ 48153600 := by
  have h16 := hE.1
  have hCl := bC_le (e := e) l
  have h1 := cVl_b (e_wo Id hE) (e_lj (l := l) (e := e) Id) (bC e l) (by omega) (f := f) fun i _ hi => h i hi
  have h2 := bExt_b Id (fun g => bCnt (eGr A e) f g (bC e l)) (bNum f (bC e l))
  unfold fVl
  omega
theorem c_settle_5 (Id : iCd A) (hE : eOk A e l) (K : gK c d n p m) (Cd : cCd c (gI m) A) (Z : zL (eZ A e l) m) (hC : ∀ s < dP (eZ A e l) 5, zC A e l (bC e l) m s) : ∀ j t x v, t + j = dP (eZ A e l) 5 → xDC (fLo A e l t) (fVl A e l) x.toInt 41600000 → ∃ x' v', gd_Den (130, 5, [.ref 15, .ref c, .int x, .int (Int32.ofNat t), v], [], m) = gd_Den (130, 5, [.ref 15, .ref c, .int x', .int (Int32.ofNat (dP (eZ A e l) 5)), v'], [], m) ∧ xDC (fLo A e l (dP (eZ A e l) 5)) (fVl A e l) x'.toInt 41600000 := by
  have hS := eS_b hE
  have h16 := hE.1
  have hCl := bC_le (e := e) l
  have hw := e_wo Id hE
  have hl := e_lj (l := l) (e := e) Id
  have hz : ∀ g, 0 < eZ A e l g := fun g => (eZ_b g).1
  have hz2 : ∀ g, eZ A e l g ≤ 17 := fun g => by have := (eZ_b (A := A) (e := e) (l := l) g).2; omega
  have hN : xN = -1073741824 := rfl
  intro j
  induction j with
  | zero =>
    intro t x v h hx
    have : t = dP (eZ A e l) 5 := by omega
    subst this
    exact ⟨x, v, rfl, hx⟩
  | succ j ih =>
    intro t x v h hx
    obtain ⟨hW, hV⟩ := hC t (by omega)
    have hin : gd_in (Int32.ofNat t) 1280 = true := gn_in (by omega) (by omega)
    -- the best of this state
    have hM : xDC (fSt A e l t) (cVl (bWo A e) (eLj A e) (bC e l)) (gMx (gI m 16 t) (gI m 17 t)).toInt (2600000 * (bC e l : Int)) := by
      rw [gMx_t]
      refine xDC_max hW hV (fun f hf => ?_) (by rw [hN]; omega)
      have hf := (fSt_1 (show fSt A e l t f from hf)).1
      exact (cVl_b hw hl (bC e l) (by omega) fun i _ hi => (hf i hi).2).1
    have hlo : ∀ f, fSt A e l t f → 0 ≤ cVl (bWo A e) (eLj A e) (bC e l) f := fun f hf => (cVl_b hw hl (bC e l) (by omega) fun i _ hi => ((fSt_1 hf).1 i hi).2).1
    have hhi : ∀ f, fSt A e l t f → cVl (bWo A e) (eLj A e) (bC e l) f ≤ 41600000 := fun f hf => by
      have := (cVl_b hw hl (bC e l) (by omega) fun i _ hi => ((fSt_1 hf).1 i hi).2).2
      omega
    have hxb : xN ≤ x.toInt ∧ x.toInt ≤ 48153600 := by
      rcases hx with ⟨f, p1, p2, p3⟩ | ⟨p1, p2, p3⟩
      · obtain ⟨s, -, hs2, -⟩ := p1
        have := fVl_lo Id hE fun i hi => ((fSt_1 hs2).1 i hi).2
        omega
      · omega
    have hdown : ∀ f, fLo A e l t f → -6488064 ≤ fVl A e l f := fun f hf => by
      obtain ⟨s, -, hs2, -⟩ := hf
      exact (fVl_lo Id hE fun i hi => ((fSt_1 hs2).1 i hi).2).1
    have e53 : ((-536870912 : Int32)).toInt = -536870912 := rfl
    have hsame : (∀ f, ¬ (fSt A e l t f ∧ vS (fun g => dD (eZ A e l) g t) 5 ≤ gn (A 0 18))) → ∀ f, fLo A e l t f ↔ fLo A e l (t + 1) f := fun hno f => by
      constructor
      · intro hf
        obtain ⟨s, hs, h2⟩ := hf
        exact ⟨s, by omega, h2⟩
      · intro hf
        obtain ⟨s, hs, h2⟩ := hf
        by_cases es : s = t
        · subst es; exact absurd h2 (hno f)
        · exact ⟨s, by omega, h2⟩
    rw [q_Ch_settle_5]
    simp only [gK_N K, gK_8_0 K, gK_8_1 K, gK_8_2 K, gK_8_3 K, gK_8_4 K, gK_8_5 K, gK_8_6 K, gK_8_7 K, gK_8_8 K, gK_10_0 K, gK_10_1 K, gK_10_2 K, gK_11_0 K, gK_15_0 K, gK_15_1 K, gK_15_2 K, gK_15_3 K, gK_20_0 K, gK_20_1 K, gK_20_2 K, gK_20_3 K, gK_20_4 K, gK_20_5 K, gK_698_0 K, gK_698_3 K, gK_698_16 K, gK_698_17 K, gK_698_20 K, gK_698_21 K, gK_698_22 K, gK_698_23 K, gK_698_24 K, gK_698_25 K, gK_698_26 K, gK_698_27 K, gK_698_28 K, gK_698_29 K, gK_698_30 K, gK_698_31 K, gK_698_32 K, gK_698_33 K, gK_698_34 K, gK_698_35 K, gK_698_36 K, gK_698_37 K, gK_698_38 K, gK_698_39 K, gK_698_41 K, gK_698_42 K, gK_698_44 K, gK_c K, gK_d K, gK_n K, gK_p K, gok_8, gok_10, gok_11, gok_15, gok_20, gok_698, gok_699, goA_9, goA_12, goA_13, goA_14, goA_16, goA_17, goA_18, goA_19, goA_21, goA_22, goA_23, goA_24, goA_25, goA_26, goA_27, goA_28, goA_29, goA_30, goA_31, goA_732, goA_733, goA_734, goA_735, goA_736, goA_737, goA_738, goA_739, goA_740, goA_741, goA_742, goA_743, goA_744, goA_745, goA_746, goA_747, goA_748, goA_749, goA_750, goA_751, goA_752, goA_753, goA_754, goA_755, goA_756, goA_757, gN_wI, gR_wI, gL_wI, if_true, eq_self]
    rw [Z.1, if_pos ((gn_lt (by omega) (by omega)).2 (show t < dP (eZ A e l) 5 by omega)), hin, if_pos rfl, gn_nat (by omega), c_max, if_pos rfl]
    simp only [gK_N K, gK_8_0 K, gK_8_1 K, gK_8_2 K, gK_8_3 K, gK_8_4 K, gK_8_5 K, gK_8_6 K, gK_8_7 K, gK_8_8 K, gK_10_0 K, gK_10_1 K, gK_10_2 K, gK_11_0 K, gK_15_0 K, gK_15_1 K, gK_15_2 K, gK_15_3 K, gK_20_0 K, gK_20_1 K, gK_20_2 K, gK_20_3 K, gK_20_4 K, gK_20_5 K, gK_698_0 K, gK_698_3 K, gK_698_16 K, gK_698_17 K, gK_698_20 K, gK_698_21 K, gK_698_22 K, gK_698_23 K, gK_698_24 K, gK_698_25 K, gK_698_26 K, gK_698_27 K, gK_698_28 K, gK_698_29 K, gK_698_30 K, gK_698_31 K, gK_698_32 K, gK_698_33 K, gK_698_34 K, gK_698_35 K, gK_698_36 K, gK_698_37 K, gK_698_38 K, gK_698_39 K, gK_698_41 K, gK_698_42 K, gK_698_44 K, gK_c K, gK_d K, gK_n K, gK_p K, gok_8, gok_10, gok_11, gok_15, gok_20, gok_698, gok_699, goA_9, goA_12, goA_13, goA_14, goA_16, goA_17, goA_18, goA_19, goA_21, goA_22, goA_23, goA_24, goA_25, goA_26, goA_27, goA_28, goA_29, goA_30, goA_31, goA_732, goA_733, goA_734, goA_735, goA_736, goA_737, goA_738, goA_739, goA_740, goA_741, goA_742, goA_743, goA_744, goA_745, goA_746, goA_747, goA_748, goA_749, goA_750, goA_751, goA_752, goA_753, goA_754, goA_755, goA_756, goA_757, gN_wI, gR_wI, gL_wI, if_true, eq_self, Option.bind_some, gd_k0I_i]
    rw [gn_succ]
    rcases hM with ⟨f0, p1, p2, p3⟩ | ⟨p1, p2, p3⟩
    · have hp0 := hlo f0 p1
      have hp1 := hhi f0 p1
      rw [if_pos (Int32.lt_iff_toInt_lt.2 (by rw [e53]; omega))]
      obtain ⟨y, hy1, hy2, hy3⟩ := c_extra K Id Cd hz hz2 Z (show t < 1280 by omega)
      rw [hy1]
      simp only [gK_N K, gK_8_0 K, gK_8_1 K, gK_8_2 K, gK_8_3 K, gK_8_4 K, gK_8_5 K, gK_8_6 K, gK_8_7 K, gK_8_8 K, gK_10_0 K, gK_10_1 K, gK_10_2 K, gK_11_0 K, gK_15_0 K, gK_15_1 K, gK_15_2 K, gK_15_3 K, gK_20_0 K, gK_20_1 K, gK_20_2 K, gK_20_3 K, gK_20_4 K, gK_20_5 K, gK_698_0 K, gK_698_3 K, gK_698_16 K, gK_698_17 K, gK_698_20 K, gK_698_21 K, gK_698_22 K, gK_698_23 K, gK_698_24 K, gK_698_25 K, gK_698_26 K, gK_698_27 K, gK_698_28 K, gK_698_29 K, gK_698_30 K, gK_698_31 K, gK_698_32 K, gK_698_33 K, gK_698_34 K, gK_698_35 K, gK_698_36 K, gK_698_37 K, gK_698_38 K, gK_698_39 K, gK_698_41 K, gK_698_42 K, gK_698_44 K, gK_c K, gK_d K, gK_n K, gK_p K, gok_8, gok_10, gok_11, gok_15, gok_20, gok_698, gok_699, goA_9, goA_12, goA_13, goA_14, goA_16, goA_17, goA_18, goA_19, goA_21, goA_22, goA_23, goA_24, goA_25, goA_26, goA_27, goA_28, goA_29, goA_30, goA_31, goA_732, goA_733, goA_734, goA_735, goA_736, goA_737, goA_738, goA_739, goA_740, goA_741, goA_742, goA_743, goA_744, goA_745, goA_746, goA_747, goA_748, goA_749, goA_750, goA_751, goA_752, goA_753, goA_754, goA_755, goA_756, goA_757, gN_wI, gR_wI, gL_wI, if_true, eq_self, Option.bind_some, gd_kI_i]
      rw [c_max]
      simp only [gK_N K, gK_8_0 K, gK_8_1 K, gK_8_2 K, gK_8_3 K, gK_8_4 K, gK_8_5 K, gK_8_6 K, gK_8_7 K, gK_8_8 K, gK_10_0 K, gK_10_1 K, gK_10_2 K, gK_11_0 K, gK_15_0 K, gK_15_1 K, gK_15_2 K, gK_15_3 K, gK_20_0 K, gK_20_1 K, gK_20_2 K, gK_20_3 K, gK_20_4 K, gK_20_5 K, gK_698_0 K, gK_698_3 K, gK_698_16 K, gK_698_17 K, gK_698_20 K, gK_698_21 K, gK_698_22 K, gK_698_23 K, gK_698_24 K, gK_698_25 K, gK_698_26 K, gK_698_27 K, gK_698_28 K, gK_698_29 K, gK_698_30 K, gK_698_31 K, gK_698_32 K, gK_698_33 K, gK_698_34 K, gK_698_35 K, gK_698_36 K, gK_698_37 K, gK_698_38 K, gK_698_39 K, gK_698_41 K, gK_698_42 K, gK_698_44 K, gK_c K, gK_d K, gK_n K, gK_p K, gok_8, gok_10, gok_11, gok_15, gok_20, gok_698, gok_699, goA_9, goA_12, goA_13, goA_14, goA_16, goA_17, goA_18, goA_19, goA_21, goA_22, goA_23, goA_24, goA_25, goA_26, goA_27, goA_28, goA_29, goA_30, goA_31, goA_732, goA_733, goA_734, goA_735, goA_736, goA_737, goA_738, goA_739, goA_740, goA_741, goA_742, goA_743, goA_744, goA_745, goA_746, goA_747, goA_748, goA_749, goA_750, goA_751, goA_752, goA_753, goA_754, goA_755, goA_756, goA_757, gN_wI, gR_wI, gL_wI, if_true, eq_self, Option.bind_some, gd_k0I_i]
      refine ih (t + 1) _ _ (by omega) ?_
      by_cases hc : vS (fun g => dD (eZ A e l) g t) 5 ≤ gn (A 0 18)
      · have hy := hy3 hc
        have hb := bExt_b Id (fun g => dD (eZ A e l) g t) (vS (fun g => dD (eZ A e l) g t) 5)
        have hsum : (gMx (gI m 16 t) (gI m 17 t) + y).toInt = (gMx (gI m 16 t) (gI m 17 t)).toInt + 65536 * bExt A (fun g => dD (eZ A e l) g t) (vS (fun g => dD (eZ A e l) g t) 5) := by
          rw [gt_add (by rw [hy]; omega), hy]
        rw [gMx_t]
        have hval : ∀ f, fSt A e l t f → fVl A e l f = cVl (bWo A e) (eLj A e) (bC e l) f + 65536 * bExt A (fun g => dD (eZ A e l) g t) (vS (fun g => dD (eZ A e l) g t) 5) := fun f hf => by
          unfold fVl
          rw [fSt_ext Id hE hf]
        have hQ : xDC (fSt A e l t) (fVl A e l) (gMx (gI m 16 t) (gI m 17 t) + y).toInt 41600000 := by
          refine .inl ⟨f0, p1, ?_, fun f hf => ?_⟩
          · rw [hval f0 p1, p2, hsum]
          · rw [hval f hf, hsum]; have := p3 f hf; omega
        refine xDC_iff (xDC_max' hx hQ fun f hf => ?_) (fun f => ⟨fun hf => ?_, fun hf => ?_⟩) (fun _ _ => rfl) (Int.le_refl _)
        · rcases hf with hf | hf
          · have := hdown f hf; omega
          · have := (fVl_lo Id hE fun i hi => ((fSt_1 hf).1 i hi).2).1; omega
        · rcases hf with hf | hf
          · obtain ⟨s, hs, h2⟩ := hf
            exact ⟨s, by omega, h2⟩
          · exact ⟨t, Nat.lt_succ_self t, hf, hc⟩
        · obtain ⟨s, hs, h2⟩ := hf
          by_cases es : s = t
          · subst es; exact .inr h2.1
          · exact .inl ⟨s, by omega, h2⟩
      · have hy := hy2 (by omega)
        have hsum : (gMx (gI m 16 t) (gI m 17 t) + y).toInt = (gMx (gI m 16 t) (gI m 17 t)).toInt - 1073741824 := by
          rw [hy, gt_add (by rw [e_N]; omega), e_N]; omega
        have hno := hsame fun f hf => hc hf.2
        rw [gMx_t, hsum]
        rcases hx with ⟨f, a1, a2, a3⟩ | ⟨a1, a2, a3⟩
        · have := hdown f a1
          refine .inl ⟨f, (hno f).1 a1, by omega, fun f' hf' => ?_⟩
          have := a3 f' ((hno f').2 hf')
          omega
        · exact .inr ⟨fun f hf => a1 f ((hno f).2 hf), by omega, by omega⟩
    · rw [if_neg (fun q => by have := Int32.lt_iff_toInt_lt.1 q; rw [e53] at this; omega)]
      have hno := hsame fun f hf => p1 f hf.1
      exact ih (t + 1) _ _ (by omega) (xDC_iff hx hno (fun _ _ => rfl) (Int.le_refl _))
/-- states and lawful choices -/
theorem fLo_law (Id : iCd A) (hE : eOk A e l) (f : Nat → Bool) : fLo A e l (dP (eZ A e l) 5) f ↔ bLaw A e (bC e l) f := by
  have h16 := hE.1
  have hCl := bC_le (e := e) l
  have hz : ∀ g, 0 < eZ A e l g := fun g => (eZ_b g).1
  constructor
  · intro h
    obtain ⟨s, hs, hf, hc⟩ := h
    obtain ⟨h1, h2⟩ := fSt_1 hf
    refine ⟨fun i hi => e_may (h1 i hi).2, by rw [fSt_num Id hE hf]; exact hc, fun g hg => ?_⟩
    by_cases hl : A 15 g = -1
    · exact .inl hl
    · right
      show bCnt (eGr A e) f g (bC e l) ≤ _
      rw [h2 g hg]
      have h3 : dD (eZ A e l) g s < eZ A e l g := Nat.mod_lt _ (hz g)
      have h4 : eZ A e l g ≤ gn (A 15 g) + 1 := zS_lim hl _
      omega
  · intro h
    have hm : ∀ i, f i = true → eMay A e l i = true := fun i hi => by
      obtain ⟨a, b⟩ := h.1 i hi
      unfold eMay
      rw [decide_eq_true a, b]; rfl
    have hv : ∀ g, g < 5 → bCnt (eGr A e) f g (bC e l) < eZ A e l g := fun g hg => by
      rcases zS_cnt (gr := eGr A e) (lim := A 15) hm g (bC e l) with q | q
      · exact q
      · have h3 := (h.2.2 g hg).resolve_left q.1
        have h3 : bCnt (eGr A e) f g (bC e l) ≤ gn (A 15 g) := h3
        have h4 : gn (A 15 g) + 1 ≤ eZ A e l g := q.2
        omega
    obtain ⟨s, hs, hd⟩ := dD_ex hz (fun g => bCnt (eGr A e) f g (bC e l)) 5 hv
    have hf : fSt A e l s f := by
      have h0 : (∀ i, f i = true → i < bC e l ∧ eMay A e l i = true) := fun i hi => ⟨(h.1 i hi).1, hm i hi⟩
      cases q : cLast f (bC e l) with
      | false => exact .inl ⟨h0, fun g hg => (hd g hg).symm, q⟩
      | true => exact .inr ⟨h0, fun g hg => (hd g hg).symm, q⟩
    exact ⟨s, hs, hf, by rw [← fSt_num Id hE hf]; exact h.2.1⟩
theorem bVal_li {wo li li' : Nat → Int} {f : Nat → Bool} (h : ∀ i, 0 < i → li i = li' i) : ∀ k, bVal wo li f k = bVal wo li' f k := by
  intro k
  induction k with
  | zero => rfl
  | succ k ih =>
    show bVal wo li f k + _ = bVal wo li' f k + _
    rw [ih]
    by_cases e1 : 0 < k
    · rw [h k e1]
    · rw [if_neg (fun q : 0 < k ∧ f (k - 1) = true => e1 q.1), if_neg (fun q : 0 < k ∧ f (k - 1) = true => e1 q.1)]
theorem fVl_tot (f : Nat → Bool) : fVl A e l f = 65536 * bTot A e (bC e l) f - (bSet f (bC e l) : Int) := by
  unfold fVl bTot cVl
  rw [bVal_li (li := eLj A e) (li' := bLi A e) (fun i hi => by unfold eLj; rw [if_neg (by omega)])]
  show _ + 65536 * bExt A (fun g => bCnt (bGr A e) f g (bC e l)) _ = _
  omega
/-- the best is one -/
theorem bIs_u {len w z w' z' : Int32} (hC : bC e (gn len) ≤ 16) (h : bIs A len e w z) (h' : bIs A len e w' z') : w = w' ∧ z = z' := by
  obtain ⟨f, a1, a2, a3, a4⟩ := h
  obtain ⟨f', b1, b2, b3, b4⟩ := h'
  have h1 := a4 f' b1
  have h2 := b4 f a1
  have h3 := bSet_lt (f := f) (bC e (gn len))
  have h4 := bSet_lt (f := f') (bC e (gn len))
  have h5 : (2 : Nat) ^ bC e (gn len) ≤ 2 ^ 16 := Nat.pow_le_pow_right (by decide) hC
  have h6 : (2 : Nat) ^ 16 = 65536 := by decide
  rw [← a2, ← a3, ← b2, ← b3] at h1 h2
  exact ⟨Int32.toInt_inj.1 (by omega), Int32.toInt_inj.1 (by omega)⟩
theorem gBe_of {len w z : Int32} (hC : bC e (gn len) ≤ 16) (h : bIs A len e w z) : gBw A len e = w ∧ gBs A len e = z := by
  have q : bIs A len e (gBe A len e).1 (gBe A len e).2 := Classical.epsilon_spec (p := fun q : Int32 × Int32 => bIs A len e q.1 q.2) ⟨(w, z), h⟩
  exact bIs_u hC q h
theorem gM0_mx {x : Int32} : gMx 0 x = gM0 x := by
  unfold gMx gM0
  by_cases h : x < 0
  · rw [if_pos h, if_neg (fun q => Int32.lt_irrefl (Int32.lt_trans h q))]
  · rw [if_neg h]
    by_cases h2 : 0 < x
    · rw [if_pos h2]
    · rw [if_neg h2]; exact Int32.le_antisymm (Int32.not_lt.1 h) (Int32.not_lt.1 h2)
theorem gx_sgn {x : Int32} : (x ^^^ 65536 < 0) ↔ x.toInt < 0 := by
  rw [Int32.lt_iff_toInt_lt]
  show (x.toBitVec ^^^ 65536#32).toInt < 0 ↔ x.toBitVec.toInt < 0
  have h1 : ∀ b : BitVec 32, b.toInt < 0 ↔ b.msb = true := fun b => by
    rw [BitVec.msb_eq_toInt]; simp
  rw [h1, h1, BitVec.msb_xor, show (65536#32).msb = false from rfl]
  cases x.toBitVec.msb <;> simp
theorem c_floorDiv (x : Int32) (m : gd_M) : ∃ y, gd_call 129 [.int x, .int 65536] m = some (.int y, m) ∧ y.toInt = x.toInt / 65536 := by
  have e65 : (65536 : Int32).toInt = 65536 := rfl
  have hb := gt_b (x := x)
  have ht : x.toInt.tdiv 65536 = x.toInt / 65536 + if 0 ≤ x.toInt ∨ (65536 : Int) ∣ x.toInt then 0 else 1 := by rw [Int.tdiv_eq_ediv]; rfl
  have hd : (x / 65536).toInt = x.toInt.tdiv 65536 := by
    rw [Int32.toInt_div, e65, gt_bm]
    rw [ht]
    by_cases h : 0 ≤ x.toInt ∨ (65536 : Int) ∣ x.toInt
    · rw [if_pos h]; omega
    · rw [if_neg h]; omega
  rw [q_Ma_floorDiv, if_neg (by decide)]
  by_cases h : x.toInt < 0
  · rw [if_pos (gx_sgn.2 h)]
    by_cases h2 : (65536 : Int) ∣ x.toInt
    · have hq : (x / 65536).toInt = x.toInt / 65536 := by rw [hd, ht, if_pos (.inr h2)]; omega
      have hm : x / 65536 * 65536 = x := Int32.toInt_inj.1 (by rw [gt_mul (by rw [hq, e65]; omega), hq, e65]; omega)
      exact ⟨x / 65536, by rw [if_pos hm], hq⟩
    · have hq : (x / 65536).toInt = x.toInt / 65536 + 1 := by rw [hd, ht, if_neg (fun q => by rcases q with q | q; · { omega }; · { exact h2 q })]
      have hm : ¬ x / 65536 * 65536 = x := fun q => by
        have q2 := congrArg Int32.toInt q
        rw [gt_mul (by rw [hq, e65]; omega), hq, e65] at q2
        omega
      have e1 : (1 : Int32).toInt = 1 := rfl
      exact ⟨x / 65536 - 1, by rw [if_neg hm], by rw [gt_sub (by rw [hq, e1]; omega), hq, e1]; omega⟩
  · rw [if_neg (fun q => h (gx_sgn.1 q))]
    exact ⟨x / 65536, rfl, by rw [hd, ht, if_pos (.inl (by omega))]; omega⟩
theorem bNum_0 : ∀ k, bNum (fun _ => false) k = 0 := by
  intro k
  induction k with
  | zero => rfl
  | succ k ih => show bNum (fun _ => false) k + _ = 0; rw [ih]; rfl
theorem bCnt_0 {gr : Nat → Nat} {g : Nat} : ∀ k, bCnt gr (fun _ => false) g k = 0 := by
  intro k
  induction k with
  | zero => rfl
  | succ k ih => show bCnt gr (fun _ => false) g k + _ = 0; rw [ih, if_neg (fun q => Bool.false_ne_true q.1)]
theorem bLaw_0 {C : Nat} : bLaw A e C fun _ => false := ⟨fun i hi => absurd hi Bool.false_ne_true, by rw [bNum_0]; exact Nat.zero_le _, fun g hg => .inr (by rw [bCnt_0]; exact Nat.zero_le _)⟩
theorem c_settle (Id : iCd A) (hE : eOk A e l) (K : gK c d n p m) (Cd : cCd c (gI m) A) (Z : zL (eZ A e l) m) (hC : ∀ s < dP (eZ A e l) 5, zC A e l (bC e l) m s) : ∃ m', gd_call 130 [.ref 15, .ref c] m = some (.null, m') ∧ oC m m' ∧ gI m' 15 5 = gM0 (gBw A (Int32.ofNat l) e) ∧ gI m' 15 6 = gBs A (Int32.ofNat l) e := by
  have hS := eS_b hE
  have h16 := hE.1
  have hCl := bC_le (e := e) l
  have hgl : gn (Int32.ofNat l) = l := gn_of (by omega)
  have e65 : (65536 : Int32).toInt = 65536 := rfl
  have e1 : (1 : Int32).toInt = 1 := rfl
  have hN : xN = -1073741824 := rfl
  obtain ⟨x, v, hx1, hx2⟩ := c_settle_5 Id hE K Cd Z hC (dP (eZ A e l) 5) 0 (-1073741824) .null (by omega) (.inr ⟨fun f hf => by obtain ⟨s, hs, -⟩ := hf; omega, by rw [e_N]; exact Int.le_refl _, by rw [e_N]; omega⟩)
  rcases hx2 with ⟨f, p1, p2, p3⟩ | ⟨p1, -, -⟩
  · have hlaw := (fLo_law Id hE f).1 p1
    have hset := bSet_lt (f := f) (bC e l)
    have hpow : (2 : Nat) ^ bC e l ≤ 2 ^ 16 := Nat.pow_le_pow_right (by decide) (by omega)
    have hp16 : (2 : Nat) ^ 16 = 65536 := by decide
    have hlo := fVl_lo Id hE (f := f) fun i hi => by
      obtain ⟨a, b⟩ := hlaw.1 i hi
      unfold eMay
      rw [decide_eq_true a, b]; rfl
    rw [p2] at hlo
    rw [fVl_tot] at p2
    have hsum : (x + 65536 - 1).toInt = x.toInt + 65535 := by
      rw [gt_sub (by rw [gt_add (by rw [e65]; omega), e65, e1]; omega), gt_add (by rw [e65]; omega), e65, e1]; omega
    obtain ⟨y, hy1, hy2⟩ := c_floorDiv (x + 65536 - 1) m
    rw [hsum] at hy2
    have hyt : y.toInt = bTot A e (bC e l) f := by omega
    have hz : (y * 65536 - x).toInt = (bSet f (bC e l) : Int) := by
      rw [gt_sub (by rw [gt_mul (by rw [e65]; omega), e65]; omega), gt_mul (by rw [e65]; omega), e65]; omega
    have hB : bIs A (Int32.ofNat l) e y (y * 65536 - x) := by
      unfold bIs
      rw [hgl]
      refine ⟨f, hlaw, hyt, hz, fun f' hf' => ?_⟩
      have := p3 f' ((fLo_law Id hE f').2 hf')
      rw [fVl_tot] at this
      omega
    obtain ⟨b1, b2⟩ := gBe_of (by rw [hgl]; omega) hB
    refine ⟨wI (wI m 15 6 (y * 65536 - x)) 15 5 (gMx 0 y), ?_, oC_w (oC_w oC_refl (by decide)) (by decide), ?_, ?_⟩
    · rw [q_Ch_settle]
      refine hx1.trans ?_
      rw [q_Ch_settle_5]
      simp only [gK_N K, gK_8_0 K, gK_8_1 K, gK_8_2 K, gK_8_3 K, gK_8_4 K, gK_8_5 K, gK_8_6 K, gK_8_7 K, gK_8_8 K, gK_10_0 K, gK_10_1 K, gK_10_2 K, gK_11_0 K, gK_15_0 K, gK_15_1 K, gK_15_2 K, gK_15_3 K, gK_20_0 K, gK_20_1 K, gK_20_2 K, gK_20_3 K, gK_20_4 K, gK_20_5 K, gK_698_0 K, gK_698_3 K, gK_698_16 K, gK_698_17 K, gK_698_20 K, gK_698_21 K, gK_698_22 K, gK_698_23 K, gK_698_24 K, gK_698_25 K, gK_698_26 K, gK_698_27 K, gK_698_28 K, gK_698_29 K, gK_698_30 K, gK_698_31 K, gK_698_32 K, gK_698_33 K, gK_698_34 K, gK_698_35 K, gK_698_36 K, gK_698_37 K, gK_698_38 K, gK_698_39 K, gK_698_41 K, gK_698_42 K, gK_698_44 K, gK_c K, gK_d K, gK_n K, gK_p K, gok_8, gok_10, gok_11, gok_15, gok_20, gok_698, gok_699, goA_9, goA_12, goA_13, goA_14, goA_16, goA_17, goA_18, goA_19, goA_21, goA_22, goA_23, goA_24, goA_25, goA_26, goA_27, goA_28, goA_29, goA_30, goA_31, goA_732, goA_733, goA_734, goA_735, goA_736, goA_737, goA_738, goA_739, goA_740, goA_741, goA_742, goA_743, goA_744, goA_745, goA_746, goA_747, goA_748, goA_749, goA_750, goA_751, goA_752, goA_753, goA_754, goA_755, goA_756, goA_757, gN_wI, gR_wI, gL_wI, if_true, eq_self]
      rw [Z.1, if_neg (fun q => by have := (gn_lt (by omega) (by omega)).1 q; omega), hy1]
      simp only [gK_N K, gK_8_0 K, gK_8_1 K, gK_8_2 K, gK_8_3 K, gK_8_4 K, gK_8_5 K, gK_8_6 K, gK_8_7 K, gK_8_8 K, gK_10_0 K, gK_10_1 K, gK_10_2 K, gK_11_0 K, gK_15_0 K, gK_15_1 K, gK_15_2 K, gK_15_3 K, gK_20_0 K, gK_20_1 K, gK_20_2 K, gK_20_3 K, gK_20_4 K, gK_20_5 K, gK_698_0 K, gK_698_3 K, gK_698_16 K, gK_698_17 K, gK_698_20 K, gK_698_21 K, gK_698_22 K, gK_698_23 K, gK_698_24 K, gK_698_25 K, gK_698_26 K, gK_698_27 K, gK_698_28 K, gK_698_29 K, gK_698_30 K, gK_698_31 K, gK_698_32 K, gK_698_33 K, gK_698_34 K, gK_698_35 K, gK_698_36 K, gK_698_37 K, gK_698_38 K, gK_698_39 K, gK_698_41 K, gK_698_42 K, gK_698_44 K, gK_c K, gK_d K, gK_n K, gK_p K, gok_8, gok_10, gok_11, gok_15, gok_20, gok_698, gok_699, goA_9, goA_12, goA_13, goA_14, goA_16, goA_17, goA_18, goA_19, goA_21, goA_22, goA_23, goA_24, goA_25, goA_26, goA_27, goA_28, goA_29, goA_30, goA_31, goA_732, goA_733, goA_734, goA_735, goA_736, goA_737, goA_738, goA_739, goA_740, goA_741, goA_742, goA_743, goA_744, goA_745, goA_746, goA_747, goA_748, goA_749, goA_750, goA_751, goA_752, goA_753, goA_754, goA_755, goA_756, goA_757, gN_wI, gR_wI, gL_wI, if_true, eq_self, Option.bind_some, gd_k0I_i]
      rw [c_max]
      simp only [gK_N K, gK_8_0 K, gK_8_1 K, gK_8_2 K, gK_8_3 K, gK_8_4 K, gK_8_5 K, gK_8_6 K, gK_8_7 K, gK_8_8 K, gK_10_0 K, gK_10_1 K, gK_10_2 K, gK_11_0 K, gK_15_0 K, gK_15_1 K, gK_15_2 K, gK_15_3 K, gK_20_0 K, gK_20_1 K, gK_20_2 K, gK_20_3 K, gK_20_4 K, gK_20_5 K, gK_698_0 K, gK_698_3 K, gK_698_16 K, gK_698_17 K, gK_698_20 K, gK_698_21 K, gK_698_22 K, gK_698_23 K, gK_698_24 K, gK_698_25 K, gK_698_26 K, gK_698_27 K, gK_698_28 K, gK_698_29 K, gK_698_30 K, gK_698_31 K, gK_698_32 K, gK_698_33 K, gK_698_34 K, gK_698_35 K, gK_698_36 K, gK_698_37 K, gK_698_38 K, gK_698_39 K, gK_698_41 K, gK_698_42 K, gK_698_44 K, gK_c K, gK_d K, gK_n K, gK_p K, gok_8, gok_10, gok_11, gok_15, gok_20, gok_698, gok_699, goA_9, goA_12, goA_13, goA_14, goA_16, goA_17, goA_18, goA_19, goA_21, goA_22, goA_23, goA_24, goA_25, goA_26, goA_27, goA_28, goA_29, goA_30, goA_31, goA_732, goA_733, goA_734, goA_735, goA_736, goA_737, goA_738, goA_739, goA_740, goA_741, goA_742, goA_743, goA_744, goA_745, goA_746, goA_747, goA_748, goA_749, goA_750, goA_751, goA_752, goA_753, goA_754, goA_755, goA_756, goA_757, gN_wI, gR_wI, gL_wI, if_true, eq_self, Option.bind_some, gd_k0I_i]
    · rw [gI_wI_s, gM0_mx, b1]
    · rw [gI_wI_k (by decide), gI_wI_s, b2]
  · exact absurd ((fLo_law Id hE _).2 bLaw_0) (p1 _)
theorem zC_0 (hm : gI m 16 0 = 0) (h1 : ∀ s < dP (eZ A e l) 5, 0 < s → gI m 16 s = -1073741824) (h2 : ∀ s < dP (eZ A e l) 5, gI m 17 s = -1073741824) : ∀ s < dP (eZ A e l) 5, zC A e l 0 m s := by
  have hz : ∀ g, 0 < eZ A e l g := fun g => (eZ_b g).1
  intro s hs
  refine ⟨?_, ?_⟩
  · by_cases h0 : s = 0
    · subst h0
      rw [hm]
      refine .inl ⟨fun _ => false, ⟨fun i hi => absurd hi Bool.false_ne_true, fun g _ => ?_, rfl⟩, rfl, fun f' _ => Int.le_refl _⟩
      show 0 = 0 / _ % _
      rw [Nat.zero_div, Nat.zero_mod]
    · rw [h1 s hs (by omega), e_N]
      refine .inr ⟨fun f hf => h0 (dD_0 hz 5 s hs fun g hg => ?_), Int.le_refl _, by omega⟩
      exact (hf.2.1 g hg).symm
  · rw [h2 s hs, e_N]
    exact .inr ⟨fun f hf => by have := hf.2.2; exact absurd this (by unfold cLast; simp), Int.le_refl _, by omega⟩
theorem c_choose_24 (hr : r < 160) (Id : iCd A) (hE : eOk A e l) {y : Int32} (hy : ∀ k, gb y k = (decide (k < bC e l) && bRep A e k)) : ∀ j q (m : gd_M), q + j = bC e l → gK c d n p m → cSt c A r l e m → zL (eZ A e l) m → (∀ s < dP (eZ A e l) 5, zC A e l q m s) → ∃ m', gd_Den (131, 24, [.ref 15, .ref c, .ref (58 + 4 * r), .int (Int32.ofNat (bC e l)), .int y, .int (Int32.ofNat q)], [], m) = some (.null, m') ∧ oC m m' ∧ gI m' 15 5 = gM0 (gBw A (Int32.ofNat l) e) ∧ gI m' 15 6 = gBs A (Int32.ofNat l) e := by
  have h16 := hE.1
  have hCl := bC_le (e := e) l
  intro j
  induction j with
  | zero =>
    intro q m h K St Z hC
    have : q = bC e l := by omega
    subst this
    obtain ⟨m', a1, a2, a3⟩ := c_settle Id hE K St.1 Z hC
    refine ⟨m', ?_, a2, a3⟩
    rw [q_Ch_choose_24, if_neg (fun q => by have := (gn_lt (by omega) (by omega)).1 q; omega)]
    simp only [gK_N K, gK_8_0 K, gK_8_1 K, gK_8_2 K, gK_8_3 K, gK_8_4 K, gK_8_5 K, gK_8_6 K, gK_8_7 K, gK_8_8 K, gK_10_0 K, gK_10_1 K, gK_10_2 K, gK_11_0 K, gK_15_0 K, gK_15_1 K, gK_15_2 K, gK_15_3 K, gK_20_0 K, gK_20_1 K, gK_20_2 K, gK_20_3 K, gK_20_4 K, gK_20_5 K, gK_698_0 K, gK_698_3 K, gK_698_16 K, gK_698_17 K, gK_698_20 K, gK_698_21 K, gK_698_22 K, gK_698_23 K, gK_698_24 K, gK_698_25 K, gK_698_26 K, gK_698_27 K, gK_698_28 K, gK_698_29 K, gK_698_30 K, gK_698_31 K, gK_698_32 K, gK_698_33 K, gK_698_34 K, gK_698_35 K, gK_698_36 K, gK_698_37 K, gK_698_38 K, gK_698_39 K, gK_698_41 K, gK_698_42 K, gK_698_44 K, gK_c K, gK_d K, gK_n K, gK_p K, gok_8, gok_10, gok_11, gok_15, gok_20, gok_698, gok_699, goA_9, goA_12, goA_13, goA_14, goA_16, goA_17, goA_18, goA_19, goA_21, goA_22, goA_23, goA_24, goA_25, goA_26, goA_27, goA_28, goA_29, goA_30, goA_31, goA_732, goA_733, goA_734, goA_735, goA_736, goA_737, goA_738, goA_739, goA_740, goA_741, goA_742, goA_743, goA_744, goA_745, goA_746, goA_747, goA_748, goA_749, goA_750, goA_751, goA_752, goA_753, goA_754, goA_755, goA_756, goA_757, gN_wI, gR_wI, gL_wI, if_true, eq_self]
    rw [a1]
    simp only [Option.bind_some, gd_kV_v]
  | succ j ih =>
    intro q m h K St Z hC
    have hq : q < bC e l := by omega
    have hyq : gb y q = bRep A e q := by rw [hy q, decide_eq_true hq]; rfl
    have hmay : eMay A e l q = !bRep A e q := by unfold eMay; rw [decide_eq_true hq]; rfl
    rw [q_Ch_choose_24, if_pos ((gn_lt (by omega) (by omega)).2 hq), gn_succ]
    cases hb : bRep A e q with
    | false =>
      rw [if_pos ((gb_tst (by omega)).2 (by rw [hyq, hb]))]
      obtain ⟨m1, a1, a2, a3, a4⟩ := c_offer K hr Id hE St Z (by rw [hmay, hb]; rfl) hC
      simp only [gK_N K, gK_8_0 K, gK_8_1 K, gK_8_2 K, gK_8_3 K, gK_8_4 K, gK_8_5 K, gK_8_6 K, gK_8_7 K, gK_8_8 K, gK_10_0 K, gK_10_1 K, gK_10_2 K, gK_11_0 K, gK_15_0 K, gK_15_1 K, gK_15_2 K, gK_15_3 K, gK_20_0 K, gK_20_1 K, gK_20_2 K, gK_20_3 K, gK_20_4 K, gK_20_5 K, gK_698_0 K, gK_698_3 K, gK_698_16 K, gK_698_17 K, gK_698_20 K, gK_698_21 K, gK_698_22 K, gK_698_23 K, gK_698_24 K, gK_698_25 K, gK_698_26 K, gK_698_27 K, gK_698_28 K, gK_698_29 K, gK_698_30 K, gK_698_31 K, gK_698_32 K, gK_698_33 K, gK_698_34 K, gK_698_35 K, gK_698_36 K, gK_698_37 K, gK_698_38 K, gK_698_39 K, gK_698_41 K, gK_698_42 K, gK_698_44 K, gK_c K, gK_d K, gK_n K, gK_p K, gok_8, gok_10, gok_11, gok_15, gok_20, gok_698, gok_699, goA_9, goA_12, goA_13, goA_14, goA_16, goA_17, goA_18, goA_19, goA_21, goA_22, goA_23, goA_24, goA_25, goA_26, goA_27, goA_28, goA_29, goA_30, goA_31, goA_732, goA_733, goA_734, goA_735, goA_736, goA_737, goA_738, goA_739, goA_740, goA_741, goA_742, goA_743, goA_744, goA_745, goA_746, goA_747, goA_748, goA_749, goA_750, goA_751, goA_752, goA_753, goA_754, goA_755, goA_756, goA_757, gN_wI, gR_wI, gL_wI, if_true, eq_self]
      rw [a1]
      simp only [Option.bind_some, gd_kV_v]
      obtain ⟨m', b1, b2, b3⟩ := ih (q + 1) m1 (by omega) (gK_o K a2.1) (cSt_o (gK_c1 K) St a2) a3 a4
      exact ⟨m', b1, oC_tr a2 b2, b3⟩
    | true =>
      rw [if_neg (fun h => by have := (gb_tst (by omega)).1 h; rw [hyq, hb] at this; exact absurd this (by decide))]
      obtain ⟨m1, a1, a2, a3, a4⟩ := c_passOver_2 Id hE (show eMay A e l q = false by rw [hmay, hb]; rfl) hq (dP (eZ A e l) 5) 0 m (by omega) K Z (fun s hs _ => hC s hs) (fun s hs => absurd hs (Nat.not_lt_zero s))
      simp only [gK_N K, gK_8_0 K, gK_8_1 K, gK_8_2 K, gK_8_3 K, gK_8_4 K, gK_8_5 K, gK_8_6 K, gK_8_7 K, gK_8_8 K, gK_10_0 K, gK_10_1 K, gK_10_2 K, gK_11_0 K, gK_15_0 K, gK_15_1 K, gK_15_2 K, gK_15_3 K, gK_20_0 K, gK_20_1 K, gK_20_2 K, gK_20_3 K, gK_20_4 K, gK_20_5 K, gK_698_0 K, gK_698_3 K, gK_698_16 K, gK_698_17 K, gK_698_20 K, gK_698_21 K, gK_698_22 K, gK_698_23 K, gK_698_24 K, gK_698_25 K, gK_698_26 K, gK_698_27 K, gK_698_28 K, gK_698_29 K, gK_698_30 K, gK_698_31 K, gK_698_32 K, gK_698_33 K, gK_698_34 K, gK_698_35 K, gK_698_36 K, gK_698_37 K, gK_698_38 K, gK_698_39 K, gK_698_41 K, gK_698_42 K, gK_698_44 K, gK_c K, gK_d K, gK_n K, gK_p K, gok_8, gok_10, gok_11, gok_15, gok_20, gok_698, gok_699, goA_9, goA_12, goA_13, goA_14, goA_16, goA_17, goA_18, goA_19, goA_21, goA_22, goA_23, goA_24, goA_25, goA_26, goA_27, goA_28, goA_29, goA_30, goA_31, goA_732, goA_733, goA_734, goA_735, goA_736, goA_737, goA_738, goA_739, goA_740, goA_741, goA_742, goA_743, goA_744, goA_745, goA_746, goA_747, goA_748, goA_749, goA_750, goA_751, goA_752, goA_753, goA_754, goA_755, goA_756, goA_757, gN_wI, gR_wI, gL_wI, if_true, eq_self]
      have a1' : gd_Den (127, 2, [.ref 15, .int 0], [], m) = some (.null, m1) := a1
      rw [q_Ch_passOver, a1']
      simp only [Option.bind_some, gd_kV_v]
      obtain ⟨m', b1, b2, b3⟩ := ih (q + 1) m1 (by omega) (gK_o K a2.1) (cSt_o (gK_c1 K) St a2) a3 a4
      exact ⟨m', b1, oC_tr a2 b2, b3⟩
/-- the chooser: D and choice of the entries -/
theorem c_choose (K : gK c d n p m) (hr : r < 160) (Id : iCd A) (hE : eOk A e l) (St : cSt c A r l e m) : ∃ m', gd_call 131 [.ref 15, .ref c, .ref (58 + 4 * r)] m = some (.null, m') ∧ oC m m' ∧ gI m' 15 5 = gM0 (gBw A (Int32.ofNat l) e) ∧ gI m' 15 6 = gBs A (Int32.ofNat l) e := by
  obtain ⟨y, hy1, hy2⟩ := c_repeats K hr St.1 Id St.2.1 St.2.2 hE
  obtain ⟨m1, a1, a2, a3, a4, a5, a6⟩ := c_layOut K hr Id hE St hy2
  obtain ⟨m', b1, b2, b3⟩ := c_choose_24 hr Id hE hy2 (bC e l) 0 m1 (by omega) (gK_o K a2.1) (cSt_o (gK_c1 K) St a2) a3 (zC_0 a4 a5 a6)
  refine ⟨m', ?_, oC_tr a2 b2, b3⟩
  rw [q_Ch_choose]
  simp only [gK_N K, gK_8_0 K, gK_8_1 K, gK_8_2 K, gK_8_3 K, gK_8_4 K, gK_8_5 K, gK_8_6 K, gK_8_7 K, gK_8_8 K, gK_10_0 K, gK_10_1 K, gK_10_2 K, gK_11_0 K, gK_15_0 K, gK_15_1 K, gK_15_2 K, gK_15_3 K, gK_20_0 K, gK_20_1 K, gK_20_2 K, gK_20_3 K, gK_20_4 K, gK_20_5 K, gK_698_0 K, gK_698_3 K, gK_698_16 K, gK_698_17 K, gK_698_20 K, gK_698_21 K, gK_698_22 K, gK_698_23 K, gK_698_24 K, gK_698_25 K, gK_698_26 K, gK_698_27 K, gK_698_28 K, gK_698_29 K, gK_698_30 K, gK_698_31 K, gK_698_32 K, gK_698_33 K, gK_698_34 K, gK_698_35 K, gK_698_36 K, gK_698_37 K, gK_698_38 K, gK_698_39 K, gK_698_41 K, gK_698_42 K, gK_698_44 K, gK_c K, gK_d K, gK_n K, gK_p K, gok_8, gok_10, gok_11, gok_15, gok_20, gok_698, gok_699, goA_9, goA_12, goA_13, goA_14, goA_16, goA_17, goA_18, goA_19, goA_21, goA_22, goA_23, goA_24, goA_25, goA_26, goA_27, goA_28, goA_29, goA_30, goA_31, goA_732, goA_733, goA_734, goA_735, goA_736, goA_737, goA_738, goA_739, goA_740, goA_741, goA_742, goA_743, goA_744, goA_745, goA_746, goA_747, goA_748, goA_749, goA_750, goA_751, goA_752, goA_753, goA_754, goA_755, goA_756, goA_757, gN_wI, gR_wI, gL_wI, if_true, eq_self, gK_row K hr, gK_ent K hr, gK_mrk K hr, gK_sen K hr, gok_row hr, goA_ent hr, goA_mrk hr, goA_sen hr, gd_row0, gd_row8, if_false]
  rw [c_counting K hr St.2.1 St.2.2 hE]
  simp only [gK_N K, gK_8_0 K, gK_8_1 K, gK_8_2 K, gK_8_3 K, gK_8_4 K, gK_8_5 K, gK_8_6 K, gK_8_7 K, gK_8_8 K, gK_10_0 K, gK_10_1 K, gK_10_2 K, gK_11_0 K, gK_15_0 K, gK_15_1 K, gK_15_2 K, gK_15_3 K, gK_20_0 K, gK_20_1 K, gK_20_2 K, gK_20_3 K, gK_20_4 K, gK_20_5 K, gK_698_0 K, gK_698_3 K, gK_698_16 K, gK_698_17 K, gK_698_20 K, gK_698_21 K, gK_698_22 K, gK_698_23 K, gK_698_24 K, gK_698_25 K, gK_698_26 K, gK_698_27 K, gK_698_28 K, gK_698_29 K, gK_698_30 K, gK_698_31 K, gK_698_32 K, gK_698_33 K, gK_698_34 K, gK_698_35 K, gK_698_36 K, gK_698_37 K, gK_698_38 K, gK_698_39 K, gK_698_41 K, gK_698_42 K, gK_698_44 K, gK_c K, gK_d K, gK_n K, gK_p K, gok_8, gok_10, gok_11, gok_15, gok_20, gok_698, gok_699, goA_9, goA_12, goA_13, goA_14, goA_16, goA_17, goA_18, goA_19, goA_21, goA_22, goA_23, goA_24, goA_25, goA_26, goA_27, goA_28, goA_29, goA_30, goA_31, goA_732, goA_733, goA_734, goA_735, goA_736, goA_737, goA_738, goA_739, goA_740, goA_741, goA_742, goA_743, goA_744, goA_745, goA_746, goA_747, goA_748, goA_749, goA_750, goA_751, goA_752, goA_753, goA_754, goA_755, goA_756, goA_757, gN_wI, gR_wI, gL_wI, if_true, eq_self, gK_row K hr, gK_ent K hr, gK_mrk K hr, gK_sen K hr, gok_row hr, goA_ent hr, goA_mrk hr, goA_sen hr, gd_row0, gd_row8, if_false, Option.bind_some, gd_kI_i]
  rw [hy1]
  simp only [gK_N K, gK_8_0 K, gK_8_1 K, gK_8_2 K, gK_8_3 K, gK_8_4 K, gK_8_5 K, gK_8_6 K, gK_8_7 K, gK_8_8 K, gK_10_0 K, gK_10_1 K, gK_10_2 K, gK_11_0 K, gK_15_0 K, gK_15_1 K, gK_15_2 K, gK_15_3 K, gK_20_0 K, gK_20_1 K, gK_20_2 K, gK_20_3 K, gK_20_4 K, gK_20_5 K, gK_698_0 K, gK_698_3 K, gK_698_16 K, gK_698_17 K, gK_698_20 K, gK_698_21 K, gK_698_22 K, gK_698_23 K, gK_698_24 K, gK_698_25 K, gK_698_26 K, gK_698_27 K, gK_698_28 K, gK_698_29 K, gK_698_30 K, gK_698_31 K, gK_698_32 K, gK_698_33 K, gK_698_34 K, gK_698_35 K, gK_698_36 K, gK_698_37 K, gK_698_38 K, gK_698_39 K, gK_698_41 K, gK_698_42 K, gK_698_44 K, gK_c K, gK_d K, gK_n K, gK_p K, gok_8, gok_10, gok_11, gok_15, gok_20, gok_698, gok_699, goA_9, goA_12, goA_13, goA_14, goA_16, goA_17, goA_18, goA_19, goA_21, goA_22, goA_23, goA_24, goA_25, goA_26, goA_27, goA_28, goA_29, goA_30, goA_31, goA_732, goA_733, goA_734, goA_735, goA_736, goA_737, goA_738, goA_739, goA_740, goA_741, goA_742, goA_743, goA_744, goA_745, goA_746, goA_747, goA_748, goA_749, goA_750, goA_751, goA_752, goA_753, goA_754, goA_755, goA_756, goA_757, gN_wI, gR_wI, gL_wI, if_true, eq_self, gK_row K hr, gK_ent K hr, gK_mrk K hr, gK_sen K hr, gok_row hr, goA_ent hr, goA_mrk hr, goA_sen hr, gd_row0, gd_row8, if_false, Option.bind_some, gd_kI_i]
  rw [a1]
  simp only [Option.bind_some, gd_kV_v]
  exact b1
end P66
