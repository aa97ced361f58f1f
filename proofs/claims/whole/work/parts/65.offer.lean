/-! ===== the chooser, class: entry by entry ===== -/
theorem cDC_b {may : Nat → Bool} {gr : Nat → Nat} {wo li : Nat → Int} (hw : ∀ i, may i = true → 1 ≤ wo i ∧ wo i ≤ 30) (hl : ∀ i, may i = true → 0 ≤ li i ∧ li i ≤ 9) {k : Nat} (hk : k ≤ 16) {v : Nat → Nat} {l : Bool} {x : Int} (h : cDC may gr wo li k v l x) : xN ≤ x ∧ x ≤ 41600000 := by
  have hN : xN = -1073741824 := rfl
  rcases h with ⟨f, p1, p2, p3⟩ | ⟨p1, p2, p3⟩
  · have := cVl_b hw hl k hk (f := f) fun i _ hi => (p1.1 i hi).2
    omega
  · omega
/-- a state's two cells -/
def zC (A : gd_C) (e : Nat → Int32) (l k : Nat) (m : gd_M) (s : Nat) : Prop := cDC (eMay A e l) (eGr A e) (bWo A e) (eLj A e) k (fun g => dD (eZ A e l) g s) false (gI m 16 s).toInt ∧ cDC (eMay A e l) (eGr A e) (bWo A e) (eLj A e) k (fun g => dD (eZ A e l) g s) true (gI m 17 s).toInt
section P65
variable {c d n p : Nat} {m : gd_M} {A : gd_C} {r l : Nat} {e : Nat → Int32}
theorem e_may {q : Nat} (h : eMay A e l q = true) : q < bC e l ∧ bRep A e q = false := by
  have := Bool.and_eq_true_iff.1 h
  exact ⟨of_decide_eq_true this.1, by simpa using this.2⟩
theorem e_wo (Id : iCd A) (hE : eOk A e l) : ∀ i, eMay A e l i = true → 1 ≤ bWo A e i ∧ bWo A e i ≤ 30 := by
  intro i hi
  obtain ⟨k, γ, hk30, hkN, hek, -⟩ := e_part Id hE (e_may hi).1
  obtain ⟨w, hw1, hw2, hw⟩ := iCd_wor Id k hkN
  unfold bWo
  rw [hek, gn_of (by omega), hw, gn_toInt (by omega)]
  omega
theorem e_lj (Id : iCd A) : ∀ i, eMay A e l i = true → 0 ≤ eLj A e i ∧ eLj A e i ≤ 9 := by
  intro i _
  unfold eLj
  by_cases h : i = 0
  · rw [if_pos h]; omega
  · rw [if_neg h]; exact bLk_b Id _ _
theorem e_gr (Id : iCd A) (hE : eOk A e l) {i : Nat} (h : i < bC e l) : eGr A e i < 5 := by
  obtain ⟨k, γ, -, -, -, -, hγ, hgr⟩ := e_part Id hE h
  rw [hgr]; exact hγ
theorem zC_c {k s : Nat} {m m' : gd_M} (h : zC A e l k m s) (h1 : gI m' 16 s = gI m 16 s) (h2 : gI m' 17 s = gI m 17 s) : zC A e l k m' s := by
  unfold zC at h ⊢
  rw [h1, h2]; exact h
theorem e_N : ((-1073741824 : Int32)).toInt = xN := rfl
theorem zL_c {z : Nat → Nat} {m m' : gd_M} (h : zL z m) (h1 : gI m' 15 = gI m 15) (h2 : gI m' 18 = gI m 18) (h3 : gI m' 19 = gI m 19) : zL z m' := by
  unfold zL at h ⊢
  rw [h1, h2, h3]; exact h
theorem c_offer_108 (Id : iCd A) (hE : eOk A e l) {q : Nat} (hq : eMay A e l q = true) {x3 x4 x7 x8 : Int32} {r1 r2 : Nat} (h7 : x7.toInt = 65536 * bWo A e q - (2 ^ q : Nat)) (h8 : x8.toInt = 65536 * bWo A e q + 65536 * eLj A e q - (2 ^ q : Nat)) : ∀ t (m : gd_M) v, t ≤ dP (eZ A e l) 5 → gK c d n p m → zL (eZ A e l) m → (∀ s < t, zC A e l q m s) → (∀ s < dP (eZ A e l) 5, t ≤ s → zC A e l (q + 1) m s) → ∃ m', gd_Den (126, 108, [.ref 15, .ref r1, .ref r2, .int x3, .int x4, .int (Int32.ofNat (dP (eZ A e l) (eGr A e q))), .int (Int32.ofNat (eZ A e l (eGr A e q))), .int x7, .int x8, .int (Int32.ofNat t - 1), v], [], m) = some (.null, m') ∧ oC m m' ∧ zL (eZ A e l) m' ∧ ∀ s < dP (eZ A e l) 5, zC A e l (q + 1) m' s := by
  have hS := eS_b hE
  have h16 := hE.1
  have hCl := bC_le (e := e) l
  have hqC := (e_may hq).1
  have hz : ∀ g, 0 < eZ A e l g := fun g => (eZ_b g).1
  have hw := e_wo Id hE
  have hl := e_lj (l := l) (e := e) Id
  have hwq := hw q hq
  have hlq := hl q hq
  have hp2 := c2pow (show q < 16 by omega)
  have hp3 : (0 : Int) ≤ ((2 ^ q : Nat) : Int) := Int.natCast_nonneg _
  have hγ := e_gr Id hE hqC
  have hpγ := dP_pos hz (eGr A e q)
  have hpm : dP (eZ A e l) (eGr A e q) ≤ dP (eZ A e l) 5 := dP_mono hz (by omega)
  have hzb := eZ_b (A := A) (e := e) (l := l) (eGr A e q)
  have hN : xN = -1073741824 := rfl
  intro t
  induction t with
  | zero =>
    intro m v ht K Z h1 h2
    refine ⟨m, ?_, oC_refl, Z, fun s hs => h2 s hs (Nat.zero_le s)⟩
    rw [q_Ch_offer_108, if_pos (by decide)]
  | succ t ih =>
    intro m v ht K Z h1 h2
    have ht1 : Int32.ofNat (t + 1) - 1 = Int32.ofNat t := by rw [gn_pred (by omega)]; rfl
    have ht2 : Int32.ofNat t + (-1) = Int32.ofNat t - 1 := (Int32.sub_eq_add_neg _ _).symm
    have ht0 : ¬ (Int32.ofNat t < 0) := by rw [Int32.lt_iff_toInt_lt, gn_toInt (by omega)]; simp
    have hin : gd_in (Int32.ofNat t) 1280 = true := gn_in (by omega) (by omega)
    obtain ⟨hW, hV⟩ := h1 t (by omega)
    have hWn := cDC_W hw hl (show q < 16 by omega) hW hV
    rw [← gMx_t] at hWn
    -- what is left once the latest cell is known
    have fin : ∀ (u : Int32) v', cDC (eMay A e l) (eGr A e) (bWo A e) (eLj A e) (q + 1) (fun g => dD (eZ A e l) g t) true u.toInt → ∃ m', gd_Den (126, 108, [.ref 15, .ref r1, .ref r2, .int x3, .int x4, .int (Int32.ofNat (dP (eZ A e l) (eGr A e q))), .int (Int32.ofNat (eZ A e l (eGr A e q))), .int x7, .int x8, .int (Int32.ofNat t + (-1)), v'], [], wI (wI m 16 t (gMx (gI m 16 t) (gI m 17 t))) 17 t u) = some (.null, m') ∧ oC m m' ∧ zL (eZ A e l) m' ∧ ∀ s < dP (eZ A e l) 5, zC A e l (q + 1) m' s := fun u v' hu => by
      have o1 : oC m (wI (wI m 16 t (gMx (gI m 16 t) (gI m 17 t))) 17 t u) := oC_w (oC_w oC_refl (by decide)) (by decide)
      rw [ht2]
      obtain ⟨m', a1, a2, a3, a4⟩ := ih (wI (wI m 16 t (gMx (gI m 16 t) (gI m 17 t))) 17 t u) v' (by omega) (gK_o K o1.1) (zL_c Z (by rw [gI_wI_f (by decide), gI_wI_f (by decide)]) (by rw [gI_wI_f (by decide), gI_wI_f (by decide)]) (by rw [gI_wI_f (by decide), gI_wI_f (by decide)])) (fun s hs => zC_c (h1 s (by omega)) (by rw [gI_wI_a (by decide), gI_wI_k (by omega)]) (by rw [gI_wI_k (by omega), gI_wI_a (by decide)])) (fun s hs hts => by
        by_cases es : s = t
        · subst es
          refine ⟨?_, ?_⟩
          · rw [gI_wI_a (by decide), gI_wI_s]; exact hWn
          · rw [gI_wI_s]; exact hu
        · exact zC_c (h2 s hs (by omega)) (by rw [gI_wI_a (by decide), gI_wI_k (by omega)]) (by rw [gI_wI_k (by omega), gI_wI_a (by decide)]))
      exact ⟨m', a1, oC_tr o1 a2, a3, a4⟩
    have hnone : dD (eZ A e l) (eGr A e q) t = 0 → cDC (eMay A e l) (eGr A e) (bWo A e) (eLj A e) (q + 1) (fun g => dD (eZ A e l) g t) true ((-1073741824 : Int32)).toInt := fun h0 => by
      rw [e_N]; exact cDC_N (.inr h0) hγ
    rw [q_Ch_offer_108, ht1, if_neg ht0]
    by_cases hlt : t < dP (eZ A e l) (eGr A e q)
    · rw [if_pos ((gn_lt (by omega) (by omega)).2 hlt)]
      simp only [gK_N K, gK_8_0 K, gK_8_1 K, gK_8_2 K, gK_8_3 K, gK_8_4 K, gK_8_5 K, gK_8_6 K, gK_8_7 K, gK_8_8 K, gK_10_0 K, gK_10_1 K, gK_10_2 K, gK_11_0 K, gK_15_0 K, gK_15_1 K, gK_15_2 K, gK_15_3 K, gK_20_0 K, gK_20_1 K, gK_20_2 K, gK_20_3 K, gK_20_4 K, gK_20_5 K, gK_698_0 K, gK_698_3 K, gK_698_16 K, gK_698_17 K, gK_698_20 K, gK_698_21 K, gK_698_22 K, gK_698_23 K, gK_698_24 K, gK_698_25 K, gK_698_26 K, gK_698_27 K, gK_698_28 K, gK_698_29 K, gK_698_30 K, gK_698_31 K, gK_698_32 K, gK_698_33 K, gK_698_34 K, gK_698_35 K, gK_698_36 K, gK_698_37 K, gK_698_38 K, gK_698_39 K, gK_698_41 K, gK_698_42 K, gK_698_44 K, gK_c K, gK_d K, gK_n K, gK_p K, gok_8, gok_10, gok_11, gok_15, gok_20, gok_698, gok_699, goA_9, goA_12, goA_13, goA_14, goA_16, goA_17, goA_18, goA_19, goA_21, goA_22, goA_23, goA_24, goA_25, goA_26, goA_27, goA_28, goA_29, goA_30, goA_31, goA_732, goA_733, goA_734, goA_735, goA_736, goA_737, goA_738, goA_739, goA_740, goA_741, goA_742, goA_743, goA_744, goA_745, goA_746, goA_747, goA_748, goA_749, goA_750, goA_751, goA_752, goA_753, goA_754, goA_755, goA_756, goA_757, gN_wI, gR_wI, gL_wI, if_true, eq_self]
      rw [hin, if_pos rfl, gn_nat (by omega), c_max]
      simp only [gK_N K, gK_8_0 K, gK_8_1 K, gK_8_2 K, gK_8_3 K, gK_8_4 K, gK_8_5 K, gK_8_6 K, gK_8_7 K, gK_8_8 K, gK_10_0 K, gK_10_1 K, gK_10_2 K, gK_11_0 K, gK_15_0 K, gK_15_1 K, gK_15_2 K, gK_15_3 K, gK_20_0 K, gK_20_1 K, gK_20_2 K, gK_20_3 K, gK_20_4 K, gK_20_5 K, gK_698_0 K, gK_698_3 K, gK_698_16 K, gK_698_17 K, gK_698_20 K, gK_698_21 K, gK_698_22 K, gK_698_23 K, gK_698_24 K, gK_698_25 K, gK_698_26 K, gK_698_27 K, gK_698_28 K, gK_698_29 K, gK_698_30 K, gK_698_31 K, gK_698_32 K, gK_698_33 K, gK_698_34 K, gK_698_35 K, gK_698_36 K, gK_698_37 K, gK_698_38 K, gK_698_39 K, gK_698_41 K, gK_698_42 K, gK_698_44 K, gK_c K, gK_d K, gK_n K, gK_p K, gok_8, gok_10, gok_11, gok_15, gok_20, gok_698, gok_699, goA_9, goA_12, goA_13, goA_14, goA_16, goA_17, goA_18, goA_19, goA_21, goA_22, goA_23, goA_24, goA_25, goA_26, goA_27, goA_28, goA_29, goA_30, goA_31, goA_732, goA_733, goA_734, goA_735, goA_736, goA_737, goA_738, goA_739, goA_740, goA_741, goA_742, goA_743, goA_744, goA_745, goA_746, goA_747, goA_748, goA_749, goA_750, goA_751, goA_752, goA_753, goA_754, goA_755, goA_756, goA_757, gN_wI, gR_wI, gL_wI, if_true, eq_self, Option.bind_some, gd_k0I_i]
      rw [hin, if_pos rfl, if_pos rfl]
      exact fin _ _ (hnone (by unfold dD; rw [Nat.div_eq_of_lt hlt, Nat.zero_mod]))
    · have hp0 : ¬ Int32.ofNat (dP (eZ A e l) (eGr A e q)) = 0 := fun h => by have := (gneb_0 (by omega) (by decide)).1 h; omega
      have hz0 : ¬ Int32.ofNat (eZ A e l (eGr A e q)) = 0 := fun h => by have := (gneb_0 (by omega) (by decide)).1 h; omega
      have hdl : t / dP (eZ A e l) (eGr A e q) ≤ t := Nat.div_le_self _ _
      rw [if_neg (fun h => hlt ((gn_lt (by omega) (by omega)).1 h)), if_neg hp0, if_neg hz0, gn_div (by omega) (by omega), gn_mod (by omega) (by omega)]
      have hdd : t / dP (eZ A e l) (eGr A e q) % eZ A e l (eGr A e q) = dD (eZ A e l) (eGr A e q) t := rfl
      have hml : t / dP (eZ A e l) (eGr A e q) % eZ A e l (eGr A e q) ≤ t / dP (eZ A e l) (eGr A e q) := Nat.mod_le _ _
      by_cases h0 : dD (eZ A e l) (eGr A e q) t = 0
      · rw [if_neg (fun h => by have := (gnla_0 (by decide) (by omega)).1 h; omega)]
        simp only [gK_N K, gK_8_0 K, gK_8_1 K, gK_8_2 K, gK_8_3 K, gK_8_4 K, gK_8_5 K, gK_8_6 K, gK_8_7 K, gK_8_8 K, gK_10_0 K, gK_10_1 K, gK_10_2 K, gK_11_0 K, gK_15_0 K, gK_15_1 K, gK_15_2 K, gK_15_3 K, gK_20_0 K, gK_20_1 K, gK_20_2 K, gK_20_3 K, gK_20_4 K, gK_20_5 K, gK_698_0 K, gK_698_3 K, gK_698_16 K, gK_698_17 K, gK_698_20 K, gK_698_21 K, gK_698_22 K, gK_698_23 K, gK_698_24 K, gK_698_25 K, gK_698_26 K, gK_698_27 K, gK_698_28 K, gK_698_29 K, gK_698_30 K, gK_698_31 K, gK_698_32 K, gK_698_33 K, gK_698_34 K, gK_698_35 K, gK_698_36 K, gK_698_37 K, gK_698_38 K, gK_698_39 K, gK_698_41 K, gK_698_42 K, gK_698_44 K, gK_c K, gK_d K, gK_n K, gK_p K, gok_8, gok_10, gok_11, gok_15, gok_20, gok_698, gok_699, goA_9, goA_12, goA_13, goA_14, goA_16, goA_17, goA_18, goA_19, goA_21, goA_22, goA_23, goA_24, goA_25, goA_26, goA_27, goA_28, goA_29, goA_30, goA_31, goA_732, goA_733, goA_734, goA_735, goA_736, goA_737, goA_738, goA_739, goA_740, goA_741, goA_742, goA_743, goA_744, goA_745, goA_746, goA_747, goA_748, goA_749, goA_750, goA_751, goA_752, goA_753, goA_754, goA_755, goA_756, goA_757, gN_wI, gR_wI, gL_wI, if_true, eq_self]
        rw [hin, if_pos rfl, gn_nat (by omega), c_max]
        simp only [gK_N K, gK_8_0 K, gK_8_1 K, gK_8_2 K, gK_8_3 K, gK_8_4 K, gK_8_5 K, gK_8_6 K, gK_8_7 K, gK_8_8 K, gK_10_0 K, gK_10_1 K, gK_10_2 K, gK_11_0 K, gK_15_0 K, gK_15_1 K, gK_15_2 K, gK_15_3 K, gK_20_0 K, gK_20_1 K, gK_20_2 K, gK_20_3 K, gK_20_4 K, gK_20_5 K, gK_698_0 K, gK_698_3 K, gK_698_16 K, gK_698_17 K, gK_698_20 K, gK_698_21 K, gK_698_22 K, gK_698_23 K, gK_698_24 K, gK_698_25 K, gK_698_26 K, gK_698_27 K, gK_698_28 K, gK_698_29 K, gK_698_30 K, gK_698_31 K, gK_698_32 K, gK_698_33 K, gK_698_34 K, gK_698_35 K, gK_698_36 K, gK_698_37 K, gK_698_38 K, gK_698_39 K, gK_698_41 K, gK_698_42 K, gK_698_44 K, gK_c K, gK_d K, gK_n K, gK_p K, gok_8, gok_10, gok_11, gok_15, gok_20, gok_698, gok_699, goA_9, goA_12, goA_13, goA_14, goA_16, goA_17, goA_18, goA_19, goA_21, goA_22, goA_23, goA_24, goA_25, goA_26, goA_27, goA_28, goA_29, goA_30, goA_31, goA_732, goA_733, goA_734, goA_735, goA_736, goA_737, goA_738, goA_739, goA_740, goA_741, goA_742, goA_743, goA_744, goA_745, goA_746, goA_747, goA_748, goA_749, goA_750, goA_751, goA_752, goA_753, goA_754, goA_755, goA_756, goA_757, gN_wI, gR_wI, gL_wI, if_true, eq_self, Option.bind_some, gd_k0I_i]
        rw [hin, if_pos rfl, if_pos rfl]
        exact fin _ _ (hnone h0)
      · have hpos : 0 < dD (eZ A e l) (eGr A e q) t := Nat.pos_of_ne_zero h0
        have hle := dD_le hz hpos
        rw [if_pos ((gnla_0 (by decide) (by omega)).2 (by omega))]
        simp only [gK_N K, gK_8_0 K, gK_8_1 K, gK_8_2 K, gK_8_3 K, gK_8_4 K, gK_8_5 K, gK_8_6 K, gK_8_7 K, gK_8_8 K, gK_10_0 K, gK_10_1 K, gK_10_2 K, gK_11_0 K, gK_15_0 K, gK_15_1 K, gK_15_2 K, gK_15_3 K, gK_20_0 K, gK_20_1 K, gK_20_2 K, gK_20_3 K, gK_20_4 K, gK_20_5 K, gK_698_0 K, gK_698_3 K, gK_698_16 K, gK_698_17 K, gK_698_20 K, gK_698_21 K, gK_698_22 K, gK_698_23 K, gK_698_24 K, gK_698_25 K, gK_698_26 K, gK_698_27 K, gK_698_28 K, gK_698_29 K, gK_698_30 K, gK_698_31 K, gK_698_32 K, gK_698_33 K, gK_698_34 K, gK_698_35 K, gK_698_36 K, gK_698_37 K, gK_698_38 K, gK_698_39 K, gK_698_41 K, gK_698_42 K, gK_698_44 K, gK_c K, gK_d K, gK_n K, gK_p K, gok_8, gok_10, gok_11, gok_15, gok_20, gok_698, gok_699, goA_9, goA_12, goA_13, goA_14, goA_16, goA_17, goA_18, goA_19, goA_21, goA_22, goA_23, goA_24, goA_25, goA_26, goA_27, goA_28, goA_29, goA_30, goA_31, goA_732, goA_733, goA_734, goA_735, goA_736, goA_737, goA_738, goA_739, goA_740, goA_741, goA_742, goA_743, goA_744, goA_745, goA_746, goA_747, goA_748, goA_749, goA_750, goA_751, goA_752, goA_753, goA_754, goA_755, goA_756, goA_757, gN_wI, gR_wI, gL_wI, if_true, eq_self]
        rw [gn_sub hle, gn_in (by omega) (show t - dP (eZ A e l) (eGr A e q) < 1280 by omega), if_pos rfl, gn_nat (by omega), c_max, if_pos rfl]
        simp only [gK_N K, gK_8_0 K, gK_8_1 K, gK_8_2 K, gK_8_3 K, gK_8_4 K, gK_8_5 K, gK_8_6 K, gK_8_7 K, gK_8_8 K, gK_10_0 K, gK_10_1 K, gK_10_2 K, gK_11_0 K, gK_15_0 K, gK_15_1 K, gK_15_2 K, gK_15_3 K, gK_20_0 K, gK_20_1 K, gK_20_2 K, gK_20_3 K, gK_20_4 K, gK_20_5 K, gK_698_0 K, gK_698_3 K, gK_698_16 K, gK_698_17 K, gK_698_20 K, gK_698_21 K, gK_698_22 K, gK_698_23 K, gK_698_24 K, gK_698_25 K, gK_698_26 K, gK_698_27 K, gK_698_28 K, gK_698_29 K, gK_698_30 K, gK_698_31 K, gK_698_32 K, gK_698_33 K, gK_698_34 K, gK_698_35 K, gK_698_36 K, gK_698_37 K, gK_698_38 K, gK_698_39 K, gK_698_41 K, gK_698_42 K, gK_698_44 K, gK_c K, gK_d K, gK_n K, gK_p K, gok_8, gok_10, gok_11, gok_15, gok_20, gok_698, gok_699, goA_9, goA_12, goA_13, goA_14, goA_16, goA_17, goA_18, goA_19, goA_21, goA_22, goA_23, goA_24, goA_25, goA_26, goA_27, goA_28, goA_29, goA_30, goA_31, goA_732, goA_733, goA_734, goA_735, goA_736, goA_737, goA_738, goA_739, goA_740, goA_741, goA_742, goA_743, goA_744, goA_745, goA_746, goA_747, goA_748, goA_749, goA_750, goA_751, goA_752, goA_753, goA_754, goA_755, goA_756, goA_757, gN_wI, gR_wI, gL_wI, if_true, eq_self, Option.bind_some, gd_k0I_i]
        rw [hin, if_pos rfl, gn_nat (by omega), c_max, if_pos rfl]
        simp only [gK_N K, gK_8_0 K, gK_8_1 K, gK_8_2 K, gK_8_3 K, gK_8_4 K, gK_8_5 K, gK_8_6 K, gK_8_7 K, gK_8_8 K, gK_10_0 K, gK_10_1 K, gK_10_2 K, gK_11_0 K, gK_15_0 K, gK_15_1 K, gK_15_2 K, gK_15_3 K, gK_20_0 K, gK_20_1 K, gK_20_2 K, gK_20_3 K, gK_20_4 K, gK_20_5 K, gK_698_0 K, gK_698_3 K, gK_698_16 K, gK_698_17 K, gK_698_20 K, gK_698_21 K, gK_698_22 K, gK_698_23 K, gK_698_24 K, gK_698_25 K, gK_698_26 K, gK_698_27 K, gK_698_28 K, gK_698_29 K, gK_698_30 K, gK_698_31 K, gK_698_32 K, gK_698_33 K, gK_698_34 K, gK_698_35 K, gK_698_36 K, gK_698_37 K, gK_698_38 K, gK_698_39 K, gK_698_41 K, gK_698_42 K, gK_698_44 K, gK_c K, gK_d K, gK_n K, gK_p K, gok_8, gok_10, gok_11, gok_15, gok_20, gok_698, gok_699, goA_9, goA_12, goA_13, goA_14, goA_16, goA_17, goA_18, goA_19, goA_21, goA_22, goA_23, goA_24, goA_25, goA_26, goA_27, goA_28, goA_29, goA_30, goA_31, goA_732, goA_733, goA_734, goA_735, goA_736, goA_737, goA_738, goA_739, goA_740, goA_741, goA_742, goA_743, goA_744, goA_745, goA_746, goA_747, goA_748, goA_749, goA_750, goA_751, goA_752, goA_753, goA_754, goA_755, goA_756, goA_757, gN_wI, gR_wI, gL_wI, if_true, eq_self, Option.bind_some, gd_k0I_i]
        rw [hin, if_pos rfl, if_pos rfl]
        obtain ⟨hW2, hV2⟩ := h1 (t - dP (eZ A e l) (eGr A e q)) (by omega)
        have hfun : (fun g => dD (eZ A e l) g (t - dP (eZ A e l) (eGr A e q))) = fun g => if g = eGr A e q then dD (eZ A e l) g t - 1 else dD (eZ A e l) g t := by
          funext g
          rw [dD_sub hz hpos g]
          by_cases eg : g = eGr A e q
          · rw [if_pos eg, if_pos eg, eg]
          · rw [if_neg eg, if_neg eg]
        rw [hfun] at hW2 hV2
        have b1 := cDC_b hw hl (show q ≤ 16 by omega) hW2
        have b2 := cDC_b hw hl (show q ≤ 16 by omega) hV2
        have hVn := cDC_V hw hl (show q < 16 by omega) hq hpos hγ hW2 hV2
        rw [← h7, ← h8, ← gt_add (by omega), ← gt_add (by omega), ← gMx_t] at hVn
        exact fin _ _ hVn
theorem c_offer (K : gK c d n p m) (hr : r < 160) (Id : iCd A) (hE : eOk A e l) (St : cSt c A r l e m) (Z : zL (eZ A e l) m) {q : Nat} (hq : eMay A e l q = true) (hC : ∀ s < dP (eZ A e l) 5, zC A e l q m s) : ∃ m', gd_call 126 [.ref 15, .ref c, .ref (58 + 4 * r), .int (Int32.ofNat q)] m = some (.null, m') ∧ oC m m' ∧ zL (eZ A e l) m' ∧ ∀ s < dP (eZ A e l) 5, zC A e l (q + 1) m' s := by
  have hS := eS_b hE
  have h16 := hE.1
  have hCl := bC_le (e := e) l
  have hqC := (e_may hq).1
  have hz : ∀ g, 0 < eZ A e l g := fun g => (eZ_b g).1
  have hp2 := c2pow (show q < 16 by omega)
  have hp3 : (0 : Int) ≤ ((2 ^ q : Nat) : Int) := Int.natCast_nonneg _
  have hwq := e_wo Id hE q hq
  have hlq := e_lj (l := l) (e := e) Id q hq
  obtain ⟨k, γ, hk30, hkN, hek, hγe, hγ, hgr⟩ := e_part Id hE hqC
  obtain ⟨N, -, hN, hNe⟩ := iCd_pts Id
  have hgN : gn (A 0 0) = N := by rw [hNe, gn_of (by omega)]
  rw [hgN] at hkN
  have hpγ := dP_pos hz γ
  have hpm : dP (eZ A e l) γ ≤ dP (eZ A e l) 5 := dP_mono hz (by omega)
  have hzb := eZ_b (A := A) (e := e) (l := l) γ
  obtain ⟨w, hw1, hw2, hwe⟩ := iCd_wor Id k (by omega)
  have hbw : bWo A e q = (w : Int) := by unfold bWo; rw [hek, gn_of (by omega), hwe, gn_toInt (by omega)]
  have hsh := gn_shl q (by omega)
  have h7 : (Int32.ofNat w * 65536 - ((1 : Int32) <<< (Int32.ofNat q &&& 31))).toInt = 65536 * bWo A e q - (2 ^ q : Nat) := by
    rw [hsh, show (65536 : Int32) = Int32.ofNat 65536 from rfl, gn_mul, gt_sub (by rw [gn_toInt (by omega), gn_toInt (by omega)]; omega), gn_toInt (by omega), gn_toInt (by omega), hbw]
    omega
  rw [q_Ch_offer]
  simp only [gK_N K, gK_8_0 K, gK_8_1 K, gK_8_2 K, gK_8_3 K, gK_8_4 K, gK_8_5 K, gK_8_6 K, gK_8_7 K, gK_8_8 K, gK_10_0 K, gK_10_1 K, gK_10_2 K, gK_11_0 K, gK_15_0 K, gK_15_1 K, gK_15_2 K, gK_15_3 K, gK_20_0 K, gK_20_1 K, gK_20_2 K, gK_20_3 K, gK_20_4 K, gK_20_5 K, gK_698_0 K, gK_698_3 K, gK_698_16 K, gK_698_17 K, gK_698_20 K, gK_698_21 K, gK_698_22 K, gK_698_23 K, gK_698_24 K, gK_698_25 K, gK_698_26 K, gK_698_27 K, gK_698_28 K, gK_698_29 K, gK_698_30 K, gK_698_31 K, gK_698_32 K, gK_698_33 K, gK_698_34 K, gK_698_35 K, gK_698_36 K, gK_698_37 K, gK_698_38 K, gK_698_39 K, gK_698_41 K, gK_698_42 K, gK_698_44 K, gK_c K, gK_d K, gK_n K, gK_p K, gok_8, gok_10, gok_11, gok_15, gok_20, gok_698, gok_699, goA_9, goA_12, goA_13, goA_14, goA_16, goA_17, goA_18, goA_19, goA_21, goA_22, goA_23, goA_24, goA_25, goA_26, goA_27, goA_28, goA_29, goA_30, goA_31, goA_732, goA_733, goA_734, goA_735, goA_736, goA_737, goA_738, goA_739, goA_740, goA_741, goA_742, goA_743, goA_744, goA_745, goA_746, goA_747, goA_748, goA_749, goA_750, goA_751, goA_752, goA_753, goA_754, goA_755, goA_756, goA_757, gN_wI, gR_wI, gL_wI, if_true, eq_self, gok_c K, gok_d K, gok_n K, gok_p K, gK_c_0 K, gK_c_1 K, gK_c_2 K, gK_c_3 K, gK_c_4 K, gK_c_5 K, gK_c_6 K, gK_c_7 K, gK_c_8 K, gK_c_9 K, gK_c_10 K, gK_c_11 K, gK_n_3 K, gK_n_4 K, gK_n_5 K, gK_n_6 K, gK_n_7 K, gK_n_8 K, gK_n_9 K, gK_n_10 K, gK_n_11 K, gK_n_12 K, gK_n_13 K, gK_n_14 K, gK_n_15 K, gK_n_16 K, gK_n_17 K, goA_c1 K, goA_c2 K, goA_c3 K, goA_c4 K, goA_c5 K, goA_c6 K, goA_c7 K, goA_c8 K, goA_c9 K, goA_c10 K, goA_c11 K, goA_c12 K, goA_n1 K, goA_n2 K, goA_n3 K, goA_n4 K, goA_n5 K, goA_n6 K, goA_n7 K, goA_n8 K, goA_n9 K, goA_n10 K, goA_n11 K, goA_n12 K, goA_n13 K, goA_n14 K, goA_n15 K, gK_row K hr, gK_ent K hr, gK_mrk K hr, gK_sen K hr, gok_row hr, goA_ent hr, goA_mrk hr, goA_sen hr, gd_row0, gd_row8, if_false]
  rw [gn_in (by omega) (show q < 16 by omega), if_pos rfl, gn_nat (show q < 2147483648 by omega), St.2.2 q (by omega), hek, c_hasPart K ((cCd_pts St.1).trans hNe)]
  simp only [gK_N K, gK_8_0 K, gK_8_1 K, gK_8_2 K, gK_8_3 K, gK_8_4 K, gK_8_5 K, gK_8_6 K, gK_8_7 K, gK_8_8 K, gK_10_0 K, gK_10_1 K, gK_10_2 K, gK_11_0 K, gK_15_0 K, gK_15_1 K, gK_15_2 K, gK_15_3 K, gK_20_0 K, gK_20_1 K, gK_20_2 K, gK_20_3 K, gK_20_4 K, gK_20_5 K, gK_698_0 K, gK_698_3 K, gK_698_16 K, gK_698_17 K, gK_698_20 K, gK_698_21 K, gK_698_22 K, gK_698_23 K, gK_698_24 K, gK_698_25 K, gK_698_26 K, gK_698_27 K, gK_698_28 K, gK_698_29 K, gK_698_30 K, gK_698_31 K, gK_698_32 K, gK_698_33 K, gK_698_34 K, gK_698_35 K, gK_698_36 K, gK_698_37 K, gK_698_38 K, gK_698_39 K, gK_698_41 K, gK_698_42 K, gK_698_44 K, gK_c K, gK_d K, gK_n K, gK_p K, gok_8, gok_10, gok_11, gok_15, gok_20, gok_698, gok_699, goA_9, goA_12, goA_13, goA_14, goA_16, goA_17, goA_18, goA_19, goA_21, goA_22, goA_23, goA_24, goA_25, goA_26, goA_27, goA_28, goA_29, goA_30, goA_31, goA_732, goA_733, goA_734, goA_735, goA_736, goA_737, goA_738, goA_739, goA_740, goA_741, goA_742, goA_743, goA_744, goA_745, goA_746, goA_747, goA_748, goA_749, goA_750, goA_751, goA_752, goA_753, goA_754, goA_755, goA_756, goA_757, gN_wI, gR_wI, gL_wI, if_true, eq_self, gok_c K, gok_d K, gok_n K, gok_p K, gK_c_0 K, gK_c_1 K, gK_c_2 K, gK_c_3 K, gK_c_4 K, gK_c_5 K, gK_c_6 K, gK_c_7 K, gK_c_8 K, gK_c_9 K, gK_c_10 K, gK_c_11 K, gK_n_3 K, gK_n_4 K, gK_n_5 K, gK_n_6 K, gK_n_7 K, gK_n_8 K, gK_n_9 K, gK_n_10 K, gK_n_11 K, gK_n_12 K, gK_n_13 K, gK_n_14 K, gK_n_15 K, gK_n_16 K, gK_n_17 K, goA_c1 K, goA_c2 K, goA_c3 K, goA_c4 K, goA_c5 K, goA_c6 K, goA_c7 K, goA_c8 K, goA_c9 K, goA_c10 K, goA_c11 K, goA_c12 K, goA_n1 K, goA_n2 K, goA_n3 K, goA_n4 K, goA_n5 K, goA_n6 K, goA_n7 K, goA_n8 K, goA_n9 K, goA_n10 K, goA_n11 K, goA_n12 K, goA_n13 K, goA_n14 K, goA_n15 K, gK_row K hr, gK_ent K hr, gK_mrk K hr, gK_sen K hr, gok_row hr, goA_ent hr, goA_mrk hr, goA_sen hr, gd_row0, gd_row8, if_false, Option.bind_some, gd_kI_i]
  rw [gIs_y (by omega) hkN, if_neg (by decide), gn_in (by omega) hk30, if_pos rfl, gn_nat (show k < 2147483648 by omega), cCd_grp St.1 k (by omega), hγe, gn_in (by omega) hγ, if_pos rfl, gn_nat (show γ < 2147483648 by omega), Z.2.2 γ hγ, c_max, gMx_1 hpγ (by omega)]
  simp only [gK_N K, gK_8_0 K, gK_8_1 K, gK_8_2 K, gK_8_3 K, gK_8_4 K, gK_8_5 K, gK_8_6 K, gK_8_7 K, gK_8_8 K, gK_10_0 K, gK_10_1 K, gK_10_2 K, gK_11_0 K, gK_15_0 K, gK_15_1 K, gK_15_2 K, gK_15_3 K, gK_20_0 K, gK_20_1 K, gK_20_2 K, gK_20_3 K, gK_20_4 K, gK_20_5 K, gK_698_0 K, gK_698_3 K, gK_698_16 K, gK_698_17 K, gK_698_20 K, gK_698_21 K, gK_698_22 K, gK_698_23 K, gK_698_24 K, gK_698_25 K, gK_698_26 K, gK_698_27 K, gK_698_28 K, gK_698_29 K, gK_698_30 K, gK_698_31 K, gK_698_32 K, gK_698_33 K, gK_698_34 K, gK_698_35 K, gK_698_36 K, gK_698_37 K, gK_698_38 K, gK_698_39 K, gK_698_41 K, gK_698_42 K, gK_698_44 K, gK_c K, gK_d K, gK_n K, gK_p K, gok_8, gok_10, gok_11, gok_15, gok_20, gok_698, gok_699, goA_9, goA_12, goA_13, goA_14, goA_16, goA_17, goA_18, goA_19, goA_21, goA_22, goA_23, goA_24, goA_25, goA_26, goA_27, goA_28, goA_29, goA_30, goA_31, goA_732, goA_733, goA_734, goA_735, goA_736, goA_737, goA_738, goA_739, goA_740, goA_741, goA_742, goA_743, goA_744, goA_745, goA_746, goA_747, goA_748, goA_749, goA_750, goA_751, goA_752, goA_753, goA_754, goA_755, goA_756, goA_757, gN_wI, gR_wI, gL_wI, if_true, eq_self, gok_c K, gok_d K, gok_n K, gok_p K, gK_c_0 K, gK_c_1 K, gK_c_2 K, gK_c_3 K, gK_c_4 K, gK_c_5 K, gK_c_6 K, gK_c_7 K, gK_c_8 K, gK_c_9 K, gK_c_10 K, gK_c_11 K, gK_n_3 K, gK_n_4 K, gK_n_5 K, gK_n_6 K, gK_n_7 K, gK_n_8 K, gK_n_9 K, gK_n_10 K, gK_n_11 K, gK_n_12 K, gK_n_13 K, gK_n_14 K, gK_n_15 K, gK_n_16 K, gK_n_17 K, goA_c1 K, goA_c2 K, goA_c3 K, goA_c4 K, goA_c5 K, goA_c6 K, goA_c7 K, goA_c8 K, goA_c9 K, goA_c10 K, goA_c11 K, goA_c12 K, goA_n1 K, goA_n2 K, goA_n3 K, goA_n4 K, goA_n5 K, goA_n6 K, goA_n7 K, goA_n8 K, goA_n9 K, goA_n10 K, goA_n11 K, goA_n12 K, goA_n13 K, goA_n14 K, goA_n15 K, gK_row K hr, gK_ent K hr, gK_mrk K hr, gK_sen K hr, gok_row hr, goA_ent hr, goA_mrk hr, goA_sen hr, gd_row0, gd_row8, if_false, Option.bind_some, gd_k0I_i]
  rw [gn_in (by omega) hk30, if_pos rfl, cCd_grp St.1 k (by omega), hγe, gn_in (by omega) hγ, if_pos rfl, gn_nat (show γ < 2147483648 by omega), Z.2.1 γ hγ, c_max, gMx_1 (by omega) (by omega)]
  simp only [gK_N K, gK_8_0 K, gK_8_1 K, gK_8_2 K, gK_8_3 K, gK_8_4 K, gK_8_5 K, gK_8_6 K, gK_8_7 K, gK_8_8 K, gK_10_0 K, gK_10_1 K, gK_10_2 K, gK_11_0 K, gK_15_0 K, gK_15_1 K, gK_15_2 K, gK_15_3 K, gK_20_0 K, gK_20_1 K, gK_20_2 K, gK_20_3 K, gK_20_4 K, gK_20_5 K, gK_698_0 K, gK_698_3 K, gK_698_16 K, gK_698_17 K, gK_698_20 K, gK_698_21 K, gK_698_22 K, gK_698_23 K, gK_698_24 K, gK_698_25 K, gK_698_26 K, gK_698_27 K, gK_698_28 K, gK_698_29 K, gK_698_30 K, gK_698_31 K, gK_698_32 K, gK_698_33 K, gK_698_34 K, gK_698_35 K, gK_698_36 K, gK_698_37 K, gK_698_38 K, gK_698_39 K, gK_698_41 K, gK_698_42 K, gK_698_44 K, gK_c K, gK_d K, gK_n K, gK_p K, gok_8, gok_10, gok_11, gok_15, gok_20, gok_698, gok_699, goA_9, goA_12, goA_13, goA_14, goA_16, goA_17, goA_18, goA_19, goA_21, goA_22, goA_23, goA_24, goA_25, goA_26, goA_27, goA_28, goA_29, goA_30, goA_31, goA_732, goA_733, goA_734, goA_735, goA_736, goA_737, goA_738, goA_739, goA_740, goA_741, goA_742, goA_743, goA_744, goA_745, goA_746, goA_747, goA_748, goA_749, goA_750, goA_751, goA_752, goA_753, goA_754, goA_755, goA_756, goA_757, gN_wI, gR_wI, gL_wI, if_true, eq_self, gok_c K, gok_d K, gok_n K, gok_p K, gK_c_0 K, gK_c_1 K, gK_c_2 K, gK_c_3 K, gK_c_4 K, gK_c_5 K, gK_c_6 K, gK_c_7 K, gK_c_8 K, gK_c_9 K, gK_c_10 K, gK_c_11 K, gK_n_3 K, gK_n_4 K, gK_n_5 K, gK_n_6 K, gK_n_7 K, gK_n_8 K, gK_n_9 K, gK_n_10 K, gK_n_11 K, gK_n_12 K, gK_n_13 K, gK_n_14 K, gK_n_15 K, gK_n_16 K, gK_n_17 K, goA_c1 K, goA_c2 K, goA_c3 K, goA_c4 K, goA_c5 K, goA_c6 K, goA_c7 K, goA_c8 K, goA_c9 K, goA_c10 K, goA_c11 K, goA_c12 K, goA_n1 K, goA_n2 K, goA_n3 K, goA_n4 K, goA_n5 K, goA_n6 K, goA_n7 K, goA_n8 K, goA_n9 K, goA_n10 K, goA_n11 K, goA_n12 K, goA_n13 K, goA_n14 K, goA_n15 K, gK_row K hr, gK_ent K hr, gK_mrk K hr, gK_sen K hr, gok_row hr, goA_ent hr, goA_mrk hr, goA_sen hr, gd_row0, gd_row8, if_false, Option.bind_some, gd_k0I_i]
  rw [gn_in (by omega) hk30, if_pos rfl, cCd_wor St.1 k (by omega), hwe]
  by_cases h0 : 0 < q
  · obtain ⟨wl, hwl, hwlt⟩ := c_linkWorth K St.1 Id (e (q - 1)) (Int32.ofNat k)
    have hlb := bLk_b Id (e (q - 1)) (Int32.ofNat k)
    have hej : eLj A e q = bLk A (e (q - 1)) (Int32.ofNat k) (gn (A 0 1)) := by
      unfold eLj bLi
      rw [if_neg (by omega), hek]
    rw [if_pos ((gnla_0 (by decide) (by omega)).2 h0), gn_pred h0, gn_in (by omega) (show q - 1 < 16 by omega), if_pos rfl, gn_nat (show q - 1 < 2147483648 by omega), St.2.2 (q - 1) (by omega), hwl]
    simp only [gK_N K, gK_8_0 K, gK_8_1 K, gK_8_2 K, gK_8_3 K, gK_8_4 K, gK_8_5 K, gK_8_6 K, gK_8_7 K, gK_8_8 K, gK_10_0 K, gK_10_1 K, gK_10_2 K, gK_11_0 K, gK_15_0 K, gK_15_1 K, gK_15_2 K, gK_15_3 K, gK_20_0 K, gK_20_1 K, gK_20_2 K, gK_20_3 K, gK_20_4 K, gK_20_5 K, gK_698_0 K, gK_698_3 K, gK_698_16 K, gK_698_17 K, gK_698_20 K, gK_698_21 K, gK_698_22 K, gK_698_23 K, gK_698_24 K, gK_698_25 K, gK_698_26 K, gK_698_27 K, gK_698_28 K, gK_698_29 K, gK_698_30 K, gK_698_31 K, gK_698_32 K, gK_698_33 K, gK_698_34 K, gK_698_35 K, gK_698_36 K, gK_698_37 K, gK_698_38 K, gK_698_39 K, gK_698_41 K, gK_698_42 K, gK_698_44 K, gK_c K, gK_d K, gK_n K, gK_p K, gok_8, gok_10, gok_11, gok_15, gok_20, gok_698, gok_699, goA_9, goA_12, goA_13, goA_14, goA_16, goA_17, goA_18, goA_19, goA_21, goA_22, goA_23, goA_24, goA_25, goA_26, goA_27, goA_28, goA_29, goA_30, goA_31, goA_732, goA_733, goA_734, goA_735, goA_736, goA_737, goA_738, goA_739, goA_740, goA_741, goA_742, goA_743, goA_744, goA_745, goA_746, goA_747, goA_748, goA_749, goA_750, goA_751, goA_752, goA_753, goA_754, goA_755, goA_756, goA_757, gN_wI, gR_wI, gL_wI, if_true, eq_self, gok_c K, gok_d K, gok_n K, gok_p K, gK_c_0 K, gK_c_1 K, gK_c_2 K, gK_c_3 K, gK_c_4 K, gK_c_5 K, gK_c_6 K, gK_c_7 K, gK_c_8 K, gK_c_9 K, gK_c_10 K, gK_c_11 K, gK_n_3 K, gK_n_4 K, gK_n_5 K, gK_n_6 K, gK_n_7 K, gK_n_8 K, gK_n_9 K, gK_n_10 K, gK_n_11 K, gK_n_12 K, gK_n_13 K, gK_n_14 K, gK_n_15 K, gK_n_16 K, gK_n_17 K, goA_c1 K, goA_c2 K, goA_c3 K, goA_c4 K, goA_c5 K, goA_c6 K, goA_c7 K, goA_c8 K, goA_c9 K, goA_c10 K, goA_c11 K, goA_c12 K, goA_n1 K, goA_n2 K, goA_n3 K, goA_n4 K, goA_n5 K, goA_n6 K, goA_n7 K, goA_n8 K, goA_n9 K, goA_n10 K, goA_n11 K, goA_n12 K, goA_n13 K, goA_n14 K, goA_n15 K, gK_row K hr, gK_ent K hr, gK_mrk K hr, gK_sen K hr, gok_row hr, goA_ent hr, goA_mrk hr, goA_sen hr, gd_row0, gd_row8, if_false, Option.bind_some, gd_kI_i]
    rw [Z.1]
    have hmul : (wl * 65536).toInt = 65536 * eLj A e q := by
      rw [gt_mul (by rw [hwlt, show (65536 : Int32).toInt = 65536 from rfl]; omega), hwlt, show (65536 : Int32).toInt = 65536 from rfl, hej]; omega
    have h8 : (Int32.ofNat w * 65536 - ((1 : Int32) <<< (Int32.ofNat q &&& 31)) + wl * 65536).toInt = 65536 * bWo A e q + 65536 * eLj A e q - (2 ^ q : Nat) := by
      rw [gt_add (by rw [h7, hmul]; omega), h7, hmul]; omega
    have := c_offer_108 (c := c) (d := d) (n := n) (p := p) Id hE hq (x3 := Int32.ofNat q) (x4 := Int32.ofNat k) (r1 := c) (r2 := 58 + 4 * r) h7 h8 (dP (eZ A e l) 5) m .null (Nat.le_refl _) K Z hC (fun s h1 h2 => by omega)
    rw [hgr] at this
    exact this
  · have hq0 : q = 0 := by omega
    have hej : eLj A e q = 0 := by unfold eLj; rw [if_pos hq0]
    rw [if_neg (fun h => h0 ((gnla_0 (by decide) (by omega)).1 h)), Z.1]
    have := c_offer_108 (c := c) (d := d) (n := n) (p := p) Id hE hq (x3 := Int32.ofNat q) (x4 := Int32.ofNat k) (r1 := c) (r2 := 58 + 4 * r) h7 (by rw [h7, hej]; omega) (dP (eZ A e l) 5) m .null (Nat.le_refl _) K Z hC (fun s h1 h2 => by omega)
    rw [hgr] at this
    exact this
theorem c_passOver_2 (Id : iCd A) (hE : eOk A e l) {q : Nat} (hq : eMay A e l q = false) (hqC : q < bC e l) : ∀ j t (m : gd_M), t + j = dP (eZ A e l) 5 → gK c d n p m → zL (eZ A e l) m → (∀ s < dP (eZ A e l) 5, t ≤ s → zC A e l q m s) → (∀ s < t, zC A e l (q + 1) m s) → ∃ m', gd_Den (127, 2, [.ref 15, .int (Int32.ofNat t)], [], m) = some (.null, m') ∧ oC m m' ∧ zL (eZ A e l) m' ∧ ∀ s < dP (eZ A e l) 5, zC A e l (q + 1) m' s := by
  have hS := eS_b hE
  have h16 := hE.1
  have hCl := bC_le (e := e) l
  have hw := e_wo Id hE
  have hl := e_lj (l := l) (e := e) Id
  have hγ := e_gr Id hE hqC
  intro j
  induction j with
  | zero =>
    intro t m h K Z h1 h2
    refine ⟨m, ?_, oC_refl, Z, fun s hs => h2 s (by omega)⟩
    rw [q_Ch_passOver_2]
    simp only [gK_N K, gK_8_0 K, gK_8_1 K, gK_8_2 K, gK_8_3 K, gK_8_4 K, gK_8_5 K, gK_8_6 K, gK_8_7 K, gK_8_8 K, gK_10_0 K, gK_10_1 K, gK_10_2 K, gK_11_0 K, gK_15_0 K, gK_15_1 K, gK_15_2 K, gK_15_3 K, gK_20_0 K, gK_20_1 K, gK_20_2 K, gK_20_3 K, gK_20_4 K, gK_20_5 K, gK_698_0 K, gK_698_3 K, gK_698_16 K, gK_698_17 K, gK_698_20 K, gK_698_21 K, gK_698_22 K, gK_698_23 K, gK_698_24 K, gK_698_25 K, gK_698_26 K, gK_698_27 K, gK_698_28 K, gK_698_29 K, gK_698_30 K, gK_698_31 K, gK_698_32 K, gK_698_33 K, gK_698_34 K, gK_698_35 K, gK_698_36 K, gK_698_37 K, gK_698_38 K, gK_698_39 K, gK_698_41 K, gK_698_42 K, gK_698_44 K, gK_c K, gK_d K, gK_n K, gK_p K, gok_8, gok_10, gok_11, gok_15, gok_20, gok_698, gok_699, goA_9, goA_12, goA_13, goA_14, goA_16, goA_17, goA_18, goA_19, goA_21, goA_22, goA_23, goA_24, goA_25, goA_26, goA_27, goA_28, goA_29, goA_30, goA_31, goA_732, goA_733, goA_734, goA_735, goA_736, goA_737, goA_738, goA_739, goA_740, goA_741, goA_742, goA_743, goA_744, goA_745, goA_746, goA_747, goA_748, goA_749, goA_750, goA_751, goA_752, goA_753, goA_754, goA_755, goA_756, goA_757, gN_wI, gR_wI, gL_wI, if_true, eq_self]
    rw [Z.1, if_neg (fun q => by have := (gn_lt (by omega) (by omega)).1 q; omega)]
  | succ j ih =>
    intro t m h K Z h1 h2
    obtain ⟨hW, hV⟩ := h1 t (by omega) (Nat.le_refl t)
    have hWn := cDC_W hw hl (show q < 16 by omega) hW hV
    rw [← gMx_t] at hWn
    have hin : gd_in (Int32.ofNat t) 1280 = true := gn_in (by omega) (by omega)
    rw [q_Ch_passOver_2]
    simp only [gK_N K, gK_8_0 K, gK_8_1 K, gK_8_2 K, gK_8_3 K, gK_8_4 K, gK_8_5 K, gK_8_6 K, gK_8_7 K, gK_8_8 K, gK_10_0 K, gK_10_1 K, gK_10_2 K, gK_11_0 K, gK_15_0 K, gK_15_1 K, gK_15_2 K, gK_15_3 K, gK_20_0 K, gK_20_1 K, gK_20_2 K, gK_20_3 K, gK_20_4 K, gK_20_5 K, gK_698_0 K, gK_698_3 K, gK_698_16 K, gK_698_17 K, gK_698_20 K, gK_698_21 K, gK_698_22 K, gK_698_23 K, gK_698_24 K, gK_698_25 K, gK_698_26 K, gK_698_27 K, gK_698_28 K, gK_698_29 K, gK_698_30 K, gK_698_31 K, gK_698_32 K, gK_698_33 K, gK_698_34 K, gK_698_35 K, gK_698_36 K, gK_698_37 K, gK_698_38 K, gK_698_39 K, gK_698_41 K, gK_698_42 K, gK_698_44 K, gK_c K, gK_d K, gK_n K, gK_p K, gok_8, gok_10, gok_11, gok_15, gok_20, gok_698, gok_699, goA_9, goA_12, goA_13, goA_14, goA_16, goA_17, goA_18, goA_19, goA_21, goA_22, goA_23, goA_24, goA_25, goA_26, goA_27, goA_28, goA_29, goA_30, goA_31, goA_732, goA_733, goA_734, goA_735, goA_736, goA_737, goA_738, goA_739, goA_740, goA_741, goA_742, goA_743, goA_744, goA_745, goA_746, goA_747, goA_748, goA_749, goA_750, goA_751, goA_752, goA_753, goA_754, goA_755, goA_756, goA_757, gN_wI, gR_wI, gL_wI, if_true, eq_self]
    rw [Z.1, if_pos ((gn_lt (by omega) (by omega)).2 (by omega)), hin, if_pos rfl, gn_nat (by omega), c_max, if_pos rfl]
    simp only [gK_N K, gK_8_0 K, gK_8_1 K, gK_8_2 K, gK_8_3 K, gK_8_4 K, gK_8_5 K, gK_8_6 K, gK_8_7 K, gK_8_8 K, gK_10_0 K, gK_10_1 K, gK_10_2 K, gK_11_0 K, gK_15_0 K, gK_15_1 K, gK_15_2 K, gK_15_3 K, gK_20_0 K, gK_20_1 K, gK_20_2 K, gK_20_3 K, gK_20_4 K, gK_20_5 K, gK_698_0 K, gK_698_3 K, gK_698_16 K, gK_698_17 K, gK_698_20 K, gK_698_21 K, gK_698_22 K, gK_698_23 K, gK_698_24 K, gK_698_25 K, gK_698_26 K, gK_698_27 K, gK_698_28 K, gK_698_29 K, gK_698_30 K, gK_698_31 K, gK_698_32 K, gK_698_33 K, gK_698_34 K, gK_698_35 K, gK_698_36 K, gK_698_37 K, gK_698_38 K, gK_698_39 K, gK_698_41 K, gK_698_42 K, gK_698_44 K, gK_c K, gK_d K, gK_n K, gK_p K, gok_8, gok_10, gok_11, gok_15, gok_20, gok_698, gok_699, goA_9, goA_12, goA_13, goA_14, goA_16, goA_17, goA_18, goA_19, goA_21, goA_22, goA_23, goA_24, goA_25, goA_26, goA_27, goA_28, goA_29, goA_30, goA_31, goA_732, goA_733, goA_734, goA_735, goA_736, goA_737, goA_738, goA_739, goA_740, goA_741, goA_742, goA_743, goA_744, goA_745, goA_746, goA_747, goA_748, goA_749, goA_750, goA_751, goA_752, goA_753, goA_754, goA_755, goA_756, goA_757, gN_wI, gR_wI, gL_wI, if_true, eq_self, Option.bind_some, gd_k0I_i]
    rw [hin, if_pos rfl, if_pos rfl, gn_succ]
    have o1 : oC m (wI (wI m 16 t (gMx (gI m 16 t) (gI m 17 t))) 17 t (-1073741824)) := oC_w (oC_w oC_refl (by decide)) (by decide)
    obtain ⟨m', a1, a2, a3, a4⟩ := ih (t + 1) (wI (wI m 16 t (gMx (gI m 16 t) (gI m 17 t))) 17 t (-1073741824)) (by omega) (gK_o K o1.1) (zL_c Z (by rw [gI_wI_f (by decide), gI_wI_f (by decide)]) (by rw [gI_wI_f (by decide), gI_wI_f (by decide)]) (by rw [gI_wI_f (by decide), gI_wI_f (by decide)])) (fun s hs hts => zC_c (h1 s hs (by omega)) (by rw [gI_wI_a (by decide), gI_wI_k (by omega)]) (by rw [gI_wI_k (by omega), gI_wI_a (by decide)])) (fun s hs => by
      by_cases es : s = t
      · subst es
        refine ⟨?_, ?_⟩
        · rw [gI_wI_a (by decide), gI_wI_s]; exact hWn
        · rw [gI_wI_s, e_N]; exact cDC_N (.inl hq) hγ
      · exact zC_c (h2 s (by omega)) (by rw [gI_wI_a (by decide), gI_wI_k (by omega)]) (by rw [gI_wI_k (by omega), gI_wI_a (by decide)]))
    exact ⟨m', a1, oC_tr o1 a2, a3, a4⟩
end P65
