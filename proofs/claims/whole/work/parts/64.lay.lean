/-! ===== the chooser, class: the layout ===== -/
/-- what may be chosen; groups; limits; links as the chooser counts them -/
def eMay (A : gd_C) (e : Nat → Int32) (l i : Nat) : Bool := decide (i < bC e l) && !bRep A e i
def eGr (A : gd_C) (e : Nat → Int32) (i : Nat) : Nat := gn (A 6 (gn (e i)))
def eLj (A : gd_C) (e : Nat → Int32) (i : Nat) : Int := if i = 0 then 0 else bLi A e i
def eZ (A : gd_C) (e : Nat → Int32) (l g : Nat) : Nat := zS (eMay A e l) (eGr A e) (A 15) (bC e l) g
section P64
variable {c d n p : Nat} {m : gd_M} {A : gd_C} {r l : Nat} {e : Nat → Int32}
/-- a part of an entry that counts -/
theorem e_part (Id : iCd A) (hE : eOk A e l) {i : Nat} (hi : i < bC e l) : ∃ k γ, k < 30 ∧ k < gn (A 0 0) ∧ e i = Int32.ofNat k ∧ A 6 k = Int32.ofNat γ ∧ γ < 5 ∧ eGr A e i = γ := by
  obtain ⟨N, -, hN, hNe⟩ := iCd_pts Id
  have hgN : gn (A 0 0) = N := by rw [hNe, gn_of (by omega)]
  obtain ⟨-, h16, k, hk, hek⟩ := eOk_p hE hi
  obtain ⟨γ, -, hγ, hγe⟩ := iCd_grp Id k hk
  refine ⟨k, γ, by omega, hk, hek, hγe, by omega, ?_⟩
  unfold eGr
  rw [hek, gn_of (by omega), hγe, gn_of (by omega)]
theorem c_layOut_3 {x3 x4 : Int32} {r1 r2 : Nat} : ∀ j i (m : gd_M), i + j = 5 → gK c d n p m → gd_Den (124, 3, [.ref 15, .ref r1, .ref r2, .int x3, .int x4, .int (Int32.ofNat i), .null], [], m) = gd_Den (124, 26, [.ref 15, .ref r1, .ref r2, .int x3, .int x4, .int 0, .null], [], wFl m 18 i 1 j) := by
  intro j
  induction j with
  | zero =>
    intro i m h K
    have : i = 5 := by omega
    subst this
    rw [q_Ch_layOut_3]; rfl
  | succ j ih =>
    intro i m h K
    rw [q_Ch_layOut_3]
    simp only [gK_N K, gK_8_0 K, gK_8_1 K, gK_8_2 K, gK_8_3 K, gK_8_4 K, gK_8_5 K, gK_8_6 K, gK_8_7 K, gK_8_8 K, gK_10_0 K, gK_10_1 K, gK_10_2 K, gK_11_0 K, gK_15_0 K, gK_15_1 K, gK_15_2 K, gK_15_3 K, gK_20_0 K, gK_20_1 K, gK_20_2 K, gK_20_3 K, gK_20_4 K, gK_20_5 K, gK_698_0 K, gK_698_3 K, gK_698_16 K, gK_698_17 K, gK_698_20 K, gK_698_21 K, gK_698_22 K, gK_698_23 K, gK_698_24 K, gK_698_25 K, gK_698_26 K, gK_698_27 K, gK_698_28 K, gK_698_29 K, gK_698_30 K, gK_698_31 K, gK_698_32 K, gK_698_33 K, gK_698_34 K, gK_698_35 K, gK_698_36 K, gK_698_37 K, gK_698_38 K, gK_698_39 K, gK_698_41 K, gK_698_42 K, gK_698_44 K, gK_c K, gK_d K, gK_n K, gK_p K, gok_8, gok_10, gok_11, gok_15, gok_20, gok_698, gok_699, goA_9, goA_12, goA_13, goA_14, goA_16, goA_17, goA_18, goA_19, goA_21, goA_22, goA_23, goA_24, goA_25, goA_26, goA_27, goA_28, goA_29, goA_30, goA_31, goA_732, goA_733, goA_734, goA_735, goA_736, goA_737, goA_738, goA_739, goA_740, goA_741, goA_742, goA_743, goA_744, goA_745, goA_746, goA_747, goA_748, goA_749, goA_750, goA_751, goA_752, goA_753, goA_754, goA_755, goA_756, goA_757, gN_wI, gR_wI, gL_wI, if_true, eq_self, gn_succ]
    rw [if_pos ((gnlb_5 (by omega) (by decide)).2 (by omega)), gn_in (by omega) (by omega), if_pos rfl, gn_nat (by omega)]
    exact ih (i + 1) _ (by omega) K
theorem c_layOut_26 (hr : r < 160) (Id : iCd A) (hE : eOk A e l) {y : Int32} (hy : ∀ k, gb y k = (decide (k < bC e l) && bRep A e k)) : ∀ j i (m : gd_M) v, i + j = bC e l → gK c d n p m → cSt c A r l e m → (∀ g < 5, gI m 18 g = Int32.ofNat (zS (eMay A e l) (eGr A e) (A 15) i g)) → ∃ m' v', gd_Den (124, 26, [.ref 15, .ref c, .ref (58 + 4 * r), .int (Int32.ofNat (bC e l)), .int y, .int (Int32.ofNat i), v], [], m) = gd_Den (124, 123, [.ref 15, .ref c, .ref (58 + 4 * r), .int (Int32.ofNat (bC e l)), .int y, .int 0, v'], [], wI m' 15 4 1) ∧ oC m m' ∧ ∀ g < 5, gI m' 18 g = Int32.ofNat (eZ A e l g) := by
  have h16 := hE.1
  have hCl := bC_le (e := e) l
  obtain ⟨N, -, hN, hNe⟩ := iCd_pts Id
  have hgN : gn (A 0 0) = N := by rw [hNe, gn_of (by omega)]
  intro j
  induction j with
  | zero =>
    intro i m v h K St hz
    have : i = bC e l := by omega
    subst this
    refine ⟨m, v, ?_, oC_refl, hz⟩
    rw [q_Ch_layOut_26, if_neg (fun q => by have := (gn_lt (by omega) (by omega)).1 q; omega)]
    simp only [gK_N K, gK_8_0 K, gK_8_1 K, gK_8_2 K, gK_8_3 K, gK_8_4 K, gK_8_5 K, gK_8_6 K, gK_8_7 K, gK_8_8 K, gK_10_0 K, gK_10_1 K, gK_10_2 K, gK_11_0 K, gK_15_0 K, gK_15_1 K, gK_15_2 K, gK_15_3 K, gK_20_0 K, gK_20_1 K, gK_20_2 K, gK_20_3 K, gK_20_4 K, gK_20_5 K, gK_698_0 K, gK_698_3 K, gK_698_16 K, gK_698_17 K, gK_698_20 K, gK_698_21 K, gK_698_22 K, gK_698_23 K, gK_698_24 K, gK_698_25 K, gK_698_26 K, gK_698_27 K, gK_698_28 K, gK_698_29 K, gK_698_30 K, gK_698_31 K, gK_698_32 K, gK_698_33 K, gK_698_34 K, gK_698_35 K, gK_698_36 K, gK_698_37 K, gK_698_38 K, gK_698_39 K, gK_698_41 K, gK_698_42 K, gK_698_44 K, gK_c K, gK_d K, gK_n K, gK_p K, gok_8, gok_10, gok_11, gok_15, gok_20, gok_698, gok_699, goA_9, goA_12, goA_13, goA_14, goA_16, goA_17, goA_18, goA_19, goA_21, goA_22, goA_23, goA_24, goA_25, goA_26, goA_27, goA_28, goA_29, goA_30, goA_31, goA_732, goA_733, goA_734, goA_735, goA_736, goA_737, goA_738, goA_739, goA_740, goA_741, goA_742, goA_743, goA_744, goA_745, goA_746, goA_747, goA_748, goA_749, goA_750, goA_751, goA_752, goA_753, goA_754, goA_755, goA_756, goA_757, gN_wI, gR_wI, gL_wI, if_true, eq_self]
  | succ j ih =>
    intro i m v h K St hz
    have hi : i < bC e l := by omega
    obtain ⟨k, γ, hk30, hkN, hek, hγe, hγ, hgr⟩ := e_part Id hE hi
    rw [hgN] at hkN
    rw [q_Ch_layOut_26, if_pos ((gn_lt (by omega) (by omega)).2 hi)]
    have hyi : gb y i = bRep A e i := by rw [hy i, decide_eq_true hi]; rfl
    have hmay : eMay A e l i = !bRep A e i := by unfold eMay; rw [decide_eq_true hi]; rfl
    cases hb : bRep A e i with
    | true =>
      rw [if_neg (fun q => by have := (gb_tst (by omega)).1 q; rw [hyi, hb] at this; exact absurd this (by decide)), gn_succ]
      refine ih (i + 1) m v (by omega) K St fun g hg => ?_
      show _ = Int32.ofNat (if _ then _ else _)
      rw [if_neg (fun q => by have := q.1; rw [hmay, hb] at this; exact absurd this (by decide))]
      exact hz g hg
    | false =>
      rw [if_pos ((gb_tst (by omega)).2 (by rw [hyi, hb]))]
      have hzγ := zS_b (may := eMay A e l) (gr := eGr A e) (lim := A 15) i γ
      have hm : eMay A e l i = true := by rw [hmay, hb]; rfl
      have hlim := iCd_lim Id γ hγ
      simp only [gK_N K, gK_8_0 K, gK_8_1 K, gK_8_2 K, gK_8_3 K, gK_8_4 K, gK_8_5 K, gK_8_6 K, gK_8_7 K, gK_8_8 K, gK_10_0 K, gK_10_1 K, gK_10_2 K, gK_11_0 K, gK_15_0 K, gK_15_1 K, gK_15_2 K, gK_15_3 K, gK_20_0 K, gK_20_1 K, gK_20_2 K, gK_20_3 K, gK_20_4 K, gK_20_5 K, gK_698_0 K, gK_698_3 K, gK_698_16 K, gK_698_17 K, gK_698_20 K, gK_698_21 K, gK_698_22 K, gK_698_23 K, gK_698_24 K, gK_698_25 K, gK_698_26 K, gK_698_27 K, gK_698_28 K, gK_698_29 K, gK_698_30 K, gK_698_31 K, gK_698_32 K, gK_698_33 K, gK_698_34 K, gK_698_35 K, gK_698_36 K, gK_698_37 K, gK_698_38 K, gK_698_39 K, gK_698_41 K, gK_698_42 K, gK_698_44 K, gK_c K, gK_d K, gK_n K, gK_p K, gok_8, gok_10, gok_11, gok_15, gok_20, gok_698, gok_699, goA_9, goA_12, goA_13, goA_14, goA_16, goA_17, goA_18, goA_19, goA_21, goA_22, goA_23, goA_24, goA_25, goA_26, goA_27, goA_28, goA_29, goA_30, goA_31, goA_732, goA_733, goA_734, goA_735, goA_736, goA_737, goA_738, goA_739, goA_740, goA_741, goA_742, goA_743, goA_744, goA_745, goA_746, goA_747, goA_748, goA_749, goA_750, goA_751, goA_752, goA_753, goA_754, goA_755, goA_756, goA_757, gN_wI, gR_wI, gL_wI, if_true, eq_self, gok_c K, gok_d K, gok_n K, gok_p K, gK_c_0 K, gK_c_1 K, gK_c_2 K, gK_c_3 K, gK_c_4 K, gK_c_5 K, gK_c_6 K, gK_c_7 K, gK_c_8 K, gK_c_9 K, gK_c_10 K, gK_c_11 K, gK_n_3 K, gK_n_4 K, gK_n_5 K, gK_n_6 K, gK_n_7 K, gK_n_8 K, gK_n_9 K, gK_n_10 K, gK_n_11 K, gK_n_12 K, gK_n_13 K, gK_n_14 K, gK_n_15 K, gK_n_16 K, gK_n_17 K, goA_c1 K, goA_c2 K, goA_c3 K, goA_c4 K, goA_c5 K, goA_c6 K, goA_c7 K, goA_c8 K, goA_c9 K, goA_c10 K, goA_c11 K, goA_c12 K, goA_n1 K, goA_n2 K, goA_n3 K, goA_n4 K, goA_n5 K, goA_n6 K, goA_n7 K, goA_n8 K, goA_n9 K, goA_n10 K, goA_n11 K, goA_n12 K, goA_n13 K, goA_n14 K, goA_n15 K, gK_row K hr, gK_ent K hr, gK_mrk K hr, gK_sen K hr, gok_row hr, goA_ent hr, goA_mrk hr, goA_sen hr, gd_row0, gd_row8, if_false]
      rw [gn_in (by omega) (show i < 16 by omega), if_pos rfl, gn_nat (show i < 2147483648 by omega), St.2.2 i (by omega), hek, c_hasPart K ((cCd_pts St.1).trans hNe)]
      simp only [gK_N K, gK_8_0 K, gK_8_1 K, gK_8_2 K, gK_8_3 K, gK_8_4 K, gK_8_5 K, gK_8_6 K, gK_8_7 K, gK_8_8 K, gK_10_0 K, gK_10_1 K, gK_10_2 K, gK_11_0 K, gK_15_0 K, gK_15_1 K, gK_15_2 K, gK_15_3 K, gK_20_0 K, gK_20_1 K, gK_20_2 K, gK_20_3 K, gK_20_4 K, gK_20_5 K, gK_698_0 K, gK_698_3 K, gK_698_16 K, gK_698_17 K, gK_698_20 K, gK_698_21 K, gK_698_22 K, gK_698_23 K, gK_698_24 K, gK_698_25 K, gK_698_26 K, gK_698_27 K, gK_698_28 K, gK_698_29 K, gK_698_30 K, gK_698_31 K, gK_698_32 K, gK_698_33 K, gK_698_34 K, gK_698_35 K, gK_698_36 K, gK_698_37 K, gK_698_38 K, gK_698_39 K, gK_698_41 K, gK_698_42 K, gK_698_44 K, gK_c K, gK_d K, gK_n K, gK_p K, gok_8, gok_10, gok_11, gok_15, gok_20, gok_698, gok_699, goA_9, goA_12, goA_13, goA_14, goA_16, goA_17, goA_18, goA_19, goA_21, goA_22, goA_23, goA_24, goA_25, goA_26, goA_27, goA_28, goA_29, goA_30, goA_31, goA_732, goA_733, goA_734, goA_735, goA_736, goA_737, goA_738, goA_739, goA_740, goA_741, goA_742, goA_743, goA_744, goA_745, goA_746, goA_747, goA_748, goA_749, goA_750, goA_751, goA_752, goA_753, goA_754, goA_755, goA_756, goA_757, gN_wI, gR_wI, gL_wI, if_true, eq_self, gok_c K, gok_d K, gok_n K, gok_p K, gK_c_0 K, gK_c_1 K, gK_c_2 K, gK_c_3 K, gK_c_4 K, gK_c_5 K, gK_c_6 K, gK_c_7 K, gK_c_8 K, gK_c_9 K, gK_c_10 K, gK_c_11 K, gK_n_3 K, gK_n_4 K, gK_n_5 K, gK_n_6 K, gK_n_7 K, gK_n_8 K, gK_n_9 K, gK_n_10 K, gK_n_11 K, gK_n_12 K, gK_n_13 K, gK_n_14 K, gK_n_15 K, gK_n_16 K, gK_n_17 K, goA_c1 K, goA_c2 K, goA_c3 K, goA_c4 K, goA_c5 K, goA_c6 K, goA_c7 K, goA_c8 K, goA_c9 K, goA_c10 K, goA_c11 K, goA_c12 K, goA_n1 K, goA_n2 K, goA_n3 K, goA_n4 K, goA_n5 K, goA_n6 K, goA_n7 K, goA_n8 K, goA_n9 K, goA_n10 K, goA_n11 K, goA_n12 K, goA_n13 K, goA_n14 K, goA_n15 K, gK_row K hr, gK_ent K hr, gK_mrk K hr, gK_sen K hr, gok_row hr, goA_ent hr, goA_mrk hr, goA_sen hr, gd_row0, gd_row8, if_false, Option.bind_some, gd_kI_i]
      rw [gIs_y (by omega) hkN, if_neg (by decide), gn_in (by omega) (show i < 16 by omega), if_pos rfl, St.2.2 i (by omega), hek, gn_in (by omega) hk30, if_pos rfl, gn_nat (show k < 2147483648 by omega), cCd_grp St.1 k (by omega), hγe, gn_in (by omega) hγ, if_pos rfl, gn_nat (show γ < 2147483648 by omega), cCd_lim St.1 γ hγ, if_pos rfl, hz γ hγ, gn_succ, gn_succ, if_pos rfl]
      have hnext : ∀ m' : gd_M, gI m' = gI (wI m 18 γ (Int32.ofNat (zS (eMay A e l) (eGr A e) (A 15) i γ + 1))) → (A 15 γ = -1 ∨ zS (eMay A e l) (eGr A e) (A 15) i γ ≤ gn (A 15 γ)) → ∀ g < 5, gI m' 18 g = Int32.ofNat (zS (eMay A e l) (eGr A e) (A 15) (i + 1) g) := fun m' hm' hl g hg => by
        show _ = Int32.ofNat (if _ then _ else _)
        rw [hm', gI_wI_m]
        by_cases eg : g = γ
        · subst eg
          rw [if_pos rfl, if_pos ⟨hm, hgr, hl⟩]
        · rw [if_neg eg, if_neg (fun q => eg (q.2.1.symm.trans hgr)), hz g hg]
      have hnext2 : ¬ (A 15 γ = -1 ∨ zS (eMay A e l) (eGr A e) (A 15) i γ ≤ gn (A 15 γ)) → ∀ g < 5, gI m 18 g = Int32.ofNat (zS (eMay A e l) (eGr A e) (A 15) (i + 1) g) := fun hl g hg => by
        show _ = Int32.ofNat (if _ then _ else _)
        rw [if_neg (fun q => hl (by rw [← q.2.1, hgr] at q; exact q.2.2)), hz g hg]
      have ho : oC m (wI m 18 γ (Int32.ofNat (zS (eMay A e l) (eGr A e) (A 15) i γ + 1))) := oC_w oC_refl (by decide)
      by_cases h1 : A 15 γ = -1
      · rw [if_pos h1]
        obtain ⟨m', v', e1, e2, e3⟩ := ih (i + 1) _ _ (by omega) (gK_o K ho.1) (cSt_o (gK_c1 K) St ho) (hnext _ rfl (.inl h1))
        exact ⟨m', v', e1, oC_tr ho e2, e3⟩
      · rw [if_neg h1]
        obtain ⟨L, -, hL, hLe⟩ := hlim.resolve_left h1
        have hgL : gn (A 15 γ) = L := by rw [hLe, gn_of (by omega)]
        rw [hLe]
        by_cases h2 : L < zS (eMay A e l) (eGr A e) (A 15) i γ
        · rw [if_pos ((gn_lt (by omega) (by omega)).2 h2)]
          exact ih (i + 1) m _ (by omega) K St (hnext2 (fun q => by rcases q with q | q; · { exact h1 q }; · { omega }))
        · rw [if_neg (fun q => h2 ((gn_lt (by omega) (by omega)).1 q))]
          obtain ⟨m', v', e1, e2, e3⟩ := ih (i + 1) _ _ (by omega) (gK_o K ho.1) (cSt_o (gK_c1 K) St ho) (hnext _ rfl (.inr (by omega)))
          exact ⟨m', v', e1, oC_tr ho e2, e3⟩
theorem eZ_b (g : Nat) : 1 ≤ eZ A e l g ∧ eZ A e l g ≤ bC e l + 1 := zS_b _ g
theorem eS_b (hE : eOk A e l) : dP (eZ A e l) 5 ≤ 1280 := by
  have h16 := hE.1
  have hCl := bC_le (e := e) l
  refine Nat.le_trans (dP_le (fun g => (eZ_b g).1) 5) (dPm_5 _ ?_)
  have := zS_sum (may := eMay A e l) (gr := eGr A e) (lim := A 15) (bC e l)
  show dSm (zS (eMay A e l) (eGr A e) (A 15) (bC e l)) 5 < 17
  omega
theorem dP_mono {z : Nat → Nat} (hz : ∀ g, 0 < z g) {g h : Nat} (q : g ≤ h) : dP z g ≤ dP z h := by
  induction h with
  | zero => have : g = 0 := by omega
            subst this; exact Nat.le_refl _
  | succ h ih =>
    by_cases e : g = h + 1
    · subst e; exact Nat.le_refl _
    · exact Nat.le_trans (ih (by omega)) (Nat.le_mul_of_pos_right _ (hz h))
/-- sizes, steps and how many states -/
def zL (z : Nat → Nat) (m : gd_M) : Prop := gI m 15 4 = Int32.ofNat (dP z 5) ∧ (∀ g < 5, gI m 18 g = Int32.ofNat (z g)) ∧ ∀ g < 5, gI m 19 g = Int32.ofNat (dP z g)
theorem c_layOut_123 {z : Nat → Nat} (hz : ∀ g, 0 < z g) (h5 : dP z 5 ≤ 1280) {x3 x4 : Int32} {r1 r2 : Nat} : ∀ j i (m : gd_M) v, i + j = 5 → gK c d n p m → gI m 15 4 = Int32.ofNat (dP z i) → (∀ g < 5, gI m 18 g = Int32.ofNat (z g)) → (∀ g < i, gI m 19 g = Int32.ofNat (dP z g)) → ∃ m', gd_Den (124, 123, [.ref 15, .ref r1, .ref r2, .int x3, .int x4, .int (Int32.ofNat i), v], [], m) = gd_Den (124, 179, [.ref 15, .ref r1, .ref r2, .int x3, .int x4, .int 0, v], [], m') ∧ oC m m' ∧ zL z m' := by
  intro j
  induction j with
  | zero =>
    intro i m v h K h4 h18 h19
    have : i = 5 := by omega
    subst this
    have e280 : (1280 : Int32) = Int32.ofNat 1280 := rfl
    refine ⟨wI m 15 4 (Int32.ofNat (dP z 5)), ?_, oC_w oC_refl (by decide), ?_⟩
    · rw [q_Ch_layOut_123, if_neg (by decide)]
      simp only [gK_N K, gK_8_0 K, gK_8_1 K, gK_8_2 K, gK_8_3 K, gK_8_4 K, gK_8_5 K, gK_8_6 K, gK_8_7 K, gK_8_8 K, gK_10_0 K, gK_10_1 K, gK_10_2 K, gK_11_0 K, gK_15_0 K, gK_15_1 K, gK_15_2 K, gK_15_3 K, gK_20_0 K, gK_20_1 K, gK_20_2 K, gK_20_3 K, gK_20_4 K, gK_20_5 K, gK_698_0 K, gK_698_3 K, gK_698_16 K, gK_698_17 K, gK_698_20 K, gK_698_21 K, gK_698_22 K, gK_698_23 K, gK_698_24 K, gK_698_25 K, gK_698_26 K, gK_698_27 K, gK_698_28 K, gK_698_29 K, gK_698_30 K, gK_698_31 K, gK_698_32 K, gK_698_33 K, gK_698_34 K, gK_698_35 K, gK_698_36 K, gK_698_37 K, gK_698_38 K, gK_698_39 K, gK_698_41 K, gK_698_42 K, gK_698_44 K, gK_c K, gK_d K, gK_n K, gK_p K, gok_8, gok_10, gok_11, gok_15, gok_20, gok_698, gok_699, goA_9, goA_12, goA_13, goA_14, goA_16, goA_17, goA_18, goA_19, goA_21, goA_22, goA_23, goA_24, goA_25, goA_26, goA_27, goA_28, goA_29, goA_30, goA_31, goA_732, goA_733, goA_734, goA_735, goA_736, goA_737, goA_738, goA_739, goA_740, goA_741, goA_742, goA_743, goA_744, goA_745, goA_746, goA_747, goA_748, goA_749, goA_750, goA_751, goA_752, goA_753, goA_754, goA_755, goA_756, goA_757, gN_wI, gR_wI, gL_wI, if_true, eq_self, h4]
      rw [e280, c_min_l h5 (by decide)]
      simp only [gK_N K, gK_8_0 K, gK_8_1 K, gK_8_2 K, gK_8_3 K, gK_8_4 K, gK_8_5 K, gK_8_6 K, gK_8_7 K, gK_8_8 K, gK_10_0 K, gK_10_1 K, gK_10_2 K, gK_11_0 K, gK_15_0 K, gK_15_1 K, gK_15_2 K, gK_15_3 K, gK_20_0 K, gK_20_1 K, gK_20_2 K, gK_20_3 K, gK_20_4 K, gK_20_5 K, gK_698_0 K, gK_698_3 K, gK_698_16 K, gK_698_17 K, gK_698_20 K, gK_698_21 K, gK_698_22 K, gK_698_23 K, gK_698_24 K, gK_698_25 K, gK_698_26 K, gK_698_27 K, gK_698_28 K, gK_698_29 K, gK_698_30 K, gK_698_31 K, gK_698_32 K, gK_698_33 K, gK_698_34 K, gK_698_35 K, gK_698_36 K, gK_698_37 K, gK_698_38 K, gK_698_39 K, gK_698_41 K, gK_698_42 K, gK_698_44 K, gK_c K, gK_d K, gK_n K, gK_p K, gok_8, gok_10, gok_11, gok_15, gok_20, gok_698, gok_699, goA_9, goA_12, goA_13, goA_14, goA_16, goA_17, goA_18, goA_19, goA_21, goA_22, goA_23, goA_24, goA_25, goA_26, goA_27, goA_28, goA_29, goA_30, goA_31, goA_732, goA_733, goA_734, goA_735, goA_736, goA_737, goA_738, goA_739, goA_740, goA_741, goA_742, goA_743, goA_744, goA_745, goA_746, goA_747, goA_748, goA_749, goA_750, goA_751, goA_752, goA_753, goA_754, goA_755, goA_756, goA_757, gN_wI, gR_wI, gL_wI, if_true, eq_self, Option.bind_some, gd_k0I_i]
    · exact ⟨gI_wI_s, h18, h19⟩
  | succ j ih =>
    intro i m v h K h4 h18 h19
    have hmo : dP z i ≤ dP z 5 := dP_mono hz (by omega)
    rw [q_Ch_layOut_123, if_pos ((gnlb_5 (by omega) (by decide)).2 (by omega))]
    simp only [gK_N K, gK_8_0 K, gK_8_1 K, gK_8_2 K, gK_8_3 K, gK_8_4 K, gK_8_5 K, gK_8_6 K, gK_8_7 K, gK_8_8 K, gK_10_0 K, gK_10_1 K, gK_10_2 K, gK_11_0 K, gK_15_0 K, gK_15_1 K, gK_15_2 K, gK_15_3 K, gK_20_0 K, gK_20_1 K, gK_20_2 K, gK_20_3 K, gK_20_4 K, gK_20_5 K, gK_698_0 K, gK_698_3 K, gK_698_16 K, gK_698_17 K, gK_698_20 K, gK_698_21 K, gK_698_22 K, gK_698_23 K, gK_698_24 K, gK_698_25 K, gK_698_26 K, gK_698_27 K, gK_698_28 K, gK_698_29 K, gK_698_30 K, gK_698_31 K, gK_698_32 K, gK_698_33 K, gK_698_34 K, gK_698_35 K, gK_698_36 K, gK_698_37 K, gK_698_38 K, gK_698_39 K, gK_698_41 K, gK_698_42 K, gK_698_44 K, gK_c K, gK_d K, gK_n K, gK_p K, gok_8, gok_10, gok_11, gok_15, gok_20, gok_698, gok_699, goA_9, goA_12, goA_13, goA_14, goA_16, goA_17, goA_18, goA_19, goA_21, goA_22, goA_23, goA_24, goA_25, goA_26, goA_27, goA_28, goA_29, goA_30, goA_31, goA_732, goA_733, goA_734, goA_735, goA_736, goA_737, goA_738, goA_739, goA_740, goA_741, goA_742, goA_743, goA_744, goA_745, goA_746, goA_747, goA_748, goA_749, goA_750, goA_751, goA_752, goA_753, goA_754, goA_755, goA_756, goA_757, gN_wI, gR_wI, gL_wI, if_true, eq_self]
    rw [gn_in (by omega) (show i < 5 by omega), if_pos rfl, gn_nat (by omega), if_pos rfl, h4, gn_succ]
    have e1 : gI (wI m 19 i (Int32.ofNat (dP z i))) 15 4 = Int32.ofNat (dP z i) := (gI_wI_a (by decide)).trans h4
    have e2 : gI (wI m 19 i (Int32.ofNat (dP z i))) 18 i = Int32.ofNat (z i) := (gI_wI_a (by decide)).trans (h18 i (by omega))
    rw [e1, e2, gn_mul]
    obtain ⟨m', a1, a2, a3⟩ := ih (i + 1) (wI (wI m 19 i (Int32.ofNat (dP z i))) 15 4 (Int32.ofNat (dP z i * z i))) v (by omega) K gI_wI_s (fun g hg => (gI_wI_a (by decide)).trans ((gI_wI_a (by decide)).trans (h18 g hg))) fun g hg => by
      rw [gI_wI_a (by decide), gI_wI_m]
      by_cases eg : g = i
      · rw [if_pos eg, eg]
      · rw [if_neg eg]; exact h19 g (by omega)
    exact ⟨m', a1, oC_tr (oC_w (oC_w oC_refl (by decide)) (by decide)) a2, a3⟩
theorem c_layOut_179 {S : Nat} (hS0 : 0 < S) (hS : S ≤ 1280) {x3 x4 : Int32} {r1 r2 : Nat} : ∀ j i (m : gd_M) v, i + j = S → gK c d n p m → gI m 15 4 = Int32.ofNat S → (∀ s < i, gI m 16 s = -1073741824 ∧ gI m 17 s = -1073741824) → ∃ m', gd_Den (124, 179, [.ref 15, .ref r1, .ref r2, .int x3, .int x4, .int (Int32.ofNat i), v], [], m) = some (.null, m') ∧ m'.2 = m.2 ∧ (∀ a, a ≠ 16 → a ≠ 17 → gI m' a = gI m a) ∧ gI m' 16 0 = 0 ∧ (∀ s < S, 0 < s → gI m' 16 s = -1073741824) ∧ ∀ s < S, gI m' 17 s = -1073741824 := by
  intro j
  induction j with
  | zero =>
    intro i m v h K h4 hw
    have : i = S := by omega
    subst this
    refine ⟨wI m 16 0 0, ?_, rfl, fun a h1 h2 => gI_wI_f h1, gI_wI_s, fun s hs h0 => (gI_wI_k (by omega)).trans (hw s hs).1, fun s hs => (gI_wI_a (by decide)).trans (hw s hs).2⟩
    rw [q_Ch_layOut_179]
    simp only [gK_N K, gK_8_0 K, gK_8_1 K, gK_8_2 K, gK_8_3 K, gK_8_4 K, gK_8_5 K, gK_8_6 K, gK_8_7 K, gK_8_8 K, gK_10_0 K, gK_10_1 K, gK_10_2 K, gK_11_0 K, gK_15_0 K, gK_15_1 K, gK_15_2 K, gK_15_3 K, gK_20_0 K, gK_20_1 K, gK_20_2 K, gK_20_3 K, gK_20_4 K, gK_20_5 K, gK_698_0 K, gK_698_3 K, gK_698_16 K, gK_698_17 K, gK_698_20 K, gK_698_21 K, gK_698_22 K, gK_698_23 K, gK_698_24 K, gK_698_25 K, gK_698_26 K, gK_698_27 K, gK_698_28 K, gK_698_29 K, gK_698_30 K, gK_698_31 K, gK_698_32 K, gK_698_33 K, gK_698_34 K, gK_698_35 K, gK_698_36 K, gK_698_37 K, gK_698_38 K, gK_698_39 K, gK_698_41 K, gK_698_42 K, gK_698_44 K, gK_c K, gK_d K, gK_n K, gK_p K, gok_8, gok_10, gok_11, gok_15, gok_20, gok_698, gok_699, goA_9, goA_12, goA_13, goA_14, goA_16, goA_17, goA_18, goA_19, goA_21, goA_22, goA_23, goA_24, goA_25, goA_26, goA_27, goA_28, goA_29, goA_30, goA_31, goA_732, goA_733, goA_734, goA_735, goA_736, goA_737, goA_738, goA_739, goA_740, goA_741, goA_742, goA_743, goA_744, goA_745, goA_746, goA_747, goA_748, goA_749, goA_750, goA_751, goA_752, goA_753, goA_754, goA_755, goA_756, goA_757, gN_wI, gR_wI, gL_wI, if_true, eq_self, h4]
    rw [if_neg (fun q => by have := (gn_lt (by omega) (by omega)).1 q; omega)]
    rfl
  | succ j ih =>
    intro i m v h K h4 hw
    rw [q_Ch_layOut_179]
    simp only [gK_N K, gK_8_0 K, gK_8_1 K, gK_8_2 K, gK_8_3 K, gK_8_4 K, gK_8_5 K, gK_8_6 K, gK_8_7 K, gK_8_8 K, gK_10_0 K, gK_10_1 K, gK_10_2 K, gK_11_0 K, gK_15_0 K, gK_15_1 K, gK_15_2 K, gK_15_3 K, gK_20_0 K, gK_20_1 K, gK_20_2 K, gK_20_3 K, gK_20_4 K, gK_20_5 K, gK_698_0 K, gK_698_3 K, gK_698_16 K, gK_698_17 K, gK_698_20 K, gK_698_21 K, gK_698_22 K, gK_698_23 K, gK_698_24 K, gK_698_25 K, gK_698_26 K, gK_698_27 K, gK_698_28 K, gK_698_29 K, gK_698_30 K, gK_698_31 K, gK_698_32 K, gK_698_33 K, gK_698_34 K, gK_698_35 K, gK_698_36 K, gK_698_37 K, gK_698_38 K, gK_698_39 K, gK_698_41 K, gK_698_42 K, gK_698_44 K, gK_c K, gK_d K, gK_n K, gK_p K, gok_8, gok_10, gok_11, gok_15, gok_20, gok_698, gok_699, goA_9, goA_12, goA_13, goA_14, goA_16, goA_17, goA_18, goA_19, goA_21, goA_22, goA_23, goA_24, goA_25, goA_26, goA_27, goA_28, goA_29, goA_30, goA_31, goA_732, goA_733, goA_734, goA_735, goA_736, goA_737, goA_738, goA_739, goA_740, goA_741, goA_742, goA_743, goA_744, goA_745, goA_746, goA_747, goA_748, goA_749, goA_750, goA_751, goA_752, goA_753, goA_754, goA_755, goA_756, goA_757, gN_wI, gR_wI, gL_wI, if_true, eq_self, h4]
    rw [if_pos ((gn_lt (by omega) (by omega)).2 (by omega)), gn_in (by omega) (show i < 1280 by omega), if_pos rfl, gn_nat (by omega), if_pos rfl, gn_succ]
    obtain ⟨m', a1, a2, a3, a4⟩ := ih (i + 1) (wI (wI m 16 i (-1073741824)) 17 i (-1073741824)) v (by omega) K ((gI_wI_a (by decide)).trans ((gI_wI_a (by decide)).trans h4)) fun s hs => by
      rw [gI_wI_a (by decide), gI_wI_m, gI_wI_m, gI_wI_a (by decide)]
      by_cases es : s = i
      · rw [if_pos es, if_pos es]; exact ⟨rfl, rfl⟩
      · rw [if_neg es, if_neg es]; exact hw s (by omega)
    refine ⟨m', a1, a2, fun a h1 h2 => ?_, a4⟩
    rw [a3 a h1 h2, gI_wI_f h2, gI_wI_f h1]
theorem c_layOut (K : gK c d n p m) (hr : r < 160) (Id : iCd A) (hE : eOk A e l) (St : cSt c A r l e m) {y : Int32} (hy : ∀ k, gb y k = (decide (k < bC e l) && bRep A e k)) : ∃ m', gd_call 124 [.ref 15, .ref c, .ref (58 + 4 * r), .int (Int32.ofNat (bC e l)), .int y] m = some (.null, m') ∧ oC m m' ∧ zL (eZ A e l) m' ∧ gI m' 16 0 = 0 ∧ (∀ s < dP (eZ A e l) 5, 0 < s → gI m' 16 s = -1073741824) ∧ ∀ s < dP (eZ A e l) 5, gI m' 17 s = -1073741824 := by
  have hz : ∀ g, 0 < eZ A e l g := fun g => (eZ_b g).1
  have o1 : oC m (wFl m 18 0 1 5) := oC_fl (by decide) _ _ _ _ oC_refl
  obtain ⟨m2, v2, a1, a2, a3⟩ := c_layOut_26 hr Id hE hy (bC e l) 0 (wFl m 18 0 1 5) .null (by omega) (gK_o K o1.1) (cSt_o (gK_c1 K) St o1) fun g hg => by
    rw [gI_wFl, gUr_m, if_pos (by omega)]; rfl
  have o2 : oC m (wI m2 15 4 1) := oC_w (oC_tr o1 a2) (by decide)
  obtain ⟨m3, b1, b2, b3⟩ := c_layOut_123 (c := c) (d := d) (n := n) (p := p) hz (eS_b hE) (x3 := Int32.ofNat (bC e l)) (x4 := y) (r1 := c) (r2 := 58 + 4 * r) 5 0 (wI m2 15 4 1) v2 (by omega) (gK_o K o2.1) gI_wI_s (fun g hg => (gI_wI_a (by decide)).trans (a3 g hg)) (fun g hg => absurd hg (Nat.not_lt_zero g))
  have o3 := oC_tr o2 b2
  obtain ⟨m4, d1, d2, d3, d4, d5, d6⟩ := c_layOut_179 (c := c) (d := d) (n := n) (p := p) (dP_pos hz 5) (eS_b hE) (x3 := Int32.ofNat (bC e l)) (x4 := y) (r1 := c) (r2 := 58 + 4 * r) (dP (eZ A e l) 5) 0 m3 v2 (Nat.zero_add _) (gK_o K o3.1) b3.1 (fun s hs => absurd hs (Nat.not_lt_zero s))
  refine ⟨m4, ?_, oC_tr o3 ⟨d2, fun a ha => d3 a (by omega) (by omega)⟩, ⟨?_, fun g hg => ?_, fun g hg => ?_⟩, d4, d5, d6⟩
  · rw [q_Ch_layOut]
    exact (c_layOut_3 5 0 m (by omega) K).trans (a1.trans (b1.trans d1))
  · rw [d3 15 (by decide) (by decide)]; exact b3.1
  · rw [d3 18 (by decide) (by decide)]; exact b3.2.1 g hg
  · rw [d3 19 (by decide) (by decide)]; exact b3.2.2 g hg
end P64
