/-! ===== more pairs: withdraw, entry, part ===== -/
theorem cAll_row {c n r : Nat} {J J' s s' : gd_C} (hc : c = 32 ∨ c = 45) (hn : n = 700 ∨ n = 716) (h : cAll c n J s) (hr : r < 160) (eJ : ∀ a, (a < 58 + 4 * r ∨ 61 + 4 * r < a) → J' a = J a) (hs : ∀ b, (b < 738 ∨ 746 < b) → s' b = s b) (he : ∀ q < 160, q ≠ r → rEq s s' q) (hp : ∀ k, gPc s' k = gPc s k) (hrow : cRw (gCd n s) J' s' r) : cAll c n J' s' := by
  have hcd : gCd n s' = gCd n s := gCd_c fun i hi => hs _ (by omega)
  refine ⟨?_, ?_, fun q hq => ?_⟩
  · have M := cAll_mt h
    unfold cMt at M ⊢
    rw [eJ 8 (by omega), eJ 9 (by omega), eJ 10 (by omega), eJ 28 (by omega), eJ 29 (by omega), eJ 30 (by omega), hs 698 (by decide), hs 732 (by decide), hs 735 (by decide), hs 736 (by decide), hs 737 (by decide), hp]
    exact M
  · rw [hcd]; exact cCd_c (cAll_cd h) fun k hk => eJ _ (by omega)
  · rw [hcd]
    by_cases e : q = r
    · rw [e]; exact hrow
    · exact cRw_c (cAll_rw h q hq) (fun a h1 h2 => eJ a (by omega)) (he q hq e)
theorem iAll_row' {n r : Nat} {s s' : gd_C} (hn : n = 700 ∨ n = 716) (I : iAll n s) (hs : ∀ b, (b < 738 ∨ 746 < b) → s' b = s b) (he : ∀ q < 160, q ≠ r → rEq s s' q) (hb : ∀ k, s' 738 k = s 738 k) (hrow : iRow (gCd n s) s' r) : iAll n s' := by
  have hcd : gCd n s' = gCd n s := gCd_c fun i hi => hs _ (by omega)
  refine ⟨by rw [hcd]; exact iAll_cod I, by rw [hs 698 (by decide)]; exact iAll_tpd I, by rw [hs 698 (by decide)]; exact iAll_ppl I, by rw [hs 698 (by decide)]; exact iAll_lat I, by rw [hs 735 (by decide)]; exact iAll_lan I, fun q hq h1 => ?_, fun q hq => ?_, fun l a ha => ?_, by rw [hs 732 (by decide)]; exact iAll_byt I⟩
  · rw [hs 698 (by decide)] at h1
    rw [hb]; exact iAll_out I q hq h1
  · rw [hcd]
    by_cases e : q = r
    · rw [e]; exact hrow
    · exact iRow_c (iAll_row I q hq) (he q hq e) (by rw [hs 698 (by decide)])
  · rw [hcd, hs 698 (by decide), gCt_c _ fun g _ => ⟨by rw [hs 735 (by decide)], hb _⟩]
    exact iAll_tea I l a ha
def gOp (s : gd_C) (r : Nat) : Bool := !decide (s 738 r = 0) && decide (s 745 r = -1)
theorem gOp_t {s : gd_C} {r : Nat} (h : gOp s r = true) : s 738 r ≠ 0 ∧ s 745 r = -1 := by
  have := Bool.and_eq_true_iff.1 h
  exact ⟨by simpa using this.1, of_decide_eq_true this.2⟩
theorem gPo_t {s : gd_C} {r : Nat} (h : gPo s r = true) : s 738 r ≠ 0 ∧ s 745 r ≠ -1 := by
  have := Bool.and_eq_true_iff.1 h
  exact ⟨by simpa using this.1, by simpa using this.2⟩
section P70
variable {c d n p : Nat} {m : gd_M} {s A : gd_C} {r : Nat}
theorem c_isOpen (K : gK c d n p m) (hr : r < 160) (W : cRw A (gI m) s r) : gd_call 100 [.ref (58 + 4 * r)] m = some (.int (gB (gOp s r)), m) := by
  rw [q_Ro_isOpen]
  simp only [gK_N K, gK_8_0 K, gK_8_1 K, gK_8_2 K, gK_8_3 K, gK_8_4 K, gK_8_5 K, gK_8_6 K, gK_8_7 K, gK_8_8 K, gK_10_0 K, gK_10_1 K, gK_10_2 K, gK_11_0 K, gK_15_0 K, gK_15_1 K, gK_15_2 K, gK_15_3 K, gK_20_0 K, gK_20_1 K, gK_20_2 K, gK_20_3 K, gK_20_4 K, gK_20_5 K, gK_698_0 K, gK_698_3 K, gK_698_16 K, gK_698_17 K, gK_698_20 K, gK_698_21 K, gK_698_22 K, gK_698_23 K, gK_698_24 K, gK_698_25 K, gK_698_26 K, gK_698_27 K, gK_698_28 K, gK_698_29 K, gK_698_30 K, gK_698_31 K, gK_698_32 K, gK_698_33 K, gK_698_34 K, gK_698_35 K, gK_698_36 K, gK_698_37 K, gK_698_38 K, gK_698_39 K, gK_698_41 K, gK_698_42 K, gK_698_44 K, gK_c K, gK_d K, gK_n K, gK_p K, gok_8, gok_10, gok_11, gok_15, gok_20, gok_698, gok_699, goA_9, goA_12, goA_13, goA_14, goA_16, goA_17, goA_18, goA_19, goA_21, goA_22, goA_23, goA_24, goA_25, goA_26, goA_27, goA_28, goA_29, goA_30, goA_31, goA_732, goA_733, goA_734, goA_735, goA_736, goA_737, goA_738, goA_739, goA_740, goA_741, goA_742, goA_743, goA_744, goA_745, goA_746, goA_747, goA_748, goA_749, goA_750, goA_751, goA_752, goA_753, goA_754, goA_755, goA_756, goA_757, gN_wI, gR_wI, gL_wI, if_true, eq_self, gK_row K hr, gK_ent K hr, gK_mrk K hr, gK_sen K hr, gok_row hr, goA_ent hr, goA_mrk hr, goA_sen hr, gd_row0, gd_row8, if_false]
  rw [cRw_bgn W]
  unfold gOp
  by_cases h : s 738 r = 0
  · rw [if_pos h, decide_eq_true h]; rfl
  · rw [if_neg h, decide_eq_false h]
    by_cases h2 : s 745 r = -1
    · rw [if_pos ((cRw_pst W h).2 h2), decide_eq_true h2]; rfl
    · rw [if_neg (fun q => h2 ((cRw_pst W h).1 q)), decide_eq_false h2]; rfl
theorem c_isScored (K : gK c d n p m) (hr : r < 160) (W : cRw A (gI m) s r) : gd_call 151 [.ref (58 + 4 * r)] m = some (.int (gB (gPo s r)), m) := by
  rw [q_Ro_isScored]
  simp only [gK_N K, gK_8_0 K, gK_8_1 K, gK_8_2 K, gK_8_3 K, gK_8_4 K, gK_8_5 K, gK_8_6 K, gK_8_7 K, gK_8_8 K, gK_10_0 K, gK_10_1 K, gK_10_2 K, gK_11_0 K, gK_15_0 K, gK_15_1 K, gK_15_2 K, gK_15_3 K, gK_20_0 K, gK_20_1 K, gK_20_2 K, gK_20_3 K, gK_20_4 K, gK_20_5 K, gK_698_0 K, gK_698_3 K, gK_698_16 K, gK_698_17 K, gK_698_20 K, gK_698_21 K, gK_698_22 K, gK_698_23 K, gK_698_24 K, gK_698_25 K, gK_698_26 K, gK_698_27 K, gK_698_28 K, gK_698_29 K, gK_698_30 K, gK_698_31 K, gK_698_32 K, gK_698_33 K, gK_698_34 K, gK_698_35 K, gK_698_36 K, gK_698_37 K, gK_698_38 K, gK_698_39 K, gK_698_41 K, gK_698_42 K, gK_698_44 K, gK_c K, gK_d K, gK_n K, gK_p K, gok_8, gok_10, gok_11, gok_15, gok_20, gok_698, gok_699, goA_9, goA_12, goA_13, goA_14, goA_16, goA_17, goA_18, goA_19, goA_21, goA_22, goA_23, goA_24, goA_25, goA_26, goA_27, goA_28, goA_29, goA_30, goA_31, goA_732, goA_733, goA_734, goA_735, goA_736, goA_737, goA_738, goA_739, goA_740, goA_741, goA_742, goA_743, goA_744, goA_745, goA_746, goA_747, goA_748, goA_749, goA_750, goA_751, goA_752, goA_753, goA_754, goA_755, goA_756, goA_757, gN_wI, gR_wI, gL_wI, if_true, eq_self, gK_row K hr, gK_ent K hr, gK_mrk K hr, gK_sen K hr, gok_row hr, goA_ent hr, goA_mrk hr, goA_sen hr, gd_row0, gd_row8, if_false]
  rw [cRw_bgn W]
  unfold gPo
  by_cases h : s 738 r = 0
  · rw [if_pos h, decide_eq_true h]; rfl
  · rw [if_neg h, decide_eq_false h]
    by_cases h2 : s 745 r = -1
    · rw [if_pos ((cRw_pst W h).2 h2), decide_eq_true h2]; rfl
    · rw [if_neg (fun q => h2 ((cRw_pst W h).1 q)), decide_eq_false h2]; rfl
theorem c_MisOpen (K : gK c d n p m) (hr : r < 160) (S : gSm n (gI m) s) : gd_call 103 [.ref 698, .int (Int32.ofNat r)] m = some (.int (gB (gOp s r)), m) := by
  rw [q_Mo_isOpen]
  simp only [gK_N K, gK_8_0 K, gK_8_1 K, gK_8_2 K, gK_8_3 K, gK_8_4 K, gK_8_5 K, gK_8_6 K, gK_8_7 K, gK_8_8 K, gK_10_0 K, gK_10_1 K, gK_10_2 K, gK_11_0 K, gK_15_0 K, gK_15_1 K, gK_15_2 K, gK_15_3 K, gK_20_0 K, gK_20_1 K, gK_20_2 K, gK_20_3 K, gK_20_4 K, gK_20_5 K, gK_698_0 K, gK_698_3 K, gK_698_16 K, gK_698_17 K, gK_698_20 K, gK_698_21 K, gK_698_22 K, gK_698_23 K, gK_698_24 K, gK_698_25 K, gK_698_26 K, gK_698_27 K, gK_698_28 K, gK_698_29 K, gK_698_30 K, gK_698_31 K, gK_698_32 K, gK_698_33 K, gK_698_34 K, gK_698_35 K, gK_698_36 K, gK_698_37 K, gK_698_38 K, gK_698_39 K, gK_698_41 K, gK_698_42 K, gK_698_44 K, gK_c K, gK_d K, gK_n K, gK_p K, gok_8, gok_10, gok_11, gok_15, gok_20, gok_698, gok_699, goA_9, goA_12, goA_13, goA_14, goA_16, goA_17, goA_18, goA_19, goA_21, goA_22, goA_23, goA_24, goA_25, goA_26, goA_27, goA_28, goA_29, goA_30, goA_31, goA_732, goA_733, goA_734, goA_735, goA_736, goA_737, goA_738, goA_739, goA_740, goA_741, goA_742, goA_743, goA_744, goA_745, goA_746, goA_747, goA_748, goA_749, goA_750, goA_751, goA_752, goA_753, goA_754, goA_755, goA_756, goA_757, gN_wI, gR_wI, gL_wI, if_true, eq_self, gS_n K S, gS_n5 K S, gS_n6 K S, gS_n7 K S, gS_n8 K S, gS_n9 K S, gS_n10 K S, gS_n11 K S, gS_n12 K S, gS_n13 K S, gS_n14 K S, gS_n15 K S, gS_732 S, gS_735 S, gS_736 S, gS_737 S, gS_738 S, gS_739 S, gS_740 S, gS_741 S, gS_742 S, gS_743 S, gS_744 S, gS_745 S, gS_746 S, gS_698_4 S, gS_698_14 S, gS_698_15 S, gS_698_18 S, gS_698_19 S, gn_nat (show r < 2147483648 by omega), gn_in (show r < 2147483648 by omega) hr]
  unfold gOp
  by_cases h : s 738 r = 0
  · rw [if_pos h, decide_eq_true h]; rfl
  · rw [if_neg h, decide_eq_false h]
    by_cases h2 : s 745 r = -1
    · rw [if_pos h2, decide_eq_true h2]; rfl
    · rw [if_neg h2, decide_eq_false h2]; rfl
theorem c_MisPosted (K : gK c d n p m) (hr : r < 160) (S : gSm n (gI m) s) : gd_call 149 [.ref 698, .int (Int32.ofNat r)] m = some (.int (gB (gPo s r)), m) := by
  rw [q_Mo_isPosted]
  simp only [gK_N K, gK_8_0 K, gK_8_1 K, gK_8_2 K, gK_8_3 K, gK_8_4 K, gK_8_5 K, gK_8_6 K, gK_8_7 K, gK_8_8 K, gK_10_0 K, gK_10_1 K, gK_10_2 K, gK_11_0 K, gK_15_0 K, gK_15_1 K, gK_15_2 K, gK_15_3 K, gK_20_0 K, gK_20_1 K, gK_20_2 K, gK_20_3 K, gK_20_4 K, gK_20_5 K, gK_698_0 K, gK_698_3 K, gK_698_16 K, gK_698_17 K, gK_698_20 K, gK_698_21 K, gK_698_22 K, gK_698_23 K, gK_698_24 K, gK_698_25 K, gK_698_26 K, gK_698_27 K, gK_698_28 K, gK_698_29 K, gK_698_30 K, gK_698_31 K, gK_698_32 K, gK_698_33 K, gK_698_34 K, gK_698_35 K, gK_698_36 K, gK_698_37 K, gK_698_38 K, gK_698_39 K, gK_698_41 K, gK_698_42 K, gK_698_44 K, gK_c K, gK_d K, gK_n K, gK_p K, gok_8, gok_10, gok_11, gok_15, gok_20, gok_698, gok_699, goA_9, goA_12, goA_13, goA_14, goA_16, goA_17, goA_18, goA_19, goA_21, goA_22, goA_23, goA_24, goA_25, goA_26, goA_27, goA_28, goA_29, goA_30, goA_31, goA_732, goA_733, goA_734, goA_735, goA_736, goA_737, goA_738, goA_739, goA_740, goA_741, goA_742, goA_743, goA_744, goA_745, goA_746, goA_747, goA_748, goA_749, goA_750, goA_751, goA_752, goA_753, goA_754, goA_755, goA_756, goA_757, gN_wI, gR_wI, gL_wI, if_true, eq_self, gS_n K S, gS_n5 K S, gS_n6 K S, gS_n7 K S, gS_n8 K S, gS_n9 K S, gS_n10 K S, gS_n11 K S, gS_n12 K S, gS_n13 K S, gS_n14 K S, gS_n15 K S, gS_732 S, gS_735 S, gS_736 S, gS_737 S, gS_738 S, gS_739 S, gS_740 S, gS_741 S, gS_742 S, gS_743 S, gS_744 S, gS_745 S, gS_746 S, gS_698_4 S, gS_698_14 S, gS_698_15 S, gS_698_18 S, gS_698_19 S, gn_nat (show r < 2147483648 by omega), gn_in (show r < 2147483648 by omega) hr]
  unfold gPo
  by_cases h : s 738 r = 0
  · rw [if_pos h, decide_eq_true h]; rfl
  · rw [if_neg h, decide_eq_false h]
    by_cases h2 : s 745 r = -1
    · rw [if_pos h2, decide_eq_true h2]; rfl
    · rw [if_neg h2, decide_eq_false h2]; rfl
/-- in(v, -1, N - 1) -/
theorem c_inM {N : Nat} (hN : N < 2147483648) (x : Int32) (m : gd_M) : gd_call 71 [.int x, .int (-1), .int (Int32.ofNat N - 1)] m = some (.int (gB (decide (x = -1) || gIs N x)), m) := by
  rw [q_Mo_in]
  have e1 : ((-1 : Int32)).toInt = -1 := rfl
  by_cases h1 : x = -1
  · subst h1
    rw [if_neg (by decide), if_neg]
    · rfl
    · rcases Nat.eq_zero_or_pos N with h0 | h0
      · subst h0; decide
      · rw [gn_pred h0, Int32.lt_iff_toInt_lt, gn_toInt (by omega), e1]; omega
  · rw [decide_eq_false h1, Bool.false_or]
    have := c_in hN x m
    rw [q_Mo_in] at this
    by_cases h2 : x < 0
    · rw [if_pos h2] at this
      rw [if_pos]
      · exact this
      · rw [Int32.lt_iff_toInt_lt, e1]
        have h3 := Int32.lt_iff_toInt_lt.1 h2
        have h4 : x.toInt ≠ -1 := fun q => h1 (Int32.toInt_inj.1 (q.trans e1.symm))
        have e0 : (0 : Int32).toInt = 0 := rfl
        omega
    · rw [if_neg h2] at this
      rw [if_neg]
      · exact this
      · rw [Int32.lt_iff_toInt_lt, e1]
        have h3 : ¬ x.toInt < (0 : Int32).toInt := fun q => h2 (Int32.lt_iff_toInt_lt.2 q)
        have e0 : (0 : Int32).toInt = 0 := rfl
        omega
theorem c_hasWd (K : gK c d n p m) (C : cAll c n (gI m) s) {k b : Nat} (hk : k < 40) (hb : b < 5) : gd_call 157 [.ref 8, .int (Int32.ofNat k), .int (Int32.ofNat b)] m = some (.int (gB (!decide (s 737 (5 * k + b) = 0))), m) := by
  rw [q_X_hasWithdrawn]
  simp only [gK_N K, gK_8_0 K, gK_8_1 K, gK_8_2 K, gK_8_3 K, gK_8_4 K, gK_8_5 K, gK_8_6 K, gK_8_7 K, gK_8_8 K, gK_10_0 K, gK_10_1 K, gK_10_2 K, gK_11_0 K, gK_15_0 K, gK_15_1 K, gK_15_2 K, gK_15_3 K, gK_20_0 K, gK_20_1 K, gK_20_2 K, gK_20_3 K, gK_20_4 K, gK_20_5 K, gK_698_0 K, gK_698_3 K, gK_698_16 K, gK_698_17 K, gK_698_20 K, gK_698_21 K, gK_698_22 K, gK_698_23 K, gK_698_24 K, gK_698_25 K, gK_698_26 K, gK_698_27 K, gK_698_28 K, gK_698_29 K, gK_698_30 K, gK_698_31 K, gK_698_32 K, gK_698_33 K, gK_698_34 K, gK_698_35 K, gK_698_36 K, gK_698_37 K, gK_698_38 K, gK_698_39 K, gK_698_41 K, gK_698_42 K, gK_698_44 K, gK_c K, gK_d K, gK_n K, gK_p K, gok_8, gok_10, gok_11, gok_15, gok_20, gok_698, gok_699, goA_9, goA_12, goA_13, goA_14, goA_16, goA_17, goA_18, goA_19, goA_21, goA_22, goA_23, goA_24, goA_25, goA_26, goA_27, goA_28, goA_29, goA_30, goA_31, goA_732, goA_733, goA_734, goA_735, goA_736, goA_737, goA_738, goA_739, goA_740, goA_741, goA_742, goA_743, goA_744, goA_745, goA_746, goA_747, goA_748, goA_749, goA_750, goA_751, goA_752, goA_753, goA_754, goA_755, goA_756, goA_757, gN_wI, gR_wI, gL_wI, if_true, eq_self]
  rw [gn_in (by omega) hk, if_pos rfl, gn_nat (by omega), ← cMt_gon (cAll_mt C) k hk b hb]
  cases h : gb (gI m 29 k) b with
  | false => rw [if_pos ((gb_tst (by omega)).2 h)]; rfl
  | true => rw [if_neg (fun q => by rw [(gb_tst (by omega)).1 q] at h; exact absurd h (by decide))]; rfl
theorem P_withdraw (R : gRel c d n p m s) (g a : Int32) : gPr 158 159 [.int g, .int a] m := by
  obtain ⟨K, I, C, S, H⟩ := id R
  obtain ⟨P, -, hP2, hP⟩ := iAll_ppl I
  have hn := gK_n1 K
  cases h1 : gIs P g with
  | false =>
    refine gPr_of R (v := -2) (s' := s) ⟨m, ?_, oX_refl, C⟩ (fun m1 K S H => ⟨m1, ?_, oM_refl, S, H⟩) I
    · rw [q_X_withdraw, c_isGymnast K ((cMt_ppl (cAll_mt C)).trans hP), h1]
      simp only [gK_N K, gK_8_0 K, gK_8_1 K, gK_8_2 K, gK_8_3 K, gK_8_4 K, gK_8_5 K, gK_8_6 K, gK_8_7 K, gK_8_8 K, gK_10_0 K, gK_10_1 K, gK_10_2 K, gK_11_0 K, gK_15_0 K, gK_15_1 K, gK_15_2 K, gK_15_3 K, gK_20_0 K, gK_20_1 K, gK_20_2 K, gK_20_3 K, gK_20_4 K, gK_20_5 K, gK_698_0 K, gK_698_3 K, gK_698_16 K, gK_698_17 K, gK_698_20 K, gK_698_21 K, gK_698_22 K, gK_698_23 K, gK_698_24 K, gK_698_25 K, gK_698_26 K, gK_698_27 K, gK_698_28 K, gK_698_29 K, gK_698_30 K, gK_698_31 K, gK_698_32 K, gK_698_33 K, gK_698_34 K, gK_698_35 K, gK_698_36 K, gK_698_37 K, gK_698_38 K, gK_698_39 K, gK_698_41 K, gK_698_42 K, gK_698_44 K, gK_c K, gK_d K, gK_n K, gK_p K, gok_8, gok_10, gok_11, gok_15, gok_20, gok_698, gok_699, goA_9, goA_12, goA_13, goA_14, goA_16, goA_17, goA_18, goA_19, goA_21, goA_22, goA_23, goA_24, goA_25, goA_26, goA_27, goA_28, goA_29, goA_30, goA_31, goA_732, goA_733, goA_734, goA_735, goA_736, goA_737, goA_738, goA_739, goA_740, goA_741, goA_742, goA_743, goA_744, goA_745, goA_746, goA_747, goA_748, goA_749, goA_750, goA_751, goA_752, goA_753, goA_754, goA_755, goA_756, goA_757, gN_wI, gR_wI, gL_wI, if_true, eq_self, Option.bind_some, gd_kI_i]; rfl
    · rw [q_Mo_withdraw, c_MisGymnast K ((gS_698_18 S).trans hP) hP2, h1]
      simp only [gK_N K, gK_8_0 K, gK_8_1 K, gK_8_2 K, gK_8_3 K, gK_8_4 K, gK_8_5 K, gK_8_6 K, gK_8_7 K, gK_8_8 K, gK_10_0 K, gK_10_1 K, gK_10_2 K, gK_11_0 K, gK_15_0 K, gK_15_1 K, gK_15_2 K, gK_15_3 K, gK_20_0 K, gK_20_1 K, gK_20_2 K, gK_20_3 K, gK_20_4 K, gK_20_5 K, gK_698_0 K, gK_698_3 K, gK_698_16 K, gK_698_17 K, gK_698_20 K, gK_698_21 K, gK_698_22 K, gK_698_23 K, gK_698_24 K, gK_698_25 K, gK_698_26 K, gK_698_27 K, gK_698_28 K, gK_698_29 K, gK_698_30 K, gK_698_31 K, gK_698_32 K, gK_698_33 K, gK_698_34 K, gK_698_35 K, gK_698_36 K, gK_698_37 K, gK_698_38 K, gK_698_39 K, gK_698_41 K, gK_698_42 K, gK_698_44 K, gK_c K, gK_d K, gK_n K, gK_p K, gok_8, gok_10, gok_11, gok_15, gok_20, gok_698, gok_699, goA_9, goA_12, goA_13, goA_14, goA_16, goA_17, goA_18, goA_19, goA_21, goA_22, goA_23, goA_24, goA_25, goA_26, goA_27, goA_28, goA_29, goA_30, goA_31, goA_732, goA_733, goA_734, goA_735, goA_736, goA_737, goA_738, goA_739, goA_740, goA_741, goA_742, goA_743, goA_744, goA_745, goA_746, goA_747, goA_748, goA_749, goA_750, goA_751, goA_752, goA_753, goA_754, goA_755, goA_756, goA_757, gN_wI, gR_wI, gL_wI, if_true, eq_self, Option.bind_some, gd_kI_i]; rfl
  | true =>
    cases h2 : gIs 5 a with
    | false =>
      refine gPr_of R (v := -2) (s' := s) ⟨m, ?_, oX_refl, C⟩ (fun m1 K S H => ⟨m1, ?_, oM_refl, S, H⟩) I
      · rw [q_X_withdraw, c_isGymnast K ((cMt_ppl (cAll_mt C)).trans hP), h1]
        simp only [gK_N K, gK_8_0 K, gK_8_1 K, gK_8_2 K, gK_8_3 K, gK_8_4 K, gK_8_5 K, gK_8_6 K, gK_8_7 K, gK_8_8 K, gK_10_0 K, gK_10_1 K, gK_10_2 K, gK_11_0 K, gK_15_0 K, gK_15_1 K, gK_15_2 K, gK_15_3 K, gK_20_0 K, gK_20_1 K, gK_20_2 K, gK_20_3 K, gK_20_4 K, gK_20_5 K, gK_698_0 K, gK_698_3 K, gK_698_16 K, gK_698_17 K, gK_698_20 K, gK_698_21 K, gK_698_22 K, gK_698_23 K, gK_698_24 K, gK_698_25 K, gK_698_26 K, gK_698_27 K, gK_698_28 K, gK_698_29 K, gK_698_30 K, gK_698_31 K, gK_698_32 K, gK_698_33 K, gK_698_34 K, gK_698_35 K, gK_698_36 K, gK_698_37 K, gK_698_38 K, gK_698_39 K, gK_698_41 K, gK_698_42 K, gK_698_44 K, gK_c K, gK_d K, gK_n K, gK_p K, gok_8, gok_10, gok_11, gok_15, gok_20, gok_698, gok_699, goA_9, goA_12, goA_13, goA_14, goA_16, goA_17, goA_18, goA_19, goA_21, goA_22, goA_23, goA_24, goA_25, goA_26, goA_27, goA_28, goA_29, goA_30, goA_31, goA_732, goA_733, goA_734, goA_735, goA_736, goA_737, goA_738, goA_739, goA_740, goA_741, goA_742, goA_743, goA_744, goA_745, goA_746, goA_747, goA_748, goA_749, goA_750, goA_751, goA_752, goA_753, goA_754, goA_755, goA_756, goA_757, gN_wI, gR_wI, gL_wI, if_true, eq_self, Option.bind_some, gd_kI_i, gd_k0I_i, c_isList, h2, gB_t, gB_f]; rfl
      · rw [q_Mo_withdraw, c_MisGymnast K ((gS_698_18 S).trans hP) hP2, h1]
        simp only [gK_N K, gK_8_0 K, gK_8_1 K, gK_8_2 K, gK_8_3 K, gK_8_4 K, gK_8_5 K, gK_8_6 K, gK_8_7 K, gK_8_8 K, gK_10_0 K, gK_10_1 K, gK_10_2 K, gK_11_0 K, gK_15_0 K, gK_15_1 K, gK_15_2 K, gK_15_3 K, gK_20_0 K, gK_20_1 K, gK_20_2 K, gK_20_3 K, gK_20_4 K, gK_20_5 K, gK_698_0 K, gK_698_3 K, gK_698_16 K, gK_698_17 K, gK_698_20 K, gK_698_21 K, gK_698_22 K, gK_698_23 K, gK_698_24 K, gK_698_25 K, gK_698_26 K, gK_698_27 K, gK_698_28 K, gK_698_29 K, gK_698_30 K, gK_698_31 K, gK_698_32 K, gK_698_33 K, gK_698_34 K, gK_698_35 K, gK_698_36 K, gK_698_37 K, gK_698_38 K, gK_698_39 K, gK_698_41 K, gK_698_42 K, gK_698_44 K, gK_c K, gK_d K, gK_n K, gK_p K, gok_8, gok_10, gok_11, gok_15, gok_20, gok_698, gok_699, goA_9, goA_12, goA_13, goA_14, goA_16, goA_17, goA_18, goA_19, goA_21, goA_22, goA_23, goA_24, goA_25, goA_26, goA_27, goA_28, goA_29, goA_30, goA_31, goA_732, goA_733, goA_734, goA_735, goA_736, goA_737, goA_738, goA_739, goA_740, goA_741, goA_742, goA_743, goA_744, goA_745, goA_746, goA_747, goA_748, goA_749, goA_750, goA_751, goA_752, goA_753, goA_754, goA_755, goA_756, goA_757, gN_wI, gR_wI, gL_wI, if_true, eq_self, Option.bind_some, gd_kI_i, gd_k0I_i, c_in4, h2, gB_t, gB_f]; rfl
    | true =>
      obtain ⟨k, hk, rfl⟩ := gIs_t (by omega) h1
      obtain ⟨b, hb, rfl⟩ := gIs_t (by decide) h2
      have hX : gd_call 158 [.ref 8, .int (Int32.ofNat k), .int (Int32.ofNat b)] m = if s 737 (5 * k + b) = 0 then some (.int 1, wI m 29 k (gI m 29 k ||| ((1 : Int32) <<< (Int32.ofNat b &&& 31)))) else some (.int (-1), m) := by
        rw [q_X_withdraw, c_isGymnast K ((cMt_ppl (cAll_mt C)).trans hP), h1]
        simp only [gK_N K, gK_8_0 K, gK_8_1 K, gK_8_2 K, gK_8_3 K, gK_8_4 K, gK_8_5 K, gK_8_6 K, gK_8_7 K, gK_8_8 K, gK_10_0 K, gK_10_1 K, gK_10_2 K, gK_11_0 K, gK_15_0 K, gK_15_1 K, gK_15_2 K, gK_15_3 K, gK_20_0 K, gK_20_1 K, gK_20_2 K, gK_20_3 K, gK_20_4 K, gK_20_5 K, gK_698_0 K, gK_698_3 K, gK_698_16 K, gK_698_17 K, gK_698_20 K, gK_698_21 K, gK_698_22 K, gK_698_23 K, gK_698_24 K, gK_698_25 K, gK_698_26 K, gK_698_27 K, gK_698_28 K, gK_698_29 K, gK_698_30 K, gK_698_31 K, gK_698_32 K, gK_698_33 K, gK_698_34 K, gK_698_35 K, gK_698_36 K, gK_698_37 K, gK_698_38 K, gK_698_39 K, gK_698_41 K, gK_698_42 K, gK_698_44 K, gK_c K, gK_d K, gK_n K, gK_p K, gok_8, gok_10, gok_11, gok_15, gok_20, gok_698, gok_699, goA_9, goA_12, goA_13, goA_14, goA_16, goA_17, goA_18, goA_19, goA_21, goA_22, goA_23, goA_24, goA_25, goA_26, goA_27, goA_28, goA_29, goA_30, goA_31, goA_732, goA_733, goA_734, goA_735, goA_736, goA_737, goA_738, goA_739, goA_740, goA_741, goA_742, goA_743, goA_744, goA_745, goA_746, goA_747, goA_748, goA_749, goA_750, goA_751, goA_752, goA_753, goA_754, goA_755, goA_756, goA_757, gN_wI, gR_wI, gL_wI, if_true, eq_self, Option.bind_some, gd_kI_i, gd_k0I_i, c_isList, h2, gB_t]
        rw [if_neg (by decide), if_neg (by decide), c_hasWd K C (by omega) hb]
        simp only [gK_N K, gK_8_0 K, gK_8_1 K, gK_8_2 K, gK_8_3 K, gK_8_4 K, gK_8_5 K, gK_8_6 K, gK_8_7 K, gK_8_8 K, gK_10_0 K, gK_10_1 K, gK_10_2 K, gK_11_0 K, gK_15_0 K, gK_15_1 K, gK_15_2 K, gK_15_3 K, gK_20_0 K, gK_20_1 K, gK_20_2 K, gK_20_3 K, gK_20_4 K, gK_20_5 K, gK_698_0 K, gK_698_3 K, gK_698_16 K, gK_698_17 K, gK_698_20 K, gK_698_21 K, gK_698_22 K, gK_698_23 K, gK_698_24 K, gK_698_25 K, gK_698_26 K, gK_698_27 K, gK_698_28 K, gK_698_29 K, gK_698_30 K, gK_698_31 K, gK_698_32 K, gK_698_33 K, gK_698_34 K, gK_698_35 K, gK_698_36 K, gK_698_37 K, gK_698_38 K, gK_698_39 K, gK_698_41 K, gK_698_42 K, gK_698_44 K, gK_c K, gK_d K, gK_n K, gK_p K, gok_8, gok_10, gok_11, gok_15, gok_20, gok_698, gok_699, goA_9, goA_12, goA_13, goA_14, goA_16, goA_17, goA_18, goA_19, goA_21, goA_22, goA_23, goA_24, goA_25, goA_26, goA_27, goA_28, goA_29, goA_30, goA_31, goA_732, goA_733, goA_734, goA_735, goA_736, goA_737, goA_738, goA_739, goA_740, goA_741, goA_742, goA_743, goA_744, goA_745, goA_746, goA_747, goA_748, goA_749, goA_750, goA_751, goA_752, goA_753, goA_754, goA_755, goA_756, goA_757, gN_wI, gR_wI, gL_wI, if_true, eq_self, Option.bind_some, gd_kI_i, gB_0]
        rw [gn_in (by omega) (show k < 40 by omega), if_pos rfl, gn_nat (by omega)]
        by_cases q : s 737 (5 * k + b) = 0
        · rw [if_pos q, decide_eq_true q]; rfl
        · rw [if_neg q, decide_eq_false q]; rfl
      have hM : ∀ m1, gK c d n p m1 → gSm n (gI m1) s → gd_call 159 [.ref 698, .int (Int32.ofNat k), .int (Int32.ofNat b)] m1 = if s 737 (5 * k + b) = 0 then some (.int 1, wI m1 737 (5 * k + b) 1) else some (.int (-1), m1) := fun m1 K S => by
        rw [q_Mo_withdraw, c_MisGymnast K ((gS_698_18 S).trans hP) hP2, h1]
        simp only [gK_N K, gK_8_0 K, gK_8_1 K, gK_8_2 K, gK_8_3 K, gK_8_4 K, gK_8_5 K, gK_8_6 K, gK_8_7 K, gK_8_8 K, gK_10_0 K, gK_10_1 K, gK_10_2 K, gK_11_0 K, gK_15_0 K, gK_15_1 K, gK_15_2 K, gK_15_3 K, gK_20_0 K, gK_20_1 K, gK_20_2 K, gK_20_3 K, gK_20_4 K, gK_20_5 K, gK_698_0 K, gK_698_3 K, gK_698_16 K, gK_698_17 K, gK_698_20 K, gK_698_21 K, gK_698_22 K, gK_698_23 K, gK_698_24 K, gK_698_25 K, gK_698_26 K, gK_698_27 K, gK_698_28 K, gK_698_29 K, gK_698_30 K, gK_698_31 K, gK_698_32 K, gK_698_33 K, gK_698_34 K, gK_698_35 K, gK_698_36 K, gK_698_37 K, gK_698_38 K, gK_698_39 K, gK_698_41 K, gK_698_42 K, gK_698_44 K, gK_c K, gK_d K, gK_n K, gK_p K, gok_8, gok_10, gok_11, gok_15, gok_20, gok_698, gok_699, goA_9, goA_12, goA_13, goA_14, goA_16, goA_17, goA_18, goA_19, goA_21, goA_22, goA_23, goA_24, goA_25, goA_26, goA_27, goA_28, goA_29, goA_30, goA_31, goA_732, goA_733, goA_734, goA_735, goA_736, goA_737, goA_738, goA_739, goA_740, goA_741, goA_742, goA_743, goA_744, goA_745, goA_746, goA_747, goA_748, goA_749, goA_750, goA_751, goA_752, goA_753, goA_754, goA_755, goA_756, goA_757, gN_wI, gR_wI, gL_wI, if_true, eq_self, gS_n K S, gS_n5 K S, gS_n6 K S, gS_n7 K S, gS_n8 K S, gS_n9 K S, gS_n10 K S, gS_n11 K S, gS_n12 K S, gS_n13 K S, gS_n14 K S, gS_n15 K S, gS_732 S, gS_735 S, gS_736 S, gS_737 S, gS_738 S, gS_739 S, gS_740 S, gS_741 S, gS_742 S, gS_743 S, gS_744 S, gS_745 S, gS_746 S, gS_698_4 S, gS_698_14 S, gS_698_15 S, gS_698_18 S, gS_698_19 S, Option.bind_some, gd_kI_i, gd_k0I_i, c_in4, h2, gB_t, gm5, gn_add, gd_vn1]
        rw [if_neg (by decide), if_neg (by decide), gn_in (by omega) (show 5 * k + b < 200 by omega), if_pos rfl, gn_nat (by omega)]
      by_cases q : s 737 (5 * k + b) = 0
      · have hrE : ∀ r < 160, rEq s (gd_up s 737 (5 * k + b) 1) r := fun r hr => rEq_up (by show (160 : Nat) ≠ r; omega)
        have hcd := gCd_up (s := s) (a := 737) (k := 5 * k + b) (x := 1) hn (.inr (by decide))
        refine gPr_of R (v := 1) (s' := gd_up s 737 (5 * k + b) 1) ⟨_, by rw [hX, if_pos q], oX_w oX_refl (by decide), ?_⟩ (fun m1 K S H => ⟨_, by rw [hM m1 K S, if_pos q], oM_w oM_refl (by decide), gSm_w S, gCh_c H hcd fun r hr => .inr (.inr ⟨hrE r hr, rfl, rfl, rfl⟩)⟩) ?_
        · have M := cAll_mt C
          have hc := gK_c1 K
          refine ⟨⟨(by have q := cMt_tpd M; exact q), (by have q := cMt_tap M; exact q), (by have q := cMt_fkd M; exact q), (by have q := cMt_fpl M; exact q), (by have q := cMt_ppl M; exact q), (by have q := cMt_lat M; exact q), (by have q := cMt_lan M; exact q), fun g hg a ha => ?_, (by have q := cMt_pai M; exact q), ?_⟩, ?_, fun r hr => ?_⟩
          · rw [gd_up_m, gI_wI_m]
            by_cases e1 : g = k
            · subst e1
              rw [if_pos rfl, gb_or (by omega), cMt_gon M g hg a ha]
              by_cases e2 : a = b
              · subst e2; rw [if_pos rfl, decide_eq_true rfl, Bool.or_true]; rfl
              · rw [if_neg (by omega), decide_eq_false e2, Bool.or_false]
            · rw [if_neg e1, if_neg (by omega)]; exact cMt_gon M g hg a ha
          · rw [gPc_up (by decide)]; exact (by have q := cMt_pos M; exact q)
          · rw [hcd]; exact cCd_c (cAll_cd C) fun i hi => gI_wI_f (by omega)
          · rw [hcd]; exact cRw_c (cAll_rw C r hr) (fun a h1 h2 => gI_wI_f (by omega)) (hrE r hr)
        · exact ⟨by rw [hcd]; exact iAll_cod I, (by have q := iAll_tpd I; exact q), (by have q := iAll_ppl I; exact q), (by have q := iAll_lat I; exact q), (by have q := iAll_lan I; exact q), (by have q := iAll_out I; exact q), fun r hr => by rw [hcd]; exact iRow_c (iAll_row I r hr) (hrE r hr) rfl, fun l a ha => by rw [hcd, gCt_up (by decide)]; exact iAll_tea I l a ha, (by have q := iAll_byt I; exact q)⟩
      · exact gPr_of R (v := -1) (s' := s) ⟨m, by rw [hX, if_neg q], oX_refl, C⟩ (fun m1 K S H => ⟨m1, by rw [hM m1 K S, if_neg q], oM_refl, S, H⟩) I
end P70
