theorem gPc_g {s s' : gd_C} : ∀ k, (∀ r < k, gPo s' r = gPo s r) → gPc s' k = gPc s k := by
  intro k
  induction k with
  | zero => intro _; rfl
  | succ k ih =>
    intro h
    show gPc s' k + _ = gPc s k + _
    rw [ih fun g hg => h g (by omega), h k (by omega)]
section SBG
variable {s : gd_C} {r : Nat}
theorem sBeg_738 {g : Nat} : sBeg s r 738 g = if g = r then 1 else s 738 g := by
  unfold sBeg; simp (disch := decide) only [gUr_a, gd_up_a, gd_up_m]
theorem sBeg_739 {g : Nat} : sBeg s r 739 g = if g = r then 0 else s 739 g := by
  unfold sBeg; simp (disch := decide) only [gUr_a, gd_up_a, gd_up_m]
theorem sBeg_742 {g : Nat} : sBeg s r 742 g = if g = r then 0 else s 742 g := by
  unfold sBeg; simp (disch := decide) only [gUr_a, gd_up_a, gd_up_m]
theorem sBeg_743 {g : Nat} : sBeg s r 743 g = if g = r then 0 else s 743 g := by
  unfold sBeg; simp (disch := decide) only [gUr_a, gd_up_a, gd_up_m]
theorem sBeg_745 {g : Nat} : sBeg s r 745 g = if g = r then -1 else s 745 g := by
  unfold sBeg; simp (disch := decide) only [gUr_a, gd_up_a, gd_up_m]
theorem sBeg_746 {g : Nat} : sBeg s r 746 g = if g = r then 0 else s 746 g := by
  unfold sBeg; simp (disch := decide) only [gUr_a, gd_up_a, gd_up_m]
theorem sBeg_740 {g : Nat} : sBeg s r 740 g = s 740 g := by
  unfold sBeg; simp (disch := decide) only [gUr_a, gd_up_a, gd_up_m]
theorem sBeg_741 {g : Nat} : sBeg s r 741 g = if 6 * r + 0 ≤ g ∧ g < 6 * r + 0 + 6 then -1 else s 741 g := by
  unfold sBeg; simp (disch := decide) only [gUr_a, gd_up_a, gUr_m]
theorem sBeg_744 {g : Nat} : sBeg s r 744 g = if 160 * r + 0 ≤ g ∧ g < 160 * r + 0 + 160 then 0 else s 744 g := by
  unfold sBeg; simp (disch := decide) only [gUr_a, gd_up_a, gUr_m]
theorem sBeg_f {b : Nat} (h : b < 738 ∨ 746 < b) : sBeg s r b = s b := by
  unfold sBeg
  rw [gUr_f (by omega), gUr_f (by omega), gd_up_f (by omega), gd_up_f (by omega), gd_up_f (by omega), gd_up_f (by omega), gd_up_f (by omega), gd_up_f (by omega)]
theorem sBeg_r {r' : Nat} (h : r' ≠ r) (hr : r' < 160) : rEq s (sBeg s r) r' := by
  refine ⟨?_, ?_, fun i _ => sBeg_740, fun i hi => ?_, ?_, ?_, fun i hi => ?_, ?_, ?_⟩
  · rw [sBeg_738, if_neg h]
  · rw [sBeg_739, if_neg h]
  · rw [sBeg_741, if_neg (by omega)]
  · rw [sBeg_742, if_neg h]
  · rw [sBeg_743, if_neg h]
  · rw [sBeg_744, if_neg (by omega)]
  · rw [sBeg_745, if_neg h]
  · rw [sBeg_746, if_neg h]
end SBG
section P59
variable {c d n p : Nat} {m : gd_M} {s : gd_C}
theorem P_begin (R : gRel c d n p m s) (g a : Int32) : gPr 96 99 [.int g, .int a] m := by
  obtain ⟨K, I, C, S, H⟩ := id R
  obtain ⟨P, -, hP2, hP⟩ := iAll_ppl I
  have hn := gK_n1 K
  cases h : gAt P g a with
  | false =>
    refine gPr_of R (v := -2) (s' := s) ⟨m, ?_, oX_refl, C⟩ (fun m1 K S H => ⟨m1, ?_, oM_refl, S, H⟩) I
    · rw [q_X_begin, c_rowOf_no K ((cMt_ppl (cAll_mt C)).trans hP) h]
      simp only [gK_N K, gK_8_0 K, gK_8_1 K, gK_8_2 K, gK_8_3 K, gK_8_4 K, gK_8_5 K, gK_8_6 K, gK_8_7 K, gK_8_8 K, gK_10_0 K, gK_10_1 K, gK_10_2 K, gK_11_0 K, gK_15_0 K, gK_15_1 K, gK_15_2 K, gK_15_3 K, gK_20_0 K, gK_20_1 K, gK_20_2 K, gK_20_3 K, gK_20_4 K, gK_20_5 K, gK_698_0 K, gK_698_3 K, gK_698_16 K, gK_698_17 K, gK_698_20 K, gK_698_21 K, gK_698_22 K, gK_698_23 K, gK_698_24 K, gK_698_25 K, gK_698_26 K, gK_698_27 K, gK_698_28 K, gK_698_29 K, gK_698_30 K, gK_698_31 K, gK_698_32 K, gK_698_33 K, gK_698_34 K, gK_698_35 K, gK_698_36 K, gK_698_37 K, gK_698_38 K, gK_698_39 K, gK_698_41 K, gK_698_42 K, gK_698_44 K, gK_c K, gK_d K, gK_n K, gK_p K, gok_8, gok_10, gok_11, gok_15, gok_20, gok_698, gok_699, goA_9, goA_12, goA_13, goA_14, goA_16, goA_17, goA_18, goA_19, goA_21, goA_22, goA_23, goA_24, goA_25, goA_26, goA_27, goA_28, goA_29, goA_30, goA_31, goA_732, goA_733, goA_734, goA_735, goA_736, goA_737, goA_738, goA_739, goA_740, goA_741, goA_742, goA_743, goA_744, goA_745, goA_746, goA_747, goA_748, goA_749, goA_750, goA_751, goA_752, goA_753, goA_754, goA_755, goA_756, goA_757, gN_wI, gR_wI, gL_wI, if_true, eq_self, Option.bind_some, gd_kR_r]
    · rw [q_Mo_begin, c_isAt_no K ((gS_698_18 S).trans hP) hP2 h]
      simp only [gK_N K, gK_8_0 K, gK_8_1 K, gK_8_2 K, gK_8_3 K, gK_8_4 K, gK_8_5 K, gK_8_6 K, gK_8_7 K, gK_8_8 K, gK_10_0 K, gK_10_1 K, gK_10_2 K, gK_11_0 K, gK_15_0 K, gK_15_1 K, gK_15_2 K, gK_15_3 K, gK_20_0 K, gK_20_1 K, gK_20_2 K, gK_20_3 K, gK_20_4 K, gK_20_5 K, gK_698_0 K, gK_698_3 K, gK_698_16 K, gK_698_17 K, gK_698_20 K, gK_698_21 K, gK_698_22 K, gK_698_23 K, gK_698_24 K, gK_698_25 K, gK_698_26 K, gK_698_27 K, gK_698_28 K, gK_698_29 K, gK_698_30 K, gK_698_31 K, gK_698_32 K, gK_698_33 K, gK_698_34 K, gK_698_35 K, gK_698_36 K, gK_698_37 K, gK_698_38 K, gK_698_39 K, gK_698_41 K, gK_698_42 K, gK_698_44 K, gK_c K, gK_d K, gK_n K, gK_p K, gok_8, gok_10, gok_11, gok_15, gok_20, gok_698, gok_699, goA_9, goA_12, goA_13, goA_14, goA_16, goA_17, goA_18, goA_19, goA_21, goA_22, goA_23, goA_24, goA_25, goA_26, goA_27, goA_28, goA_29, goA_30, goA_31, goA_732, goA_733, goA_734, goA_735, goA_736, goA_737, goA_738, goA_739, goA_740, goA_741, goA_742, goA_743, goA_744, goA_745, goA_746, goA_747, goA_748, goA_749, goA_750, goA_751, goA_752, goA_753, goA_754, goA_755, goA_756, goA_757, gN_wI, gR_wI, gL_wI, if_true, eq_self, Option.bind_some, gd_kI_i]
  | true =>
    obtain ⟨k, b, hk, hb, rfl, rfl⟩ := gAt_t hP2 h
    have hr : 4 * k + b < 160 := by omega
    by_cases h1 : s 738 (4 * k + b) = 0
    · have hte := iAll_tea I (s 735 k) b hb
      obtain ⟨T, hT1, hT2, hT⟩ := iCd_tea (iAll_cod I)
      rw [hP, gn_of (by omega), hT, gn_of (by omega)] at hte
      have hX : ∀ q, gd_call 96 [.ref 8, .int (Int32.ofNat k), .int (Int32.ofNat b)] m = q ↔ (if gCt s (s 735 k) b P < T then (gd_call 95 [.ref (58 + 4 * (4 * k + b))] m).bind (gd_kV fun m22 => some (.int (Int32.ofNat (gCt s (s 735 k) b P) + 1), m22)) else some (.int (-3), m)) = q := by
        intro q
        rw [q_X_begin, c_rowOf_at K ((cMt_ppl (cAll_mt C)).trans hP) hP2 hk hb]
        simp only [gK_N K, gK_8_0 K, gK_8_1 K, gK_8_2 K, gK_8_3 K, gK_8_4 K, gK_8_5 K, gK_8_6 K, gK_8_7 K, gK_8_8 K, gK_10_0 K, gK_10_1 K, gK_10_2 K, gK_11_0 K, gK_15_0 K, gK_15_1 K, gK_15_2 K, gK_15_3 K, gK_20_0 K, gK_20_1 K, gK_20_2 K, gK_20_3 K, gK_20_4 K, gK_20_5 K, gK_698_0 K, gK_698_3 K, gK_698_16 K, gK_698_17 K, gK_698_20 K, gK_698_21 K, gK_698_22 K, gK_698_23 K, gK_698_24 K, gK_698_25 K, gK_698_26 K, gK_698_27 K, gK_698_28 K, gK_698_29 K, gK_698_30 K, gK_698_31 K, gK_698_32 K, gK_698_33 K, gK_698_34 K, gK_698_35 K, gK_698_36 K, gK_698_37 K, gK_698_38 K, gK_698_39 K, gK_698_41 K, gK_698_42 K, gK_698_44 K, gK_c K, gK_d K, gK_n K, gK_p K, gok_8, gok_10, gok_11, gok_15, gok_20, gok_698, gok_699, goA_9, goA_12, goA_13, goA_14, goA_16, goA_17, goA_18, goA_19, goA_21, goA_22, goA_23, goA_24, goA_25, goA_26, goA_27, goA_28, goA_29, goA_30, goA_31, goA_732, goA_733, goA_734, goA_735, goA_736, goA_737, goA_738, goA_739, goA_740, goA_741, goA_742, goA_743, goA_744, goA_745, goA_746, goA_747, goA_748, goA_749, goA_750, goA_751, goA_752, goA_753, goA_754, goA_755, goA_756, goA_757, gN_wI, gR_wI, gL_wI, if_true, eq_self, gok_c K, gok_d K, gok_n K, gok_p K, gK_c_0 K, gK_c_1 K, gK_c_2 K, gK_c_3 K, gK_c_4 K, gK_c_5 K, gK_c_6 K, gK_c_7 K, gK_c_8 K, gK_c_9 K, gK_c_10 K, gK_c_11 K, gK_n_3 K, gK_n_4 K, gK_n_5 K, gK_n_6 K, gK_n_7 K, gK_n_8 K, gK_n_9 K, gK_n_10 K, gK_n_11 K, gK_n_12 K, gK_n_13 K, gK_n_14 K, gK_n_15 K, gK_n_16 K, gK_n_17 K, goA_c1 K, goA_c2 K, goA_c3 K, goA_c4 K, goA_c5 K, goA_c6 K, goA_c7 K, goA_c8 K, goA_c9 K, goA_c10 K, goA_c11 K, goA_c12 K, goA_n1 K, goA_n2 K, goA_n3 K, goA_n4 K, goA_n5 K, goA_n6 K, goA_n7 K, goA_n8 K, goA_n9 K, goA_n10 K, goA_n11 K, goA_n12 K, goA_n13 K, goA_n14 K, goA_n15 K, cMt_tpd (cAll_mt C), cMt_tap (cAll_mt C), cMt_fkd (cAll_mt C), cMt_fpl (cAll_mt C), cMt_ppl (cAll_mt C), cMt_lat (cAll_mt C), cMt_lan (cAll_mt C), cMt_pai (cAll_mt C), cMt_pos (cAll_mt C), cCd_pts (cAll_cd C), cCd_lks (cAll_cd C), cCd_fts (cAll_cd C), cCd_pan (cAll_cd C), cCd_spa (cAll_cd C), cCd_cnt (cAll_cd C), cCd_sho (cAll_cd C), cCd_les (cAll_cd C), cCd_tea (cAll_cd C), cCd_bst (cAll_cd C), cCd_fin (cAll_cd C), cCd_lnd (cAll_cd C), cRw_bgn (cAll_rw C _ hr), cRw_len (cAll_rw C _ hr), cRw_mkd (cAll_rw C _ hr), cRw_ask (cAll_rw C _ hr), cRw_inq (cAll_rw C _ hr), gK_row K hr, gK_ent K hr, gK_mrk K hr, gK_sen K hr, gok_row hr, goA_ent hr, goA_mrk hr, goA_sen hr, gd_row0, gd_row8, if_false, Option.bind_some, gd_kR_r]
        rw [if_pos h1, gn_in (by omega) (by omega), if_pos rfl, gn_nat (by omega), c_routinesOf K C hP hP2 hb]
        simp only [gK_N K, gK_8_0 K, gK_8_1 K, gK_8_2 K, gK_8_3 K, gK_8_4 K, gK_8_5 K, gK_8_6 K, gK_8_7 K, gK_8_8 K, gK_10_0 K, gK_10_1 K, gK_10_2 K, gK_11_0 K, gK_15_0 K, gK_15_1 K, gK_15_2 K, gK_15_3 K, gK_20_0 K, gK_20_1 K, gK_20_2 K, gK_20_3 K, gK_20_4 K, gK_20_5 K, gK_698_0 K, gK_698_3 K, gK_698_16 K, gK_698_17 K, gK_698_20 K, gK_698_21 K, gK_698_22 K, gK_698_23 K, gK_698_24 K, gK_698_25 K, gK_698_26 K, gK_698_27 K, gK_698_28 K, gK_698_29 K, gK_698_30 K, gK_698_31 K, gK_698_32 K, gK_698_33 K, gK_698_34 K, gK_698_35 K, gK_698_36 K, gK_698_37 K, gK_698_38 K, gK_698_39 K, gK_698_41 K, gK_698_42 K, gK_698_44 K, gK_c K, gK_d K, gK_n K, gK_p K, gok_8, gok_10, gok_11, gok_15, gok_20, gok_698, gok_699, goA_9, goA_12, goA_13, goA_14, goA_16, goA_17, goA_18, goA_19, goA_21, goA_22, goA_23, goA_24, goA_25, goA_26, goA_27, goA_28, goA_29, goA_30, goA_31, goA_732, goA_733, goA_734, goA_735, goA_736, goA_737, goA_738, goA_739, goA_740, goA_741, goA_742, goA_743, goA_744, goA_745, goA_746, goA_747, goA_748, goA_749, goA_750, goA_751, goA_752, goA_753, goA_754, goA_755, goA_756, goA_757, gN_wI, gR_wI, gL_wI, if_true, eq_self, gok_c K, gok_d K, gok_n K, gok_p K, gK_c_0 K, gK_c_1 K, gK_c_2 K, gK_c_3 K, gK_c_4 K, gK_c_5 K, gK_c_6 K, gK_c_7 K, gK_c_8 K, gK_c_9 K, gK_c_10 K, gK_c_11 K, gK_n_3 K, gK_n_4 K, gK_n_5 K, gK_n_6 K, gK_n_7 K, gK_n_8 K, gK_n_9 K, gK_n_10 K, gK_n_11 K, gK_n_12 K, gK_n_13 K, gK_n_14 K, gK_n_15 K, gK_n_16 K, gK_n_17 K, goA_c1 K, goA_c2 K, goA_c3 K, goA_c4 K, goA_c5 K, goA_c6 K, goA_c7 K, goA_c8 K, goA_c9 K, goA_c10 K, goA_c11 K, goA_c12 K, goA_n1 K, goA_n2 K, goA_n3 K, goA_n4 K, goA_n5 K, goA_n6 K, goA_n7 K, goA_n8 K, goA_n9 K, goA_n10 K, goA_n11 K, goA_n12 K, goA_n13 K, goA_n14 K, goA_n15 K, cMt_tpd (cAll_mt C), cMt_tap (cAll_mt C), cMt_fkd (cAll_mt C), cMt_fpl (cAll_mt C), cMt_ppl (cAll_mt C), cMt_lat (cAll_mt C), cMt_lan (cAll_mt C), cMt_pai (cAll_mt C), cMt_pos (cAll_mt C), cCd_pts (cAll_cd C), cCd_lks (cAll_cd C), cCd_fts (cAll_cd C), cCd_pan (cAll_cd C), cCd_spa (cAll_cd C), cCd_cnt (cAll_cd C), cCd_sho (cAll_cd C), cCd_les (cAll_cd C), cCd_tea (cAll_cd C), cCd_bst (cAll_cd C), cCd_fin (cAll_cd C), cCd_lnd (cAll_cd C), Option.bind_some, gd_kI_i]
        rw [show gd_in 8 12 = true from rfl, if_pos rfl, show (8 : Int32).toNatClampNeg = 8 from rfl, cCd_tea (cAll_cd C), hT]
        by_cases h2 : gCt s (s 735 k) b P < T
        · rw [if_pos h2, if_pos ((gn_lt (by omega) (by omega)).2 h2)]
        · rw [if_neg h2, if_neg (fun q => h2 ((gn_lt (by omega) (by omega)).1 q))]
      by_cases h2 : gCt s (s 735 k) b P < T
      · have hcd : gCd n (sBeg s (4 * k + b)) = gCd n s := gCd_c fun i hi => sBeg_f (by omega)
        refine gPr_of R (v := Int32.ofNat (gCt s (s 735 k) b P) + 1) (s' := sBeg s (4 * k + b)) ⟨_, (hX _).2 (by rw [if_pos h2, q_Ro_start, c_start_2 hr 6 0 m rfl K, c_start_23 hr 10 0 _ rfl (gK_o K (wFl_2 _ _ _))]; rfl), ?_, ?_⟩ (fun m1 K S H => ⟨wFl (wFl (wI (wI (wI (wI (wI (wI (wI m1 738 (4 * k + b) 1) 739 (4 * k + b) 0) 742 (4 * k + b) 0) 743 (4 * k + b) 0) 745 (4 * k + b) (-1)) 746 (4 * k + b) 0) 749 (4 * k + b) 0) 741 (6 * (4 * k + b) + 0) (-1) 6) 744 (160 * (4 * k + b) + 0) 0 160, ?_, ?_, ?_, ?_⟩) ?_
        · sorry
        · sorry
        · sorry
        · sorry
        · sorry
        · sorry
        · sorry
      · sorry
    · refine gPr_of R (v := -1) (s' := s) ⟨m, ?_, oX_refl, C⟩ (fun m1 K S H => ⟨m1, ?_, oM_refl, S, H⟩) I
      · rw [q_X_begin, c_rowOf_at K ((cMt_ppl (cAll_mt C)).trans hP) hP2 hk hb]
        simp only [gK_N K, gK_8_0 K, gK_8_1 K, gK_8_2 K, gK_8_3 K, gK_8_4 K, gK_8_5 K, gK_8_6 K, gK_8_7 K, gK_8_8 K, gK_10_0 K, gK_10_1 K, gK_10_2 K, gK_11_0 K, gK_15_0 K, gK_15_1 K, gK_15_2 K, gK_15_3 K, gK_20_0 K, gK_20_1 K, gK_20_2 K, gK_20_3 K, gK_20_4 K, gK_20_5 K, gK_698_0 K, gK_698_3 K, gK_698_16 K, gK_698_17 K, gK_698_20 K, gK_698_21 K, gK_698_22 K, gK_698_23 K, gK_698_24 K, gK_698_25 K, gK_698_26 K, gK_698_27 K, gK_698_28 K, gK_698_29 K, gK_698_30 K, gK_698_31 K, gK_698_32 K, gK_698_33 K, gK_698_34 K, gK_698_35 K, gK_698_36 K, gK_698_37 K, gK_698_38 K, gK_698_39 K, gK_698_41 K, gK_698_42 K, gK_698_44 K, gK_c K, gK_d K, gK_n K, gK_p K, gok_8, gok_10, gok_11, gok_15, gok_20, gok_698, gok_699, goA_9, goA_12, goA_13, goA_14, goA_16, goA_17, goA_18, goA_19, goA_21, goA_22, goA_23, goA_24, goA_25, goA_26, goA_27, goA_28, goA_29, goA_30, goA_31, goA_732, goA_733, goA_734, goA_735, goA_736, goA_737, goA_738, goA_739, goA_740, goA_741, goA_742, goA_743, goA_744, goA_745, goA_746, goA_747, goA_748, goA_749, goA_750, goA_751, goA_752, goA_753, goA_754, goA_755, goA_756, goA_757, gN_wI, gR_wI, gL_wI, if_true, eq_self, gok_c K, gok_d K, gok_n K, gok_p K, gK_c_0 K, gK_c_1 K, gK_c_2 K, gK_c_3 K, gK_c_4 K, gK_c_5 K, gK_c_6 K, gK_c_7 K, gK_c_8 K, gK_c_9 K, gK_c_10 K, gK_c_11 K, gK_n_3 K, gK_n_4 K, gK_n_5 K, gK_n_6 K, gK_n_7 K, gK_n_8 K, gK_n_9 K, gK_n_10 K, gK_n_11 K, gK_n_12 K, gK_n_13 K, gK_n_14 K, gK_n_15 K, gK_n_16 K, gK_n_17 K, goA_c1 K, goA_c2 K, goA_c3 K, goA_c4 K, goA_c5 K, goA_c6 K, goA_c7 K, goA_c8 K, goA_c9 K, goA_c10 K, goA_c11 K, goA_c12 K, goA_n1 K, goA_n2 K, goA_n3 K, goA_n4 K, goA_n5 K, goA_n6 K, goA_n7 K, goA_n8 K, goA_n9 K, goA_n10 K, goA_n11 K, goA_n12 K, goA_n13 K, goA_n14 K, goA_n15 K, cMt_tpd (cAll_mt C), cMt_tap (cAll_mt C), cMt_fkd (cAll_mt C), cMt_fpl (cAll_mt C), cMt_ppl (cAll_mt C), cMt_lat (cAll_mt C), cMt_lan (cAll_mt C), cMt_pai (cAll_mt C), cMt_pos (cAll_mt C), cCd_pts (cAll_cd C), cCd_lks (cAll_cd C), cCd_fts (cAll_cd C), cCd_pan (cAll_cd C), cCd_spa (cAll_cd C), cCd_cnt (cAll_cd C), cCd_sho (cAll_cd C), cCd_les (cAll_cd C), cCd_tea (cAll_cd C), cCd_bst (cAll_cd C), cCd_fin (cAll_cd C), cCd_lnd (cAll_cd C), cRw_bgn (cAll_rw C _ hr), cRw_len (cAll_rw C _ hr), cRw_mkd (cAll_rw C _ hr), cRw_ask (cAll_rw C _ hr), cRw_inq (cAll_rw C _ hr), gK_row K hr, gK_ent K hr, gK_mrk K hr, gK_sen K hr, gok_row hr, goA_ent hr, goA_mrk hr, goA_sen hr, gd_row0, gd_row8, if_false, Option.bind_some, gd_kR_r]
        rw [if_neg h1]
      · rw [q_Mo_begin, c_isAt_at K ((gS_698_18 S).trans hP) hP2 hk hb]
        simp only [gK_N K, gK_8_0 K, gK_8_1 K, gK_8_2 K, gK_8_3 K, gK_8_4 K, gK_8_5 K, gK_8_6 K, gK_8_7 K, gK_8_8 K, gK_10_0 K, gK_10_1 K, gK_10_2 K, gK_11_0 K, gK_15_0 K, gK_15_1 K, gK_15_2 K, gK_15_3 K, gK_20_0 K, gK_20_1 K, gK_20_2 K, gK_20_3 K, gK_20_4 K, gK_20_5 K, gK_698_0 K, gK_698_3 K, gK_698_16 K, gK_698_17 K, gK_698_20 K, gK_698_21 K, gK_698_22 K, gK_698_23 K, gK_698_24 K, gK_698_25 K, gK_698_26 K, gK_698_27 K, gK_698_28 K, gK_698_29 K, gK_698_30 K, gK_698_31 K, gK_698_32 K, gK_698_33 K, gK_698_34 K, gK_698_35 K, gK_698_36 K, gK_698_37 K, gK_698_38 K, gK_698_39 K, gK_698_41 K, gK_698_42 K, gK_698_44 K, gK_c K, gK_d K, gK_n K, gK_p K, gok_8, gok_10, gok_11, gok_15, gok_20, gok_698, gok_699, goA_9, goA_12, goA_13, goA_14, goA_16, goA_17, goA_18, goA_19, goA_21, goA_22, goA_23, goA_24, goA_25, goA_26, goA_27, goA_28, goA_29, goA_30, goA_31, goA_732, goA_733, goA_734, goA_735, goA_736, goA_737, goA_738, goA_739, goA_740, goA_741, goA_742, goA_743, goA_744, goA_745, goA_746, goA_747, goA_748, goA_749, goA_750, goA_751, goA_752, goA_753, goA_754, goA_755, goA_756, goA_757, gN_wI, gR_wI, gL_wI, if_true, eq_self, gS_n K S, gS_n5 K S, gS_n6 K S, gS_n7 K S, gS_n8 K S, gS_n9 K S, gS_n10 K S, gS_n11 K S, gS_n12 K S, gS_n13 K S, gS_n14 K S, gS_n15 K S, gS_732 S, gS_735 S, gS_736 S, gS_737 S, gS_738 S, gS_739 S, gS_740 S, gS_741 S, gS_742 S, gS_743 S, gS_744 S, gS_745 S, gS_746 S, gS_698_4 S, gS_698_14 S, gS_698_15 S, gS_698_18 S, gS_698_19 S, Option.bind_some, gd_kI_i, gm4, gn_add, gn_nat (show 4 * k + b < 2147483648 by omega), gn_in (show 4 * k + b < 2147483648 by omega) hr]
        rw [if_neg (by decide), if_neg h1]
end P59
