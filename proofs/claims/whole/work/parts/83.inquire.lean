/-! ===== inquire ===== -/
theorem iq_cmp {x q : Int32} (h0 : 0 ≤ q) (h1 : q ≤ x) : (0 < lg_cmp (x.toInt64 - q.toInt64) 5) ↔ 5 < x - q := by
  have a0 : 0 ≤ q.toInt := by have := Int32.le_iff_toInt_le.1 h0; simpa using this
  have a1 := Int32.le_iff_toInt_le.1 h1
  have b1 := gt_b (x := x)
  have b2 := gt_b (x := q)
  have e1 : (x.toInt64 - q.toInt64).toInt = x.toInt - q.toInt := by
    rw [Int64.toInt_sub, Int32.toInt_toInt64, Int32.toInt_toInt64]
    exact Int.bmod_eq_of_le (by omega) (by omega)
  have e2 : (x - q).toInt = x.toInt - q.toInt := gt_sub (by omega)
  have e5 : (5 : Int64).toInt = 5 := rfl
  have f5 : (5 : Int32).toInt = 5 := rfl
  have g1 : (5 : Int64) < x.toInt64 - q.toInt64 ↔ (5 : Int) < x.toInt - q.toInt := by rw [Int64.lt_iff_toInt_lt, e1, e5]
  have g2 : (5 : Int32) < x - q ↔ (5 : Int) < x.toInt - q.toInt := by rw [Int32.lt_iff_toInt_lt, e2, f5]
  rw [g2, ← g1]
  unfold lg_cmp
  by_cases h : (5 : Int64) < x.toInt64 - q.toInt64
  · rw [if_pos (show x.toInt64 - q.toInt64 > 5 from h)]
    exact ⟨fun _ => h, fun _ => by decide⟩
  · rw [if_neg (show ¬ x.toInt64 - q.toInt64 > 5 from h)]
    refine ⟨fun t => ?_, fun t => absurd t h⟩
    by_cases h2 : x.toInt64 - q.toInt64 = 5
    · rw [if_pos h2] at t; exact absurd t (by decide)
    · rw [if_neg h2] at t; exact absurd t (by decide)
section P83
variable {c d n p : Nat} {m : gd_M} {s : gd_C} {r l : Nat}
def sIq (s : gd_C) (r l : Nat) (x : Int32) : gd_C := gd_up (gd_up (gd_up s 698 19 x) 746 r 1) 736 l (s 736 l + 1)
theorem sIq_f {x : Int32} {q : Nat} (h : q ≠ 746 ∧ q ≠ 698 ∧ q ≠ 736) : sIq s r l x q = s q := by
  unfold sIq; rw [gd_up_f (by omega), gd_up_f (by omega), gd_up_f (by omega)]
theorem sIq_746 {x : Int32} {i : Nat} : sIq s r l x 746 i = if i = r then 1 else s 746 i := by
  unfold sIq; rw [gd_up_a (by decide), gd_up_m, gd_up_a (by decide)]
theorem sIq_698 {x : Int32} {i : Nat} : sIq s r l x 698 i = if i = 19 then x else s 698 i := by
  unfold sIq; rw [gd_up_a (by decide), gd_up_a (by decide), gd_up_m]
theorem sIq_736 {x : Int32} {i : Nat} : sIq s r l x 736 i = if i = l then s 736 l + 1 else s 736 i := by
  unfold sIq; rw [gd_up_m, gd_up_a (by decide), gd_up_a (by decide)]
theorem sIq_e {x : Int32} {q : Nat} (h : q ≠ r) : rEq s (sIq s r l x) q := by
  refine ⟨by rw [sIq_f (by decide)], by rw [sIq_f (by decide)], fun i _ => by rw [sIq_f (by decide)], fun i _ => by rw [sIq_f (by decide)], by rw [sIq_f (by decide)], by rw [sIq_f (by decide)], fun i _ => by rw [sIq_f (by decide)], by rw [sIq_f (by decide)], by rw [sIq_746, if_neg h]⟩
theorem sIq_c (hn : n = 700 ∨ n = 716) {x : Int32} : gCd n (sIq s r l x) = gCd n s := gCd_c fun i hi => sIq_f (by omega)
theorem sIq_En {x : Int32} : gEn (sIq s r l x) r = gEn s r := funext fun i => by unfold gEn; rw [sIq_f (by decide)]
theorem sIq_Mk {x : Int32} : gMk (sIq s r l x) r = gMk s r := funext fun i => by unfold gMk; rw [sIq_f (by decide)]
theorem sIq_Sn {x : Int32} : gSn (sIq s r l x) r = gSn s r := funext fun f => funext fun i => by unfold gSn; rw [sIq_f (by decide)]
theorem iAll_iq (I : iAll n s) (hn : n = 700 ∨ n = 716) (hr : r < 160) {x : Int32} (ht : s 698 19 ≤ x) (hp : s 745 r ≠ -1) : iAll n (sIq s r l x) := by
  have hcd := sIq_c (s := s) (r := r) (l := l) hn (x := x)
  have h19 : sIq s r l x 698 19 = x := by rw [sIq_698, if_pos rfl]
  have h18 : sIq s r l x 698 18 = s 698 18 := by rw [sIq_698, if_neg (by decide)]
  have h4 : sIq s r l x 698 4 = s 698 4 := by rw [sIq_698, if_neg (by decide)]
  have h0 : 0 ≤ x := Int32.le_trans (iAll_lat I) ht
  refine ⟨by rw [hcd]; exact iAll_cod I, by rw [h4]; exact iAll_tpd I, by rw [h18]; exact iAll_ppl I, by rw [h19]; exact h0, by rw [sIq_f (by decide)]; exact iAll_lan I, fun q hq h1 => ?_, fun q hq => ?_, fun l a ha => ?_, by rw [sIq_f (by decide)]; exact iAll_byt I⟩
  · rw [h18] at h1
    rw [sIq_f (by decide)]; exact iAll_out I q hq h1
  · rw [hcd]
    by_cases e : q = r
    · rw [e]
      have J := iAll_row I r hr
      refine ⟨by rw [sIq_f (by decide)]; exact iRow_bgn J, by rw [sIq_f (by decide)]; exact iRow_len J, fun t i hi => ?_, fun t i hi => ?_, fun t => ?_, fun t => ?_⟩
      · rw [sIq_f (by decide)] at t hi ⊢; exact iRow_ent J t i hi
      · rw [sIq_f (by decide)] at t ⊢; exact iRow_mrk J t i hi
      · rw [sIq_f (by decide)] at t ⊢
        rw [h19]
        rcases iRow_pst J t with q1 | q1
        · exact .inl q1
        · exact .inr ⟨q1.1, Int32.le_trans q1.2 ht⟩
      · right; rw [sIq_f (by decide)]; exact hp
    · exact iRow_l (iAll_row I q hq) (sIq_e e) (by rw [h19]; exact ht)
  · rw [hcd, h18, gCt_c _ fun g _ => ⟨by rw [sIq_f (by decide)], by rw [sIq_f (by decide)]⟩]
    exact iAll_tea I l a ha
theorem P_inquire (R : gRel c d n p m s) (g a x : Int32) : gPr 152 153 [.int g, .int a, .int x] m := by
  obtain ⟨K, I, C, S, H⟩ := id R
  obtain ⟨P, -, hP2, hP⟩ := iAll_ppl I
  have hn := gK_n1 K
  have hc := gK_c1 K
  cases h : gAt P g a with
  | false =>
    refine gPr_of R (v := -2) (s' := s) ⟨m, ?_, oX_refl, C⟩ (fun m1 K S H => ⟨m1, ?_, oM_refl, S, H⟩) I
    · rw [q_X_inquire, c_rowOf_no K ((cMt_ppl (cAll_mt C)).trans hP) h]
      simp only [gK_N K, gK_8_0 K, gK_8_1 K, gK_8_2 K, gK_8_3 K, gK_8_4 K, gK_8_5 K, gK_8_6 K, gK_8_7 K, gK_8_8 K, gK_10_0 K, gK_10_1 K, gK_10_2 K, gK_11_0 K, gK_15_0 K, gK_15_1 K, gK_15_2 K, gK_15_3 K, gK_20_0 K, gK_20_1 K, gK_20_2 K, gK_20_3 K, gK_20_4 K, gK_20_5 K, gK_698_0 K, gK_698_3 K, gK_698_16 K, gK_698_17 K, gK_698_20 K, gK_698_21 K, gK_698_22 K, gK_698_23 K, gK_698_24 K, gK_698_25 K, gK_698_26 K, gK_698_27 K, gK_698_28 K, gK_698_29 K, gK_698_30 K, gK_698_31 K, gK_698_32 K, gK_698_33 K, gK_698_34 K, gK_698_35 K, gK_698_36 K, gK_698_37 K, gK_698_38 K, gK_698_39 K, gK_698_41 K, gK_698_42 K, gK_698_44 K, gK_c K, gK_d K, gK_n K, gK_p K, gok_8, gok_10, gok_11, gok_15, gok_20, gok_698, gok_699, goA_9, goA_12, goA_13, goA_14, goA_16, goA_17, goA_18, goA_19, goA_21, goA_22, goA_23, goA_24, goA_25, goA_26, goA_27, goA_28, goA_29, goA_30, goA_31, goA_732, goA_733, goA_734, goA_735, goA_736, goA_737, goA_738, goA_739, goA_740, goA_741, goA_742, goA_743, goA_744, goA_745, goA_746, goA_747, goA_748, goA_749, goA_750, goA_751, goA_752, goA_753, goA_754, goA_755, goA_756, goA_757, gN_wI, gR_wI, gL_wI, if_true, eq_self, Option.bind_some, gd_kR_r]
    · rw [q_Mo_inquire, c_isAt_no K ((gS_698_18 S).trans hP) hP2 h]
      simp only [gK_N K, gK_8_0 K, gK_8_1 K, gK_8_2 K, gK_8_3 K, gK_8_4 K, gK_8_5 K, gK_8_6 K, gK_8_7 K, gK_8_8 K, gK_10_0 K, gK_10_1 K, gK_10_2 K, gK_11_0 K, gK_15_0 K, gK_15_1 K, gK_15_2 K, gK_15_3 K, gK_20_0 K, gK_20_1 K, gK_20_2 K, gK_20_3 K, gK_20_4 K, gK_20_5 K, gK_698_0 K, gK_698_3 K, gK_698_16 K, gK_698_17 K, gK_698_20 K, gK_698_21 K, gK_698_22 K, gK_698_23 K, gK_698_24 K, gK_698_25 K, gK_698_26 K, gK_698_27 K, gK_698_28 K, gK_698_29 K, gK_698_30 K, gK_698_31 K, gK_698_32 K, gK_698_33 K, gK_698_34 K, gK_698_35 K, gK_698_36 K, gK_698_37 K, gK_698_38 K, gK_698_39 K, gK_698_41 K, gK_698_42 K, gK_698_44 K, gK_c K, gK_d K, gK_n K, gK_p K, gok_8, gok_10, gok_11, gok_15, gok_20, gok_698, gok_699, goA_9, goA_12, goA_13, goA_14, goA_16, goA_17, goA_18, goA_19, goA_21, goA_22, goA_23, goA_24, goA_25, goA_26, goA_27, goA_28, goA_29, goA_30, goA_31, goA_732, goA_733, goA_734, goA_735, goA_736, goA_737, goA_738, goA_739, goA_740, goA_741, goA_742, goA_743, goA_744, goA_745, goA_746, goA_747, goA_748, goA_749, goA_750, goA_751, goA_752, goA_753, goA_754, goA_755, goA_756, goA_757, gN_wI, gR_wI, gL_wI, if_true, eq_self, Option.bind_some, gd_kI_i]
  | true =>
    obtain ⟨k, b, hk, hb, rfl, rfl⟩ := gAt_t hP2 h
    have hr : (4 * k + b) < 160 := by omega
    have W := cAll_rw C (4 * k + b) hr
    have Mt := cAll_mt C
    obtain ⟨l, -, hl, hle⟩ := iAll_lan I k
    by_cases h1 : x < s 698 19
    · refine gPr_of R (v := -2) (s' := s) ⟨m, ?_, oX_refl, C⟩ (fun m1 K S H => ⟨m1, ?_, oM_refl, S, H⟩) I
      · rw [q_X_inquire, c_rowOf_at K ((cMt_ppl (cAll_mt C)).trans hP) hP2 hk hb]
        simp only [gK_N K, gK_8_0 K, gK_8_1 K, gK_8_2 K, gK_8_3 K, gK_8_4 K, gK_8_5 K, gK_8_6 K, gK_8_7 K, gK_8_8 K, gK_10_0 K, gK_10_1 K, gK_10_2 K, gK_11_0 K, gK_15_0 K, gK_15_1 K, gK_15_2 K, gK_15_3 K, gK_20_0 K, gK_20_1 K, gK_20_2 K, gK_20_3 K, gK_20_4 K, gK_20_5 K, gK_698_0 K, gK_698_3 K, gK_698_16 K, gK_698_17 K, gK_698_20 K, gK_698_21 K, gK_698_22 K, gK_698_23 K, gK_698_24 K, gK_698_25 K, gK_698_26 K, gK_698_27 K, gK_698_28 K, gK_698_29 K, gK_698_30 K, gK_698_31 K, gK_698_32 K, gK_698_33 K, gK_698_34 K, gK_698_35 K, gK_698_36 K, gK_698_37 K, gK_698_38 K, gK_698_39 K, gK_698_41 K, gK_698_42 K, gK_698_44 K, gK_c K, gK_d K, gK_n K, gK_p K, gok_8, gok_10, gok_11, gok_15, gok_20, gok_698, gok_699, goA_9, goA_12, goA_13, goA_14, goA_16, goA_17, goA_18, goA_19, goA_21, goA_22, goA_23, goA_24, goA_25, goA_26, goA_27, goA_28, goA_29, goA_30, goA_31, goA_732, goA_733, goA_734, goA_735, goA_736, goA_737, goA_738, goA_739, goA_740, goA_741, goA_742, goA_743, goA_744, goA_745, goA_746, goA_747, goA_748, goA_749, goA_750, goA_751, goA_752, goA_753, goA_754, goA_755, goA_756, goA_757, gN_wI, gR_wI, gL_wI, if_true, eq_self, gK_row K hr, gK_ent K hr, gK_mrk K hr, gK_sen K hr, gok_row hr, goA_ent hr, goA_mrk hr, goA_sen hr, gd_row0, gd_row8, if_false, Option.bind_some, gd_kR_r]
        rw [cMt_lat Mt, if_pos h1]
      · rw [q_Mo_inquire, c_isAt_at K ((gS_698_18 S).trans hP) hP2 hk hb]
        simp only [gK_N K, gK_8_0 K, gK_8_1 K, gK_8_2 K, gK_8_3 K, gK_8_4 K, gK_8_5 K, gK_8_6 K, gK_8_7 K, gK_8_8 K, gK_10_0 K, gK_10_1 K, gK_10_2 K, gK_11_0 K, gK_15_0 K, gK_15_1 K, gK_15_2 K, gK_15_3 K, gK_20_0 K, gK_20_1 K, gK_20_2 K, gK_20_3 K, gK_20_4 K, gK_20_5 K, gK_698_0 K, gK_698_3 K, gK_698_16 K, gK_698_17 K, gK_698_20 K, gK_698_21 K, gK_698_22 K, gK_698_23 K, gK_698_24 K, gK_698_25 K, gK_698_26 K, gK_698_27 K, gK_698_28 K, gK_698_29 K, gK_698_30 K, gK_698_31 K, gK_698_32 K, gK_698_33 K, gK_698_34 K, gK_698_35 K, gK_698_36 K, gK_698_37 K, gK_698_38 K, gK_698_39 K, gK_698_41 K, gK_698_42 K, gK_698_44 K, gK_c K, gK_d K, gK_n K, gK_p K, gok_8, gok_10, gok_11, gok_15, gok_20, gok_698, gok_699, goA_9, goA_12, goA_13, goA_14, goA_16, goA_17, goA_18, goA_19, goA_21, goA_22, goA_23, goA_24, goA_25, goA_26, goA_27, goA_28, goA_29, goA_30, goA_31, goA_732, goA_733, goA_734, goA_735, goA_736, goA_737, goA_738, goA_739, goA_740, goA_741, goA_742, goA_743, goA_744, goA_745, goA_746, goA_747, goA_748, goA_749, goA_750, goA_751, goA_752, goA_753, goA_754, goA_755, goA_756, goA_757, gN_wI, gR_wI, gL_wI, if_true, eq_self, gS_n K S, gS_n5 K S, gS_n6 K S, gS_n7 K S, gS_n8 K S, gS_n9 K S, gS_n10 K S, gS_n11 K S, gS_n12 K S, gS_n13 K S, gS_n14 K S, gS_n15 K S, gS_732 S, gS_735 S, gS_736 S, gS_737 S, gS_738 S, gS_739 S, gS_740 S, gS_741 S, gS_742 S, gS_743 S, gS_744 S, gS_745 S, gS_746 S, gS_698_4 S, gS_698_14 S, gS_698_15 S, gS_698_18 S, gS_698_19 S, Option.bind_some, gd_kI_i]
        rw [if_neg (show ¬ (1 : Int32) = 0 by decide), if_pos h1]
    · cases h2 : gPo s (4 * k + b) with
      | false =>
        refine gPr_of R (v := -1) (s' := s) ⟨m, ?_, oX_refl, C⟩ (fun m1 K S H => ⟨m1, ?_, oM_refl, S, H⟩) I
        · rw [q_X_inquire, c_rowOf_at K ((cMt_ppl (cAll_mt C)).trans hP) hP2 hk hb]
          simp only [gK_N K, gK_8_0 K, gK_8_1 K, gK_8_2 K, gK_8_3 K, gK_8_4 K, gK_8_5 K, gK_8_6 K, gK_8_7 K, gK_8_8 K, gK_10_0 K, gK_10_1 K, gK_10_2 K, gK_11_0 K, gK_15_0 K, gK_15_1 K, gK_15_2 K, gK_15_3 K, gK_20_0 K, gK_20_1 K, gK_20_2 K, gK_20_3 K, gK_20_4 K, gK_20_5 K, gK_698_0 K, gK_698_3 K, gK_698_16 K, gK_698_17 K, gK_698_20 K, gK_698_21 K, gK_698_22 K, gK_698_23 K, gK_698_24 K, gK_698_25 K, gK_698_26 K, gK_698_27 K, gK_698_28 K, gK_698_29 K, gK_698_30 K, gK_698_31 K, gK_698_32 K, gK_698_33 K, gK_698_34 K, gK_698_35 K, gK_698_36 K, gK_698_37 K, gK_698_38 K, gK_698_39 K, gK_698_41 K, gK_698_42 K, gK_698_44 K, gK_c K, gK_d K, gK_n K, gK_p K, gok_8, gok_10, gok_11, gok_15, gok_20, gok_698, gok_699, goA_9, goA_12, goA_13, goA_14, goA_16, goA_17, goA_18, goA_19, goA_21, goA_22, goA_23, goA_24, goA_25, goA_26, goA_27, goA_28, goA_29, goA_30, goA_31, goA_732, goA_733, goA_734, goA_735, goA_736, goA_737, goA_738, goA_739, goA_740, goA_741, goA_742, goA_743, goA_744, goA_745, goA_746, goA_747, goA_748, goA_749, goA_750, goA_751, goA_752, goA_753, goA_754, goA_755, goA_756, goA_757, gN_wI, gR_wI, gL_wI, if_true, eq_self, gK_row K hr, gK_ent K hr, gK_mrk K hr, gK_sen K hr, gok_row hr, goA_ent hr, goA_mrk hr, goA_sen hr, gd_row0, gd_row8, if_false, Option.bind_some, gd_kR_r]
          rw [cMt_lat Mt, if_neg h1, c_isScored K hr W, h2]; rfl
        · rw [q_Mo_inquire, c_isAt_at K ((gS_698_18 S).trans hP) hP2 hk hb]
          simp only [gK_N K, gK_8_0 K, gK_8_1 K, gK_8_2 K, gK_8_3 K, gK_8_4 K, gK_8_5 K, gK_8_6 K, gK_8_7 K, gK_8_8 K, gK_10_0 K, gK_10_1 K, gK_10_2 K, gK_11_0 K, gK_15_0 K, gK_15_1 K, gK_15_2 K, gK_15_3 K, gK_20_0 K, gK_20_1 K, gK_20_2 K, gK_20_3 K, gK_20_4 K, gK_20_5 K, gK_698_0 K, gK_698_3 K, gK_698_16 K, gK_698_17 K, gK_698_20 K, gK_698_21 K, gK_698_22 K, gK_698_23 K, gK_698_24 K, gK_698_25 K, gK_698_26 K, gK_698_27 K, gK_698_28 K, gK_698_29 K, gK_698_30 K, gK_698_31 K, gK_698_32 K, gK_698_33 K, gK_698_34 K, gK_698_35 K, gK_698_36 K, gK_698_37 K, gK_698_38 K, gK_698_39 K, gK_698_41 K, gK_698_42 K, gK_698_44 K, gK_c K, gK_d K, gK_n K, gK_p K, gok_8, gok_10, gok_11, gok_15, gok_20, gok_698, gok_699, goA_9, goA_12, goA_13, goA_14, goA_16, goA_17, goA_18, goA_19, goA_21, goA_22, goA_23, goA_24, goA_25, goA_26, goA_27, goA_28, goA_29, goA_30, goA_31, goA_732, goA_733, goA_734, goA_735, goA_736, goA_737, goA_738, goA_739, goA_740, goA_741, goA_742, goA_743, goA_744, goA_745, goA_746, goA_747, goA_748, goA_749, goA_750, goA_751, goA_752, goA_753, goA_754, goA_755, goA_756, goA_757, gN_wI, gR_wI, gL_wI, if_true, eq_self, gS_n K S, gS_n5 K S, gS_n6 K S, gS_n7 K S, gS_n8 K S, gS_n9 K S, gS_n10 K S, gS_n11 K S, gS_n12 K S, gS_n13 K S, gS_n14 K S, gS_n15 K S, gS_732 S, gS_735 S, gS_736 S, gS_737 S, gS_738 S, gS_739 S, gS_740 S, gS_741 S, gS_742 S, gS_743 S, gS_744 S, gS_745 S, gS_746 S, gS_698_4 S, gS_698_14 S, gS_698_15 S, gS_698_18 S, gS_698_19 S, Option.bind_some, gd_kI_i, gm4, gn_add]
          rw [if_neg (show ¬ (1 : Int32) = 0 by decide), if_neg h1, c_MisPosted K hr S, h2]; rfl
      | true =>
        obtain ⟨hb1, hb2⟩ := gPo_t h2
        have hq : 0 ≤ s 745 (4 * k + b) ∧ s 745 (4 * k + b) ≤ s 698 19 := (iRow_pst (iAll_row I (4 * k + b) hr) hb1).resolve_left hb2
        have hle19 := Int32.not_lt.1 h1
        have hcmp := iq_cmp hq.1 (Int32.le_trans hq.2 hle19)
        have r1 : gI (wI (wI m (58 + 4 * (4 * k + b)) 14 1) 8 13 x) 28 k = Int32.ofNat l := by
          rw [gI_wI_a (by decide), gI_wI_a (by omega), cMt_lan Mt, hle]
        have r2 : gI (wI (wI m (58 + 4 * (4 * k + b)) 14 1) 8 13 x) 30 l = s 736 l := by
          rw [gI_wI_a (by decide), gI_wI_a (by omega), cMt_pai Mt]
        have r3 : ∀ y, gI (wI (wI (wI m (58 + 4 * (4 * k + b)) 14 1) 8 13 x) 30 l y) 28 k = Int32.ofNat l := fun y => by
          rw [gI_wI_a (by decide)]; exact r1
        have hX : gd_call 152 [.ref 8, .int (Int32.ofNat k), .int (Int32.ofNat b), .int x] m = if s 746 (4 * k + b) = 0 then (if 5 < x - s 745 (4 * k + b) then some (.int (-1), m) else some (.int (s 736 l + 1), wI (wI (wI m (58 + 4 * (4 * k + b)) 14 1) 8 13 x) 30 l (s 736 l + 1))) else some (.int (-1), m) := by
          rw [q_X_inquire, c_rowOf_at K ((cMt_ppl (cAll_mt C)).trans hP) hP2 hk hb]
          simp only [gK_N K, gK_8_0 K, gK_8_1 K, gK_8_2 K, gK_8_3 K, gK_8_4 K, gK_8_5 K, gK_8_6 K, gK_8_7 K, gK_8_8 K, gK_10_0 K, gK_10_1 K, gK_10_2 K, gK_11_0 K, gK_15_0 K, gK_15_1 K, gK_15_2 K, gK_15_3 K, gK_20_0 K, gK_20_1 K, gK_20_2 K, gK_20_3 K, gK_20_4 K, gK_20_5 K, gK_698_0 K, gK_698_3 K, gK_698_16 K, gK_698_17 K, gK_698_20 K, gK_698_21 K, gK_698_22 K, gK_698_23 K, gK_698_24 K, gK_698_25 K, gK_698_26 K, gK_698_27 K, gK_698_28 K, gK_698_29 K, gK_698_30 K, gK_698_31 K, gK_698_32 K, gK_698_33 K, gK_698_34 K, gK_698_35 K, gK_698_36 K, gK_698_37 K, gK_698_38 K, gK_698_39 K, gK_698_41 K, gK_698_42 K, gK_698_44 K, gK_c K, gK_d K, gK_n K, gK_p K, gok_8, gok_10, gok_11, gok_15, gok_20, gok_698, gok_699, goA_9, goA_12, goA_13, goA_14, goA_16, goA_17, goA_18, goA_19, goA_21, goA_22, goA_23, goA_24, goA_25, goA_26, goA_27, goA_28, goA_29, goA_30, goA_31, goA_732, goA_733, goA_734, goA_735, goA_736, goA_737, goA_738, goA_739, goA_740, goA_741, goA_742, goA_743, goA_744, goA_745, goA_746, goA_747, goA_748, goA_749, goA_750, goA_751, goA_752, goA_753, goA_754, goA_755, goA_756, goA_757, gN_wI, gR_wI, gL_wI, if_true, eq_self, gK_row K hr, gK_ent K hr, gK_mrk K hr, gK_sen K hr, gok_row hr, goA_ent hr, goA_mrk hr, goA_sen hr, gd_row0, gd_row8, if_false, Option.bind_some, gd_kR_r]
          rw [cMt_lat Mt, if_neg h1, c_isScored K hr W, h2]
          simp only [gK_N K, gK_8_0 K, gK_8_1 K, gK_8_2 K, gK_8_3 K, gK_8_4 K, gK_8_5 K, gK_8_6 K, gK_8_7 K, gK_8_8 K, gK_10_0 K, gK_10_1 K, gK_10_2 K, gK_11_0 K, gK_15_0 K, gK_15_1 K, gK_15_2 K, gK_15_3 K, gK_20_0 K, gK_20_1 K, gK_20_2 K, gK_20_3 K, gK_20_4 K, gK_20_5 K, gK_698_0 K, gK_698_3 K, gK_698_16 K, gK_698_17 K, gK_698_20 K, gK_698_21 K, gK_698_22 K, gK_698_23 K, gK_698_24 K, gK_698_25 K, gK_698_26 K, gK_698_27 K, gK_698_28 K, gK_698_29 K, gK_698_30 K, gK_698_31 K, gK_698_32 K, gK_698_33 K, gK_698_34 K, gK_698_35 K, gK_698_36 K, gK_698_37 K, gK_698_38 K, gK_698_39 K, gK_698_41 K, gK_698_42 K, gK_698_44 K, gK_c K, gK_d K, gK_n K, gK_p K, gok_8, gok_10, gok_11, gok_15, gok_20, gok_698, gok_699, goA_9, goA_12, goA_13, goA_14, goA_16, goA_17, goA_18, goA_19, goA_21, goA_22, goA_23, goA_24, goA_25, goA_26, goA_27, goA_28, goA_29, goA_30, goA_31, goA_732, goA_733, goA_734, goA_735, goA_736, goA_737, goA_738, goA_739, goA_740, goA_741, goA_742, goA_743, goA_744, goA_745, goA_746, goA_747, goA_748, goA_749, goA_750, goA_751, goA_752, goA_753, goA_754, goA_755, goA_756, goA_757, gN_wI, gR_wI, gL_wI, if_true, eq_self, gK_row K hr, gK_ent K hr, gK_mrk K hr, gK_sen K hr, gok_row hr, goA_ent hr, goA_mrk hr, goA_sen hr, gd_row0, gd_row8, if_false, Option.bind_some, gd_kI_i, gB_t]
          rw [if_neg (show ¬ (1 : Int32) = 0 by decide), cRw_inq W, cRw_pat W hb1 hb2]
          simp only [gn_in (show k < 2147483648 by omega) (show k < 40 by omega), gn_nat (show k < 2147483648 by omega), r1, r2, r3, gn_in (show l < 2147483648 by omega) (show l < 10 by omega), gn_nat (show l < 2147483648 by omega), if_true, gI_wI_s]
        have hM : ∀ m1, gK c d n p m1 → gSm n (gI m1) s → gd_call 153 [.ref 698, .int (Int32.ofNat k), .int (Int32.ofNat b), .int x] m1 = if s 746 (4 * k + b) = 0 then (if 5 < x - s 745 (4 * k + b) then some (.int (-1), m1) else some (.int (s 736 l + 1), wI (wI (wI m1 698 19 x) 746 (4 * k + b) 1) 736 l (s 736 l + 1))) else some (.int (-1), m1) := fun m1 K S => by
          have t1 : gI (wI (wI m1 698 19 x) 746 (4 * k + b) 1) 735 k = Int32.ofNat l := by
            rw [gI_wI_a (by decide), gI_wI_a (by decide), gS_735 S, hle]
          have t2 : gI (wI (wI m1 698 19 x) 746 (4 * k + b) 1) 736 l = s 736 l := by
            rw [gI_wI_a (by decide), gI_wI_a (by decide), gS_736 S]
          have t3 : ∀ y, gI (wI (wI (wI m1 698 19 x) 746 (4 * k + b) 1) 736 l y) 735 k = Int32.ofNat l := fun y => by
            rw [gI_wI_a (by decide)]; exact t1
          rw [q_Mo_inquire, c_isAt_at K ((gS_698_18 S).trans hP) hP2 hk hb]
          simp only [gK_N K, gK_8_0 K, gK_8_1 K, gK_8_2 K, gK_8_3 K, gK_8_4 K, gK_8_5 K, gK_8_6 K, gK_8_7 K, gK_8_8 K, gK_10_0 K, gK_10_1 K, gK_10_2 K, gK_11_0 K, gK_15_0 K, gK_15_1 K, gK_15_2 K, gK_15_3 K, gK_20_0 K, gK_20_1 K, gK_20_2 K, gK_20_3 K, gK_20_4 K, gK_20_5 K, gK_698_0 K, gK_698_3 K, gK_698_16 K, gK_698_17 K, gK_698_20 K, gK_698_21 K, gK_698_22 K, gK_698_23 K, gK_698_24 K, gK_698_25 K, gK_698_26 K, gK_698_27 K, gK_698_28 K, gK_698_29 K, gK_698_30 K, gK_698_31 K, gK_698_32 K, gK_698_33 K, gK_698_34 K, gK_698_35 K, gK_698_36 K, gK_698_37 K, gK_698_38 K, gK_698_39 K, gK_698_41 K, gK_698_42 K, gK_698_44 K, gK_c K, gK_d K, gK_n K, gK_p K, gok_8, gok_10, gok_11, gok_15, gok_20, gok_698, gok_699, goA_9, goA_12, goA_13, goA_14, goA_16, goA_17, goA_18, goA_19, goA_21, goA_22, goA_23, goA_24, goA_25, goA_26, goA_27, goA_28, goA_29, goA_30, goA_31, goA_732, goA_733, goA_734, goA_735, goA_736, goA_737, goA_738, goA_739, goA_740, goA_741, goA_742, goA_743, goA_744, goA_745, goA_746, goA_747, goA_748, goA_749, goA_750, goA_751, goA_752, goA_753, goA_754, goA_755, goA_756, goA_757, gN_wI, gR_wI, gL_wI, if_true, eq_self, gS_n K S, gS_n5 K S, gS_n6 K S, gS_n7 K S, gS_n8 K S, gS_n9 K S, gS_n10 K S, gS_n11 K S, gS_n12 K S, gS_n13 K S, gS_n14 K S, gS_n15 K S, gS_732 S, gS_735 S, gS_736 S, gS_737 S, gS_738 S, gS_739 S, gS_740 S, gS_741 S, gS_742 S, gS_743 S, gS_744 S, gS_745 S, gS_746 S, gS_698_4 S, gS_698_14 S, gS_698_15 S, gS_698_18 S, gS_698_19 S, Option.bind_some, gd_kI_i, gm4, gn_add]
          rw [if_neg (show ¬ (1 : Int32) = 0 by decide), if_neg h1, c_MisPosted K hr S, h2]
          simp only [gK_N K, gK_8_0 K, gK_8_1 K, gK_8_2 K, gK_8_3 K, gK_8_4 K, gK_8_5 K, gK_8_6 K, gK_8_7 K, gK_8_8 K, gK_10_0 K, gK_10_1 K, gK_10_2 K, gK_11_0 K, gK_15_0 K, gK_15_1 K, gK_15_2 K, gK_15_3 K, gK_20_0 K, gK_20_1 K, gK_20_2 K, gK_20_3 K, gK_20_4 K, gK_20_5 K, gK_698_0 K, gK_698_3 K, gK_698_16 K, gK_698_17 K, gK_698_20 K, gK_698_21 K, gK_698_22 K, gK_698_23 K, gK_698_24 K, gK_698_25 K, gK_698_26 K, gK_698_27 K, gK_698_28 K, gK_698_29 K, gK_698_30 K, gK_698_31 K, gK_698_32 K, gK_698_33 K, gK_698_34 K, gK_698_35 K, gK_698_36 K, gK_698_37 K, gK_698_38 K, gK_698_39 K, gK_698_41 K, gK_698_42 K, gK_698_44 K, gK_c K, gK_d K, gK_n K, gK_p K, gok_8, gok_10, gok_11, gok_15, gok_20, gok_698, gok_699, goA_9, goA_12, goA_13, goA_14, goA_16, goA_17, goA_18, goA_19, goA_21, goA_22, goA_23, goA_24, goA_25, goA_26, goA_27, goA_28, goA_29, goA_30, goA_31, goA_732, goA_733, goA_734, goA_735, goA_736, goA_737, goA_738, goA_739, goA_740, goA_741, goA_742, goA_743, goA_744, goA_745, goA_746, goA_747, goA_748, goA_749, goA_750, goA_751, goA_752, goA_753, goA_754, goA_755, goA_756, goA_757, gN_wI, gR_wI, gL_wI, if_true, eq_self, gS_n K S, gS_n5 K S, gS_n6 K S, gS_n7 K S, gS_n8 K S, gS_n9 K S, gS_n10 K S, gS_n11 K S, gS_n12 K S, gS_n13 K S, gS_n14 K S, gS_n15 K S, gS_732 S, gS_735 S, gS_736 S, gS_737 S, gS_738 S, gS_739 S, gS_740 S, gS_741 S, gS_742 S, gS_743 S, gS_744 S, gS_745 S, gS_746 S, gS_698_4 S, gS_698_14 S, gS_698_15 S, gS_698_18 S, gS_698_19 S, Option.bind_some, gd_kI_i, gB_t, gn_in (show (4 * k + b) < 2147483648 by omega) hr, gn_nat (show (4 * k + b) < 2147483648 by omega)]
          rw [if_neg (show ¬ (1 : Int32) = 0 by decide)]
          simp only [gn_in (show k < 2147483648 by omega) (show k < 40 by omega), gn_nat (show k < 2147483648 by omega), t1, t2, t3, gn_in (show l < 2147483648 by omega) (show l < 10 by omega), gn_nat (show l < 2147483648 by omega), if_true, gI_wI_s]
          by_cases q5 : 5 < x - s 745 (4 * k + b)
          · rw [if_pos (hcmp.2 q5), if_pos q5]
            by_cases q6 : s 746 (4 * k + b) = 0
            · rw [if_pos q6]
            · rw [if_neg q6]
          · rw [if_neg (fun t => q5 (hcmp.1 t)), if_neg q5]
        by_cases q6 : s 746 (4 * k + b) = 0
        · by_cases q5 : 5 < x - s 745 (4 * k + b)
          · exact gPr_of R (v := -1) (s' := s) ⟨m, by rw [hX, if_pos q6, if_pos q5], oX_refl, C⟩ (fun m1 K S H => ⟨m1, by rw [hM m1 K S, if_pos q6, if_pos q5], oM_refl, S, H⟩) I
          · have hI := iAll_iq I hn hr (l := l) (x := x) hle19 hb2
            have hcd := sIq_c (s := s) (r := (4 * k + b)) (l := l) hn (x := x)
            have u : ∀ q, q ≠ 8 → q ≠ 30 → q ≠ 58 + 4 * (4 * k + b) → gI (wI (wI (wI m (58 + 4 * (4 * k + b)) 14 1) 8 13 x) 30 l (s 736 l + 1)) q = gI m q := fun q q1 q2 q3 => by
              rw [gI_wI_f q2, gI_wI_f q1, gI_wI_f q3]
            have u8 : ∀ j, gI (wI (wI (wI m (58 + 4 * (4 * k + b)) 14 1) 8 13 x) 30 l (s 736 l + 1)) 8 j = if j = 13 then x else gI m 8 j := fun j => by
              rw [gI_wI_a (by decide), gI_wI_m, gI_wI_a (by omega)]
            have u30 : ∀ j, gI (wI (wI (wI m (58 + 4 * (4 * k + b)) 14 1) 8 13 x) 30 l (s 736 l + 1)) 30 j = if j = l then s 736 l + 1 else gI m 30 j := fun j => by
              rw [gI_wI_m, gI_wI_a (by decide), gI_wI_a (by omega)]
            have ur : ∀ j, gI (wI (wI (wI m (58 + 4 * (4 * k + b)) 14 1) 8 13 x) 30 l (s 736 l + 1)) (58 + 4 * (4 * k + b)) j = if j = 14 then 1 else gI m (58 + 4 * (4 * k + b)) j := fun j => by
              rw [gI_wI_a (by omega), gI_wI_a (by omega), gI_wI_m]
            refine gPr_of R (v := s 736 l + 1) (s' := sIq s (4 * k + b) l x) ⟨_, by rw [hX, if_pos q6, if_neg q5], oX_w (oX_w (oX_w oX_refl (by omega)) (by decide)) (by decide), ?_⟩ (fun m1 K S H => ⟨_, by rw [hM m1 K S, if_pos q6, if_neg q5], oM_w (oM_w (oM_w oM_refl (by decide)) (by decide)) (by decide), gSm_w (gSm_w (gSm_w S)), gCh_e H hcd (sIq_f (by decide)) (sIq_f (by decide)) (sIq_f (by decide)) (by rw [gI_wI_f (by decide), gI_wI_f (by decide), gI_wI_f (by decide)]) (by rw [gI_wI_f (by decide), gI_wI_f (by decide), gI_wI_f (by decide)]) (by rw [gI_wI_f (by decide), gI_wI_f (by decide), gI_wI_f (by decide)])⟩) hI
            refine cAll_row2 hc C hr (fun q q1 q2 => u q (by omega) (by omega) (by omega)) hcd (fun q hq hne => sIq_e hne) ?_ ?_
            · refine ⟨?_, fun i => ?_, ?_, ?_, ?_, ?_, fun g => ?_, fun g hg a ha => ?_, fun j => ?_, ?_⟩
              · rw [u8, if_neg (by decide), sIq_698, if_neg (by decide)]; exact cMt_tpd Mt
              · rw [u 9 (by decide) (by decide) (by omega), sIq_f (by decide)]; exact cMt_tap Mt i
              · rw [u 10 (by decide) (by decide) (by omega), sIq_698, if_neg (by decide)]; exact cMt_fkd Mt
              · rw [u 10 (by decide) (by decide) (by omega), sIq_698, if_neg (by decide)]; exact cMt_fpl Mt
              · rw [u8, if_neg (by decide), sIq_698, if_neg (by decide)]; exact cMt_ppl Mt
              · rw [u8, if_pos rfl, sIq_698, if_pos rfl]
              · rw [u 28 (by decide) (by decide) (by omega), sIq_f (by decide)]; exact cMt_lan Mt g
              · rw [u 29 (by decide) (by decide) (by omega), sIq_f (by decide)]; exact cMt_gon Mt g hg a ha
              · rw [u30, sIq_736, cMt_pai Mt]
              · rw [u8, if_neg (by decide), sIq_698, if_neg (by decide), cMt_pos Mt, gPc_c (s := s) (s' := sIq s (4 * k + b) l x) _ fun q _ => ⟨by rw [sIq_f (by decide)], by rw [sIq_f (by decide)]⟩]
            · refine ⟨?_, ?_, fun i hi => ?_, fun j hj => ?_, ?_, ?_, ?_, fun f hf i => ?_, fun q => ?_, fun q1 q2 => ?_, fun q1 q2 => ?_, fun q1 q2 => ?_⟩
              · rw [ur, if_neg (by decide), sIq_f (by decide)]; exact (by have q := cRw_bgn W; exact q)
              · rw [ur, if_neg (by decide), sIq_f (by decide)]; exact (by have q := cRw_len W; exact q)
              · rw [u _ (by omega) (by omega) (by omega), sIq_f (by decide)]; exact cRw_ent W i hi
              · rw [u _ (by omega) (by omega) (by omega), sIq_f (by decide)]; exact cRw_mrk W j hj
              · rw [ur, if_neg (by decide), sIq_f (by decide)]; exact (by have q := cRw_mkd W; exact q)
              · rw [ur, if_neg (by decide), sIq_f (by decide)]; exact (by have q := cRw_ask W; exact q)
              · rw [ur, if_pos rfl, sIq_746, if_pos rfl]
              · rw [u _ (by omega) (by omega) (by omega), sIq_f (by decide)]; exact cRw_sen W f hf i
              · rw [sIq_f (by decide)] at q
                rw [ur, if_neg (by decide), sIq_f (by decide)]; exact cRw_pst W q
              · rw [sIq_f (by decide)] at q1 q2
                rw [ur, if_neg (by decide), sIq_f (by decide)]; exact cRw_pat W hb1 hb2
              · rw [ur, if_neg (by decide)] at q2
                rw [ur, if_neg (by decide), ur, if_neg (by decide), sIq_En, sIq_f (by decide)]
                exact cRw_sta W hb1 q2
              · rw [ur, if_neg (by decide), ur, if_neg (by decide), ur, if_neg (by decide), sIq_En, sIq_Mk, sIq_Sn, sIq_f (by decide)]
                exact cRw_don W hb1 hb2
        · exact gPr_of R (v := -1) (s' := s) ⟨m, by rw [hX, if_neg q6], oX_refl, C⟩ (fun m1 K S H => ⟨m1, by rw [hM m1 K S, if_neg q6], oM_refl, S, H⟩) I
end P83
