/-! ===== mark, the pair ===== -/
theorem gCh_e {n : Nat} {J J' s s' : gd_C} (h : gCh n J s) (hc : gCd n s' = gCd n s) (e8 : s' 738 = s 738) (e9 : s' 739 = s 739) (e0 : s' 740 = s 740) (j7 : J' 747 = J 747) (j8 : J' 748 = J 748) (j9 : J' 749 = J 749) : gCh n J' s' := by
  intro r hr q1 q2
  rw [e8] at q1
  rw [j9] at q2
  have e : gEn s' r = gEn s r := funext fun i => by unfold gEn; rw [e0]
  rw [hc, e9, e, j7, j8]
  exact h r hr q1 q2
section P77
variable {c d n p : Nat} {m : gd_M} {s : gd_C}
theorem c_in100 (x : Int32) (m : gd_M) : gd_call 71 [.int x, .int 0, .int 100] m = some (.int (gB (gIs 101 x)), m) := c_in (N := 101) (by decide) x m
theorem gIs_f {N : Nat} {x : Int32} (h : gIs (N + 1) x = false) (hN : N < 2147483647) : x < 0 ∨ Int32.ofNat N < x := by
  by_cases h0 : x < 0
  · exact .inl h0
  · obtain ⟨k, hk, rfl⟩ := gn_pos (Int32.not_lt.1 h0)
    rw [gIs_n (by omega) hk] at h
    have := of_decide_eq_false h
    exact .inr ((gn_lt (by omega) hk).2 (by omega))
theorem P_mark (R : gRel c d n p m s) (g a y x : Int32) : gPr 111 113 [.int g, .int a, .int y, .int x] m := by
  obtain ⟨K, I, C, S, H⟩ := id R
  obtain ⟨P, -, hP2, hP⟩ := iAll_ppl I
  have hn := gK_n1 K
  obtain ⟨N, hN1, hN6, hNe⟩ := iCd_pan (iAll_cod I)
  cases h : gAt P g a with
  | false =>
    refine gPr_of R (v := -2) (s' := s) ⟨m, ?_, oX_refl, C⟩ (fun m1 K S H => ⟨m1, ?_, oM_refl, S, H⟩) I
    · rw [q_X_mark, c_rowOf_no K ((cMt_ppl (cAll_mt C)).trans hP) h]
      simp only [gK_N K, gK_8_0 K, gK_8_1 K, gK_8_2 K, gK_8_3 K, gK_8_4 K, gK_8_5 K, gK_8_6 K, gK_8_7 K, gK_8_8 K, gK_10_0 K, gK_10_1 K, gK_10_2 K, gK_11_0 K, gK_15_0 K, gK_15_1 K, gK_15_2 K, gK_15_3 K, gK_20_0 K, gK_20_1 K, gK_20_2 K, gK_20_3 K, gK_20_4 K, gK_20_5 K, gK_698_0 K, gK_698_3 K, gK_698_16 K, gK_698_17 K, gK_698_20 K, gK_698_21 K, gK_698_22 K, gK_698_23 K, gK_698_24 K, gK_698_25 K, gK_698_26 K, gK_698_27 K, gK_698_28 K, gK_698_29 K, gK_698_30 K, gK_698_31 K, gK_698_32 K, gK_698_33 K, gK_698_34 K, gK_698_35 K, gK_698_36 K, gK_698_37 K, gK_698_38 K, gK_698_39 K, gK_698_41 K, gK_698_42 K, gK_698_44 K, gK_c K, gK_d K, gK_n K, gK_p K, gok_8, gok_10, gok_11, gok_15, gok_20, gok_698, gok_699, goA_9, goA_12, goA_13, goA_14, goA_16, goA_17, goA_18, goA_19, goA_21, goA_22, goA_23, goA_24, goA_25, goA_26, goA_27, goA_28, goA_29, goA_30, goA_31, goA_732, goA_733, goA_734, goA_735, goA_736, goA_737, goA_738, goA_739, goA_740, goA_741, goA_742, goA_743, goA_744, goA_745, goA_746, goA_747, goA_748, goA_749, goA_750, goA_751, goA_752, goA_753, goA_754, goA_755, goA_756, goA_757, gN_wI, gR_wI, gL_wI, if_true, eq_self, Option.bind_some, gd_kR_r]
    · rw [q_Mo_mark, c_isAt_no K ((gS_698_18 S).trans hP) hP2 h]
      simp only [gK_N K, gK_8_0 K, gK_8_1 K, gK_8_2 K, gK_8_3 K, gK_8_4 K, gK_8_5 K, gK_8_6 K, gK_8_7 K, gK_8_8 K, gK_10_0 K, gK_10_1 K, gK_10_2 K, gK_11_0 K, gK_15_0 K, gK_15_1 K, gK_15_2 K, gK_15_3 K, gK_20_0 K, gK_20_1 K, gK_20_2 K, gK_20_3 K, gK_20_4 K, gK_20_5 K, gK_698_0 K, gK_698_3 K, gK_698_16 K, gK_698_17 K, gK_698_20 K, gK_698_21 K, gK_698_22 K, gK_698_23 K, gK_698_24 K, gK_698_25 K, gK_698_26 K, gK_698_27 K, gK_698_28 K, gK_698_29 K, gK_698_30 K, gK_698_31 K, gK_698_32 K, gK_698_33 K, gK_698_34 K, gK_698_35 K, gK_698_36 K, gK_698_37 K, gK_698_38 K, gK_698_39 K, gK_698_41 K, gK_698_42 K, gK_698_44 K, gK_c K, gK_d K, gK_n K, gK_p K, gok_8, gok_10, gok_11, gok_15, gok_20, gok_698, gok_699, goA_9, goA_12, goA_13, goA_14, goA_16, goA_17, goA_18, goA_19, goA_21, goA_22, goA_23, goA_24, goA_25, goA_26, goA_27, goA_28, goA_29, goA_30, goA_31, goA_732, goA_733, goA_734, goA_735, goA_736, goA_737, goA_738, goA_739, goA_740, goA_741, goA_742, goA_743, goA_744, goA_745, goA_746, goA_747, goA_748, goA_749, goA_750, goA_751, goA_752, goA_753, goA_754, goA_755, goA_756, goA_757, gN_wI, gR_wI, gL_wI, if_true, eq_self, Option.bind_some, gd_kI_i]
  | true =>
    obtain ⟨k, b, hk, hb, rfl, rfl⟩ := gAt_t hP2 h
    have hr : 4 * k + b < 160 := by omega
    have W := cAll_rw C (4 * k + b) hr
    -- as far as the judge and the mark
    have hX1 : gd_call 111 [.ref 8, .int (Int32.ofNat k), .int (Int32.ofNat b), .int y, .int x] m = if gIs N y = true then (if gIs 101 x = true then (if gOp s (4 * k + b) = true then ((gd_call 106 [.ref (58 + 4 * (4 * k + b)), .int y] m).bind (gd_kI fun z27 m25 => if (z27 = 0 : Prop) then (some (.int (-1), m25)) else (if gd_ok (gN m25) 8 6 = true then (if gd_ok (gN m25) (gR m25 8 9) 1 = true then (if gd_okA (gN m25) (gR m25 (gR m25 8 9) 11) 10 3 = true then (if gd_okA (gN m25) (gR m25 (gR m25 8 9) 11) 10 4 = true then (if gd_ok (gN m25) (58 + 4 * (4 * k + b)) 4 = true then ((gd_call 110 [.ref (58 + 4 * (4 * k + b)), .int y, .int x, .int (gI m25 (gR m25 (gR m25 8 9) 11) (3 : Int32).toNatClampNeg), .int (gI m25 (gR m25 (gR m25 8 9) 11) (4 : Int32).toNatClampNeg)] m25).bind (gd_kV fun m35 => if gd_ok (gN m35) (58 + 4 * (4 * k + b)) 4 = true then (some (.int (gI m35 (58 + 4 * (4 * k + b)) 7), m35)) else none)) else none) else none) else none) else none) else none))) else some (.int (-1), m)) else some (.int (-2), m)) else some (.int (-2), m) := by
      rw [q_X_mark, c_rowOf_at K ((cMt_ppl (cAll_mt C)).trans hP) hP2 hk hb]
      simp only [gK_N K, gK_8_0 K, gK_8_1 K, gK_8_2 K, gK_8_3 K, gK_8_4 K, gK_8_5 K, gK_8_6 K, gK_8_7 K, gK_8_8 K, gK_10_0 K, gK_10_1 K, gK_10_2 K, gK_11_0 K, gK_15_0 K, gK_15_1 K, gK_15_2 K, gK_15_3 K, gK_20_0 K, gK_20_1 K, gK_20_2 K, gK_20_3 K, gK_20_4 K, gK_20_5 K, gK_698_0 K, gK_698_3 K, gK_698_16 K, gK_698_17 K, gK_698_20 K, gK_698_21 K, gK_698_22 K, gK_698_23 K, gK_698_24 K, gK_698_25 K, gK_698_26 K, gK_698_27 K, gK_698_28 K, gK_698_29 K, gK_698_30 K, gK_698_31 K, gK_698_32 K, gK_698_33 K, gK_698_34 K, gK_698_35 K, gK_698_36 K, gK_698_37 K, gK_698_38 K, gK_698_39 K, gK_698_41 K, gK_698_42 K, gK_698_44 K, gK_c K, gK_d K, gK_n K, gK_p K, gok_8, gok_10, gok_11, gok_15, gok_20, gok_698, gok_699, goA_9, goA_12, goA_13, goA_14, goA_16, goA_17, goA_18, goA_19, goA_21, goA_22, goA_23, goA_24, goA_25, goA_26, goA_27, goA_28, goA_29, goA_30, goA_31, goA_732, goA_733, goA_734, goA_735, goA_736, goA_737, goA_738, goA_739, goA_740, goA_741, goA_742, goA_743, goA_744, goA_745, goA_746, goA_747, goA_748, goA_749, goA_750, goA_751, goA_752, goA_753, goA_754, goA_755, goA_756, goA_757, gN_wI, gR_wI, gL_wI, if_true, eq_self, gK_row K hr, gK_ent K hr, gK_mrk K hr, gK_sen K hr, gok_row hr, goA_ent hr, goA_mrk hr, goA_sen hr, gd_row0, gd_row8, if_false, Option.bind_some, gd_kR_r]
      rw [c_isJudge K (cAll_cd C) hNe]
      simp only [Option.bind_some, gd_kI_i, gB_0]
      cases h1 : gIs N y with
      | false => rfl
      | true =>
        rw [if_neg (show ¬ true = false by decide), c_isOpen K hr W]
        simp only [gK_N K, gK_8_0 K, gK_8_1 K, gK_8_2 K, gK_8_3 K, gK_8_4 K, gK_8_5 K, gK_8_6 K, gK_8_7 K, gK_8_8 K, gK_10_0 K, gK_10_1 K, gK_10_2 K, gK_11_0 K, gK_15_0 K, gK_15_1 K, gK_15_2 K, gK_15_3 K, gK_20_0 K, gK_20_1 K, gK_20_2 K, gK_20_3 K, gK_20_4 K, gK_20_5 K, gK_698_0 K, gK_698_3 K, gK_698_16 K, gK_698_17 K, gK_698_20 K, gK_698_21 K, gK_698_22 K, gK_698_23 K, gK_698_24 K, gK_698_25 K, gK_698_26 K, gK_698_27 K, gK_698_28 K, gK_698_29 K, gK_698_30 K, gK_698_31 K, gK_698_32 K, gK_698_33 K, gK_698_34 K, gK_698_35 K, gK_698_36 K, gK_698_37 K, gK_698_38 K, gK_698_39 K, gK_698_41 K, gK_698_42 K, gK_698_44 K, gK_c K, gK_d K, gK_n K, gK_p K, gok_8, gok_10, gok_11, gok_15, gok_20, gok_698, gok_699, goA_9, goA_12, goA_13, goA_14, goA_16, goA_17, goA_18, goA_19, goA_21, goA_22, goA_23, goA_24, goA_25, goA_26, goA_27, goA_28, goA_29, goA_30, goA_31, goA_732, goA_733, goA_734, goA_735, goA_736, goA_737, goA_738, goA_739, goA_740, goA_741, goA_742, goA_743, goA_744, goA_745, goA_746, goA_747, goA_748, goA_749, goA_750, goA_751, goA_752, goA_753, goA_754, goA_755, goA_756, goA_757, gN_wI, gR_wI, gL_wI, if_true, eq_self, gK_row K hr, gK_ent K hr, gK_mrk K hr, gK_sen K hr, gok_row hr, goA_ent hr, goA_mrk hr, goA_sen hr, gd_row0, gd_row8, if_false, Option.bind_some, gd_kI_i, gB_0]
        cases h2 : gIs 101 x with
        | false =>
          rcases gIs_f h2 (by decide) with q | q
          · rw [if_pos q]; rfl
          · by_cases q0 : x < 0
            · rw [if_pos q0]; rfl
            · rw [if_neg q0, if_pos (show (100 : Int32) < x from q)]; rfl
        | true =>
          obtain ⟨w, hw, rfl⟩ := gIs_t (by decide) h2
          have q0 : ¬ Int32.ofNat w < 0 := by rw [Int32.lt_iff_toInt_lt, gn_toInt (by omega)]; simp
          have q1 : ¬ (100 : Int32) < Int32.ofNat w := fun q => by have := (gnla_100 (by decide) (by omega)).1 q; omega
          rw [if_neg q0, if_neg q1]
          cases h3 : gOp s (4 * k + b) with
          | false => rfl
          | true => rfl
    have hM1 : ∀ m1, gK c d n p m1 → gSm n (gI m1) s → gd_call 113 [.ref 698, .int (Int32.ofNat k), .int (Int32.ofNat b), .int y, .int x] m1 = if gIs N y = true then (if gIs 101 x = true then (if gOp s (4 * k + b) = true then (if gd_in (Int32.ofNat (6 * (4 * k + b)) + y) 960 = true then (if s 741 (Int32.ofNat (6 * (4 * k + b)) + y).toNatClampNeg = -1 then gd_Den (113, 92, [.ref 698, .int (Int32.ofNat k), .int (Int32.ofNat b), .int y, .int x, .int (Int32.ofNat (4 * k + b)), .int (Int32.ofNat (6 * (4 * k + b)) + y), .null], [], m1) else (if ((s 743 (4 * k + b) >>> (y &&& 31)) &&& 1) = 0 then some (.int (-1), m1) else gd_Den (113, 92, [.ref 698, .int (Int32.ofNat k), .int (Int32.ofNat b), .int y, .int x, .int (Int32.ofNat (4 * k + b)), .int (Int32.ofNat (6 * (4 * k + b)) + y), .null], [], m1))) else none) else some (.int (-1), m1)) else some (.int (-2), m1)) else some (.int (-2), m1) := fun m1 K S => by
      rw [q_Mo_mark, c_isAt_at K ((gS_698_18 S).trans hP) hP2 hk hb]
      simp only [gK_N K, gK_8_0 K, gK_8_1 K, gK_8_2 K, gK_8_3 K, gK_8_4 K, gK_8_5 K, gK_8_6 K, gK_8_7 K, gK_8_8 K, gK_10_0 K, gK_10_1 K, gK_10_2 K, gK_11_0 K, gK_15_0 K, gK_15_1 K, gK_15_2 K, gK_15_3 K, gK_20_0 K, gK_20_1 K, gK_20_2 K, gK_20_3 K, gK_20_4 K, gK_20_5 K, gK_698_0 K, gK_698_3 K, gK_698_16 K, gK_698_17 K, gK_698_20 K, gK_698_21 K, gK_698_22 K, gK_698_23 K, gK_698_24 K, gK_698_25 K, gK_698_26 K, gK_698_27 K, gK_698_28 K, gK_698_29 K, gK_698_30 K, gK_698_31 K, gK_698_32 K, gK_698_33 K, gK_698_34 K, gK_698_35 K, gK_698_36 K, gK_698_37 K, gK_698_38 K, gK_698_39 K, gK_698_41 K, gK_698_42 K, gK_698_44 K, gK_c K, gK_d K, gK_n K, gK_p K, gok_8, gok_10, gok_11, gok_15, gok_20, gok_698, gok_699, goA_9, goA_12, goA_13, goA_14, goA_16, goA_17, goA_18, goA_19, goA_21, goA_22, goA_23, goA_24, goA_25, goA_26, goA_27, goA_28, goA_29, goA_30, goA_31, goA_732, goA_733, goA_734, goA_735, goA_736, goA_737, goA_738, goA_739, goA_740, goA_741, goA_742, goA_743, goA_744, goA_745, goA_746, goA_747, goA_748, goA_749, goA_750, goA_751, goA_752, goA_753, goA_754, goA_755, goA_756, goA_757, gN_wI, gR_wI, gL_wI, if_true, eq_self, Option.bind_some, gd_kI_i]
      rw [if_neg (show ¬ (1 : Int32) = 0 by decide), gok_n K, if_pos rfl, gS_n K S, hNe, c_in (by omega)]
      simp only [Option.bind_some, gd_k0I_i, gB_0]
      cases h1 : gIs N y with
      | false => rfl
      | true =>
        rw [if_neg (show ¬ true = false by decide), c_in100]
        simp only [Option.bind_some, gd_k0I_i, gB_0]
        cases h2 : gIs 101 x with
        | false => rfl
        | true =>
          rw [if_neg (show ¬ true = false by decide)]
          simp only [gm4, gn_add]
          rw [c_MisOpen K hr S]
          simp only [gK_N K, gK_8_0 K, gK_8_1 K, gK_8_2 K, gK_8_3 K, gK_8_4 K, gK_8_5 K, gK_8_6 K, gK_8_7 K, gK_8_8 K, gK_10_0 K, gK_10_1 K, gK_10_2 K, gK_11_0 K, gK_15_0 K, gK_15_1 K, gK_15_2 K, gK_15_3 K, gK_20_0 K, gK_20_1 K, gK_20_2 K, gK_20_3 K, gK_20_4 K, gK_20_5 K, gK_698_0 K, gK_698_3 K, gK_698_16 K, gK_698_17 K, gK_698_20 K, gK_698_21 K, gK_698_22 K, gK_698_23 K, gK_698_24 K, gK_698_25 K, gK_698_26 K, gK_698_27 K, gK_698_28 K, gK_698_29 K, gK_698_30 K, gK_698_31 K, gK_698_32 K, gK_698_33 K, gK_698_34 K, gK_698_35 K, gK_698_36 K, gK_698_37 K, gK_698_38 K, gK_698_39 K, gK_698_41 K, gK_698_42 K, gK_698_44 K, gK_c K, gK_d K, gK_n K, gK_p K, gok_8, gok_10, gok_11, gok_15, gok_20, gok_698, gok_699, goA_9, goA_12, goA_13, goA_14, goA_16, goA_17, goA_18, goA_19, goA_21, goA_22, goA_23, goA_24, goA_25, goA_26, goA_27, goA_28, goA_29, goA_30, goA_31, goA_732, goA_733, goA_734, goA_735, goA_736, goA_737, goA_738, goA_739, goA_740, goA_741, goA_742, goA_743, goA_744, goA_745, goA_746, goA_747, goA_748, goA_749, goA_750, goA_751, goA_752, goA_753, goA_754, goA_755, goA_756, goA_757, gN_wI, gR_wI, gL_wI, if_true, eq_self, Option.bind_some, gd_kI_i, gB_0]
          cases h3 : gOp s (4 * k + b) with
          | false => rfl
          | true =>
            rw [if_neg (show ¬ true = false by decide)]
            simp only [gS_n K S, gS_n5 K S, gS_n6 K S, gS_n7 K S, gS_n8 K S, gS_n9 K S, gS_n10 K S, gS_n11 K S, gS_n12 K S, gS_n13 K S, gS_n14 K S, gS_n15 K S, gS_732 S, gS_735 S, gS_736 S, gS_737 S, gS_738 S, gS_739 S, gS_740 S, gS_741 S, gS_742 S, gS_743 S, gS_744 S, gS_745 S, gS_746 S, gS_698_4 S, gS_698_14 S, gS_698_15 S, gS_698_18 S, gS_698_19 S, gm6, gn_in (show 4 * k + b < 2147483648 by omega) hr, gn_nat (show 4 * k + b < 2147483648 by omega), if_true]
    cases h1 : gIs N y with
    | false => exact gPr_of R (v := -2) (s' := s) ⟨m, by rw [hX1, h1]; rfl, oX_refl, C⟩ (fun m1 K S H => ⟨m1, by rw [hM1 m1 K S, h1]; rfl, oM_refl, S, H⟩) I
    | true =>
      cases h2 : gIs 101 x with
      | false => exact gPr_of R (v := -2) (s' := s) ⟨m, by rw [hX1, h1, h2]; rfl, oX_refl, C⟩ (fun m1 K S H => ⟨m1, by rw [hM1 m1 K S, h1, h2]; rfl, oM_refl, S, H⟩) I
      | true =>
        cases h3 : gOp s (4 * k + b) with
        | false => exact gPr_of R (v := -1) (s' := s) ⟨m, by rw [hX1, h1, h2, h3]; rfl, oX_refl, C⟩ (fun m1 K S H => ⟨m1, by rw [hM1 m1 K S, h1, h2, h3]; rfl, oM_refl, S, H⟩) I
        | true =>
          obtain ⟨hb1, hb2⟩ := gOp_t h3
          obtain ⟨j, hj, rfl⟩ := gIs_t (by omega) h1
          have hx : gMkOk x := by
            obtain ⟨w, hw, rfl⟩ := gIs_t (by decide) h2
            exact .inr ⟨w, Nat.zero_le w, by omega, rfl⟩
          have hok : ∀ i < 6, gMkOk (s 741 (6 * (4 * k + b) + i)) := fun i hi => iRow_mrk (iAll_row I (4 * k + b) hr) hb1 i hi
          have hcd : ∀ q, gCd n (sMk (fun i => s 741 (6 * (4 * k + b) + i)) (4 * k + b) j N x (gCd n s 0 22) (s 743 (4 * k + b)) (s 742 (4 * k + b)) q) = gCd n q := fun q => gCd_c fun i hi => sMk_f (by omega)
          have htk := c_takes K hr (show j < 6 by omega) (fun i hi => cRw_mrk W i hi) (cRw_ask W) (mk := fun i => s 741 (6 * (4 * k + b) + i))
          have hX2 : gd_call 111 [.ref 8, .int (Int32.ofNat k), .int (Int32.ofNat b), .int (Int32.ofNat j), .int x] m = if gTk (fun i => s 741 (6 * (4 * k + b) + i)) (s 743 (4 * k + b)) j = true then some (.int (vMd (fun i => s 741 (6 * (4 * k + b) + i)) j (s 742 (4 * k + b))), pMk (fun i => s 741 (6 * (4 * k + b) + i)) (4 * k + b) j N x (gCd n s 0 22) (s 743 (4 * k + b)) (s 742 (4 * k + b)) m) else some (.int (-1), m) := by
            rw [hX1, h1, h2, h3, if_pos rfl, if_pos rfl, if_pos rfl, htk]
            simp only [gK_N K, gK_8_0 K, gK_8_1 K, gK_8_2 K, gK_8_3 K, gK_8_4 K, gK_8_5 K, gK_8_6 K, gK_8_7 K, gK_8_8 K, gK_10_0 K, gK_10_1 K, gK_10_2 K, gK_11_0 K, gK_15_0 K, gK_15_1 K, gK_15_2 K, gK_15_3 K, gK_20_0 K, gK_20_1 K, gK_20_2 K, gK_20_3 K, gK_20_4 K, gK_20_5 K, gK_698_0 K, gK_698_3 K, gK_698_16 K, gK_698_17 K, gK_698_20 K, gK_698_21 K, gK_698_22 K, gK_698_23 K, gK_698_24 K, gK_698_25 K, gK_698_26 K, gK_698_27 K, gK_698_28 K, gK_698_29 K, gK_698_30 K, gK_698_31 K, gK_698_32 K, gK_698_33 K, gK_698_34 K, gK_698_35 K, gK_698_36 K, gK_698_37 K, gK_698_38 K, gK_698_39 K, gK_698_41 K, gK_698_42 K, gK_698_44 K, gK_c K, gK_d K, gK_n K, gK_p K, gok_8, gok_10, gok_11, gok_15, gok_20, gok_698, gok_699, goA_9, goA_12, goA_13, goA_14, goA_16, goA_17, goA_18, goA_19, goA_21, goA_22, goA_23, goA_24, goA_25, goA_26, goA_27, goA_28, goA_29, goA_30, goA_31, goA_732, goA_733, goA_734, goA_735, goA_736, goA_737, goA_738, goA_739, goA_740, goA_741, goA_742, goA_743, goA_744, goA_745, goA_746, goA_747, goA_748, goA_749, goA_750, goA_751, goA_752, goA_753, goA_754, goA_755, goA_756, goA_757, gN_wI, gR_wI, gL_wI, if_true, eq_self, gok_c K, gok_d K, gok_n K, gok_p K, gK_c_0 K, gK_c_1 K, gK_c_2 K, gK_c_3 K, gK_c_4 K, gK_c_5 K, gK_c_6 K, gK_c_7 K, gK_c_8 K, gK_c_9 K, gK_c_10 K, gK_c_11 K, gK_n_3 K, gK_n_4 K, gK_n_5 K, gK_n_6 K, gK_n_7 K, gK_n_8 K, gK_n_9 K, gK_n_10 K, gK_n_11 K, gK_n_12 K, gK_n_13 K, gK_n_14 K, gK_n_15 K, gK_n_16 K, gK_n_17 K, goA_c1 K, goA_c2 K, goA_c3 K, goA_c4 K, goA_c5 K, goA_c6 K, goA_c7 K, goA_c8 K, goA_c9 K, goA_c10 K, goA_c11 K, goA_c12 K, goA_n1 K, goA_n2 K, goA_n3 K, goA_n4 K, goA_n5 K, goA_n6 K, goA_n7 K, goA_n8 K, goA_n9 K, goA_n10 K, goA_n11 K, goA_n12 K, goA_n13 K, goA_n14 K, goA_n15 K, gK_row K hr, gK_ent K hr, gK_mrk K hr, gK_sen K hr, gok_row hr, goA_ent hr, goA_mrk hr, goA_sen hr, gd_row0, gd_row8, if_false, Option.bind_some, gd_kI_i, gB_0]
            cases h4 : gTk (fun i => s 741 (6 * (4 * k + b) + i)) (s 743 (4 * k + b)) j with
            | false => rfl
            | true =>
              rw [if_neg (show ¬ true = false by decide), if_pos rfl, show gd_in 3 12 = true from rfl, show gd_in 4 12 = true from rfl, if_pos rfl, if_pos rfl, show (3 : Int32).toNatClampNeg = 3 from rfl, show (4 : Int32).toNatClampNeg = 4 from rfl, cCd_pan (cAll_cd C), cCd_spa (cAll_cd C), hNe, c_putMark K hr hN1 hN6 hj (fun i hi => cRw_mrk W i hi) hok hx (cRw_ask W) (cRw_mkd W) (mk := fun i => s 741 (6 * (4 * k + b) + i))]
              have K2 : gK c d n p (pMk (fun i => s 741 (6 * (4 * k + b) + i)) (4 * k + b) j N x (gCd n s 0 22) (s 743 (4 * k + b)) (s 742 (4 * k + b)) m) := gK_o K pMk_2
              simp only [gK_N K2, gok_row hr, Option.bind_some, gd_kV_v, if_true]
              rw [pMk_58 (cRw_mkd W), if_pos rfl]
          have hM2 : ∀ m1, gK c d n p m1 → gSm n (gI m1) s → gd_call 113 [.ref 698, .int (Int32.ofNat k), .int (Int32.ofNat b), .int (Int32.ofNat j), .int x] m1 = if gTk (fun i => s 741 (6 * (4 * k + b) + i)) (s 743 (4 * k + b)) j = true then some (.int (vMd (fun i => s 741 (6 * (4 * k + b) + i)) j (s 742 (4 * k + b))), nMk (fun i => s 741 (6 * (4 * k + b) + i)) (4 * k + b) j N x (gCd n s 0 22) (s 743 (4 * k + b)) (s 742 (4 * k + b)) m1) else some (.int (-1), m1) := fun m1 K S => by
            rw [hM1 m1 K S, h1, h2, h3, if_pos rfl, if_pos rfl, if_pos rfl, gn_add, gn_in (by omega) (show 6 * (4 * k + b) + j < 960 by omega), if_pos rfl, gn_nat (show 6 * (4 * k + b) + j < 2147483648 by omega), c_mark_92 (mk := fun i => s 741 (6 * (4 * k + b) + i)) K S hr hN1 hN6 hNe hj (fun i _ => rfl) rfl rfl]
            unfold gTk
            by_cases q : s 741 (6 * (4 * k + b) + j) = -1
            · rw [if_pos q, decide_eq_true q]; rfl
            · rw [if_neg q, decide_eq_false q]
              by_cases q2 : ((s 743 (4 * k + b) >>> (Int32.ofNat j &&& 31)) &&& 1) = 0
              · rw [if_pos q2, decide_eq_true q2]; rfl
              · rw [if_neg q2, decide_eq_false q2]; rfl
          cases h4 : gTk (fun i => s 741 (6 * (4 * k + b) + i)) (s 743 (4 * k + b)) j with
          | false => exact gPr_of R (v := -1) (s' := s) ⟨m, by rw [hX2, h4]; rfl, oX_refl, C⟩ (fun m1 K S H => ⟨m1, by rw [hM2 m1 K S, h4]; rfl, oM_refl, S, H⟩) I
          | true =>
            exact gPr_of R (v := vMd (fun i => s 741 (6 * (4 * k + b) + i)) j (s 742 (4 * k + b))) (s' := sMk (fun i => s 741 (6 * (4 * k + b) + i)) (4 * k + b) j N x (gCd n s 0 22) (s 743 (4 * k + b)) (s 742 (4 * k + b)) s) ⟨_, by rw [hX2, h4, if_pos rfl], ⟨pMk_2, fun q hq => pMk_f (by omega)⟩, cAll_mk C (gK_c1 K) hn hr (by omega) hb2 rfl⟩ (fun m1 K S H => ⟨_, by rw [hM2 m1 K S, h4, if_pos rfl], nMk_o oM_refl, nMk_s S, gCh_e H (hcd s) (sMk_f (by decide)) (sMk_f (by decide)) (sMk_f (by decide)) (nMk_f (by decide)) (nMk_f (by decide)) (nMk_f (by decide))⟩) (iAll_mk I hn hr (by omega) rfl hx)
end P77
