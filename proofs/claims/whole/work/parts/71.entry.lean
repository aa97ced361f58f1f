/-! ===== entry ===== -/
section P71
variable {c d n p : Nat} {m : gd_M} {s : gd_C}
theorem P_entry (R : gRel c d n p m s) (g a x : Int32) : gPr 102 104 [.int g, .int a, .int x] m := by
  obtain ⟨K, I, C, S, H⟩ := id R
  obtain ⟨P, -, hP2, hP⟩ := iAll_ppl I
  have hn := gK_n1 K
  obtain ⟨N, -, hN, hNe⟩ := iCd_pts (iAll_cod I)
  have hgN : gn (gCd n s 0 0) = N := by rw [hNe, gn_of (by omega)]
  cases h : gAt P g a with
  | false =>
    refine gPr_of R (v := -2) (s' := s) ⟨m, ?_, oX_refl, C⟩ (fun m1 K S H => ⟨m1, ?_, oM_refl, S, H⟩) I
    · rw [q_X_entry, c_rowOf_no K ((cMt_ppl (cAll_mt C)).trans hP) h]
      simp only [gK_N K, gK_8_0 K, gK_8_1 K, gK_8_2 K, gK_8_3 K, gK_8_4 K, gK_8_5 K, gK_8_6 K, gK_8_7 K, gK_8_8 K, gK_10_0 K, gK_10_1 K, gK_10_2 K, gK_11_0 K, gK_15_0 K, gK_15_1 K, gK_15_2 K, gK_15_3 K, gK_20_0 K, gK_20_1 K, gK_20_2 K, gK_20_3 K, gK_20_4 K, gK_20_5 K, gK_698_0 K, gK_698_3 K, gK_698_16 K, gK_698_17 K, gK_698_20 K, gK_698_21 K, gK_698_22 K, gK_698_23 K, gK_698_24 K, gK_698_25 K, gK_698_26 K, gK_698_27 K, gK_698_28 K, gK_698_29 K, gK_698_30 K, gK_698_31 K, gK_698_32 K, gK_698_33 K, gK_698_34 K, gK_698_35 K, gK_698_36 K, gK_698_37 K, gK_698_38 K, gK_698_39 K, gK_698_41 K, gK_698_42 K, gK_698_44 K, gK_c K, gK_d K, gK_n K, gK_p K, gok_8, gok_10, gok_11, gok_15, gok_20, gok_698, gok_699, goA_9, goA_12, goA_13, goA_14, goA_16, goA_17, goA_18, goA_19, goA_21, goA_22, goA_23, goA_24, goA_25, goA_26, goA_27, goA_28, goA_29, goA_30, goA_31, goA_732, goA_733, goA_734, goA_735, goA_736, goA_737, goA_738, goA_739, goA_740, goA_741, goA_742, goA_743, goA_744, goA_745, goA_746, goA_747, goA_748, goA_749, goA_750, goA_751, goA_752, goA_753, goA_754, goA_755, goA_756, goA_757, gN_wI, gR_wI, gL_wI, if_true, eq_self, Option.bind_some, gd_kR_r]
    · rw [q_Mo_entry, c_isAt_no K ((gS_698_18 S).trans hP) hP2 h]
      simp only [gK_N K, gK_8_0 K, gK_8_1 K, gK_8_2 K, gK_8_3 K, gK_8_4 K, gK_8_5 K, gK_8_6 K, gK_8_7 K, gK_8_8 K, gK_10_0 K, gK_10_1 K, gK_10_2 K, gK_11_0 K, gK_15_0 K, gK_15_1 K, gK_15_2 K, gK_15_3 K, gK_20_0 K, gK_20_1 K, gK_20_2 K, gK_20_3 K, gK_20_4 K, gK_20_5 K, gK_698_0 K, gK_698_3 K, gK_698_16 K, gK_698_17 K, gK_698_20 K, gK_698_21 K, gK_698_22 K, gK_698_23 K, gK_698_24 K, gK_698_25 K, gK_698_26 K, gK_698_27 K, gK_698_28 K, gK_698_29 K, gK_698_30 K, gK_698_31 K, gK_698_32 K, gK_698_33 K, gK_698_34 K, gK_698_35 K, gK_698_36 K, gK_698_37 K, gK_698_38 K, gK_698_39 K, gK_698_41 K, gK_698_42 K, gK_698_44 K, gK_c K, gK_d K, gK_n K, gK_p K, gok_8, gok_10, gok_11, gok_15, gok_20, gok_698, gok_699, goA_9, goA_12, goA_13, goA_14, goA_16, goA_17, goA_18, goA_19, goA_21, goA_22, goA_23, goA_24, goA_25, goA_26, goA_27, goA_28, goA_29, goA_30, goA_31, goA_732, goA_733, goA_734, goA_735, goA_736, goA_737, goA_738, goA_739, goA_740, goA_741, goA_742, goA_743, goA_744, goA_745, goA_746, goA_747, goA_748, goA_749, goA_750, goA_751, goA_752, goA_753, goA_754, goA_755, goA_756, goA_757, gN_wI, gR_wI, gL_wI, if_true, eq_self, Option.bind_some, gd_kI_i]
  | true =>
    obtain ⟨k, b, hk, hb, rfl, rfl⟩ := gAt_t hP2 h
    have hr : 4 * k + b < 160 := by omega
    obtain ⟨r, hrr⟩ : ∃ r, r = 4 * k + b := ⟨_, rfl⟩
    have W := cAll_rw C (4 * k + b) hr
    obtain ⟨l, -, hl, hle⟩ := iRow_len (iAll_row I (4 * k + b) hr)
    -- the class's answer and the reference's, in one form
    have hadd : gd_call 101 [.ref (58 + 4 * (4 * k + b)), .int x] m = if l < 16 then some (.null, wI (wI (wI m (59 + 4 * (4 * k + b)) l x) (58 + 4 * (4 * k + b)) 6 (Int32.ofNat (l + 1))) (58 + 4 * (4 * k + b)) 5 1) else some (.null, m) := by
      rw [q_Ro_add]
      simp only [gK_N K, gK_8_0 K, gK_8_1 K, gK_8_2 K, gK_8_3 K, gK_8_4 K, gK_8_5 K, gK_8_6 K, gK_8_7 K, gK_8_8 K, gK_10_0 K, gK_10_1 K, gK_10_2 K, gK_11_0 K, gK_15_0 K, gK_15_1 K, gK_15_2 K, gK_15_3 K, gK_20_0 K, gK_20_1 K, gK_20_2 K, gK_20_3 K, gK_20_4 K, gK_20_5 K, gK_698_0 K, gK_698_3 K, gK_698_16 K, gK_698_17 K, gK_698_20 K, gK_698_21 K, gK_698_22 K, gK_698_23 K, gK_698_24 K, gK_698_25 K, gK_698_26 K, gK_698_27 K, gK_698_28 K, gK_698_29 K, gK_698_30 K, gK_698_31 K, gK_698_32 K, gK_698_33 K, gK_698_34 K, gK_698_35 K, gK_698_36 K, gK_698_37 K, gK_698_38 K, gK_698_39 K, gK_698_41 K, gK_698_42 K, gK_698_44 K, gK_c K, gK_d K, gK_n K, gK_p K, gok_8, gok_10, gok_11, gok_15, gok_20, gok_698, gok_699, goA_9, goA_12, goA_13, goA_14, goA_16, goA_17, goA_18, goA_19, goA_21, goA_22, goA_23, goA_24, goA_25, goA_26, goA_27, goA_28, goA_29, goA_30, goA_31, goA_732, goA_733, goA_734, goA_735, goA_736, goA_737, goA_738, goA_739, goA_740, goA_741, goA_742, goA_743, goA_744, goA_745, goA_746, goA_747, goA_748, goA_749, goA_750, goA_751, goA_752, goA_753, goA_754, goA_755, goA_756, goA_757, gN_wI, gR_wI, gL_wI, if_true, eq_self, gK_row K hr, gK_ent K hr, gK_mrk K hr, gK_sen K hr, gok_row hr, goA_ent hr, goA_mrk hr, goA_sen hr, gd_row0, gd_row8, if_false]
      rw [gI_wI_a (show 58 + 4 * (4 * k + b) ≠ 59 + 4 * (4 * k + b) by omega), cRw_len W, hle]
      by_cases h1 : l < 16
      · rw [if_pos h1, if_pos ((gnlb_16 (by omega) (by decide)).2 h1), gn_in (by omega) h1, if_pos rfl, gn_nat (by omega), gn_succ]
      · rw [if_neg h1, if_neg (fun q => h1 ((gnlb_16 (by omega) (by decide)).1 q))]
    have hX : gd_call 102 [.ref 8, .int (Int32.ofNat k), .int (Int32.ofNat b), .int x] m = if (decide (x = -1) || gIs N x) = true then (if gOp s (4 * k + b) = true then (if l < 16 then some (.int (Int32.ofNat (l + 1)), wI (wI (wI m (59 + 4 * (4 * k + b)) l x) (58 + 4 * (4 * k + b)) 6 (Int32.ofNat (l + 1))) (58 + 4 * (4 * k + b)) 5 1) else some (.int (-3), m)) else some (.int (-1), m)) else some (.int (-2), m) := by
      have hrest : (if gd_ok (gN m) (58 + 4 * (4 * k + b)) 4 = true then ((gd_call 100 [.ref (58 + 4 * (4 * k + b))] m).bind (gd_kI fun z13 m11 => if (z13 = 0 : Prop) then (some (.int (-1), m11)) else (if gd_ok (gN m11) (58 + 4 * (4 * k + b)) 4 = true then (if ((gI m11 (58 + 4 * (4 * k + b)) 6) < 16 : Prop) then ((gd_call 101 [.ref (58 + 4 * (4 * k + b)), .int x] m11).bind (gd_kV fun m19 => if gd_ok (gN m19) (58 + 4 * (4 * k + b)) 4 = true then (some (.int (gI m19 (58 + 4 * (4 * k + b)) 6), m19)) else none)) else (some (.int (-3), m11))) else none))) else none) = (if gOp s (4 * k + b) = true then (if l < 16 then some (.int (Int32.ofNat (l + 1)), wI (wI (wI m (59 + 4 * (4 * k + b)) l x) (58 + 4 * (4 * k + b)) 6 (Int32.ofNat (l + 1))) (58 + 4 * (4 * k + b)) 5 1) else some (.int (-3), m)) else some (.int (-1), m)) := by
        simp only [gK_N K, gK_8_0 K, gK_8_1 K, gK_8_2 K, gK_8_3 K, gK_8_4 K, gK_8_5 K, gK_8_6 K, gK_8_7 K, gK_8_8 K, gK_10_0 K, gK_10_1 K, gK_10_2 K, gK_11_0 K, gK_15_0 K, gK_15_1 K, gK_15_2 K, gK_15_3 K, gK_20_0 K, gK_20_1 K, gK_20_2 K, gK_20_3 K, gK_20_4 K, gK_20_5 K, gK_698_0 K, gK_698_3 K, gK_698_16 K, gK_698_17 K, gK_698_20 K, gK_698_21 K, gK_698_22 K, gK_698_23 K, gK_698_24 K, gK_698_25 K, gK_698_26 K, gK_698_27 K, gK_698_28 K, gK_698_29 K, gK_698_30 K, gK_698_31 K, gK_698_32 K, gK_698_33 K, gK_698_34 K, gK_698_35 K, gK_698_36 K, gK_698_37 K, gK_698_38 K, gK_698_39 K, gK_698_41 K, gK_698_42 K, gK_698_44 K, gK_c K, gK_d K, gK_n K, gK_p K, gok_8, gok_10, gok_11, gok_15, gok_20, gok_698, gok_699, goA_9, goA_12, goA_13, goA_14, goA_16, goA_17, goA_18, goA_19, goA_21, goA_22, goA_23, goA_24, goA_25, goA_26, goA_27, goA_28, goA_29, goA_30, goA_31, goA_732, goA_733, goA_734, goA_735, goA_736, goA_737, goA_738, goA_739, goA_740, goA_741, goA_742, goA_743, goA_744, goA_745, goA_746, goA_747, goA_748, goA_749, goA_750, goA_751, goA_752, goA_753, goA_754, goA_755, goA_756, goA_757, gN_wI, gR_wI, gL_wI, if_true, eq_self, gK_row K hr, gK_ent K hr, gK_mrk K hr, gK_sen K hr, gok_row hr, goA_ent hr, goA_mrk hr, goA_sen hr, gd_row0, gd_row8, if_false]
        rw [c_isOpen K hr W]
        simp only [gK_N K, gK_8_0 K, gK_8_1 K, gK_8_2 K, gK_8_3 K, gK_8_4 K, gK_8_5 K, gK_8_6 K, gK_8_7 K, gK_8_8 K, gK_10_0 K, gK_10_1 K, gK_10_2 K, gK_11_0 K, gK_15_0 K, gK_15_1 K, gK_15_2 K, gK_15_3 K, gK_20_0 K, gK_20_1 K, gK_20_2 K, gK_20_3 K, gK_20_4 K, gK_20_5 K, gK_698_0 K, gK_698_3 K, gK_698_16 K, gK_698_17 K, gK_698_20 K, gK_698_21 K, gK_698_22 K, gK_698_23 K, gK_698_24 K, gK_698_25 K, gK_698_26 K, gK_698_27 K, gK_698_28 K, gK_698_29 K, gK_698_30 K, gK_698_31 K, gK_698_32 K, gK_698_33 K, gK_698_34 K, gK_698_35 K, gK_698_36 K, gK_698_37 K, gK_698_38 K, gK_698_39 K, gK_698_41 K, gK_698_42 K, gK_698_44 K, gK_c K, gK_d K, gK_n K, gK_p K, gok_8, gok_10, gok_11, gok_15, gok_20, gok_698, gok_699, goA_9, goA_12, goA_13, goA_14, goA_16, goA_17, goA_18, goA_19, goA_21, goA_22, goA_23, goA_24, goA_25, goA_26, goA_27, goA_28, goA_29, goA_30, goA_31, goA_732, goA_733, goA_734, goA_735, goA_736, goA_737, goA_738, goA_739, goA_740, goA_741, goA_742, goA_743, goA_744, goA_745, goA_746, goA_747, goA_748, goA_749, goA_750, goA_751, goA_752, goA_753, goA_754, goA_755, goA_756, goA_757, gN_wI, gR_wI, gL_wI, if_true, eq_self, gK_row K hr, gK_ent K hr, gK_mrk K hr, gK_sen K hr, gok_row hr, goA_ent hr, goA_mrk hr, goA_sen hr, gd_row0, gd_row8, if_false, Option.bind_some, gd_kI_i, gB_0]
        cases h2 : gOp s (4 * k + b) with
        | false => rfl
        | true =>
          rw [if_neg (by decide), if_pos rfl, cRw_len W, hle]
          by_cases h1 : l < 16
          · rw [if_pos h1, if_pos ((gnlb_16 (by omega) (by decide)).2 h1), hadd, if_pos h1]
            simp only [gK_N K, gK_8_0 K, gK_8_1 K, gK_8_2 K, gK_8_3 K, gK_8_4 K, gK_8_5 K, gK_8_6 K, gK_8_7 K, gK_8_8 K, gK_10_0 K, gK_10_1 K, gK_10_2 K, gK_11_0 K, gK_15_0 K, gK_15_1 K, gK_15_2 K, gK_15_3 K, gK_20_0 K, gK_20_1 K, gK_20_2 K, gK_20_3 K, gK_20_4 K, gK_20_5 K, gK_698_0 K, gK_698_3 K, gK_698_16 K, gK_698_17 K, gK_698_20 K, gK_698_21 K, gK_698_22 K, gK_698_23 K, gK_698_24 K, gK_698_25 K, gK_698_26 K, gK_698_27 K, gK_698_28 K, gK_698_29 K, gK_698_30 K, gK_698_31 K, gK_698_32 K, gK_698_33 K, gK_698_34 K, gK_698_35 K, gK_698_36 K, gK_698_37 K, gK_698_38 K, gK_698_39 K, gK_698_41 K, gK_698_42 K, gK_698_44 K, gK_c K, gK_d K, gK_n K, gK_p K, gok_8, gok_10, gok_11, gok_15, gok_20, gok_698, gok_699, goA_9, goA_12, goA_13, goA_14, goA_16, goA_17, goA_18, goA_19, goA_21, goA_22, goA_23, goA_24, goA_25, goA_26, goA_27, goA_28, goA_29, goA_30, goA_31, goA_732, goA_733, goA_734, goA_735, goA_736, goA_737, goA_738, goA_739, goA_740, goA_741, goA_742, goA_743, goA_744, goA_745, goA_746, goA_747, goA_748, goA_749, goA_750, goA_751, goA_752, goA_753, goA_754, goA_755, goA_756, goA_757, gN_wI, gR_wI, gL_wI, if_true, eq_self, gK_row K hr, gK_ent K hr, gK_mrk K hr, gK_sen K hr, gok_row hr, goA_ent hr, goA_mrk hr, goA_sen hr, gd_row0, gd_row8, if_false, Option.bind_some, gd_kV_v]
            rw [gI_wI_k (by decide), gI_wI_s]
          · rw [if_neg h1, if_neg (fun q => h1 ((gnlb_16 (by omega) (by decide)).1 q))]
      rw [q_X_entry, c_rowOf_at K ((cMt_ppl (cAll_mt C)).trans hP) hP2 hk hb]
      simp only [gK_N K, gok_8, if_true, Option.bind_some, gd_kR_r, gd_row0, gd_row8, if_false]
      rw [← gK_N K]
      by_cases hx : x = -1
      · rw [if_pos hx, hrest, decide_eq_true hx, Bool.true_or, if_pos rfl]
      · rw [if_neg hx, decide_eq_false hx, Bool.false_or]
        rw [gK_N K, gK_c K, gok_c K, if_pos rfl, c_hasPart K ((cCd_pts (cAll_cd C)).trans hNe)]
        simp only [Option.bind_some, gd_kI_i, gB_0]
        cases h3 : gIs N x with
        | false => rfl
        | true =>
          rw [if_neg (by decide), if_pos rfl]
          exact hrest
    have hM : ∀ m1, gK c d n p m1 → gSm n (gI m1) s → gd_call 104 [.ref 698, .int (Int32.ofNat k), .int (Int32.ofNat b), .int x] m1 = if (decide (x = -1) || gIs N x) = true then (if gOp s (4 * k + b) = true then (if l < 16 then some (.int (Int32.ofNat (l + 1)), wI (wI (wI m1 740 (16 * (4 * k + b) + l) x) 739 (4 * k + b) (Int32.ofNat (l + 1))) 749 (4 * k + b) 0) else some (.int (-3), m1)) else some (.int (-1), m1)) else some (.int (-2), m1) := fun m1 K S => by
      rw [q_Mo_entry, c_isAt_at K ((gS_698_18 S).trans hP) hP2 hk hb]
      simp only [gK_N K, gK_8_0 K, gK_8_1 K, gK_8_2 K, gK_8_3 K, gK_8_4 K, gK_8_5 K, gK_8_6 K, gK_8_7 K, gK_8_8 K, gK_10_0 K, gK_10_1 K, gK_10_2 K, gK_11_0 K, gK_15_0 K, gK_15_1 K, gK_15_2 K, gK_15_3 K, gK_20_0 K, gK_20_1 K, gK_20_2 K, gK_20_3 K, gK_20_4 K, gK_20_5 K, gK_698_0 K, gK_698_3 K, gK_698_16 K, gK_698_17 K, gK_698_20 K, gK_698_21 K, gK_698_22 K, gK_698_23 K, gK_698_24 K, gK_698_25 K, gK_698_26 K, gK_698_27 K, gK_698_28 K, gK_698_29 K, gK_698_30 K, gK_698_31 K, gK_698_32 K, gK_698_33 K, gK_698_34 K, gK_698_35 K, gK_698_36 K, gK_698_37 K, gK_698_38 K, gK_698_39 K, gK_698_41 K, gK_698_42 K, gK_698_44 K, gK_c K, gK_d K, gK_n K, gK_p K, gok_8, gok_10, gok_11, gok_15, gok_20, gok_698, gok_699, goA_9, goA_12, goA_13, goA_14, goA_16, goA_17, goA_18, goA_19, goA_21, goA_22, goA_23, goA_24, goA_25, goA_26, goA_27, goA_28, goA_29, goA_30, goA_31, goA_732, goA_733, goA_734, goA_735, goA_736, goA_737, goA_738, goA_739, goA_740, goA_741, goA_742, goA_743, goA_744, goA_745, goA_746, goA_747, goA_748, goA_749, goA_750, goA_751, goA_752, goA_753, goA_754, goA_755, goA_756, goA_757, gN_wI, gR_wI, gL_wI, if_true, eq_self, Option.bind_some, gd_kI_i]
      rw [if_neg (by decide), gok_n K, if_pos rfl, gS_n K S, hNe, c_inM (by omega)]
      simp only [gK_N K, gK_8_0 K, gK_8_1 K, gK_8_2 K, gK_8_3 K, gK_8_4 K, gK_8_5 K, gK_8_6 K, gK_8_7 K, gK_8_8 K, gK_10_0 K, gK_10_1 K, gK_10_2 K, gK_11_0 K, gK_15_0 K, gK_15_1 K, gK_15_2 K, gK_15_3 K, gK_20_0 K, gK_20_1 K, gK_20_2 K, gK_20_3 K, gK_20_4 K, gK_20_5 K, gK_698_0 K, gK_698_3 K, gK_698_16 K, gK_698_17 K, gK_698_20 K, gK_698_21 K, gK_698_22 K, gK_698_23 K, gK_698_24 K, gK_698_25 K, gK_698_26 K, gK_698_27 K, gK_698_28 K, gK_698_29 K, gK_698_30 K, gK_698_31 K, gK_698_32 K, gK_698_33 K, gK_698_34 K, gK_698_35 K, gK_698_36 K, gK_698_37 K, gK_698_38 K, gK_698_39 K, gK_698_41 K, gK_698_42 K, gK_698_44 K, gK_c K, gK_d K, gK_n K, gK_p K, gok_8, gok_10, gok_11, gok_15, gok_20, gok_698, gok_699, goA_9, goA_12, goA_13, goA_14, goA_16, goA_17, goA_18, goA_19, goA_21, goA_22, goA_23, goA_24, goA_25, goA_26, goA_27, goA_28, goA_29, goA_30, goA_31, goA_732, goA_733, goA_734, goA_735, goA_736, goA_737, goA_738, goA_739, goA_740, goA_741, goA_742, goA_743, goA_744, goA_745, goA_746, goA_747, goA_748, goA_749, goA_750, goA_751, goA_752, goA_753, goA_754, goA_755, goA_756, goA_757, gN_wI, gR_wI, gL_wI, if_true, eq_self, Option.bind_some, gd_k0I_i, gB_0]
      cases h3 : (decide (x = -1) || gIs N x) with
      | false => rfl
      | true =>
        rw [if_neg (by decide), if_pos rfl]
        simp only [gm4, gn_add]
        rw [c_MisOpen K hr S]
        simp only [gK_N K, gK_8_0 K, gK_8_1 K, gK_8_2 K, gK_8_3 K, gK_8_4 K, gK_8_5 K, gK_8_6 K, gK_8_7 K, gK_8_8 K, gK_10_0 K, gK_10_1 K, gK_10_2 K, gK_11_0 K, gK_15_0 K, gK_15_1 K, gK_15_2 K, gK_15_3 K, gK_20_0 K, gK_20_1 K, gK_20_2 K, gK_20_3 K, gK_20_4 K, gK_20_5 K, gK_698_0 K, gK_698_3 K, gK_698_16 K, gK_698_17 K, gK_698_20 K, gK_698_21 K, gK_698_22 K, gK_698_23 K, gK_698_24 K, gK_698_25 K, gK_698_26 K, gK_698_27 K, gK_698_28 K, gK_698_29 K, gK_698_30 K, gK_698_31 K, gK_698_32 K, gK_698_33 K, gK_698_34 K, gK_698_35 K, gK_698_36 K, gK_698_37 K, gK_698_38 K, gK_698_39 K, gK_698_41 K, gK_698_42 K, gK_698_44 K, gK_c K, gK_d K, gK_n K, gK_p K, gok_8, gok_10, gok_11, gok_15, gok_20, gok_698, gok_699, goA_9, goA_12, goA_13, goA_14, goA_16, goA_17, goA_18, goA_19, goA_21, goA_22, goA_23, goA_24, goA_25, goA_26, goA_27, goA_28, goA_29, goA_30, goA_31, goA_732, goA_733, goA_734, goA_735, goA_736, goA_737, goA_738, goA_739, goA_740, goA_741, goA_742, goA_743, goA_744, goA_745, goA_746, goA_747, goA_748, goA_749, goA_750, goA_751, goA_752, goA_753, goA_754, goA_755, goA_756, goA_757, gN_wI, gR_wI, gL_wI, if_true, eq_self, gS_n K S, gS_n5 K S, gS_n6 K S, gS_n7 K S, gS_n8 K S, gS_n9 K S, gS_n10 K S, gS_n11 K S, gS_n12 K S, gS_n13 K S, gS_n14 K S, gS_n15 K S, gS_732 S, gS_735 S, gS_736 S, gS_737 S, gS_738 S, gS_739 S, gS_740 S, gS_741 S, gS_742 S, gS_743 S, gS_744 S, gS_745 S, gS_746 S, gS_698_4 S, gS_698_14 S, gS_698_15 S, gS_698_18 S, gS_698_19 S, Option.bind_some, gd_kI_i, gB_0]
        cases h2 : gOp s (4 * k + b) with
        | false => rfl
        | true =>
          rw [if_neg (by decide), if_pos rfl, gn_in (by omega) hr, if_pos rfl, gn_nat (show 4 * k + b < 2147483648 by omega), hle, gm16, gn_add]
          by_cases h1 : l < 16
          · rw [if_pos h1, if_neg (fun q => by have := (gneb_16 (by omega) (by decide)).1 q; omega), gn_in (by omega) (show 16 * (4 * k + b) + l < 2560 by omega), if_pos rfl, if_pos rfl, gn_nat (show 16 * (4 * k + b) + l < 2147483648 by omega), gI_wI_a (show (739 : Nat) ≠ 740 by decide), gS_739 S, hle, gn_succ, gd_vn0, gI_wI_a (by decide), gI_wI_s]
          · rw [if_neg h1, if_pos (by rw [show l = 16 by omega]; rfl)]
    cases h3 : (decide (x = -1) || gIs N x) with
    | false => exact gPr_of R (v := -2) (s' := s) ⟨m, by rw [hX, h3]; rfl, oX_refl, C⟩ (fun m1 K S H => ⟨m1, by rw [hM m1 K S, h3]; rfl, oM_refl, S, H⟩) I
    | true =>
      cases h2 : gOp s (4 * k + b) with
      | false => exact gPr_of R (v := -1) (s' := s) ⟨m, by rw [hX, h3, h2]; rfl, oX_refl, C⟩ (fun m1 K S H => ⟨m1, by rw [hM m1 K S, h3, h2]; rfl, oM_refl, S, H⟩) I
      | true =>
        by_cases h1 : l < 16
        · obtain ⟨hb1, hb2⟩ := gOp_t h2
          have hval : x = -1 ∨ ∃ q < gn (gCd n s 0 0), x = Int32.ofNat q := by
            rw [hgN]
            by_cases hx : x = -1
            · exact .inl hx
            · rw [decide_eq_false hx, Bool.false_or] at h3
              exact .inr (gIs_t (by omega) h3)
          have hs : ∀ q, (q < 738 ∨ 746 < q) → gd_up (gd_up s 740 (16 * (4 * k + b) + l) x) 739 (4 * k + b) (Int32.ofNat (l + 1)) q = s q := fun q hq => by rw [gd_up_f (by omega), gd_up_f (by omega)]
          have he : ∀ q < 160, q ≠ 4 * k + b → rEq s (gd_up (gd_up s 740 (16 * (4 * k + b) + l) x) 739 (4 * k + b) (Int32.ofNat (l + 1))) q := fun q hq hne => rEq_tr (rEq_up (by show (16 * (4 * k + b) + l) / 16 ≠ q; omega)) (rEq_up (by show 4 * k + b ≠ q; omega))
          have hcd : gCd n (gd_up (gd_up s 740 (16 * (4 * k + b) + l) x) 739 (4 * k + b) (Int32.ofNat (l + 1))) = gCd n s := gCd_c fun i hi => hs _ (by omega)
          refine gPr_of R (v := Int32.ofNat (l + 1)) (s' := gd_up (gd_up s 740 (16 * (4 * k + b) + l) x) 739 (4 * k + b) (Int32.ofNat (l + 1))) ⟨_, by rw [hX, h3, h2, if_pos rfl, if_pos rfl, if_pos h1], oX_w (oX_w (oX_w oX_refl (by omega)) (by omega)) (by omega), ?_⟩ (fun m1 K S H => ⟨_, by rw [hM m1 K S, h3, h2, if_pos rfl, if_pos rfl, if_pos h1], oM_w (oM_w (oM_w oM_refl (by decide)) (by decide)) (by decide), gSm_n (gSm_w (gSm_w S)) ?_, gCh_c H hcd fun q hq => ?_⟩) ?_
          · refine cAll_row (gK_c1 K) hn C hr (fun a ha => by rw [gI_wI_f (by omega), gI_wI_f (by omega), gI_wI_f (by omega)]) hs he (fun q => by rw [gPc_up (by decide), gPc_up (by decide)]) ?_
            refine ⟨?_, ?_, fun i hi => ?_, fun j hj => ?_, ?_, ?_, ?_, fun f hf i => ?_, fun q => ?_, fun _ q => absurd hb2 q, fun _ q => ?_, fun _ q => absurd hb2 q⟩
            · rw [gI_wI_k (by decide), gI_wI_k (by decide), gI_wI_a (by omega)]; exact (by have q := cRw_bgn W; exact q)
            · rw [gI_wI_k (by decide), gI_wI_s, gd_up_s]
            · rw [gI_wI_a (by omega), gI_wI_a (by omega), gI_wI_m, gd_up_a (by decide), gd_up_m]
              by_cases e1 : i = l
              · rw [if_pos e1, if_pos (by omega)]
              · rw [if_neg e1, if_neg (by omega)]; exact cRw_ent W i hi
            · rw [gI_wI_a (by omega), gI_wI_a (by omega), gI_wI_a (by omega)]; exact cRw_mrk W j hj
            · rw [gI_wI_k (by decide), gI_wI_k (by decide), gI_wI_a (by omega)]; exact (by have q := cRw_mkd W; exact q)
            · rw [gI_wI_k (by decide), gI_wI_k (by decide), gI_wI_a (by omega)]; exact (by have q := cRw_ask W; exact q)
            · rw [gI_wI_k (by decide), gI_wI_k (by decide), gI_wI_a (by omega)]; exact (by have q := cRw_inq W; exact q)
            · rw [gI_wI_a (by omega), gI_wI_a (by omega), gI_wI_a (by omega)]; exact cRw_sen W f hf i
            · rw [gI_wI_k (by decide), gI_wI_k (by decide), gI_wI_a (by omega)]; have t := cRw_pst W q; exact t
            · rw [gI_wI_s] at q; exact absurd q (by decide)
          · rcases hn with rfl | rfl <;> rfl
          · by_cases e1 : q = 4 * k + b
            · right; left
              rw [e1]; exact gI_wI_s
            · right; right
              refine ⟨he q hq e1, ?_, ?_, ?_⟩
              · rw [gI_wI_a (by decide), gI_wI_a (by decide), gI_wI_a (by decide)]
              · rw [gI_wI_a (by decide), gI_wI_a (by decide), gI_wI_a (by decide)]
              · rw [gI_wI_k e1, gI_wI_a (by decide), gI_wI_a (by decide)]
          · refine iAll_row' hn I hs he (fun q => by rw [gd_up_a (by decide), gd_up_a (by decide)]) ?_
            have J := iAll_row I (4 * k + b) hr
            refine ⟨(by have q := iRow_bgn J; exact q), ?_, fun _ i hi => ?_, (by have q := iRow_mrk J; exact q), (by have q := iRow_pst J; exact q), (by have q := iRow_inq J; exact q)⟩
            · rw [gd_up_s]; exact isN_i (by omega) (by omega)
            · rw [gd_up_s, gn_of (by omega)] at hi
              rw [gd_up_a (by decide), gd_up_m]
              by_cases e1 : i = l
              · rw [if_pos (by omega)]; exact hval
              · rw [if_neg (by omega)]
                exact iRow_ent J hb1 i (by rw [hle, gn_of (by omega)]; omega)
        · exact gPr_of R (v := -3) (s' := s) ⟨m, by rw [hX, h3, h2, if_pos rfl, if_pos rfl, if_neg h1], oX_refl, C⟩ (fun m1 K S H => ⟨m1, by rw [hM m1 K S, h3, h2, if_pos rfl, if_pos rfl, if_neg h1], oM_refl, S, H⟩) I
end P71
