/-! ===== routine ===== -/
section P82
variable {c d n p : Nat} {m : gd_M} {s : gd_C} {r k b P : Nat}
theorem rt_166 (K : gK c d n p m) (S : gSm n (gI m) s) (I : iAll n s) (hr : r < 160) (hb : s 738 r ≠ 0) {x1 x2 x3 : Int32} : ∀ j i, i + j = gn (s 739 r) → gd_Den (150, 166, [.ref 698, .int x1, .int x2, .int x3, .int (Int32.ofNat r), .int (Int32.ofNat (bNum (fun q => decide (q < bC (gEn s r) (gn (s 739 r))) && bRep (gCd n s) (gEn s r) q) i)), .int (Int32.ofNat i)], [], m) = some (.int (Int32.ofNat (bNum (fun q => decide (q < bC (gEn s r) (gn (s 739 r))) && bRep (gCd n s) (gEn s r) q) (gn (s 739 r)))), m) := by
  obtain ⟨hle, hl⟩ := row_len I hr
  intro j
  induction j with
  | zero =>
    intro i h
    have : i = gn (s 739 r) := by omega
    subst this
    rw [q_Mo_routine_166]
    simp only [gK_N K, gK_8_0 K, gK_8_1 K, gK_8_2 K, gK_8_3 K, gK_8_4 K, gK_8_5 K, gK_8_6 K, gK_8_7 K, gK_8_8 K, gK_10_0 K, gK_10_1 K, gK_10_2 K, gK_11_0 K, gK_15_0 K, gK_15_1 K, gK_15_2 K, gK_15_3 K, gK_20_0 K, gK_20_1 K, gK_20_2 K, gK_20_3 K, gK_20_4 K, gK_20_5 K, gK_698_0 K, gK_698_3 K, gK_698_16 K, gK_698_17 K, gK_698_20 K, gK_698_21 K, gK_698_22 K, gK_698_23 K, gK_698_24 K, gK_698_25 K, gK_698_26 K, gK_698_27 K, gK_698_28 K, gK_698_29 K, gK_698_30 K, gK_698_31 K, gK_698_32 K, gK_698_33 K, gK_698_34 K, gK_698_35 K, gK_698_36 K, gK_698_37 K, gK_698_38 K, gK_698_39 K, gK_698_41 K, gK_698_42 K, gK_698_44 K, gK_c K, gK_d K, gK_n K, gK_p K, gok_8, gok_10, gok_11, gok_15, gok_20, gok_698, gok_699, goA_9, goA_12, goA_13, goA_14, goA_16, goA_17, goA_18, goA_19, goA_21, goA_22, goA_23, goA_24, goA_25, goA_26, goA_27, goA_28, goA_29, goA_30, goA_31, goA_732, goA_733, goA_734, goA_735, goA_736, goA_737, goA_738, goA_739, goA_740, goA_741, goA_742, goA_743, goA_744, goA_745, goA_746, goA_747, goA_748, goA_749, goA_750, goA_751, goA_752, goA_753, goA_754, goA_755, goA_756, goA_757, gN_wI, gR_wI, gL_wI, if_true, eq_self, gS_n K S, gS_n5 K S, gS_n6 K S, gS_n7 K S, gS_n8 K S, gS_n9 K S, gS_n10 K S, gS_n11 K S, gS_n12 K S, gS_n13 K S, gS_n14 K S, gS_n15 K S, gS_732 S, gS_735 S, gS_736 S, gS_737 S, gS_738 S, gS_739 S, gS_740 S, gS_741 S, gS_742 S, gS_743 S, gS_744 S, gS_745 S, gS_746 S, gS_698_4 S, gS_698_14 S, gS_698_15 S, gS_698_18 S, gS_698_19 S]
    rw [gn_in (by omega) hr, if_pos rfl, gn_nat (by omega), ← hle, if_neg (Int32.lt_irrefl)]
  | succ j ih =>
    intro i h
    have hI := ih (i + 1) (by omega)
    have e1 : bNum (fun q => decide (q < bC (gEn s r) (gn (s 739 r))) && bRep (gCd n s) (gEn s r) q) (i + 1) = bNum (fun q => decide (q < bC (gEn s r) (gn (s 739 r))) && bRep (gCd n s) (gEn s r) q) i + if (decide (i < bC (gEn s r) (gn (s 739 r))) && bRep (gCd n s) (gEn s r) i) = true then 1 else 0 := rfl
    rw [e1] at hI
    have hlt : Int32.ofNat i < s 739 r := by rw [hle]; exact (gn_lt (by omega) (by omega)).2 (by omega)
    rw [q_Mo_routine_166]
    simp only [gK_N K, gK_8_0 K, gK_8_1 K, gK_8_2 K, gK_8_3 K, gK_8_4 K, gK_8_5 K, gK_8_6 K, gK_8_7 K, gK_8_8 K, gK_10_0 K, gK_10_1 K, gK_10_2 K, gK_11_0 K, gK_15_0 K, gK_15_1 K, gK_15_2 K, gK_15_3 K, gK_20_0 K, gK_20_1 K, gK_20_2 K, gK_20_3 K, gK_20_4 K, gK_20_5 K, gK_698_0 K, gK_698_3 K, gK_698_16 K, gK_698_17 K, gK_698_20 K, gK_698_21 K, gK_698_22 K, gK_698_23 K, gK_698_24 K, gK_698_25 K, gK_698_26 K, gK_698_27 K, gK_698_28 K, gK_698_29 K, gK_698_30 K, gK_698_31 K, gK_698_32 K, gK_698_33 K, gK_698_34 K, gK_698_35 K, gK_698_36 K, gK_698_37 K, gK_698_38 K, gK_698_39 K, gK_698_41 K, gK_698_42 K, gK_698_44 K, gK_c K, gK_d K, gK_n K, gK_p K, gok_8, gok_10, gok_11, gok_15, gok_20, gok_698, gok_699, goA_9, goA_12, goA_13, goA_14, goA_16, goA_17, goA_18, goA_19, goA_21, goA_22, goA_23, goA_24, goA_25, goA_26, goA_27, goA_28, goA_29, goA_30, goA_31, goA_732, goA_733, goA_734, goA_735, goA_736, goA_737, goA_738, goA_739, goA_740, goA_741, goA_742, goA_743, goA_744, goA_745, goA_746, goA_747, goA_748, goA_749, goA_750, goA_751, goA_752, goA_753, goA_754, goA_755, goA_756, goA_757, gN_wI, gR_wI, gL_wI, if_true, eq_self, gS_n K S, gS_n5 K S, gS_n6 K S, gS_n7 K S, gS_n8 K S, gS_n9 K S, gS_n10 K S, gS_n11 K S, gS_n12 K S, gS_n13 K S, gS_n14 K S, gS_n15 K S, gS_732 S, gS_735 S, gS_736 S, gS_737 S, gS_738 S, gS_739 S, gS_740 S, gS_741 S, gS_742 S, gS_743 S, gS_744 S, gS_745 S, gS_746 S, gS_698_4 S, gS_698_14 S, gS_698_15 S, gS_698_18 S, gS_698_19 S]
    rw [gn_in (by omega) hr, if_pos rfl, gn_nat (by omega), if_pos hlt, c_isRepeat K hr (iAll_cod I) (row_eOk I hr hb) (row_rSt K S I hr) (show i < gn (s 739 r) by omega)]
    simp only [Option.bind_some, gd_kI_i, gB_0]
    rw [gn_succ, gn_succ, Int32.add_zero]
    cases q : (decide (i < bC (gEn s r) (gn (s 739 r))) && bRep (gCd n s) (gEn s r) i) with
    | false => rw [q, if_neg (by decide)] at hI; rw [if_pos rfl]; exact hI
    | true => rw [q, if_pos rfl] at hI; rw [if_neg (by decide)]; exact hI
theorem rt_X (K : gK c d n p m) (C : cAll c n (gI m) s) (hP : s 698 18 = Int32.ofNat P) (hP2 : P ≤ 40) (hk : k < P) (hb : b < 4) (hr : (4 * k + b) < 160) (hb1 : s 738 (4 * k + b) ≠ 0) (x : Int32) : gd_call 148 [.ref 8, .int (Int32.ofNat k), .int (Int32.ofNat b), .int x] m = if x < 20 then (if x < 8 then ((gd_call 147 [.ref 8, .ref (58 + 4 * (4 * k + b)), .int x] m).bind (gd_kI fun z18 m16 => some (.int z18, m16))) else (if gI m (58 + 4 * (4 * k + b)) 4 = 0 then some (.int (-9), m) else ((gd_call 146 [.ref (58 + 4 * (4 * k + b)), .int x] m).bind (gd_k0I fun z23 m21 => some (.int z23, m21))))) else ((gd_call 116 [.ref (58 + 4 * (4 * k + b)), .int (x - 20)] m).bind (gd_kI fun z26 m24 => if (z26 = 0 : Prop) then (some (.int (-9), m24)) else (if gd_ok (gN m24) (58 + 4 * (4 * k + b)) 4 = true then (if gd_okA (gN m24) (gR m24 (58 + 4 * (4 * k + b)) 0) 10 (x - 20) = true then (some (.int (gI m24 (gR m24 (58 + 4 * (4 * k + b)) 0) ((x - 20) : Int32).toNatClampNeg), m24)) else none) else none))) := by
  rw [q_X_routine, c_rowOf_at K ((cMt_ppl (cAll_mt C)).trans hP) hP2 hk hb]
  simp only [gK_N K, gK_8_0 K, gK_8_1 K, gK_8_2 K, gK_8_3 K, gK_8_4 K, gK_8_5 K, gK_8_6 K, gK_8_7 K, gK_8_8 K, gK_10_0 K, gK_10_1 K, gK_10_2 K, gK_11_0 K, gK_15_0 K, gK_15_1 K, gK_15_2 K, gK_15_3 K, gK_20_0 K, gK_20_1 K, gK_20_2 K, gK_20_3 K, gK_20_4 K, gK_20_5 K, gK_698_0 K, gK_698_3 K, gK_698_16 K, gK_698_17 K, gK_698_20 K, gK_698_21 K, gK_698_22 K, gK_698_23 K, gK_698_24 K, gK_698_25 K, gK_698_26 K, gK_698_27 K, gK_698_28 K, gK_698_29 K, gK_698_30 K, gK_698_31 K, gK_698_32 K, gK_698_33 K, gK_698_34 K, gK_698_35 K, gK_698_36 K, gK_698_37 K, gK_698_38 K, gK_698_39 K, gK_698_41 K, gK_698_42 K, gK_698_44 K, gK_c K, gK_d K, gK_n K, gK_p K, gok_8, gok_10, gok_11, gok_15, gok_20, gok_698, gok_699, goA_9, goA_12, goA_13, goA_14, goA_16, goA_17, goA_18, goA_19, goA_21, goA_22, goA_23, goA_24, goA_25, goA_26, goA_27, goA_28, goA_29, goA_30, goA_31, goA_732, goA_733, goA_734, goA_735, goA_736, goA_737, goA_738, goA_739, goA_740, goA_741, goA_742, goA_743, goA_744, goA_745, goA_746, goA_747, goA_748, goA_749, goA_750, goA_751, goA_752, goA_753, goA_754, goA_755, goA_756, goA_757, gN_wI, gR_wI, gL_wI, if_true, eq_self, gK_row K hr, gK_ent K hr, gK_mrk K hr, gK_sen K hr, gok_row hr, goA_ent hr, goA_mrk hr, goA_sen hr, gd_row0, gd_row8, if_false, Option.bind_some, gd_kR_r]
  rw [cRw_bgn (cAll_rw C (4 * k + b) hr), if_neg hb1]
theorem rt_M (K : gK c d n p m) (S : gSm n (gI m) s) (hP : s 698 18 = Int32.ofNat P) (hP2 : P ≤ 40) (hk : k < P) (hb : b < 4) (hr : (4 * k + b) < 160) (hb1 : s 738 (4 * k + b) ≠ 0) (x : Int32) : gd_call 150 [.ref 698, .int (Int32.ofNat k), .int (Int32.ofNat b), .int x] m = if x = 0 then some (.int (s 739 (4 * k + b)), m) else if x = 1 then ((gd_call 142 [.ref 698, .int (Int32.ofNat (4 * k + b))] m).bind (gd_kI fun z18 m16 => some (.int z18, m16))) else if x = 2 then ((gd_call 141 [.ref 698, .int (Int32.ofNat (4 * k + b))] m).bind (gd_kV fun m21 => if gd_ok (gN m21) 698 9 = true then (if gd_okA (gN m21) (gR m21 698 33) 10 (Int32.ofNat (4 * k + b)) = true then (some (.int (gI m21 (gR m21 698 33) (4 * k + b)), m21)) else none) else none)) else if x = 3 then ((gd_call 120 [.ref 698, .int (Int32.ofNat (4 * k + b))] m).bind (gd_kI fun z29 m27 => some (.int z29, m27))) else if x = 4 then ((gd_call 149 [.ref 698, .int (Int32.ofNat (4 * k + b))] m).bind (gd_kI fun z34 m32 => if (z34 = 0 : Prop) then (some (.int 0, m32)) else (some (.int 1, m32)))) else if x = 5 then some (.int (s 746 (4 * k + b)), m) else if x = 6 then some (.int (s 742 (4 * k + b)), m) else if x = 7 then gd_Den (150, 166, [.ref 698, .int (Int32.ofNat k), .int (Int32.ofNat b), .int x, .int (Int32.ofNat (4 * k + b)), .int 0, .int 0], [], m) else if x = 8 then ((gd_call 149 [.ref 698, .int (Int32.ofNat (4 * k + b))] m).bind (gd_kI fun z49 m47 => if (z49 = 0 : Prop) then (some (.int (-9), m47)) else (if gd_ok (gN m47) 698 9 = true then ((gd_call 144 [.ref 698, .int (Int32.ofNat (4 * k + b))] m47).bind (gd_kI fun z55 m53 => some (.int z55, m53))) else none))) else if x = 9 then ((gd_call 149 [.ref 698, .int (Int32.ofNat (4 * k + b))] m).bind (gd_kI fun z60 m58 => if (z60 = 0 : Prop) then (some (.int (-9), m58)) else (if gd_ok (gN m58) 698 9 = true then ((gd_call 143 [.ref 698, .int (Int32.ofNat (4 * k + b))] m58).bind (gd_kI fun z66 m64 => some (.int z66, m64))) else none))) else if x = 10 then ((gd_call 149 [.ref 698, .int (Int32.ofNat (4 * k + b))] m).bind (gd_kI fun z71 m69 => if (z71 = 0 : Prop) then (some (.int (-9), m69)) else (if gd_ok (gN m69) 698 9 = true then (if gd_okA (gN m69) (gR m69 698 30) 10 (Int32.ofNat (4 * k + b)) = true then (some (.int (gI m69 (gR m69 698 30) (4 * k + b)), m69)) else none) else none))) else ((gd_call 71 [.int x, .int 20, .int (19 + s 739 (4 * k + b))] m).bind (gd_k0I fun z79 m77 => if (z79 = 0 : Prop) then (some (.int (-9), m77)) else (if gd_ok (gN m77) 698 9 = true then (if gd_okA (gN m77) (gR m77 698 25) 10 (Int32.ofNat (16 * (4 * k + b)) + x - 20) = true then (some (.int (gI m77 (gR m77 698 25) ((Int32.ofNat (16 * (4 * k + b)) + x - 20) : Int32).toNatClampNeg), m77)) else none) else none))) := by
  rw [q_Mo_routine, c_isAt_at K ((gS_698_18 S).trans hP) hP2 hk hb]
  simp only [gK_N K, gK_8_0 K, gK_8_1 K, gK_8_2 K, gK_8_3 K, gK_8_4 K, gK_8_5 K, gK_8_6 K, gK_8_7 K, gK_8_8 K, gK_10_0 K, gK_10_1 K, gK_10_2 K, gK_11_0 K, gK_15_0 K, gK_15_1 K, gK_15_2 K, gK_15_3 K, gK_20_0 K, gK_20_1 K, gK_20_2 K, gK_20_3 K, gK_20_4 K, gK_20_5 K, gK_698_0 K, gK_698_3 K, gK_698_16 K, gK_698_17 K, gK_698_20 K, gK_698_21 K, gK_698_22 K, gK_698_23 K, gK_698_24 K, gK_698_25 K, gK_698_26 K, gK_698_27 K, gK_698_28 K, gK_698_29 K, gK_698_30 K, gK_698_31 K, gK_698_32 K, gK_698_33 K, gK_698_34 K, gK_698_35 K, gK_698_36 K, gK_698_37 K, gK_698_38 K, gK_698_39 K, gK_698_41 K, gK_698_42 K, gK_698_44 K, gK_c K, gK_d K, gK_n K, gK_p K, gok_8, gok_10, gok_11, gok_15, gok_20, gok_698, gok_699, goA_9, goA_12, goA_13, goA_14, goA_16, goA_17, goA_18, goA_19, goA_21, goA_22, goA_23, goA_24, goA_25, goA_26, goA_27, goA_28, goA_29, goA_30, goA_31, goA_732, goA_733, goA_734, goA_735, goA_736, goA_737, goA_738, goA_739, goA_740, goA_741, goA_742, goA_743, goA_744, goA_745, goA_746, goA_747, goA_748, goA_749, goA_750, goA_751, goA_752, goA_753, goA_754, goA_755, goA_756, goA_757, gN_wI, gR_wI, gL_wI, if_true, eq_self, gS_n K S, gS_n5 K S, gS_n6 K S, gS_n7 K S, gS_n8 K S, gS_n9 K S, gS_n10 K S, gS_n11 K S, gS_n12 K S, gS_n13 K S, gS_n14 K S, gS_n15 K S, gS_732 S, gS_735 S, gS_736 S, gS_737 S, gS_738 S, gS_739 S, gS_740 S, gS_741 S, gS_742 S, gS_743 S, gS_744 S, gS_745 S, gS_746 S, gS_698_4 S, gS_698_14 S, gS_698_15 S, gS_698_18 S, gS_698_19 S, Option.bind_some, gd_kI_i, gm4, gm16, gn_add, gn_in (show (4 * k + b) < 2147483648 by omega) hr, gn_nat (show (4 * k + b) < 2147483648 by omega)]
  rw [if_neg (show ¬ (1 : Int32) = 0 by decide), if_neg hb1]
theorem c_posted (K : gK c d n p m) (C : cAll c n (gI m) s) (hr : r < 160) (hb : s 738 r ≠ 0) : gI m (58 + 4 * r) 4 = 0 ↔ gPo s r = false := by
  rw [cRw_pst (cAll_rw C r hr) hb]
  unfold gPo
  rw [decide_eq_false hb]
  by_cases h : s 745 r = -1
  · rw [decide_eq_true h]; exact ⟨fun _ => rfl, fun _ => h⟩
  · rw [decide_eq_false h]; exact ⟨fun q => absurd q h, fun q => absurd q (by decide)⟩
theorem P_routine (R : gRel c d n p m s) (g a x : Int32) : gPr 148 150 [.int g, .int a, .int x] m := by
  obtain ⟨K, I, C, S, H⟩ := id R
  obtain ⟨P, -, hP2, hP⟩ := iAll_ppl I
  have hn := gK_n1 K
  have hc := gK_c1 K
  cases h : gAt P g a with
  | false =>
    refine gPr_of R (v := -9) (s' := s) ⟨m, ?_, oX_refl, C⟩ (fun m1 K S H => ⟨m1, ?_, oM_refl, S, H⟩) I
    · rw [q_X_routine, c_rowOf_no K ((cMt_ppl (cAll_mt C)).trans hP) h]
      simp only [gK_N K, gK_8_0 K, gK_8_1 K, gK_8_2 K, gK_8_3 K, gK_8_4 K, gK_8_5 K, gK_8_6 K, gK_8_7 K, gK_8_8 K, gK_10_0 K, gK_10_1 K, gK_10_2 K, gK_11_0 K, gK_15_0 K, gK_15_1 K, gK_15_2 K, gK_15_3 K, gK_20_0 K, gK_20_1 K, gK_20_2 K, gK_20_3 K, gK_20_4 K, gK_20_5 K, gK_698_0 K, gK_698_3 K, gK_698_16 K, gK_698_17 K, gK_698_20 K, gK_698_21 K, gK_698_22 K, gK_698_23 K, gK_698_24 K, gK_698_25 K, gK_698_26 K, gK_698_27 K, gK_698_28 K, gK_698_29 K, gK_698_30 K, gK_698_31 K, gK_698_32 K, gK_698_33 K, gK_698_34 K, gK_698_35 K, gK_698_36 K, gK_698_37 K, gK_698_38 K, gK_698_39 K, gK_698_41 K, gK_698_42 K, gK_698_44 K, gK_c K, gK_d K, gK_n K, gK_p K, gok_8, gok_10, gok_11, gok_15, gok_20, gok_698, gok_699, goA_9, goA_12, goA_13, goA_14, goA_16, goA_17, goA_18, goA_19, goA_21, goA_22, goA_23, goA_24, goA_25, goA_26, goA_27, goA_28, goA_29, goA_30, goA_31, goA_732, goA_733, goA_734, goA_735, goA_736, goA_737, goA_738, goA_739, goA_740, goA_741, goA_742, goA_743, goA_744, goA_745, goA_746, goA_747, goA_748, goA_749, goA_750, goA_751, goA_752, goA_753, goA_754, goA_755, goA_756, goA_757, gN_wI, gR_wI, gL_wI, if_true, eq_self, Option.bind_some, gd_kR_r]
    · rw [q_Mo_routine, c_isAt_no K ((gS_698_18 S).trans hP) hP2 h]
      simp only [gK_N K, gK_8_0 K, gK_8_1 K, gK_8_2 K, gK_8_3 K, gK_8_4 K, gK_8_5 K, gK_8_6 K, gK_8_7 K, gK_8_8 K, gK_10_0 K, gK_10_1 K, gK_10_2 K, gK_11_0 K, gK_15_0 K, gK_15_1 K, gK_15_2 K, gK_15_3 K, gK_20_0 K, gK_20_1 K, gK_20_2 K, gK_20_3 K, gK_20_4 K, gK_20_5 K, gK_698_0 K, gK_698_3 K, gK_698_16 K, gK_698_17 K, gK_698_20 K, gK_698_21 K, gK_698_22 K, gK_698_23 K, gK_698_24 K, gK_698_25 K, gK_698_26 K, gK_698_27 K, gK_698_28 K, gK_698_29 K, gK_698_30 K, gK_698_31 K, gK_698_32 K, gK_698_33 K, gK_698_34 K, gK_698_35 K, gK_698_36 K, gK_698_37 K, gK_698_38 K, gK_698_39 K, gK_698_41 K, gK_698_42 K, gK_698_44 K, gK_c K, gK_d K, gK_n K, gK_p K, gok_8, gok_10, gok_11, gok_15, gok_20, gok_698, gok_699, goA_9, goA_12, goA_13, goA_14, goA_16, goA_17, goA_18, goA_19, goA_21, goA_22, goA_23, goA_24, goA_25, goA_26, goA_27, goA_28, goA_29, goA_30, goA_31, goA_732, goA_733, goA_734, goA_735, goA_736, goA_737, goA_738, goA_739, goA_740, goA_741, goA_742, goA_743, goA_744, goA_745, goA_746, goA_747, goA_748, goA_749, goA_750, goA_751, goA_752, goA_753, goA_754, goA_755, goA_756, goA_757, gN_wI, gR_wI, gL_wI, if_true, eq_self, Option.bind_some, gd_kI_i]
  | true =>
    obtain ⟨k, b, hk, hb, rfl, rfl⟩ := gAt_t hP2 h
    have hr : (4 * k + b) < 160 := by omega
    have W := cAll_rw C (4 * k + b) hr
    by_cases hb1 : s 738 (4 * k + b) = 0
    · refine gPr_of R (v := -9) (s' := s) ⟨m, ?_, oX_refl, C⟩ (fun m1 K S H => ⟨m1, ?_, oM_refl, S, H⟩) I
      · rw [q_X_routine, c_rowOf_at K ((cMt_ppl (cAll_mt C)).trans hP) hP2 hk hb]
        simp only [gK_N K, gK_8_0 K, gK_8_1 K, gK_8_2 K, gK_8_3 K, gK_8_4 K, gK_8_5 K, gK_8_6 K, gK_8_7 K, gK_8_8 K, gK_10_0 K, gK_10_1 K, gK_10_2 K, gK_11_0 K, gK_15_0 K, gK_15_1 K, gK_15_2 K, gK_15_3 K, gK_20_0 K, gK_20_1 K, gK_20_2 K, gK_20_3 K, gK_20_4 K, gK_20_5 K, gK_698_0 K, gK_698_3 K, gK_698_16 K, gK_698_17 K, gK_698_20 K, gK_698_21 K, gK_698_22 K, gK_698_23 K, gK_698_24 K, gK_698_25 K, gK_698_26 K, gK_698_27 K, gK_698_28 K, gK_698_29 K, gK_698_30 K, gK_698_31 K, gK_698_32 K, gK_698_33 K, gK_698_34 K, gK_698_35 K, gK_698_36 K, gK_698_37 K, gK_698_38 K, gK_698_39 K, gK_698_41 K, gK_698_42 K, gK_698_44 K, gK_c K, gK_d K, gK_n K, gK_p K, gok_8, gok_10, gok_11, gok_15, gok_20, gok_698, gok_699, goA_9, goA_12, goA_13, goA_14, goA_16, goA_17, goA_18, goA_19, goA_21, goA_22, goA_23, goA_24, goA_25, goA_26, goA_27, goA_28, goA_29, goA_30, goA_31, goA_732, goA_733, goA_734, goA_735, goA_736, goA_737, goA_738, goA_739, goA_740, goA_741, goA_742, goA_743, goA_744, goA_745, goA_746, goA_747, goA_748, goA_749, goA_750, goA_751, goA_752, goA_753, goA_754, goA_755, goA_756, goA_757, gN_wI, gR_wI, gL_wI, if_true, eq_self, gK_row K hr, gK_ent K hr, gK_mrk K hr, gK_sen K hr, gok_row hr, goA_ent hr, goA_mrk hr, goA_sen hr, gd_row0, gd_row8, if_false, Option.bind_some, gd_kR_r]
        rw [cRw_bgn W, if_pos hb1]
      · rw [q_Mo_routine, c_isAt_at K ((gS_698_18 S).trans hP) hP2 hk hb]
        simp only [gK_N K, gK_8_0 K, gK_8_1 K, gK_8_2 K, gK_8_3 K, gK_8_4 K, gK_8_5 K, gK_8_6 K, gK_8_7 K, gK_8_8 K, gK_10_0 K, gK_10_1 K, gK_10_2 K, gK_11_0 K, gK_15_0 K, gK_15_1 K, gK_15_2 K, gK_15_3 K, gK_20_0 K, gK_20_1 K, gK_20_2 K, gK_20_3 K, gK_20_4 K, gK_20_5 K, gK_698_0 K, gK_698_3 K, gK_698_16 K, gK_698_17 K, gK_698_20 K, gK_698_21 K, gK_698_22 K, gK_698_23 K, gK_698_24 K, gK_698_25 K, gK_698_26 K, gK_698_27 K, gK_698_28 K, gK_698_29 K, gK_698_30 K, gK_698_31 K, gK_698_32 K, gK_698_33 K, gK_698_34 K, gK_698_35 K, gK_698_36 K, gK_698_37 K, gK_698_38 K, gK_698_39 K, gK_698_41 K, gK_698_42 K, gK_698_44 K, gK_c K, gK_d K, gK_n K, gK_p K, gok_8, gok_10, gok_11, gok_15, gok_20, gok_698, gok_699, goA_9, goA_12, goA_13, goA_14, goA_16, goA_17, goA_18, goA_19, goA_21, goA_22, goA_23, goA_24, goA_25, goA_26, goA_27, goA_28, goA_29, goA_30, goA_31, goA_732, goA_733, goA_734, goA_735, goA_736, goA_737, goA_738, goA_739, goA_740, goA_741, goA_742, goA_743, goA_744, goA_745, goA_746, goA_747, goA_748, goA_749, goA_750, goA_751, goA_752, goA_753, goA_754, goA_755, goA_756, goA_757, gN_wI, gR_wI, gL_wI, if_true, eq_self, gS_n K S, gS_n5 K S, gS_n6 K S, gS_n7 K S, gS_n8 K S, gS_n9 K S, gS_n10 K S, gS_n11 K S, gS_n12 K S, gS_n13 K S, gS_n14 K S, gS_n15 K S, gS_732 S, gS_735 S, gS_736 S, gS_737 S, gS_738 S, gS_739 S, gS_740 S, gS_741 S, gS_742 S, gS_743 S, gS_744 S, gS_745 S, gS_746 S, gS_698_4 S, gS_698_14 S, gS_698_15 S, gS_698_18 S, gS_698_19 S, Option.bind_some, gd_kI_i, gm4, gm16, gn_add, gn_in (show (4 * k + b) < 2147483648 by omega) hr, gn_nat (show (4 * k + b) < 2147483648 by omega)]
        rw [if_neg (show ¬ (1 : Int32) = 0 by decide), if_pos hb1]
    · obtain ⟨hle, hl⟩ := row_len I hr
      have X := rt_X K C hP hP2 hk hb hr hb1 x
      have M := fun m1 K S => rt_M (m := m1) (c := c) (d := d) (n := n) (p := p) K S hP hP2 hk hb hr hb1 x
      by_cases h0 : x = 0
      · subst h0
        refine gPr_of R (v := s 739 (4 * k + b)) (s' := s) ⟨m, ?_, oX_refl, C⟩ (fun m1 K S H => ⟨m1, ?_, oM_refl, S, H⟩) I
        · rw [X, if_pos (by decide), if_pos (by decide), q_X_ofBegun, if_pos rfl, gK_N K, gok_row hr, if_pos rfl, cRw_len W]; rfl
        · rw [M m1 K S, if_pos rfl]
      by_cases h1 : x = 1
      · subst h1
        obtain ⟨m2, a1, a2, a3, a4⟩ := c_refresh K C I hr hb1
        have K2 := gK_o K a2.1
        refine gPr_of R (v := gM0 (gBw (gCd n s) (s 739 (4 * k + b)) (gEn s (4 * k + b)))) (s' := s) ⟨m2, ?_, a2, a3⟩ (fun m1 K S H => ?_) I
        · rw [X, if_pos (by decide), if_pos (by decide), q_X_ofBegun, if_neg (by decide), if_pos rfl, gK_N K, gok_8, if_pos rfl, a1]
          simp only [Option.bind_some, gd_kV_v, gK_N K2, gok_row hr, if_true]
          rw [(cRw_sta (cAll_rw a3 (4 * k + b) hr) hb1 a4).1]; rfl
        · obtain ⟨m3, b1, b2, b3, b4⟩ := c_diffK K S H I hr hb1
          refine ⟨m3, ?_, oT_M b2, b3, b4⟩
          rw [M m1 K S, if_neg (by decide), if_pos rfl, b1]; rfl
      by_cases h2 : x = 2
      · subst h2
        obtain ⟨m2, a1, a2, a3, a4⟩ := c_refresh K C I hr hb1
        have K2 := gK_o K a2.1
        refine gPr_of R (v := gBs (gCd n s) (s 739 (4 * k + b)) (gEn s (4 * k + b))) (s' := s) ⟨m2, ?_, a2, a3⟩ (fun m1 K S H => ?_) I
        · rw [X, if_pos (by decide), if_pos (by decide), q_X_ofBegun, if_neg (by decide), if_neg (by decide), if_pos rfl, gK_N K, gok_8, if_pos rfl, a1]
          simp only [Option.bind_some, gd_kV_v, gK_N K2, gok_row hr, if_true]
          rw [(cRw_sta (cAll_rw a3 (4 * k + b) hr) hb1 a4).2]; rfl
        · obtain ⟨m3, b1, b2, b3, b4, b5⟩ := c_tryK K S H I hr hb1
          have K3 := gK_o K b2.1
          refine ⟨m3, ?_, oT_M b2, b3, b4⟩
          rw [M m1 K S, if_neg (by decide), if_neg (by decide), if_pos rfl, b1]
          simp only [Option.bind_some, gd_kV_v, gK_N K3, gok_698, gK_698_33 K3, goA_748, gn_in (show (4 * k + b) < 2147483648 by omega) hr, if_true]
          rw [b5]
      by_cases h3 : x = 3
      · subst h3
        refine gPr_of R (v := gOff (gCd n s) (gSn s (4 * k + b))) (s' := s) ⟨m, ?_, oX_refl, C⟩ (fun m1 K S H => ⟨m1, ?_, oM_refl, S, H⟩) I
        · rw [X, if_pos (by decide), if_pos (by decide), q_X_ofBegun, if_neg (by decide), if_neg (by decide), if_neg (by decide), if_pos rfl, gK_N K, gok_8, gok_row hr, if_pos rfl, if_pos rfl, gK_c K, c_takenOff K hr (cAll_cd C) (iAll_cod I) (cRw_sn W)]; rfl
        · rw [M m1 K S, if_neg (by decide), if_neg (by decide), if_neg (by decide), if_pos rfl, c_off K hr S (iAll_cod I)]; rfl
      by_cases h4 : x = 4
      · subst h4
        refine gPr_of R (v := gB (gPo s (4 * k + b))) (s' := s) ⟨m, ?_, oX_refl, C⟩ (fun m1 K S H => ⟨m1, ?_, oM_refl, S, H⟩) I
        · rw [X, if_pos (by decide), if_pos (by decide), q_X_ofBegun, if_neg (by decide), if_neg (by decide), if_neg (by decide), if_neg (by decide), if_pos rfl, gK_N K, gok_row hr, if_pos rfl]
          cases q : gPo s (4 * k + b) with
          | false => rw [if_pos ((c_posted K C hr hb1).2 q)]; rfl
          | true => rw [if_neg (fun t => by rw [(c_posted K C hr hb1).1 t] at q; exact absurd q (by decide))]; rfl
        · rw [M m1 K S, if_neg (by decide), if_neg (by decide), if_neg (by decide), if_neg (by decide), if_pos rfl, c_MisPosted K hr S]
          cases gPo s (4 * k + b) <;> rfl
      by_cases h5 : x = 5
      · subst h5
        refine gPr_of R (v := s 746 (4 * k + b)) (s' := s) ⟨m, ?_, oX_refl, C⟩ (fun m1 K S H => ⟨m1, ?_, oM_refl, S, H⟩) I
        · rw [X, if_pos (by decide), if_pos (by decide), q_X_ofBegun, if_neg (by decide), if_neg (by decide), if_neg (by decide), if_neg (by decide), if_neg (by decide), if_pos rfl, gK_N K, gok_row hr, if_pos rfl, cRw_inq W]; rfl
        · rw [M m1 K S, if_neg (by decide), if_neg (by decide), if_neg (by decide), if_neg (by decide), if_neg (by decide), if_pos rfl]
      by_cases h6 : x = 6
      · subst h6
        refine gPr_of R (v := s 742 (4 * k + b)) (s' := s) ⟨m, ?_, oX_refl, C⟩ (fun m1 K S H => ⟨m1, ?_, oM_refl, S, H⟩) I
        · rw [X, if_pos (by decide), if_pos (by decide), q_X_ofBegun, if_neg (by decide), if_neg (by decide), if_neg (by decide), if_neg (by decide), if_neg (by decide), if_neg (by decide), if_pos rfl, gK_N K, gok_row hr, if_pos rfl, cRw_mkd W]; rfl
        · rw [M m1 K S, if_neg (by decide), if_neg (by decide), if_neg (by decide), if_neg (by decide), if_neg (by decide), if_neg (by decide), if_pos rfl]
      by_cases h7 : x = 7
      · subst h7
        obtain ⟨y, hy1, hy2⟩ := c_repeats K hr (cAll_cd C) (iAll_cod I) ((cRw_len W).trans hle) (fun i hi => by rw [gEn_i hi]; exact cRw_ent W i hi) (row_eOk I hr hb1)
        have hCl := bC_le (e := gEn s (4 * k + b)) (gn (s 739 (4 * k + b)))
        have hf : ∀ q, bC (gEn s (4 * k + b)) (gn (s 739 (4 * k + b))) ≤ q → (decide (q < bC (gEn s (4 * k + b)) (gn (s 739 (4 * k + b)))) && bRep (gCd n s) (gEn s (4 * k + b)) q) = false := fun q hq => by rw [decide_eq_false (by omega)]; rfl
        have e16 : bNum (fun q => decide (q < bC (gEn s (4 * k + b)) (gn (s 739 (4 * k + b)))) && bRep (gCd n s) (gEn s (4 * k + b)) q) 16 = bNum (fun q => decide (q < bC (gEn s (4 * k + b)) (gn (s 739 (4 * k + b)))) && bRep (gCd n s) (gEn s (4 * k + b)) q) (gn (s 739 (4 * k + b))) := by
          have t1 := bX_num hf (16 - bC (gEn s (4 * k + b)) (gn (s 739 (4 * k + b))))
          have t2 := bX_num hf (gn (s 739 (4 * k + b)) - bC (gEn s (4 * k + b)) (gn (s 739 (4 * k + b))))
          rw [show bC (gEn s (4 * k + b)) (gn (s 739 (4 * k + b))) + (16 - bC (gEn s (4 * k + b)) (gn (s 739 (4 * k + b)))) = 16 by omega] at t1
          rw [show bC (gEn s (4 * k + b)) (gn (s 739 (4 * k + b))) + (gn (s 739 (4 * k + b)) - bC (gEn s (4 * k + b)) (gn (s 739 (4 * k + b)))) = gn (s 739 (4 * k + b)) by omega] at t2
          rw [t1, t2]
        refine gPr_of R (v := Int32.ofNat (bNum (fun q => decide (q < bC (gEn s (4 * k + b)) (gn (s 739 (4 * k + b)))) && bRep (gCd n s) (gEn s (4 * k + b)) q) (gn (s 739 (4 * k + b))))) (s' := s) ⟨m, ?_, oX_refl, C⟩ (fun m1 K S H => ⟨m1, ?_, oM_refl, S, H⟩) I
        · rw [X, if_pos (by decide), if_pos (by decide), q_X_ofBegun, if_neg (by decide), if_neg (by decide), if_neg (by decide), if_neg (by decide), if_neg (by decide), if_neg (by decide), if_neg (by decide), if_pos rfl, gK_N K, gok_8, gok_row hr, if_pos rfl, if_pos rfl, gK_c K, hy1]
          simp only [Option.bind_some, gd_kI_i]
          rw [c_bits (f := fun q => decide (q < bC (gEn s (4 * k + b)) (gn (s 739 (4 * k + b)))) && bRep (gCd n s) (gEn s (4 * k + b)) q) (fun i => ?_) m, e16]
          · rfl
          · rw [hy2 i]
            by_cases q : i < 16
            · rw [decide_eq_true q, Bool.true_and]
            · rw [decide_eq_false q, decide_eq_false (show ¬ i < bC (gEn s (4 * k + b)) (gn (s 739 (4 * k + b))) by omega)]; rfl
        · rw [M m1 K S, if_neg (by decide), if_neg (by decide), if_neg (by decide), if_neg (by decide), if_neg (by decide), if_neg (by decide), if_neg (by decide), if_pos rfl]
          exact rt_166 K S I hr hb1 (gn (s 739 (4 * k + b))) 0 (by omega)
      by_cases h8 : x = 8
      · subst h8
        cases q : gPo s (4 * k + b) with
        | false =>
          refine gPr_of R (v := -9) (s' := s) ⟨m, ?_, oX_refl, C⟩ (fun m1 K S H => ⟨m1, ?_, oM_refl, S, H⟩) I
          · rw [X, if_pos (by decide), if_neg (by decide), if_pos ((c_posted K C hr hb1).2 q)]
          · rw [M m1 K S, if_neg (by decide), if_neg (by decide), if_neg (by decide), if_neg (by decide), if_neg (by decide), if_neg (by decide), if_neg (by decide), if_neg (by decide), if_pos rfl, c_MisPosted K hr S, q]; rfl
        | true =>
          have hdn := cRw_don W hb1 (gPo_t q).2
          refine gPr_of R (v := gSc (gCd n s) (s 739 (4 * k + b)) (gEn s (4 * k + b)) (gMk s (4 * k + b)) (gSn s (4 * k + b))) (s' := s) ⟨m, ?_, oX_refl, C⟩ (fun m1 K S H => ?_) I
          · rw [X, if_pos (by decide), if_neg (by decide), if_neg (fun t => by rw [(c_posted K C hr hb1).1 t] at q; exact absurd q (by decide)), q_X_ofPosted, if_pos rfl, gK_N K, gok_row hr, if_pos rfl, hdn.2.2]; rfl
          · obtain ⟨m3, b1, b2, b3, b4⟩ := c_scoreK K S H I hr hb1
            refine ⟨m3, ?_, oT_M b2, b3, b4⟩
            rw [M m1 K S, if_neg (by decide), if_neg (by decide), if_neg (by decide), if_neg (by decide), if_neg (by decide), if_neg (by decide), if_neg (by decide), if_neg (by decide), if_pos rfl, c_MisPosted K hr S, q]
            simp only [Option.bind_some, gd_kI_i, gB_t, gK_N K, gok_698, if_true]
            rw [if_neg (by decide), b1]; rfl
      by_cases h9 : x = 9
      · subst h9
        cases q : gPo s (4 * k + b) with
        | false =>
          refine gPr_of R (v := -9) (s' := s) ⟨m, ?_, oX_refl, C⟩ (fun m1 K S H => ⟨m1, ?_, oM_refl, S, H⟩) I
          · rw [X, if_pos (by decide), if_neg (by decide), if_pos ((c_posted K C hr hb1).2 q)]
          · rw [M m1 K S, if_neg (by decide), if_neg (by decide), if_neg (by decide), if_neg (by decide), if_neg (by decide), if_neg (by decide), if_neg (by decide), if_neg (by decide), if_neg (by decide), if_pos rfl, c_MisPosted K hr S, q]; rfl
        | true =>
          have hdn := cRw_don W hb1 (gPo_t q).2
          refine gPr_of R (v := gJd (gCd n s) (gMk s (4 * k + b))) (s' := s) ⟨m, ?_, oX_refl, C⟩ (fun m1 K S H => ⟨m1, ?_, oM_refl, S, H⟩) I
          · rw [X, if_pos (by decide), if_neg (by decide), if_neg (fun t => by rw [(c_posted K C hr hb1).1 t] at q; exact absurd q (by decide)), q_X_ofPosted, if_neg (by decide), if_pos rfl, gK_N K, gok_row hr, if_pos rfl, hdn.2.1]; rfl
          · rw [M m1 K S, if_neg (by decide), if_neg (by decide), if_neg (by decide), if_neg (by decide), if_neg (by decide), if_neg (by decide), if_neg (by decide), if_neg (by decide), if_neg (by decide), if_pos rfl, c_MisPosted K hr S, q]
            simp only [Option.bind_some, gd_kI_i, gB_t, gK_N K, gok_698, if_true]
            rw [if_neg (by decide), c_judged K S I hr]; rfl
      by_cases h10 : x = 10
      · subst h10
        cases q : gPo s (4 * k + b) with
        | false =>
          refine gPr_of R (v := -9) (s' := s) ⟨m, ?_, oX_refl, C⟩ (fun m1 K S H => ⟨m1, ?_, oM_refl, S, H⟩) I
          · rw [X, if_pos (by decide), if_neg (by decide), if_pos ((c_posted K C hr hb1).2 q)]
          · rw [M m1 K S, if_neg (by decide), if_neg (by decide), if_neg (by decide), if_neg (by decide), if_neg (by decide), if_neg (by decide), if_neg (by decide), if_neg (by decide), if_neg (by decide), if_neg (by decide), if_pos rfl, c_MisPosted K hr S, q]; rfl
        | true =>
          have hpt := cRw_pat W hb1 (gPo_t q).2
          refine gPr_of R (v := s 745 (4 * k + b)) (s' := s) ⟨m, ?_, oX_refl, C⟩ (fun m1 K S H => ⟨m1, ?_, oM_refl, S, H⟩) I
          · rw [X, if_pos (by decide), if_neg (by decide), if_neg (fun t => by rw [(c_posted K C hr hb1).1 t] at q; exact absurd q (by decide)), q_X_ofPosted, if_neg (by decide), if_neg (by decide), if_pos rfl, gK_N K, gok_row hr, if_pos rfl, hpt]; rfl
          · rw [M m1 K S, if_neg (by decide), if_neg (by decide), if_neg (by decide), if_neg (by decide), if_neg (by decide), if_neg (by decide), if_neg (by decide), if_neg (by decide), if_neg (by decide), if_neg (by decide), if_pos rfl, c_MisPosted K hr S, q]
            simp only [Option.bind_some, gd_kI_i, gB_t, gK_N K, gok_698, gK_698_30 K, goA_745, gn_in (show (4 * k + b) < 2147483648 by omega) hr, if_true]
            rw [if_neg (by decide), gS_745 S]
      -- none of these
      by_cases h20 : x < 20
      · refine gPr_of R (v := -9) (s' := s) ⟨m, ?_, oX_refl, C⟩ (fun m1 K S H => ⟨m1, ?_, oM_refl, S, H⟩) I
        · rw [X, if_pos h20]
          by_cases q8 : x < 8
          · rw [if_pos q8, q_X_ofBegun, if_neg h0, if_neg h1, if_neg h2, if_neg h3, if_neg h4, if_neg h5, if_neg h6, if_neg h7]; rfl
          · rw [if_neg q8, q_X_ofPosted, if_neg h8, if_neg h9, if_neg h10]
            by_cases q : gI m (58 + 4 * (4 * k + b)) 4 = 0
            · rw [if_pos q]
            · rw [if_neg q]; rfl
        · rw [M m1 K S, if_neg h0, if_neg h1, if_neg h2, if_neg h3, if_neg h4, if_neg h5, if_neg h6, if_neg h7, if_neg h8, if_neg h9, if_neg h10, c_inlo (.inl h20)]; rfl
      · have hx0 : ¬ x < 0 := fun q => h20 (Int32.lt_trans q (by decide))
        obtain ⟨w, hw, rfl⟩ := gn_pos (Int32.not_lt.1 hx0)
        have hw20 : 20 ≤ w := by
          by_cases q : w < 20
          · exact absurd ((gnlb_20 hw (by decide)).2 q) h20
          · omega
        have e20 : Int32.ofNat w - 20 = Int32.ofNat (w - 20) := gn_sub (b := 20) hw20
        have e19 : 19 + s 739 (4 * k + b) = Int32.ofNat (19 + gn (s 739 (4 * k + b))) := by
          conv => lhs; rw [hle]
          exact gn_add (a := 19)
        by_cases hin : w - 20 < gn (s 739 (4 * k + b))
        · refine gPr_of R (v := s 740 (16 * (4 * k + b) + (w - 20))) (s' := s) ⟨m, ?_, oX_refl, C⟩ (fun m1 K S H => ⟨m1, ?_, oM_refl, S, H⟩) I
          · rw [X, if_neg h20, e20, c_hasEntry K hr ((cRw_len W).trans hle), gIs_y (by omega) hin]
            simp only [gK_N K, gK_8_0 K, gK_8_1 K, gK_8_2 K, gK_8_3 K, gK_8_4 K, gK_8_5 K, gK_8_6 K, gK_8_7 K, gK_8_8 K, gK_10_0 K, gK_10_1 K, gK_10_2 K, gK_11_0 K, gK_15_0 K, gK_15_1 K, gK_15_2 K, gK_15_3 K, gK_20_0 K, gK_20_1 K, gK_20_2 K, gK_20_3 K, gK_20_4 K, gK_20_5 K, gK_698_0 K, gK_698_3 K, gK_698_16 K, gK_698_17 K, gK_698_20 K, gK_698_21 K, gK_698_22 K, gK_698_23 K, gK_698_24 K, gK_698_25 K, gK_698_26 K, gK_698_27 K, gK_698_28 K, gK_698_29 K, gK_698_30 K, gK_698_31 K, gK_698_32 K, gK_698_33 K, gK_698_34 K, gK_698_35 K, gK_698_36 K, gK_698_37 K, gK_698_38 K, gK_698_39 K, gK_698_41 K, gK_698_42 K, gK_698_44 K, gK_c K, gK_d K, gK_n K, gK_p K, gok_8, gok_10, gok_11, gok_15, gok_20, gok_698, gok_699, goA_9, goA_12, goA_13, goA_14, goA_16, goA_17, goA_18, goA_19, goA_21, goA_22, goA_23, goA_24, goA_25, goA_26, goA_27, goA_28, goA_29, goA_30, goA_31, goA_732, goA_733, goA_734, goA_735, goA_736, goA_737, goA_738, goA_739, goA_740, goA_741, goA_742, goA_743, goA_744, goA_745, goA_746, goA_747, goA_748, goA_749, goA_750, goA_751, goA_752, goA_753, goA_754, goA_755, goA_756, goA_757, gN_wI, gR_wI, gL_wI, if_true, eq_self, gK_row K hr, gK_ent K hr, gK_mrk K hr, gK_sen K hr, gok_row hr, goA_ent hr, goA_mrk hr, goA_sen hr, gd_row0, gd_row8, if_false, Option.bind_some, gd_kI_i, gB_t]
            rw [if_neg (by decide), gn_in (by omega) (show w - 20 < 16 by omega), if_pos rfl, gn_nat (by omega), cRw_ent W _ (by omega)]
          · rw [M m1 K S, if_neg h0, if_neg h1, if_neg h2, if_neg h3, if_neg h4, if_neg h5, if_neg h6, if_neg h7, if_neg h8, if_neg h9, if_neg h10, e19, c_inok h20 (fun q => by have := (gn_lt (by omega) (by omega)).1 q; omega)]
            have e3 : Int32.ofNat (16 * (4 * k + b)) + Int32.ofNat w - 20 = Int32.ofNat (16 * (4 * k + b) + (w - 20)) := by
              rw [gn_add]
              have := gn_sub (a := 16 * (4 * k + b) + w) (b := 20) (by omega)
              rw [show 16 * (4 * k + b) + w - 20 = 16 * (4 * k + b) + (w - 20) by omega] at this
              exact this
            rw [e3]
            simp only [gK_N K, gK_8_0 K, gK_8_1 K, gK_8_2 K, gK_8_3 K, gK_8_4 K, gK_8_5 K, gK_8_6 K, gK_8_7 K, gK_8_8 K, gK_10_0 K, gK_10_1 K, gK_10_2 K, gK_11_0 K, gK_15_0 K, gK_15_1 K, gK_15_2 K, gK_15_3 K, gK_20_0 K, gK_20_1 K, gK_20_2 K, gK_20_3 K, gK_20_4 K, gK_20_5 K, gK_698_0 K, gK_698_3 K, gK_698_16 K, gK_698_17 K, gK_698_20 K, gK_698_21 K, gK_698_22 K, gK_698_23 K, gK_698_24 K, gK_698_25 K, gK_698_26 K, gK_698_27 K, gK_698_28 K, gK_698_29 K, gK_698_30 K, gK_698_31 K, gK_698_32 K, gK_698_33 K, gK_698_34 K, gK_698_35 K, gK_698_36 K, gK_698_37 K, gK_698_38 K, gK_698_39 K, gK_698_41 K, gK_698_42 K, gK_698_44 K, gK_c K, gK_d K, gK_n K, gK_p K, gok_8, gok_10, gok_11, gok_15, gok_20, gok_698, gok_699, goA_9, goA_12, goA_13, goA_14, goA_16, goA_17, goA_18, goA_19, goA_21, goA_22, goA_23, goA_24, goA_25, goA_26, goA_27, goA_28, goA_29, goA_30, goA_31, goA_732, goA_733, goA_734, goA_735, goA_736, goA_737, goA_738, goA_739, goA_740, goA_741, goA_742, goA_743, goA_744, goA_745, goA_746, goA_747, goA_748, goA_749, goA_750, goA_751, goA_752, goA_753, goA_754, goA_755, goA_756, goA_757, gN_wI, gR_wI, gL_wI, if_true, eq_self, gS_n K S, gS_n5 K S, gS_n6 K S, gS_n7 K S, gS_n8 K S, gS_n9 K S, gS_n10 K S, gS_n11 K S, gS_n12 K S, gS_n13 K S, gS_n14 K S, gS_n15 K S, gS_732 S, gS_735 S, gS_736 S, gS_737 S, gS_738 S, gS_739 S, gS_740 S, gS_741 S, gS_742 S, gS_743 S, gS_744 S, gS_745 S, gS_746 S, gS_698_4 S, gS_698_14 S, gS_698_15 S, gS_698_18 S, gS_698_19 S, Option.bind_some, gd_k0I_i]
            rw [if_neg (by decide), gn_in (by omega) (show 16 * (4 * k + b) + (w - 20) < 2560 by omega), if_pos rfl, gn_nat (show 16 * (4 * k + b) + (w - 20) < 2147483648 by omega)]
        · refine gPr_of R (v := -9) (s' := s) ⟨m, ?_, oX_refl, C⟩ (fun m1 K S H => ⟨m1, ?_, oM_refl, S, H⟩) I
          · rw [X, if_neg h20, e20, c_hasEntry K hr ((cRw_len W).trans hle), gIs_n (by omega) (by omega), decide_eq_false hin]; rfl
          · rw [M m1 K S, if_neg h0, if_neg h1, if_neg h2, if_neg h3, if_neg h4, if_neg h5, if_neg h6, if_neg h7, if_neg h8, if_neg h9, if_neg h10, e19, c_inlo (.inr ((gn_lt (by omega) hw).2 (by omega)))]; rfl
end P82
