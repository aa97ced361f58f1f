/-! ===== bits ===== -/
theorem gb_sh {a : Nat} (h : a < 32) : (Int32.ofNat a &&& 31).toBitVec = BitVec.ofNat 32 a ∧ ((Int32.ofNat a &&& 31).toBitVec.smod 32).toNat = a := by
  have := (show ∀ a < 32, (Int32.ofNat a &&& 31).toBitVec = BitVec.ofNat 32 a ∧ ((Int32.ofNat a &&& 31).toBitVec.smod 32).toNat = a from by decide +kernel)
  exact this a h
theorem gb_shr {x : Int32} {a i : Nat} (h : a < 32) : gb (x >>> (Int32.ofNat a &&& 31)) i = (!decide (32 ≤ i) && if a + i < 32 then gb x (a + i) else x.toBitVec.msb) := by
  unfold gb
  show (x.toBitVec.sshiftRight ((Int32.ofNat a &&& 31).toBitVec.smod 32).toNat).getLsbD i = _
  rw [(gb_sh h).2, BitVec.getLsbD_sshiftRight]
theorem gb_one {i : Nat} : gb 1 i = decide (i = 0) := by
  show (1#32).getLsbD i = _
  rw [BitVec.getLsbD_one]; rfl
theorem gb_and {x y : Int32} {i : Nat} : gb (x &&& y) i = (gb x i && gb y i) := BitVec.getLsbD_and
theorem gb_or' {x y : Int32} {i : Nat} : gb (x ||| y) i = (gb x i || gb y i) := BitVec.getLsbD_or
theorem gb_zero {i : Nat} : gb 0 i = false := BitVec.getLsbD_zero
theorem gb_ext {x y : Int32} (h : ∀ i, i < 32 → gb x i = gb y i) : x = y := Int32.toBitVec_inj.1 (BitVec.eq_of_getLsbD_eq h)
theorem gb_tst {x : Int32} {a : Nat} (h : a < 32) : ((x >>> (Int32.ofNat a &&& 31)) &&& 1 = 0) ↔ gb x a = false := by
  constructor
  · intro q
    have := congrArg (fun y => gb y 0) q
    simp only [gb_and, gb_shr h, gb_one, gb_zero, Nat.add_zero, h, if_true] at this
    simpa using this
  · intro q
    refine gb_ext fun i hi => ?_
    rw [gb_and, gb_shr h, gb_one, gb_zero]
    by_cases h0 : i = 0
    · subst h0; rw [Nat.add_zero, if_pos h, q]; rfl
    · rw [decide_eq_false h0, Bool.and_false]
theorem gb_bit {a i : Nat} (h : a < 32) : gb ((1 : Int32) <<< (Int32.ofNat a &&& 31)) i = decide (i = a) := by
  unfold gb
  show ((1#32) <<< ((Int32.ofNat a &&& 31).toBitVec.smod 32).toNat).getLsbD i = _
  rw [(gb_sh h).2, BitVec.getLsbD_shiftLeft, BitVec.getLsbD_one]
  by_cases e : i = a
  · subst e; simp [h]
  · by_cases h1 : i < a
    · simp [e, h1]
    · have : ¬ (i - a = 0) := by omega
      simp [e, this]
theorem gb_or {x : Int32} {a i : Nat} (h : a < 32) : gb (x ||| ((1 : Int32) <<< (Int32.ofNat a &&& 31))) i = (gb x i || decide (i = a)) := by rw [gb_or', gb_bit h]
theorem gd_vn0 : vp_nar .boolean 0 = 0 := rfl
theorem gd_vn1 : vp_nar .boolean 1 = 1 := rfl
/-! ===== end, enter, withdraw ===== -/
theorem gPc_up {s : gd_C} {a k j : Nat} {x : Int32} (h : a ≠ 738 ∧ a ≠ 745) : gPc (gd_up s a k x) j = gPc s j := gPc_c j fun r _ => ⟨gd_up_a (Ne.symm h.1), gd_up_a (Ne.symm h.2)⟩
theorem gCt_up {s : gd_C} {l : Int32} {a k b j : Nat} {x : Int32} (h : b ≠ 735 ∧ b ≠ 738) : gCt (gd_up s b k x) l a j = gCt s l a j := gCt_c j fun g _ => ⟨gd_up_a (Ne.symm h.1), gd_up_a (Ne.symm h.2)⟩
/-- the class's half: a change of the meeting alone -/
theorem cAll_m {c n : Nat} {J J' s s' : gd_C} (hc : c = 32 ∨ c = 45) (h : cAll c n J s) (eJ : ∀ a, 32 ≤ a → J' a = J a) (hs : gCd n s' = gCd n s) (hr : ∀ r < 160, rEq s s' r) (mt : cMt J' s') : cAll c n J' s' := by
  refine ⟨mt, ?_, fun r hr' => ?_⟩
  · rw [hs]; exact cCd_c (cAll_cd h) fun k hk => eJ (c + k) (by omega)
  · rw [hs]; exact cRw_c (cAll_rw h r hr') (fun a h1 h2 => eJ a (by omega)) (hr r hr')
section P57
variable {c d n p : Nat} {m : gd_M} {s : gd_C}
theorem P_end (R : gRel c d n p m s) (x : Int32) : gPr 25 26 [.int x] m := by
  obtain ⟨K, I, C, S, H⟩ := id R
  obtain ⟨T, -, hT2, hT⟩ := iAll_tpd I
  have hn := gK_n1 K
  by_cases h : x < 0 ∨ s 698 4 < x
  · refine gPr_of R (v := -1) (s' := s) ⟨m, ?_, oX_refl, C⟩ (fun m1 K S H => ⟨m1, ?_, oM_refl, S, H⟩) I
    · rw [q_X_end]
      simp only [gK_N K, gK_8_0 K, gK_8_1 K, gK_8_2 K, gK_8_3 K, gK_8_4 K, gK_8_5 K, gK_8_6 K, gK_8_7 K, gK_8_8 K, gK_10_0 K, gK_10_1 K, gK_10_2 K, gK_11_0 K, gK_15_0 K, gK_15_1 K, gK_15_2 K, gK_15_3 K, gK_20_0 K, gK_20_1 K, gK_20_2 K, gK_20_3 K, gK_20_4 K, gK_20_5 K, gK_698_0 K, gK_698_3 K, gK_698_16 K, gK_698_17 K, gK_698_20 K, gK_698_21 K, gK_698_22 K, gK_698_23 K, gK_698_24 K, gK_698_25 K, gK_698_26 K, gK_698_27 K, gK_698_28 K, gK_698_29 K, gK_698_30 K, gK_698_31 K, gK_698_32 K, gK_698_33 K, gK_698_34 K, gK_698_35 K, gK_698_36 K, gK_698_37 K, gK_698_38 K, gK_698_39 K, gK_698_41 K, gK_698_42 K, gK_698_44 K, gK_c K, gK_d K, gK_n K, gK_p K, gok_8, gok_10, gok_11, gok_15, gok_20, gok_698, gok_699, goA_9, goA_12, goA_13, goA_14, goA_16, goA_17, goA_18, goA_19, goA_21, goA_22, goA_23, goA_24, goA_25, goA_26, goA_27, goA_28, goA_29, goA_30, goA_31, goA_732, goA_733, goA_734, goA_735, goA_736, goA_737, goA_738, goA_739, goA_740, goA_741, goA_742, goA_743, goA_744, goA_745, goA_746, goA_747, goA_748, goA_749, goA_750, goA_751, goA_752, goA_753, goA_754, goA_755, goA_756, goA_757, gN_wI, gR_wI, gL_wI, if_true, eq_self, cMt_tpd (cAll_mt C), cMt_tap (cAll_mt C), cMt_fkd (cAll_mt C), cMt_fpl (cAll_mt C), cMt_ppl (cAll_mt C), cMt_lat (cAll_mt C), cMt_lan (cAll_mt C), cMt_pai (cAll_mt C), cMt_pos (cAll_mt C), cCd_pts (cAll_cd C), cCd_lks (cAll_cd C), cCd_fts (cAll_cd C), cCd_pan (cAll_cd C), cCd_spa (cAll_cd C), cCd_cnt (cAll_cd C), cCd_sho (cAll_cd C), cCd_les (cAll_cd C), cCd_tea (cAll_cd C), cCd_bst (cAll_cd C), cCd_fin (cAll_cd C), cCd_lnd (cAll_cd C)]
      by_cases h1 : x < 0
      · rw [if_pos h1]
      · rw [if_neg h1, if_pos (h.resolve_left h1)]
    · rw [q_Mo_end]
      simp only [gK_N K, gK_8_0 K, gK_8_1 K, gK_8_2 K, gK_8_3 K, gK_8_4 K, gK_8_5 K, gK_8_6 K, gK_8_7 K, gK_8_8 K, gK_10_0 K, gK_10_1 K, gK_10_2 K, gK_11_0 K, gK_15_0 K, gK_15_1 K, gK_15_2 K, gK_15_3 K, gK_20_0 K, gK_20_1 K, gK_20_2 K, gK_20_3 K, gK_20_4 K, gK_20_5 K, gK_698_0 K, gK_698_3 K, gK_698_16 K, gK_698_17 K, gK_698_20 K, gK_698_21 K, gK_698_22 K, gK_698_23 K, gK_698_24 K, gK_698_25 K, gK_698_26 K, gK_698_27 K, gK_698_28 K, gK_698_29 K, gK_698_30 K, gK_698_31 K, gK_698_32 K, gK_698_33 K, gK_698_34 K, gK_698_35 K, gK_698_36 K, gK_698_37 K, gK_698_38 K, gK_698_39 K, gK_698_41 K, gK_698_42 K, gK_698_44 K, gK_c K, gK_d K, gK_n K, gK_p K, gok_8, gok_10, gok_11, gok_15, gok_20, gok_698, gok_699, goA_9, goA_12, goA_13, goA_14, goA_16, goA_17, goA_18, goA_19, goA_21, goA_22, goA_23, goA_24, goA_25, goA_26, goA_27, goA_28, goA_29, goA_30, goA_31, goA_732, goA_733, goA_734, goA_735, goA_736, goA_737, goA_738, goA_739, goA_740, goA_741, goA_742, goA_743, goA_744, goA_745, goA_746, goA_747, goA_748, goA_749, goA_750, goA_751, goA_752, goA_753, goA_754, goA_755, goA_756, goA_757, gN_wI, gR_wI, gL_wI, if_true, eq_self, gS_n K S, gS_n5 K S, gS_n6 K S, gS_n7 K S, gS_n8 K S, gS_n9 K S, gS_n10 K S, gS_n11 K S, gS_n12 K S, gS_n13 K S, gS_n14 K S, gS_n15 K S, gS_732 S, gS_735 S, gS_736 S, gS_737 S, gS_738 S, gS_739 S, gS_740 S, gS_741 S, gS_742 S, gS_743 S, gS_744 S, gS_745 S, gS_746 S, gS_698_4 S, gS_698_14 S, gS_698_15 S, gS_698_18 S, gS_698_19 S]
      by_cases h1 : x < 0
      · rw [if_pos h1]
      · rw [if_neg h1, if_pos (h.resolve_left h1)]
  · have h1 : ¬ x < 0 := fun q => h (.inl q)
    have h2 : ¬ s 698 4 < x := fun q => h (.inr q)
    have hrE : ∀ r < 160, rEq s (gd_up s 698 4 x) r := fun r hr => rEq_up (by show (160 : Nat) ≠ r; omega)
    have hcd := gCd_up (s := s) (a := 698) (k := 4) (x := x) hn (.inl (by decide))
    refine gPr_of R (v := x) (s' := gd_up s 698 4 x) ⟨wI m 8 11 x, ?_, oX_w oX_refl (by decide), ?_⟩ (fun m1 K S H => ⟨wI m1 698 4 x, ?_, oM_w oM_refl (by decide), gSm_w S, gCh_c H hcd fun r hr => .inr (.inr ⟨hrE r hr, rfl, rfl, rfl⟩)⟩) ?_
    · rw [q_X_end]
      simp only [gK_N K, gK_8_0 K, gK_8_1 K, gK_8_2 K, gK_8_3 K, gK_8_4 K, gK_8_5 K, gK_8_6 K, gK_8_7 K, gK_8_8 K, gK_10_0 K, gK_10_1 K, gK_10_2 K, gK_11_0 K, gK_15_0 K, gK_15_1 K, gK_15_2 K, gK_15_3 K, gK_20_0 K, gK_20_1 K, gK_20_2 K, gK_20_3 K, gK_20_4 K, gK_20_5 K, gK_698_0 K, gK_698_3 K, gK_698_16 K, gK_698_17 K, gK_698_20 K, gK_698_21 K, gK_698_22 K, gK_698_23 K, gK_698_24 K, gK_698_25 K, gK_698_26 K, gK_698_27 K, gK_698_28 K, gK_698_29 K, gK_698_30 K, gK_698_31 K, gK_698_32 K, gK_698_33 K, gK_698_34 K, gK_698_35 K, gK_698_36 K, gK_698_37 K, gK_698_38 K, gK_698_39 K, gK_698_41 K, gK_698_42 K, gK_698_44 K, gK_c K, gK_d K, gK_n K, gK_p K, gok_8, gok_10, gok_11, gok_15, gok_20, gok_698, gok_699, goA_9, goA_12, goA_13, goA_14, goA_16, goA_17, goA_18, goA_19, goA_21, goA_22, goA_23, goA_24, goA_25, goA_26, goA_27, goA_28, goA_29, goA_30, goA_31, goA_732, goA_733, goA_734, goA_735, goA_736, goA_737, goA_738, goA_739, goA_740, goA_741, goA_742, goA_743, goA_744, goA_745, goA_746, goA_747, goA_748, goA_749, goA_750, goA_751, goA_752, goA_753, goA_754, goA_755, goA_756, goA_757, gN_wI, gR_wI, gL_wI, if_true, eq_self, cMt_tpd (cAll_mt C), cMt_tap (cAll_mt C), cMt_fkd (cAll_mt C), cMt_fpl (cAll_mt C), cMt_ppl (cAll_mt C), cMt_lat (cAll_mt C), cMt_lan (cAll_mt C), cMt_pai (cAll_mt C), cMt_pos (cAll_mt C), cCd_pts (cAll_cd C), cCd_lks (cAll_cd C), cCd_fts (cAll_cd C), cCd_pan (cAll_cd C), cCd_spa (cAll_cd C), cCd_cnt (cAll_cd C), cCd_sho (cAll_cd C), cCd_les (cAll_cd C), cCd_tea (cAll_cd C), cCd_bst (cAll_cd C), cCd_fin (cAll_cd C), cCd_lnd (cAll_cd C)]
      rw [if_neg h1, if_neg h2]
    · have M := cAll_mt C
      refine cAll_m (gK_c1 K) C (fun a ha => gI_wI_f (by omega)) hcd hrE ⟨gI_wI_s.trans gd_up_s.symm, (by have q := cMt_tap M; exact q), (by have q := cMt_fkd M; exact q), (by have q := cMt_fpl M; exact q), (by have q := cMt_ppl M; exact q), (by have q := cMt_lat M; exact q), (by have q := cMt_lan M; exact q), (by have q := cMt_gon M; exact q), (by have q := cMt_pai M; exact q), ?_⟩
      rw [gPc_up (by decide)]; exact (by have q := cMt_pos M; exact q)
    · rw [q_Mo_end]
      simp only [gK_N K, gK_8_0 K, gK_8_1 K, gK_8_2 K, gK_8_3 K, gK_8_4 K, gK_8_5 K, gK_8_6 K, gK_8_7 K, gK_8_8 K, gK_10_0 K, gK_10_1 K, gK_10_2 K, gK_11_0 K, gK_15_0 K, gK_15_1 K, gK_15_2 K, gK_15_3 K, gK_20_0 K, gK_20_1 K, gK_20_2 K, gK_20_3 K, gK_20_4 K, gK_20_5 K, gK_698_0 K, gK_698_3 K, gK_698_16 K, gK_698_17 K, gK_698_20 K, gK_698_21 K, gK_698_22 K, gK_698_23 K, gK_698_24 K, gK_698_25 K, gK_698_26 K, gK_698_27 K, gK_698_28 K, gK_698_29 K, gK_698_30 K, gK_698_31 K, gK_698_32 K, gK_698_33 K, gK_698_34 K, gK_698_35 K, gK_698_36 K, gK_698_37 K, gK_698_38 K, gK_698_39 K, gK_698_41 K, gK_698_42 K, gK_698_44 K, gK_c K, gK_d K, gK_n K, gK_p K, gok_8, gok_10, gok_11, gok_15, gok_20, gok_698, gok_699, goA_9, goA_12, goA_13, goA_14, goA_16, goA_17, goA_18, goA_19, goA_21, goA_22, goA_23, goA_24, goA_25, goA_26, goA_27, goA_28, goA_29, goA_30, goA_31, goA_732, goA_733, goA_734, goA_735, goA_736, goA_737, goA_738, goA_739, goA_740, goA_741, goA_742, goA_743, goA_744, goA_745, goA_746, goA_747, goA_748, goA_749, goA_750, goA_751, goA_752, goA_753, goA_754, goA_755, goA_756, goA_757, gN_wI, gR_wI, gL_wI, if_true, eq_self, gS_n K S, gS_n5 K S, gS_n6 K S, gS_n7 K S, gS_n8 K S, gS_n9 K S, gS_n10 K S, gS_n11 K S, gS_n12 K S, gS_n13 K S, gS_n14 K S, gS_n15 K S, gS_732 S, gS_735 S, gS_736 S, gS_737 S, gS_738 S, gS_739 S, gS_740 S, gS_741 S, gS_742 S, gS_743 S, gS_744 S, gS_745 S, gS_746 S, gS_698_4 S, gS_698_14 S, gS_698_15 S, gS_698_18 S, gS_698_19 S]
      rw [if_neg h1, if_neg h2]
    · refine ⟨by rw [hcd]; exact iAll_cod I, ?_, (by have q := iAll_ppl I; exact q), (by have q := iAll_lat I; exact q), (by have q := iAll_lan I; exact q), (by have q := iAll_out I; exact q), fun r hr => by rw [hcd]; exact iRow_c (iAll_row I r hr) (hrE r hr) rfl, fun l a ha => ?_, (by have q := iAll_byt I; exact q)⟩
      · rw [gd_up_s]
        obtain ⟨k, hk, rfl⟩ := gn_pos (Int32.not_lt.1 h1)
        rw [hT] at h2
        exact isN_i (by omega) (Nat.le_trans (Nat.le_of_not_lt fun q => h2 ((gn_lt (by omega) hk).2 q)) hT2)
      · rw [hcd, gCt_up (by decide)]; exact iAll_tea I l a ha
theorem c_enter_37 {P : Nat} {x : Int32} (hP : P < 40) : ∀ j k (m : gd_M), k + j = 5 → gK c d n p m → gI m 698 18 = Int32.ofNat P → gd_Den (91, 37, [.ref 698, .int x, .int (Int32.ofNat k)], [], m) = some (.int (Int32.ofNat P), wI (wFl m 737 (5 * P + k) 0 j) 698 18 (Int32.ofNat (P + 1))) := by
  intro j
  induction j with
  | zero =>
    intro k m hk K hp
    have hk : k = 5 := by omega
    subst hk
    rw [q_Mo_enter_37]
    simp only [gK_N K, gK_8_0 K, gK_8_1 K, gK_8_2 K, gK_8_3 K, gK_8_4 K, gK_8_5 K, gK_8_6 K, gK_8_7 K, gK_8_8 K, gK_10_0 K, gK_10_1 K, gK_10_2 K, gK_11_0 K, gK_15_0 K, gK_15_1 K, gK_15_2 K, gK_15_3 K, gK_20_0 K, gK_20_1 K, gK_20_2 K, gK_20_3 K, gK_20_4 K, gK_20_5 K, gK_698_0 K, gK_698_3 K, gK_698_16 K, gK_698_17 K, gK_698_20 K, gK_698_21 K, gK_698_22 K, gK_698_23 K, gK_698_24 K, gK_698_25 K, gK_698_26 K, gK_698_27 K, gK_698_28 K, gK_698_29 K, gK_698_30 K, gK_698_31 K, gK_698_32 K, gK_698_33 K, gK_698_34 K, gK_698_35 K, gK_698_36 K, gK_698_37 K, gK_698_38 K, gK_698_39 K, gK_698_41 K, gK_698_42 K, gK_698_44 K, gK_c K, gK_d K, gK_n K, gK_p K, gok_8, gok_10, gok_11, gok_15, gok_20, gok_698, gok_699, goA_9, goA_12, goA_13, goA_14, goA_16, goA_17, goA_18, goA_19, goA_21, goA_22, goA_23, goA_24, goA_25, goA_26, goA_27, goA_28, goA_29, goA_30, goA_31, goA_732, goA_733, goA_734, goA_735, goA_736, goA_737, goA_738, goA_739, goA_740, goA_741, goA_742, goA_743, goA_744, goA_745, goA_746, goA_747, goA_748, goA_749, goA_750, goA_751, goA_752, goA_753, goA_754, goA_755, goA_756, goA_757, gN_wI, gR_wI, gL_wI, if_true, eq_self]
    rw [if_neg (by decide), gI_wI_s, hp, gn_succ]
    show some (Value.int (Int32.ofNat (P + 1) - 1), _) = some (Value.int (Int32.ofNat P), _)
    rw [gn_pred (by omega)]; rfl
  | succ j ih =>
    intro k m hk K hp
    rw [q_Mo_enter_37]
    simp only [gK_N K, gK_8_0 K, gK_8_1 K, gK_8_2 K, gK_8_3 K, gK_8_4 K, gK_8_5 K, gK_8_6 K, gK_8_7 K, gK_8_8 K, gK_10_0 K, gK_10_1 K, gK_10_2 K, gK_11_0 K, gK_15_0 K, gK_15_1 K, gK_15_2 K, gK_15_3 K, gK_20_0 K, gK_20_1 K, gK_20_2 K, gK_20_3 K, gK_20_4 K, gK_20_5 K, gK_698_0 K, gK_698_3 K, gK_698_16 K, gK_698_17 K, gK_698_20 K, gK_698_21 K, gK_698_22 K, gK_698_23 K, gK_698_24 K, gK_698_25 K, gK_698_26 K, gK_698_27 K, gK_698_28 K, gK_698_29 K, gK_698_30 K, gK_698_31 K, gK_698_32 K, gK_698_33 K, gK_698_34 K, gK_698_35 K, gK_698_36 K, gK_698_37 K, gK_698_38 K, gK_698_39 K, gK_698_41 K, gK_698_42 K, gK_698_44 K, gK_c K, gK_d K, gK_n K, gK_p K, gok_8, gok_10, gok_11, gok_15, gok_20, gok_698, gok_699, goA_9, goA_12, goA_13, goA_14, goA_16, goA_17, goA_18, goA_19, goA_21, goA_22, goA_23, goA_24, goA_25, goA_26, goA_27, goA_28, goA_29, goA_30, goA_31, goA_732, goA_733, goA_734, goA_735, goA_736, goA_737, goA_738, goA_739, goA_740, goA_741, goA_742, goA_743, goA_744, goA_745, goA_746, goA_747, goA_748, goA_749, goA_750, goA_751, goA_752, goA_753, goA_754, goA_755, goA_756, goA_757, gN_wI, gR_wI, gL_wI, if_true, eq_self, hp, gm5, gn_add, gd_vn0]
    rw [if_pos ((gnlb_5 (by omega) (by decide)).2 (by omega)), gn_in (by omega) (by omega), if_pos rfl, gn_nat (by omega), gn_succ]
    exact ih (k + 1) (wI m 737 (5 * P + k) 0) (by omega) K hp
theorem P_enter (R : gRel c d n p m s) (x : Int32) : gPr 90 91 [.int x] m := by
  obtain ⟨K, I, C, S, H⟩ := id R
  obtain ⟨P, -, hP2, hP⟩ := iAll_ppl I
  have hn := gK_n1 K
  cases h : gIs 10 x with
  | false =>
    refine gPr_of R (v := -2) (s' := s) ⟨m, ?_, oX_refl, C⟩ (fun m1 K S H => ⟨m1, ?_, oM_refl, S, H⟩) I
    · rw [q_X_enter, c_isLand, h]; rfl
    · rw [q_Mo_enter, c_in9, h]; rfl
  | true =>
    obtain ⟨l, hl, rfl⟩ := gIs_t (by decide) h
    by_cases h40 : P = 40
    · subst h40
      refine gPr_of R (v := -3) (s' := s) ⟨m, ?_, oX_refl, C⟩ (fun m1 K S H => ⟨m1, ?_, oM_refl, S, H⟩) I
      · rw [q_X_enter, c_isLand, h]
        simp only [gK_N K, gK_8_0 K, gK_8_1 K, gK_8_2 K, gK_8_3 K, gK_8_4 K, gK_8_5 K, gK_8_6 K, gK_8_7 K, gK_8_8 K, gK_10_0 K, gK_10_1 K, gK_10_2 K, gK_11_0 K, gK_15_0 K, gK_15_1 K, gK_15_2 K, gK_15_3 K, gK_20_0 K, gK_20_1 K, gK_20_2 K, gK_20_3 K, gK_20_4 K, gK_20_5 K, gK_698_0 K, gK_698_3 K, gK_698_16 K, gK_698_17 K, gK_698_20 K, gK_698_21 K, gK_698_22 K, gK_698_23 K, gK_698_24 K, gK_698_25 K, gK_698_26 K, gK_698_27 K, gK_698_28 K, gK_698_29 K, gK_698_30 K, gK_698_31 K, gK_698_32 K, gK_698_33 K, gK_698_34 K, gK_698_35 K, gK_698_36 K, gK_698_37 K, gK_698_38 K, gK_698_39 K, gK_698_41 K, gK_698_42 K, gK_698_44 K, gK_c K, gK_d K, gK_n K, gK_p K, gok_8, gok_10, gok_11, gok_15, gok_20, gok_698, gok_699, goA_9, goA_12, goA_13, goA_14, goA_16, goA_17, goA_18, goA_19, goA_21, goA_22, goA_23, goA_24, goA_25, goA_26, goA_27, goA_28, goA_29, goA_30, goA_31, goA_732, goA_733, goA_734, goA_735, goA_736, goA_737, goA_738, goA_739, goA_740, goA_741, goA_742, goA_743, goA_744, goA_745, goA_746, goA_747, goA_748, goA_749, goA_750, goA_751, goA_752, goA_753, goA_754, goA_755, goA_756, goA_757, gN_wI, gR_wI, gL_wI, if_true, eq_self, cMt_tpd (cAll_mt C), cMt_tap (cAll_mt C), cMt_fkd (cAll_mt C), cMt_fpl (cAll_mt C), cMt_ppl (cAll_mt C), cMt_lat (cAll_mt C), cMt_lan (cAll_mt C), cMt_pai (cAll_mt C), cMt_pos (cAll_mt C), cCd_pts (cAll_cd C), cCd_lks (cAll_cd C), cCd_fts (cAll_cd C), cCd_pan (cAll_cd C), cCd_spa (cAll_cd C), cCd_cnt (cAll_cd C), cCd_sho (cAll_cd C), cCd_les (cAll_cd C), cCd_tea (cAll_cd C), cCd_bst (cAll_cd C), cCd_fin (cAll_cd C), cCd_lnd (cAll_cd C), hP, Option.bind_some, gd_k0I_i, gB_t]
        rfl
      · rw [q_Mo_enter, c_in9, h]
        simp only [gK_N K, gK_8_0 K, gK_8_1 K, gK_8_2 K, gK_8_3 K, gK_8_4 K, gK_8_5 K, gK_8_6 K, gK_8_7 K, gK_8_8 K, gK_10_0 K, gK_10_1 K, gK_10_2 K, gK_11_0 K, gK_15_0 K, gK_15_1 K, gK_15_2 K, gK_15_3 K, gK_20_0 K, gK_20_1 K, gK_20_2 K, gK_20_3 K, gK_20_4 K, gK_20_5 K, gK_698_0 K, gK_698_3 K, gK_698_16 K, gK_698_17 K, gK_698_20 K, gK_698_21 K, gK_698_22 K, gK_698_23 K, gK_698_24 K, gK_698_25 K, gK_698_26 K, gK_698_27 K, gK_698_28 K, gK_698_29 K, gK_698_30 K, gK_698_31 K, gK_698_32 K, gK_698_33 K, gK_698_34 K, gK_698_35 K, gK_698_36 K, gK_698_37 K, gK_698_38 K, gK_698_39 K, gK_698_41 K, gK_698_42 K, gK_698_44 K, gK_c K, gK_d K, gK_n K, gK_p K, gok_8, gok_10, gok_11, gok_15, gok_20, gok_698, gok_699, goA_9, goA_12, goA_13, goA_14, goA_16, goA_17, goA_18, goA_19, goA_21, goA_22, goA_23, goA_24, goA_25, goA_26, goA_27, goA_28, goA_29, goA_30, goA_31, goA_732, goA_733, goA_734, goA_735, goA_736, goA_737, goA_738, goA_739, goA_740, goA_741, goA_742, goA_743, goA_744, goA_745, goA_746, goA_747, goA_748, goA_749, goA_750, goA_751, goA_752, goA_753, goA_754, goA_755, goA_756, goA_757, gN_wI, gR_wI, gL_wI, if_true, eq_self, gS_n K S, gS_n5 K S, gS_n6 K S, gS_n7 K S, gS_n8 K S, gS_n9 K S, gS_n10 K S, gS_n11 K S, gS_n12 K S, gS_n13 K S, gS_n14 K S, gS_n15 K S, gS_732 S, gS_735 S, gS_736 S, gS_737 S, gS_738 S, gS_739 S, gS_740 S, gS_741 S, gS_742 S, gS_743 S, gS_744 S, gS_745 S, gS_746 S, gS_698_4 S, gS_698_14 S, gS_698_15 S, gS_698_18 S, gS_698_19 S, hP, Option.bind_some, gd_k0I_i, gB_t]
        rfl
    · have hP3 : P < 40 := by omega
      have hrE : ∀ r < 160, rEq s (gd_up (gUr (gd_up s 735 P (Int32.ofNat l)) 737 (5 * P + 0) 0 5) 698 18 (Int32.ofNat (P + 1))) r := fun r hr => rEq_tr (rEq_tr (rEq_up (by show (160 : Nat) ≠ r; omega)) (rEq_ur 5 _ _ fun i _ _ => by show (160 : Nat) ≠ r; omega)) (rEq_up (by show (160 : Nat) ≠ r; omega))
      have hcd : gCd n (gd_up (gUr (gd_up s 735 P (Int32.ofNat l)) 737 (5 * P + 0) 0 5) 698 18 (Int32.ofNat (P + 1))) = gCd n s := by
        rw [gCd_up hn (.inl (by decide)), gCd_ur hn (.inr (by decide)), gCd_up hn (.inr (by decide))]
      have h735 : ∀ g, gd_up (gUr (gd_up s 735 P (Int32.ofNat l)) 737 (5 * P + 0) 0 5) 698 18 (Int32.ofNat (P + 1)) 735 g = if g = P then Int32.ofNat l else s 735 g := fun g => by
        rw [gd_up_a (by decide), gUr_a (by decide)]
        by_cases e : g = P
        · rw [if_pos e, e, gd_up_s]
        · rw [if_neg e, gd_up_k e]
      have h737 : ∀ g, gd_up (gUr (gd_up s 735 P (Int32.ofNat l)) 737 (5 * P + 0) 0 5) 698 18 (Int32.ofNat (P + 1)) 737 g = if 5 * P ≤ g ∧ g < 5 * P + 5 then 0 else s 737 g := fun g => by
        rw [gd_up_a (by decide), gUr_e]
        by_cases e : 5 * P ≤ g ∧ g < 5 * P + 5
        · rw [if_pos e, if_pos ⟨rfl, e⟩]
        · rw [if_neg e, if_neg (fun q => e q.2), gd_up_a (by decide)]
      have h738 : ∀ g, gd_up (gUr (gd_up s 735 P (Int32.ofNat l)) 737 (5 * P + 0) 0 5) 698 18 (Int32.ofNat (P + 1)) 738 g = s 738 g := fun g => by
        rw [gd_up_a (by decide), gUr_a (by decide), gd_up_a (by decide)]
      have h745 : ∀ g, gd_up (gUr (gd_up s 735 P (Int32.ofNat l)) 737 (5 * P + 0) 0 5) 698 18 (Int32.ofNat (P + 1)) 745 g = s 745 g := fun g => by
        rw [gd_up_a (by decide), gUr_a (by decide), gd_up_a (by decide)]
      have hout : ∀ r, 4 * P ≤ r → r < 160 → s 738 r = 0 := fun r h1 h2 => iAll_out I r h2 (by rw [hP, gn_of (by omega)]; exact h1)
      refine gPr_of R (v := Int32.ofNat P) (s' := gd_up (gUr (gd_up s 735 P (Int32.ofNat l)) 737 (5 * P + 0) 0 5) 698 18 (Int32.ofNat (P + 1))) ⟨wI (wI (wI m 28 P (Int32.ofNat l)) 29 P 0) 8 12 (Int32.ofNat (P + 1)), ?_, oX_w (oX_w (oX_w oX_refl (by decide)) (by decide)) (by decide), ?_⟩ (fun m1 K S H => ⟨wI (wFl (wI m1 735 P (Int32.ofNat l)) 737 (5 * P + 0) 0 5) 698 18 (Int32.ofNat (P + 1)), ?_, oM_w (oM_wFl (by decide) _ _ _ _ (oM_w oM_refl (by decide))) (by decide), gSm_w (gSm_wFl _ _ _ _ (gSm_w S)), gCh_c H hcd fun r hr => .inr (.inr ⟨hrE r hr, ?_, ?_, ?_⟩)⟩) ?_
      · rw [q_X_enter, c_isLand, h]
        simp only [gK_N K, gK_8_0 K, gK_8_1 K, gK_8_2 K, gK_8_3 K, gK_8_4 K, gK_8_5 K, gK_8_6 K, gK_8_7 K, gK_8_8 K, gK_10_0 K, gK_10_1 K, gK_10_2 K, gK_11_0 K, gK_15_0 K, gK_15_1 K, gK_15_2 K, gK_15_3 K, gK_20_0 K, gK_20_1 K, gK_20_2 K, gK_20_3 K, gK_20_4 K, gK_20_5 K, gK_698_0 K, gK_698_3 K, gK_698_16 K, gK_698_17 K, gK_698_20 K, gK_698_21 K, gK_698_22 K, gK_698_23 K, gK_698_24 K, gK_698_25 K, gK_698_26 K, gK_698_27 K, gK_698_28 K, gK_698_29 K, gK_698_30 K, gK_698_31 K, gK_698_32 K, gK_698_33 K, gK_698_34 K, gK_698_35 K, gK_698_36 K, gK_698_37 K, gK_698_38 K, gK_698_39 K, gK_698_41 K, gK_698_42 K, gK_698_44 K, gK_c K, gK_d K, gK_n K, gK_p K, gok_8, gok_10, gok_11, gok_15, gok_20, gok_698, gok_699, goA_9, goA_12, goA_13, goA_14, goA_16, goA_17, goA_18, goA_19, goA_21, goA_22, goA_23, goA_24, goA_25, goA_26, goA_27, goA_28, goA_29, goA_30, goA_31, goA_732, goA_733, goA_734, goA_735, goA_736, goA_737, goA_738, goA_739, goA_740, goA_741, goA_742, goA_743, goA_744, goA_745, goA_746, goA_747, goA_748, goA_749, goA_750, goA_751, goA_752, goA_753, goA_754, goA_755, goA_756, goA_757, gN_wI, gR_wI, gL_wI, if_true, eq_self, Option.bind_some, gd_k0I_i, gB_t]
        rw [if_neg (by decide)]
        have h12 : ∀ x, gI (wI m 28 P x) 8 12 = Int32.ofNat P := fun x => (cMt_ppl (cAll_mt C)).trans hP
        have h13 : ∀ x y, gI (wI (wI m 28 P x) 29 P y) 8 12 = Int32.ofNat P := fun x y => (cMt_ppl (cAll_mt C)).trans hP
        rw [cMt_ppl (cAll_mt C), hP, if_pos ((gnlb_40 (by omega) (by decide)).2 hP3), gn_in (by omega) hP3, if_pos rfl, gn_nat (by omega), h12, gn_in (by omega) hP3, if_pos rfl, gn_nat (by omega), gI_wI_s, h13, gn_succ, gn_pred (by omega)]
        rfl
      · have M := cAll_mt C
        refine cAll_m (gK_c1 K) C (fun a ha => by rw [gI_wI_f (by omega), gI_wI_f (by omega), gI_wI_f (by omega)]) hcd hrE ⟨(by have q := cMt_tpd M; exact q), (by have q := cMt_tap M; exact q), (by have q := cMt_fkd M; exact q), (by have q := cMt_fpl M; exact q), gI_wI_s.trans gd_up_s.symm, (by have q := cMt_lat M; exact q), fun g => ?_, fun g hg a ha => ?_, (by have q := cMt_pai M; exact q), ?_⟩
        · rw [h735, ← cMt_lan M g]
          by_cases e : g = P
          · rw [if_pos e, e]; exact gI_wI_s
          · rw [if_neg e]; exact gI_wI_k e
        · rw [h737]
          by_cases e : g = P
          · rw [if_pos (by omega), e, gI_wI_a (by decide), gI_wI_s, gb_zero]; rfl
          · rw [if_neg (by omega), ← cMt_gon M g hg a ha, gI_wI_a (by decide), gI_wI_k e]; rfl
        · rw [gd_up_s, gn_of (by omega), show 4 * (P + 1) = 4 * P + 4 by omega, gPc_o 4 (fun r h1 h2 => by rw [h738]; exact hout r h1 (by omega)), gPc_c _ (fun r _ => ⟨h738 r, h745 r⟩)]
          have := cMt_pos M
          rw [hP, gn_of (by omega)] at this
          exact this
      · rw [q_Mo_enter, c_in9, h]
        simp only [gK_N K, gK_8_0 K, gK_8_1 K, gK_8_2 K, gK_8_3 K, gK_8_4 K, gK_8_5 K, gK_8_6 K, gK_8_7 K, gK_8_8 K, gK_10_0 K, gK_10_1 K, gK_10_2 K, gK_11_0 K, gK_15_0 K, gK_15_1 K, gK_15_2 K, gK_15_3 K, gK_20_0 K, gK_20_1 K, gK_20_2 K, gK_20_3 K, gK_20_4 K, gK_20_5 K, gK_698_0 K, gK_698_3 K, gK_698_16 K, gK_698_17 K, gK_698_20 K, gK_698_21 K, gK_698_22 K, gK_698_23 K, gK_698_24 K, gK_698_25 K, gK_698_26 K, gK_698_27 K, gK_698_28 K, gK_698_29 K, gK_698_30 K, gK_698_31 K, gK_698_32 K, gK_698_33 K, gK_698_34 K, gK_698_35 K, gK_698_36 K, gK_698_37 K, gK_698_38 K, gK_698_39 K, gK_698_41 K, gK_698_42 K, gK_698_44 K, gK_c K, gK_d K, gK_n K, gK_p K, gok_8, gok_10, gok_11, gok_15, gok_20, gok_698, gok_699, goA_9, goA_12, goA_13, goA_14, goA_16, goA_17, goA_18, goA_19, goA_21, goA_22, goA_23, goA_24, goA_25, goA_26, goA_27, goA_28, goA_29, goA_30, goA_31, goA_732, goA_733, goA_734, goA_735, goA_736, goA_737, goA_738, goA_739, goA_740, goA_741, goA_742, goA_743, goA_744, goA_745, goA_746, goA_747, goA_748, goA_749, goA_750, goA_751, goA_752, goA_753, goA_754, goA_755, goA_756, goA_757, gN_wI, gR_wI, gL_wI, if_true, eq_self, gS_n K S, gS_n5 K S, gS_n6 K S, gS_n7 K S, gS_n8 K S, gS_n9 K S, gS_n10 K S, gS_n11 K S, gS_n12 K S, gS_n13 K S, gS_n14 K S, gS_n15 K S, gS_732 S, gS_735 S, gS_736 S, gS_737 S, gS_738 S, gS_739 S, gS_740 S, gS_741 S, gS_742 S, gS_743 S, gS_744 S, gS_745 S, gS_746 S, gS_698_4 S, gS_698_14 S, gS_698_15 S, gS_698_18 S, gS_698_19 S, hP, Option.bind_some, gd_k0I_i, gB_t]
        rw [if_neg (by decide), if_neg (fun q => h40 ((gneb_40 (by omega) (by decide)).1 q)), gn_in (by omega) hP3, if_pos rfl, gn_nat (by omega)]
        exact c_enter_37 hP3 5 0 (wI m1 735 P (Int32.ofNat l)) rfl K ((gS_698_18 S).trans hP)
      · rw [gI_wI_a (by decide), gI_wFl, gUr_a (by decide), gI_wI_a (by decide)]
      · rw [gI_wI_a (by decide), gI_wFl, gUr_a (by decide), gI_wI_a (by decide)]
      · rw [gI_wI_a (by decide), gI_wFl, gUr_a (by decide), gI_wI_a (by decide)]
      · refine ⟨by rw [hcd]; exact iAll_cod I, (by have q := iAll_tpd I; exact q), ?_, (by have q := iAll_lat I; exact q), fun g => ?_, fun r hr h1 => ?_, fun r hr => by rw [hcd]; exact iRow_c (iAll_row I r hr) (hrE r hr) rfl, fun l' a ha => ?_, fun i => by rw [gd_up_a (by decide), gUr_a (by decide), gd_up_a (by decide)]; exact iAll_byt I i⟩
        · rw [gd_up_s]; exact isN_i (by omega) (by omega)
        · rw [h735]
          by_cases e : g = P
          · rw [if_pos e]; exact isN_i (by omega) (by omega)
          · rw [if_neg e]; exact iAll_lan I g
        · rw [gd_up_s, gn_of (by omega)] at h1
          rw [h738]; exact hout r (by omega) hr
        · rw [hcd, gd_up_s, gn_of (by omega)]
          have h2 := iAll_tea I l' a ha
          rw [hP, gn_of (by omega)] at h2
          show gCt _ l' a P + _ ≤ _
          rw [h738 (4 * P + a), hout (4 * P + a) (by omega) (by omega), if_neg (fun q => q.2 rfl), gCt_c P (fun g hg => ⟨by rw [h735, if_neg (by omega)], h738 _⟩)]
          exact h2
end P57
