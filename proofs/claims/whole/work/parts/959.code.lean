/-! ===== the pair of code ===== -/
theorem wI_p2 {m : gd_M} {a k : Nat} {x : Int32} : (wI m a k x).2 = m.2 := rfl
section P959
variable {c d n p : Nat} {m : gd_M} {s : gd_C}
theorem P_code (R : gRel c d n p m s) : gPr 61 82 [] m := by
  obtain ⟨K, I, C, S, H⟩ := id R
  obtain ⟨T, -, hT2, hT⟩ := iAll_tpd I
  have hB : ∀ i, isB (s 732 i) := iAll_byt I
  have hd := gK_d1 K
  have hc := gK_c1 K
  have hcd := gK_C K
  have hnp := gK_M K
  unfold isC at hcd
  unfold isM at hnp
  have CM := cAll_mt C
  have x11 : gI m 8 11 = Int32.ofNat T := (cMt_tpd CM).trans hT
  obtain ⟨mX, ex, KX, x9, x112, xr1, xr3, xf, x104, x106, x107, x113, x114, xi⟩ := X_start (T := T) K hT2
  have ecl : gd_call 61 [.ref 8] m = (gd_Den (59, 39, [.ref 10, .ref 9, .int (Int32.ofNat T), .ref d, .int (Int32.ofNat 0)], [], mX)).bind (gd_kI fun z5 m3 => if gd_ok (gN m3) 8 6 = true then (if (z5 = 0 : Prop) then (some (.int (-1), (wI m3 8 11 0))) else ((gd_call 60 [.ref 8] (wR (wR (wI m3 8 11 0) 8 10 (gR m3 8 9)) 8 9 (gR m3 8 10))).bind (gd_kV fun m9 => if gd_ok (gN m9) 8 6 = true then (if gd_ok (gN m9) (gR m9 8 9) 1 = true then (some (.int (gI m9 (gR m9 8 9) 12), m9)) else none) else none))) else none) := by
    rw [q_X_code]
    simp only [gK_N K, gK_8_0 K, gK_8_1 K, gK_8_2 K, gK_8_3 K, gK_8_4 K, gK_8_5 K, gK_8_6 K, gK_8_7 K, gK_8_8 K, gK_10_0 K, gK_10_1 K, gK_10_2 K, gK_11_0 K, gK_15_0 K, gK_15_1 K, gK_15_2 K, gK_15_3 K, gK_20_0 K, gK_20_1 K, gK_20_2 K, gK_20_3 K, gK_20_4 K, gK_20_5 K, gK_698_0 K, gK_698_3 K, gK_698_16 K, gK_698_17 K, gK_698_20 K, gK_698_21 K, gK_698_22 K, gK_698_23 K, gK_698_24 K, gK_698_25 K, gK_698_26 K, gK_698_27 K, gK_698_28 K, gK_698_29 K, gK_698_30 K, gK_698_31 K, gK_698_32 K, gK_698_33 K, gK_698_34 K, gK_698_35 K, gK_698_36 K, gK_698_37 K, gK_698_38 K, gK_698_39 K, gK_698_41 K, gK_698_42 K, gK_698_44 K, gK_c K, gK_d K, gK_n K, gK_p K, gok_8, gok_10, gok_11, gok_15, gok_20, gok_698, gok_699, goA_9, goA_12, goA_13, goA_14, goA_16, goA_17, goA_18, goA_19, goA_21, goA_22, goA_23, goA_24, goA_25, goA_26, goA_27, goA_28, goA_29, goA_30, goA_31, goA_732, goA_733, goA_734, goA_735, goA_736, goA_737, goA_738, goA_739, goA_740, goA_741, goA_742, goA_743, goA_744, goA_745, goA_746, goA_747, goA_748, goA_749, goA_750, goA_751, goA_752, goA_753, goA_754, goA_755, goA_756, goA_757, gN_wI, gR_wI, gL_wI, if_true, eq_self, gok_c K, gok_d K, gok_n K, gok_p K, gK_c_0 K, gK_c_1 K, gK_c_2 K, gK_c_3 K, gK_c_4 K, gK_c_5 K, gK_c_6 K, gK_c_7 K, gK_c_8 K, gK_c_9 K, gK_c_10 K, gK_c_11 K, gK_n_3 K, gK_n_4 K, gK_n_5 K, gK_n_6 K, gK_n_7 K, gK_n_8 K, gK_n_9 K, gK_n_10 K, gK_n_11 K, gK_n_12 K, gK_n_13 K, gK_n_14 K, gK_n_15 K, gK_n_16 K, gK_n_17 K, goA_c1 K, goA_c2 K, goA_c3 K, goA_c4 K, goA_c5 K, goA_c6 K, goA_c7 K, goA_c8 K, goA_c9 K, goA_c10 K, goA_c11 K, goA_c12 K, goA_n1 K, goA_n2 K, goA_n3 K, goA_n4 K, goA_n5 K, goA_n6 K, goA_n7 K, goA_n8 K, goA_n9 K, goA_n10 K, goA_n11 K, goA_n12 K, goA_n13 K, goA_n14 K, goA_n15 K, gK_d_0 K, gK_d_1 K, gK_d_2 K, gK_d_3 K, gK_d_4 K, gK_d_5 K, gK_d_6 K, gK_d_7 K, gK_d_8 K, gK_d_9 K, gK_d_10 K, gK_d_11 K, gK_p_3 K, gK_p_4 K, gK_p_5 K, gK_p_6 K, gK_p_7 K, gK_p_8 K, gK_p_9 K, gK_p_10 K, gK_p_11 K, gK_p_12 K, gK_p_13 K, gK_p_14 K, gK_p_15 K, gK_p_16 K, gK_p_17 K, goA_d1 K, goA_d2 K, goA_d3 K, goA_d4 K, goA_d5 K, goA_d6 K, goA_d7 K, goA_d8 K, goA_d9 K, goA_d10 K, goA_d11 K, goA_d12 K, goA_p1 K, goA_p2 K, goA_p3 K, goA_p4 K, goA_p5 K, goA_p6 K, goA_p7 K, goA_p8 K, goA_p9 K, goA_p10 K, goA_p11 K, goA_p12 K, goA_p13 K, goA_p14 K, goA_p15 K, x11]
    rw [ex]
  obtain ⟨mM0, -, P0, Q0⟩ := code_start hB hT2 S CM hT K (fun a _ => rfl) KX x9 x112 xr1 xr3 xf x104 x106 x107 x113 x114 xi
  obtain ⟨z, mX', mM0', cz, hz⟩ := code_loop hB hT2 701 0 0 0 mX mM0 (by omega) (Nat.le_refl 0) P0 Q0
  have again : ∀ cc dd (m1 : gd_M), gK cc dd n p m1 → (∀ a, 698 ≤ a → gI m1 a = gI m a) → ∃ mM mM', gd_call 82 [.ref 698] m1 = gd_Den (82, 71, [.ref 698, .int (Int32.ofNat 5), .null], [], mM) ∧ ((z = 1 ∧ PR c d cc dd n p (s 732) T (wR (wR m 10 3 d) 11 1 9) (wI (wI m1 698 5 (Int32.ofNat T)) 698 4 0) mX' mM' ∧ gd_Den (82, 71, [.ref 698, .int (Int32.ofNat 5), .null], [], mM) = gd_Den (82, 122, [.ref 698, .ref n, .int 0], [], wI (wI (wR (wR mM' 698 1 p) 698 2 n) 698 18 0) 698 19 0)) ∨ (z = 0 ∧ gd_Den (82, 71, [.ref 698, .int (Int32.ofNat 5), .null], [], mM) = some (.int (-1), mM') ∧ FO c d cc dd n p (wR (wR m 10 3 d) 11 1 9) (wI (wI m1 698 5 (Int32.ofNat T)) 698 4 0) mX' mM')) := fun cc dd m1 K1 e1 => by
    obtain ⟨mM, e82, P1, Q1⟩ := code_start hB hT2 S CM hT K1 e1 KX x9 x112 xr1 xr3 xf x104 x106 x107 x113 x114 xi
    obtain ⟨z2, mX2, mM2, cz2, hz2⟩ := code_loop hB hT2 701 0 0 0 mX mM (by omega) (Nat.le_refl 0) P1 Q1
    have e := Option.some.inj (cz.symm.trans cz2)
    have e3 : z = z2 := Value.int.inj (Prod.mk.inj e).1
    have e4 : mX' = mX2 := (Prod.mk.inj e).2
    subst e3
    subst e4
    exact ⟨mM, mM2, e82, hz2⟩
  have fxA : fX d (wR (wR m 10 3 d) 11 1 9) mX' := by
    rcases hz with ⟨-, PZ, -⟩ | ⟨-, -, FZ⟩
    · exact PZ.1.2.2.2.2.2.1
    · exact FZ.2.2.1
  have KX' : gK c d n p mX' := by
    rcases hz with ⟨-, PZ, -⟩ | ⟨-, -, FZ⟩
    · exact PZ.1.1
    · exact FZ.1
  -- what the class's half keeps
  have xs : ∀ a, (a < 10 ∨ (11 < a ∧ (a < d ∨ d + 12 < a))) → gI mX' a = gI m a := fun a ha => fxA.2.1 a ha
  have xL : gL mX' = gL m := congrArg (fun t => t.2.2.2) fxA.1
  by_cases h0 : z = 0
  · -- a fault
    subst h0
    have K1 : gK c d n p (wI mX' 8 11 0) := KX'
    have e61 : gd_call 61 [.ref 8] m = some (.int (-1), wI mX' 8 11 0) := by
      rw [ecl, cz]
      simp only [gK_N KX', gK_8_0 KX', gK_8_1 KX', gK_8_2 KX', gK_8_3 KX', gK_8_4 KX', gK_8_5 KX', gK_8_6 KX', gK_8_7 KX', gK_8_8 KX', gK_10_0 KX', gK_10_1 KX', gK_10_2 KX', gK_11_0 KX', gK_15_0 KX', gK_15_1 KX', gK_15_2 KX', gK_15_3 KX', gK_20_0 KX', gK_20_1 KX', gK_20_2 KX', gK_20_3 KX', gK_20_4 KX', gK_20_5 KX', gK_698_0 KX', gK_698_3 KX', gK_698_16 KX', gK_698_17 KX', gK_698_20 KX', gK_698_21 KX', gK_698_22 KX', gK_698_23 KX', gK_698_24 KX', gK_698_25 KX', gK_698_26 KX', gK_698_27 KX', gK_698_28 KX', gK_698_29 KX', gK_698_30 KX', gK_698_31 KX', gK_698_32 KX', gK_698_33 KX', gK_698_34 KX', gK_698_35 KX', gK_698_36 KX', gK_698_37 KX', gK_698_38 KX', gK_698_39 KX', gK_698_41 KX', gK_698_42 KX', gK_698_44 KX', gK_c KX', gK_d KX', gK_n KX', gK_p KX', gok_8, gok_10, gok_11, gok_15, gok_20, gok_698, gok_699, goA_9, goA_12, goA_13, goA_14, goA_16, goA_17, goA_18, goA_19, goA_21, goA_22, goA_23, goA_24, goA_25, goA_26, goA_27, goA_28, goA_29, goA_30, goA_31, goA_732, goA_733, goA_734, goA_735, goA_736, goA_737, goA_738, goA_739, goA_740, goA_741, goA_742, goA_743, goA_744, goA_745, goA_746, goA_747, goA_748, goA_749, goA_750, goA_751, goA_752, goA_753, goA_754, goA_755, goA_756, goA_757, gN_wI, gR_wI, gL_wI, if_true, eq_self, Option.bind_some, gd_kI_i]
    have e1 : ∀ a, 698 ≤ a → gI (wI mX' 8 11 0) a = gI m a := fun a ha => by rw [gI_wI_f (by omega)]; exact xs a (by omega)
    obtain ⟨mM, mM2, e82, hz2⟩ := again c d (wI mX' 8 11 0) K1 e1
    rcases hz2 with ⟨h1, -, -⟩ | ⟨-, e71, FZ⟩
    · exact absurd h1 (by decide)
    obtain ⟨fk1, fk2, ffx, ffm, fe1, fe2⟩ := FZ
    have eLo : ∀ a, a < 698 → gI mM2 a = gI (wI mX' 8 11 0) a := fun a ha => by rw [ffm.2.1 a (by omega) (by omega) (by omega) (by omega), gI_wI_f (by omega), gI_wI_f (by omega)]
    have eHi : ∀ a, 698 < a → a ≠ 733 → a ≠ 734 → (a < p ∨ p + 15 < a) → gI mM2 a = gI m a := fun a h1 h2 h3 h4 => by
      rw [ffm.2.1 a (by omega) h2 h3 h4, gI_wI_f (by omega), gI_wI_f (by omega)]; exact e1 a (by omega)
    have e698 : ∀ j, (j < 6 ∨ 15 < j) → j ≠ 4 → j ≠ 5 → gI mM2 698 j = gI m 698 j := fun j h1 h2 h3 => by
      rw [ffm.2.2.1 j h1, gI_wI_k h2, gI_wI_k h3, e1 698 (by decide)]
    have e6984 : gI mM2 698 4 = 0 := by rw [ffm.2.2.1 4 (by decide)]; exact gI_wI_s
    have sg : ∀ a, a ≠ 698 → gd_up (gd_up (gd_up s 698 4 0) 698 14 (gI mM2 698 14)) 698 15 (gI mM2 698 15) a = s a := fun a ha => by rw [gd_up_f ha, gd_up_f ha, gd_up_f ha]
    have s4 : gd_up (gd_up (gd_up s 698 4 0) 698 14 (gI mM2 698 14)) 698 15 (gI mM2 698 15) 698 4 = 0 := by rw [gd_up_k (by decide), gd_up_k (by decide), gd_up_s]
    have s14 : gd_up (gd_up (gd_up s 698 4 0) 698 14 (gI mM2 698 14)) 698 15 (gI mM2 698 15) 698 14 = gI mM2 698 14 := by rw [gd_up_k (by decide), gd_up_s]
    have s15 : gd_up (gd_up (gd_up s 698 4 0) 698 14 (gI mM2 698 14)) 698 15 (gI mM2 698 15) 698 15 = gI mM2 698 15 := gd_up_s
    have sj : ∀ j, 15 < j → gd_up (gd_up (gd_up s 698 4 0) 698 14 (gI mM2 698 14)) 698 15 (gI mM2 698 15) 698 j = s 698 j := fun j hj => by rw [gd_up_k (by omega), gd_up_k (by omega), gd_up_k (by omega)]
    have hrE : ∀ r < 160, rEq s (gd_up (gd_up (gd_up s 698 4 0) 698 14 (gI mM2 698 14)) 698 15 (gI mM2 698 15)) r := fun r hr => rEq_tr (rEq_up (by show (160 : Nat) ≠ r; omega)) (rEq_tr (rEq_up (by show (160 : Nat) ≠ r; omega)) (rEq_up (by show (160 : Nat) ≠ r; omega)))
    have hcd2 : gCd n (gd_up (gd_up (gd_up s 698 4 0) 698 14 (gI mM2 698 14)) 698 15 (gI mM2 698 15)) = gCd n s := gCd_c fun q hq => sg _ (by omega)
    generalize gd_up (gd_up (gd_up s 698 4 0) 698 14 (gI mM2 698 14)) 698 15 (gI mM2 698 15) = s' at *
    refine ⟨-1, _, mM2, e61, ?_, e82.trans e71, eLo 3 (by decide), ?_, xL, gK_N K1, c, d, n, p, s', fk2, ?_, ?_, ?_, ?_⟩
    · rw [gI_wI_f (by decide)]; exact xs 3 (by omega)
    · have h : gL mM2 = gL (wI mX' 8 11 0) := congrArg (fun t => t.2.2.2) ffm.1
      exact h.trans xL
    · refine ⟨by rw [hcd2]; exact iAll_cod I, by rw [s4]; exact isN_k 0 (by decide) (by decide), by rw [sj 18 (by decide)]; exact iAll_ppl I, by rw [sj 19 (by decide)]; exact iAll_lat I, fun g => by rw [sg 735 (by decide)]; exact iAll_lan I g, fun r hr => by rw [sg 738 (by decide), sj 18 (by decide)]; exact iAll_out I r hr, fun r hr => by rw [hcd2]; exact iRow_c (iAll_row I r hr) (hrE r hr) (sj 19 (by decide)), fun l a ha => ?_, fun i => by rw [sg 732 (by decide)]; exact hB i⟩
      rw [hcd2, sj 18 (by decide), gCt_c _ fun g _ => ⟨by rw [sg 735 (by decide)], by rw [sg 738 (by decide)]⟩]
      exact iAll_tea I l a ha
    · refine ⟨⟨?_, fun i => ?_, ?_, ?_, ?_, ?_, fun g => ?_, fun g hg a ha => ?_, fun l => ?_, ?_⟩, ?_, fun r hr => ?_⟩
      · rw [eLo 8 (by decide), s4]; exact gI_wI_s
      · rw [eLo 9 (by decide), gI_wI_f (by decide), xs 9 (by omega), sg 732 (by decide)]; exact cMt_tap CM i
      · rw [eLo 10 (by decide), gI_wI_f (by decide), s14]; exact fe1
      · rw [eLo 10 (by decide), gI_wI_f (by decide), s15]; exact fe2
      · rw [eLo 8 (by decide), gI_wI_k (by decide), xs 8 (by omega), sj 18 (by decide)]; exact cMt_ppl CM
      · rw [eLo 8 (by decide), gI_wI_k (by decide), xs 8 (by omega), sj 19 (by decide)]; exact cMt_lat CM
      · rw [eLo 28 (by decide), gI_wI_f (by decide), xs 28 (by omega), sg 735 (by decide)]; exact cMt_lan CM g
      · rw [eLo 29 (by decide), gI_wI_f (by decide), xs 29 (by omega), sg 737 (by decide)]; exact cMt_gon CM g hg a ha
      · rw [eLo 30 (by decide), gI_wI_f (by decide), xs 30 (by omega), sg 736 (by decide)]; exact cMt_pai CM l
      · rw [eLo 8 (by decide), gI_wI_k (by decide), xs 8 (by omega), sj 18 (by decide), gPc_c _ fun r _ => ⟨by rw [sg 738 (by decide)], by rw [sg 745 (by decide)]⟩]; exact cMt_pos CM
      · rw [hcd2]
        exact cCd_c (cAll_cd C) fun q hq => by rw [eLo _ (by omega), gI_wI_f (by omega), xs _ (by omega)]
      · rw [hcd2]
        exact cRw_c (cAll_rw C r hr) (fun a h1 h2 => by rw [eLo _ (by omega), gI_wI_f (by omega), xs _ (by omega)]) (hrE r hr)
    · intro a j q
      rcases gRl_t q with q1 | q1 | ⟨rfl, q1⟩ | q1
      · rw [eHi a (by omega) (by omega) (by omega) (by omega), sg a (by omega)]; exact S a j q
      · rw [eHi a (by omega) (by omega) (by omega) (by omega), sg a (by omega)]; exact S a j q
      · rcases q1 with rfl | rfl | rfl | rfl | rfl
        · rw [e6984, s4]
        · rw [s14]
        · rw [s15]
        · rw [e698 18 (by decide) (by decide) (by decide), sj 18 (by decide)]; exact S 698 18 q
        · rw [e698 19 (by decide) (by decide) (by decide), sj 19 (by decide)]; exact S 698 19 q
      · rw [eHi a (by omega) (by omega) (by omega) (by omega), sg a (by omega)]; exact S a j q
    · exact gCh_c H hcd2 fun r hr => .inr (.inr ⟨hrE r hr, by rw [eHi 747 (by decide) (by decide) (by decide) (by omega)], by rw [eHi 748 (by decide) (by decide) (by decide) (by omega)], by rw [eHi 749 (by decide) (by decide) (by decide) (by omega)]⟩)
  · -- it stands
    have h1 : z = 1 := by
      rcases hz with ⟨h, -, -⟩ | ⟨h, -, -⟩
      · exact h
      · exact absurd h h0
    subst h1
    have Ks : gK d c n p (wR (wR (wI mX' 8 11 0) 8 10 c) 8 9 d) := gK_swX (show gK c d n p (wI mX' 8 11 0) from KX')
    have K1 : gK d c n p (wI (wI (wI (wFl (wRw (wR (wR (wI mX' 8 11 0) 8 10 c) 8 9 d) 0 160) 30 0 0 10) 8 12 0) 8 13 0) 8 14 0) := gK_o Ks (wI_p2.trans (wI_p2.trans (wI_p2.trans ((wFl_2 10 0 _).trans (wRw_2 160 0 _)))))
    have e61 : gd_call 61 [.ref 8] m = some (.int (gI (wI (wI (wI (wFl (wRw (wR (wR (wI mX' 8 11 0) 8 10 c) 8 9 d) 0 160) 30 0 0 10) 8 12 0) 8 13 0) 8 14 0) d 12), wI (wI (wI (wFl (wRw (wR (wR (wI mX' 8 11 0) 8 10 c) 8 9 d) 0 160) 30 0 0 10) 8 12 0) 8 13 0) 8 14 0) := by
      rw [ecl, cz]
      simp only [gK_N KX', gK_8_0 KX', gK_8_1 KX', gK_8_2 KX', gK_8_3 KX', gK_8_4 KX', gK_8_5 KX', gK_8_6 KX', gK_8_7 KX', gK_8_8 KX', gK_10_0 KX', gK_10_1 KX', gK_10_2 KX', gK_11_0 KX', gK_15_0 KX', gK_15_1 KX', gK_15_2 KX', gK_15_3 KX', gK_20_0 KX', gK_20_1 KX', gK_20_2 KX', gK_20_3 KX', gK_20_4 KX', gK_20_5 KX', gK_698_0 KX', gK_698_3 KX', gK_698_16 KX', gK_698_17 KX', gK_698_20 KX', gK_698_21 KX', gK_698_22 KX', gK_698_23 KX', gK_698_24 KX', gK_698_25 KX', gK_698_26 KX', gK_698_27 KX', gK_698_28 KX', gK_698_29 KX', gK_698_30 KX', gK_698_31 KX', gK_698_32 KX', gK_698_33 KX', gK_698_34 KX', gK_698_35 KX', gK_698_36 KX', gK_698_37 KX', gK_698_38 KX', gK_698_39 KX', gK_698_41 KX', gK_698_42 KX', gK_698_44 KX', gK_c KX', gK_d KX', gK_n KX', gK_p KX', gok_8, gok_10, gok_11, gok_15, gok_20, gok_698, gok_699, goA_9, goA_12, goA_13, goA_14, goA_16, goA_17, goA_18, goA_19, goA_21, goA_22, goA_23, goA_24, goA_25, goA_26, goA_27, goA_28, goA_29, goA_30, goA_31, goA_732, goA_733, goA_734, goA_735, goA_736, goA_737, goA_738, goA_739, goA_740, goA_741, goA_742, goA_743, goA_744, goA_745, goA_746, goA_747, goA_748, goA_749, goA_750, goA_751, goA_752, goA_753, goA_754, goA_755, goA_756, goA_757, gN_wI, gR_wI, gL_wI, if_true, eq_self, Option.bind_some, gd_kI_i]
      rw [if_neg (show ¬ (1 : Int32) = 0 by decide), c_st60 Ks]
      simp only [gK_N K1, gK_8_0 K1, gK_8_1 K1, gK_8_2 K1, gK_8_3 K1, gK_8_4 K1, gK_8_5 K1, gK_8_6 K1, gK_8_7 K1, gK_8_8 K1, gK_10_0 K1, gK_10_1 K1, gK_10_2 K1, gK_11_0 K1, gK_15_0 K1, gK_15_1 K1, gK_15_2 K1, gK_15_3 K1, gK_20_0 K1, gK_20_1 K1, gK_20_2 K1, gK_20_3 K1, gK_20_4 K1, gK_20_5 K1, gK_698_0 K1, gK_698_3 K1, gK_698_16 K1, gK_698_17 K1, gK_698_20 K1, gK_698_21 K1, gK_698_22 K1, gK_698_23 K1, gK_698_24 K1, gK_698_25 K1, gK_698_26 K1, gK_698_27 K1, gK_698_28 K1, gK_698_29 K1, gK_698_30 K1, gK_698_31 K1, gK_698_32 K1, gK_698_33 K1, gK_698_34 K1, gK_698_35 K1, gK_698_36 K1, gK_698_37 K1, gK_698_38 K1, gK_698_39 K1, gK_698_41 K1, gK_698_42 K1, gK_698_44 K1, gK_c K1, gK_d K1, gK_n K1, gK_p K1, gok_8, gok_10, gok_11, gok_15, gok_20, gok_698, gok_699, goA_9, goA_12, goA_13, goA_14, goA_16, goA_17, goA_18, goA_19, goA_21, goA_22, goA_23, goA_24, goA_25, goA_26, goA_27, goA_28, goA_29, goA_30, goA_31, goA_732, goA_733, goA_734, goA_735, goA_736, goA_737, goA_738, goA_739, goA_740, goA_741, goA_742, goA_743, goA_744, goA_745, goA_746, goA_747, goA_748, goA_749, goA_750, goA_751, goA_752, goA_753, goA_754, goA_755, goA_756, goA_757, gN_wI, gR_wI, gL_wI, if_true, eq_self, gok_c K1, gok_d K1, gok_n K1, gok_p K1, gK_c_0 K1, gK_c_1 K1, gK_c_2 K1, gK_c_3 K1, gK_c_4 K1, gK_c_5 K1, gK_c_6 K1, gK_c_7 K1, gK_c_8 K1, gK_c_9 K1, gK_c_10 K1, gK_c_11 K1, gK_n_3 K1, gK_n_4 K1, gK_n_5 K1, gK_n_6 K1, gK_n_7 K1, gK_n_8 K1, gK_n_9 K1, gK_n_10 K1, gK_n_11 K1, gK_n_12 K1, gK_n_13 K1, gK_n_14 K1, gK_n_15 K1, gK_n_16 K1, gK_n_17 K1, goA_c1 K1, goA_c2 K1, goA_c3 K1, goA_c4 K1, goA_c5 K1, goA_c6 K1, goA_c7 K1, goA_c8 K1, goA_c9 K1, goA_c10 K1, goA_c11 K1, goA_c12 K1, goA_n1 K1, goA_n2 K1, goA_n3 K1, goA_n4 K1, goA_n5 K1, goA_n6 K1, goA_n7 K1, goA_n8 K1, goA_n9 K1, goA_n10 K1, goA_n11 K1, goA_n12 K1, goA_n13 K1, goA_n14 K1, goA_n15 K1, Option.bind_some, gd_kV_v]
    have f8 : ∀ j, j < 12 → gI (wI (wI (wI (wFl (wRw (wR (wR (wI mX' 8 11 0) 8 10 c) 8 9 d) 0 160) 30 0 0 10) 8 12 0) 8 13 0) 8 14 0) 8 j = gI (wI mX' 8 11 0) 8 j := fun j hj => by
      rw [gI_wI_k (by omega), gI_wI_k (by omega), gI_wI_k (by omega), gI_wFl_f (by decide), wRw_o 160 0 _ (.inr fun r _ _ => by omega)]
      rfl
    have f812 : gI (wI (wI (wI (wFl (wRw (wR (wR (wI mX' 8 11 0) 8 10 c) 8 9 d) 0 160) 30 0 0 10) 8 12 0) 8 13 0) 8 14 0) 8 12 = 0 := by rw [gI_wI_k (by decide), gI_wI_k (by decide), gI_wI_s]
    have f813 : gI (wI (wI (wI (wFl (wRw (wR (wR (wI mX' 8 11 0) 8 10 c) 8 9 d) 0 160) 30 0 0 10) 8 12 0) 8 13 0) 8 14 0) 8 13 = 0 := by rw [gI_wI_k (by decide), gI_wI_s]
    have f814 : gI (wI (wI (wI (wFl (wRw (wR (wR (wI mX' 8 11 0) 8 10 c) 8 9 d) 0 160) 30 0 0 10) 8 12 0) 8 13 0) 8 14 0) 8 14 = 0 := gI_wI_s
    have f30 : ∀ l, gI (wI (wI (wI (wFl (wRw (wR (wR (wI mX' 8 11 0) 8 10 c) 8 9 d) 0 160) 30 0 0 10) 8 12 0) 8 13 0) 8 14 0) 30 l = if l < 10 then 0 else gI m 30 l := fun l => by
      rw [gI_wI_a (by decide), gI_wI_a (by decide), gI_wI_a (by decide), gI_wFl_i, wRw_o 160 0 _ (.inr fun r _ _ => by omega)]
      by_cases h : l < 10
      · rw [if_pos (by omega), if_pos h]
      · rw [if_neg (by omega), if_neg h]
        show gI (wI mX' 8 11 0) 30 l = _
        rw [gI_wI_a (by decide), xs 30 (by omega)]
    have fo : ∀ a q, a ≠ 8 → a ≠ 30 → (q ≠ 3 ∨ ∀ r, r < 160 → a ≠ 58 + 4 * r) → gI (wI (wI (wI (wFl (wRw (wR (wR (wI mX' 8 11 0) 8 10 c) 8 9 d) 0 160) 30 0 0 10) 8 12 0) 8 13 0) 8 14 0) a q = gI mX' a q := fun a q h1 h2 h3 => by
      rw [gI_wI_a h1, gI_wI_a h1, gI_wI_a h1, gI_wFl_f h2, wRw_o 160 0 _ (h3.imp id fun h3 r _ hr => h3 r (by omega))]
      show gI (wI mX' 8 11 0) a q = _
      rw [gI_wI_a h1]
    have fr : ∀ r, r < 160 → gI (wI (wI (wI (wFl (wRw (wR (wR (wI mX' 8 11 0) 8 10 c) 8 9 d) 0 160) 30 0 0 10) 8 12 0) 8 13 0) 8 14 0) (58 + 4 * r) 3 = 0 := fun r hr => by
      rw [gI_wI_a (by omega), gI_wI_a (by omega), gI_wI_a (by omega), gI_wFl_f (by omega)]
      exact wRw_r 160 0 _ (Nat.zero_le r) (by omega)
    have fL : gL (wI (wI (wI (wFl (wRw (wR (wR (wI mX' 8 11 0) 8 10 c) 8 9 d) 0 160) 30 0 0 10) 8 12 0) 8 13 0) 8 14 0) = gL m := by
      have h : (wI (wI (wI (wFl (wRw (wR (wR (wI mX' 8 11 0) 8 10 c) 8 9 d) 0 160) 30 0 0 10) 8 12 0) 8 13 0) 8 14 0).2 = (wR (wR (wI mX' 8 11 0) 8 10 c) 8 9 d).2 := wI_p2.trans (wI_p2.trans (wI_p2.trans ((wFl_2 10 0 _).trans (wRw_2 160 0 _))))
      exact (congrArg (fun t => t.2.2.2.2) h).trans xL
    generalize wI (wI (wI (wFl (wRw (wR (wR (wI mX' 8 11 0) 8 10 c) 8 9 d) 0 160) 30 0 0 10) 8 12 0) 8 13 0) 8 14 0 = m1 at *
    have e1 : ∀ a, 698 ≤ a → gI m1 a = gI m a := fun a ha => funext fun q => by rw [fo a q (by omega) (by omega) (.inr fun r hr => by omega), xs a (by omega)]
    obtain ⟨mM, mM2, e82, hz2⟩ := again d c m1 K1 e1
    obtain ⟨-, P2, e71⟩ := hz2.resolve_right fun h => h0 h.1
    have K2 := P2.1.2.1
    have ffm : fM p (wI (wI m1 698 5 (Int32.ofNat T)) 698 4 0) mM2 := P2.1.2.2.2.2.2.2.1
    obtain ⟨zx6, zx7, zm14, zm15⟩ : fZ mX' mM2 := P2.1.2.2.2.2.2.2.2
    have K3 : gK d c p n (wI (wI (wR (wR mM2 698 1 p) 698 2 n) 698 18 0) 698 19 0) := gK_swM K2
    have r1 := c_co122 (r1 := n) 160 0 _ (by omega) K3
    rw [gn_0] at r1
    have K4 : gK d c p n (wFl (wI (wI (wR (wR mM2 698 1 p) 698 2 n) 698 18 0) 698 19 0) 738 0 0 160) := gK_o K3 (wFl_2 160 0 _)
    have r2 := c_co144 (r1 := n) 10 0 _ (by omega) K4
    rw [gn_0] at r2
    have e82' : gd_call 82 [.ref 698] m1 = _ := e82.trans (e71.trans (r1.trans r2))
    have K5 : gK d c p n (wFl (wFl (wI (wI (wR (wR mM2 698 1 p) 698 2 n) 698 18 0) 698 19 0) 738 0 0 160) 736 0 0 10) := gK_o K4 (wFl_2 10 0 _)
    have g698 : ∀ j, j ≠ 18 → j ≠ 19 → gI (wFl (wFl (wI (wI (wR (wR mM2 698 1 p) 698 2 n) 698 18 0) 698 19 0) 738 0 0 160) 736 0 0 10) 698 j = gI mM2 698 j := fun j h1 h2 => by
      rw [gI_wFl_f (by decide), gI_wFl_f (by decide), gI_wI_k h2, gI_wI_k h1]; rfl
    have g18 : gI (wFl (wFl (wI (wI (wR (wR mM2 698 1 p) 698 2 n) 698 18 0) 698 19 0) 738 0 0 160) 736 0 0 10) 698 18 = 0 := by
      rw [gI_wFl_f (by decide), gI_wFl_f (by decide), gI_wI_k (by decide), gI_wI_s]
    have g19 : gI (wFl (wFl (wI (wI (wR (wR mM2 698 1 p) 698 2 n) 698 18 0) 698 19 0) 738 0 0 160) 736 0 0 10) 698 19 = 0 := by
      rw [gI_wFl_f (by decide), gI_wFl_f (by decide), gI_wI_s]
    have go : ∀ a, a ≠ 698 → a ≠ 736 → a ≠ 738 → gI (wFl (wFl (wI (wI (wR (wR mM2 698 1 p) 698 2 n) 698 18 0) 698 19 0) 738 0 0 160) 736 0 0 10) a = gI mM2 a := fun a h1 h2 h3 => by
      rw [gI_wFl_f h2, gI_wFl_f h3, gI_wI_f h1, gI_wI_f h1]; rfl
    have g738 : ∀ r, r < 160 → gI (wFl (wFl (wI (wI (wR (wR mM2 698 1 p) 698 2 n) 698 18 0) 698 19 0) 738 0 0 160) 736 0 0 10) 738 r = 0 := fun r hr => by
      rw [gI_wFl_f (by decide), gI_wFl_i, if_pos (by omega)]
    have g736 : ∀ l, gI (wFl (wFl (wI (wI (wR (wR mM2 698 1 p) 698 2 n) 698 18 0) 698 19 0) 738 0 0 160) 736 0 0 10) 736 l = if l < 10 then 0 else gI mM2 736 l := fun l => by
      rw [gI_wFl_i]
      by_cases h : l < 10
      · rw [if_pos (by omega), if_pos h]
      · rw [if_neg (by omega), if_neg h, gI_wFl_f (by decide), gI_wI_a (by decide), gI_wI_a (by decide)]; rfl
    have gLL : gL (wFl (wFl (wI (wI (wR (wR mM2 698 1 p) 698 2 n) 698 18 0) 698 19 0) 738 0 0 160) 736 0 0 10) = gL m := by
      have h : (wFl (wFl (wI (wI (wR (wR mM2 698 1 p) 698 2 n) 698 18 0) 698 19 0) 738 0 0 160) 736 0 0 10).2 = (wR (wR mM2 698 1 p) 698 2 n).2 := (wFl_2 10 0 _).trans ((wFl_2 160 0 _).trans (wI_p2.trans wI_p2))
      have h2 : gL mM2 = gL m1 := congrArg (fun t => t.2.2.2) ffm.1
      exact (congrArg (fun t => t.2.2.2.2) h).trans (h2.trans fL)
    generalize wFl (wFl (wI (wI (wR (wR mM2 698 1 p) 698 2 n) 698 18 0) 698 19 0) 738 0 0 160) 736 0 0 10 = m2 at *
    have hd12 : ∀ q, q ≤ 12 → gI m1 (d + q) = gI mX' (d + q) := fun q hq => funext fun i => fo _ i (by omega) (by omega) (.inr fun r hr => by omega)
    have eLo : ∀ a, a < 698 → gI m2 a = gI m1 a := fun a ha => by
      rw [go a (by omega) (by omega) (by omega), ffm.2.1 a (by omega) (by omega) (by omega) (by omega), gI_wI_f (by omega), gI_wI_f (by omega)]
    have eHi : ∀ a, 698 < a → a ≠ 733 → a ≠ 734 → a ≠ 736 → a ≠ 738 → (a < p ∨ p + 15 < a) → gI m2 a = gI m a := fun a h1 h2 h3 h4 h5 h6 => by
      rw [go a (by omega) h4 h5, ffm.2.1 a (by omega) h2 h3 h6, gI_wI_f (by omega), gI_wI_f (by omega)]; exact e1 a (by omega)
    have h736 : gI mM2 736 = gI m 736 := by
      rw [ffm.2.1 736 (by decide) (by decide) (by decide) (by omega), gI_wI_f (by decide), gI_wI_f (by decide)]; exact e1 736 (by decide)
    have hCd : gCd p (gI m2) = gCd p (gI mM2) := gCd_c fun q hq => go _ (by omega) (by omega) (by omega)
    have hv : gI m2 p 0 = gI m1 d 12 := by
      rw [go p (by omega) (by omega) (by omega), show gI m1 d 12 = gI mX' d 12 from congrFun (hd12 0 (by decide)) 12, cCd_pts P2.2.2.1, gA0]
    refine ⟨gI m1 d 12, m1, m2, e61, ?_, by rw [e82', hv], ?_, gLL, fL, gK_N K1, d, c, p, n, gI m2, K5, ?_, ?_, fun _ _ _ => rfl, fun r hr h _ => absurd (g738 r hr) h⟩
    · exact funext fun q => by rw [fo 3 q (by decide) (by decide) (.inr fun r hr => by omega), xs 3 (by omega)]
    · exact eLo 3 (by decide)
    · refine ⟨by rw [hCd]; exact P2.2.1, ?_, by rw [g18]; exact isN_k 0 (by decide) (by decide), by rw [g19]; exact Int32.le_refl 0, fun g => ?_, fun r hr _ => g738 r hr, fun r hr => ?_, fun l a ha => ?_, fun i => ?_⟩
      · rw [g698 4 (by decide) (by decide), ffm.2.2.1 4 (by decide), gI_wI_s]; exact isN_k 0 (by decide) (by decide)
      · rw [eHi 735 (by decide) (by decide) (by decide) (by decide) (by decide) (by omega), gS_735 S]; exact iAll_lan I g
      · refine ⟨.inl (g738 r hr), ?_, fun h => absurd (g738 r hr) h, fun h => absurd (g738 r hr) h, fun h => absurd (g738 r hr) h, fun h => absurd (g738 r hr) h⟩
        rw [eHi 739 (by decide) (by decide) (by decide) (by decide) (by decide) (by omega), gS_739 S]; exact iRow_len (iAll_row I r hr)
      · rw [g18, show gn (0 : Int32) = 0 from rfl]
        exact Nat.zero_le _
      · rw [eHi 732 (by decide) (by decide) (by decide) (by decide) (by decide) (by omega), gS_732 S]; exact hB i
    · refine ⟨⟨?_, fun i => ?_, ?_, ?_, ?_, ?_, fun g => ?_, fun g hg a ha => ?_, fun l => ?_, ?_⟩, ?_, fun r hr => ?_⟩
      · rw [eLo 8 (by decide), f8 11 (by decide), gI_wI_s, g698 4 (by decide) (by decide), ffm.2.2.1 4 (by decide), gI_wI_s]
      · rw [eLo 9 (by decide), fo 9 i (by decide) (by decide) (.inr fun r hr => by omega), xs 9 (by omega), eHi 732 (by decide) (by decide) (by decide) (by decide) (by decide) (by omega), gS_732 S]; exact cMt_tap CM i
      · rw [eLo 10 (by decide), fo 10 6 (by decide) (by decide) (.inl (by decide)), g698 14 (by decide) (by decide), zx6, zm14]
      · rw [eLo 10 (by decide), fo 10 7 (by decide) (by decide) (.inl (by decide)), g698 15 (by decide) (by decide), zx7, zm15]
      · rw [eLo 8 (by decide), f812, g18]
      · rw [eLo 8 (by decide), f813, g19]
      · rw [eLo 28 (by decide), fo 28 g (by decide) (by decide) (.inr fun r hr => by omega), xs 28 (by omega), eHi 735 (by decide) (by decide) (by decide) (by decide) (by decide) (by omega), gS_735 S]; exact cMt_lan CM g
      · rw [eLo 29 (by decide), fo 29 g (by decide) (by decide) (.inr fun r hr => by omega), xs 29 (by omega), eHi 737 (by decide) (by decide) (by decide) (by decide) (by decide) (by omega), gS_737 S]; exact cMt_gon CM g hg a ha
      · rw [eLo 30 (by decide), f30 l, g736 l, h736, cMt_pai CM l, gS_736 S]
      · rw [eLo 8 (by decide), f814, g18]; rfl
      · rw [hCd]
        exact cCd_c P2.2.2.1 fun q hq => by rw [eLo _ (by omega), hd12 q (by omega)]
      · obtain ⟨w1, w2, w3, w4, w5, w6, w7, w8, -⟩ := cAll_rw C r hr
        have ro : ∀ a q, 58 + 4 * r ≤ a → a ≤ 61 + 4 * r → (a ≠ 58 + 4 * r ∨ q ≠ 3) → gI m2 a q = gI m a q := fun a q h1 h2 h3 => by
          rw [eLo a (by omega), fo a q (by omega) (by omega) (h3.symm.imp id fun h3 r' _ => by omega), xs a (by omega)]
        refine ⟨?_, ?_, fun i hi => ?_, fun i hi => ?_, ?_, ?_, ?_, fun f hf i => ?_, fun h => absurd (g738 r hr) h, fun h => absurd (g738 r hr) h, fun h => absurd (g738 r hr) h, fun h => absurd (g738 r hr) h⟩
        · rw [eLo _ (by omega), fr r hr, g738 r hr]
        · rw [ro _ 6 (by omega) (by omega) (.inr (by decide)), eHi 739 (by decide) (by decide) (by decide) (by decide) (by decide) (by omega), gS_739 S]; exact w2
        · rw [ro _ i (by omega) (by omega) (.inl (by omega)), eHi 740 (by decide) (by decide) (by decide) (by decide) (by decide) (by omega), gS_740 S]; exact w3 i hi
        · rw [ro _ i (by omega) (by omega) (.inl (by omega)), eHi 741 (by decide) (by decide) (by decide) (by decide) (by decide) (by omega), gS_741 S]; exact w4 i hi
        · rw [ro _ 7 (by omega) (by omega) (.inr (by decide)), eHi 742 (by decide) (by decide) (by decide) (by decide) (by decide) (by omega), gS_742 S]; exact w5
        · rw [ro _ 8 (by omega) (by omega) (.inr (by decide)), eHi 743 (by decide) (by decide) (by decide) (by decide) (by decide) (by omega), gS_743 S]; exact w6
        · rw [ro _ 14 (by omega) (by omega) (.inr (by decide)), eHi 746 (by decide) (by decide) (by decide) (by decide) (by decide) (by omega), gS_746 S]; exact w7
        · rw [ro _ f (by omega) (by omega) (.inl (by omega)), eHi 744 (by decide) (by decide) (by decide) (by decide) (by decide) (by omega), gS_744 S]; exact w8 f hf i
end P959
