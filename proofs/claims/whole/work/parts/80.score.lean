/-! ===== what the class and the reference try, marks' mean, scores ===== -/
theorem cAll_O {c n : Nat} {J1 J2 s : gd_C} (hc : c = 32 ∨ c = 45) (o : ∀ a, (a < 15 ∨ (28 ≤ a ∧ a ≤ 30) ∨ 31 < a) → J2 a = J1 a) (h : cAll c n J1 s) : cAll c n J2 s := by
  refine ⟨?_, ?_, fun r hr => ?_⟩
  · have q := cAll_mt h
    unfold cMt at q ⊢
    rw [o 8 (by decide), o 9 (by decide), o 10 (by decide), o 28 (by decide), o 29 (by decide), o 30 (by decide)]
    exact q
  · have q := cAll_cd h
    unfold cCd at q ⊢
    rw [o c (by omega), o (c + 1) (by omega), o (c + 2) (by omega), o (c + 3) (by omega), o (c + 4) (by omega), o (c + 5) (by omega), o (c + 6) (by omega), o (c + 7) (by omega), o (c + 8) (by omega), o (c + 9) (by omega), o (c + 10) (by omega), o (c + 11) (by omega), o (c + 12) (by omega)]
    exact q
  · have q := cAll_rw h r hr
    unfold cRw at q ⊢
    rw [o (58 + 4 * r) (by omega), o (59 + 4 * r) (by omega), o (60 + 4 * r) (by omega), o (61 + 4 * r) (by omega)]
    exact q
/-- one row and the meeting change -/
theorem cAll_row2 {c n r : Nat} {J J' s s' : gd_C} (hc : c = 32 ∨ c = 45) (h : cAll c n J s) (hr : r < 160) (eJ : ∀ a, 32 ≤ a → (a < 58 + 4 * r ∨ 61 + 4 * r < a) → J' a = J a) (hcd : gCd n s' = gCd n s) (he : ∀ q < 160, q ≠ r → rEq s s' q) (mt : cMt J' s') (hrow : cRw (gCd n s) J' s' r) : cAll c n J' s' := by
  refine ⟨mt, ?_, fun q hq => ?_⟩
  · rw [hcd]; exact cCd_c (cAll_cd h) fun k hk => eJ _ (by omega) (by omega)
  · rw [hcd]
    by_cases e : q = r
    · rw [e]; exact hrow
    · exact cRw_c (cAll_rw h q hq) (fun a h1 h2 => eJ a (by omega) (by omega)) (he q hq e)
theorem oC_X {m m1 : gd_M} (h : oC m m1) : oX m m1 := ⟨h.1, fun a ha => h.2 a (by omega)⟩
theorem oT_M {m m1 : gd_M} (h : oT m m1) : oM m m1 := ⟨h.1, fun a ha => h.2 a (by omega)⟩
section P80
variable {c d n p : Nat} {m : gd_M} {s A : gd_C} {r : Nat}
theorem row_eOk (I : iAll n s) (hr : r < 160) (hb : s 738 r ≠ 0) : eOk (gCd n s) (gEn s r) (gn (s 739 r)) := by
  obtain ⟨l, -, hl, hle⟩ := iRow_len (iAll_row I r hr)
  have hgl : gn (s 739 r) = l := by rw [hle, gn_of (by omega)]
  refine ⟨by omega, fun i hi => ?_⟩
  have h := iRow_ent (iAll_row I r hr) hb i hi
  unfold gEn
  rw [if_pos (show i < 16 by omega)]
  exact h
theorem row_len (I : iAll n s) (hr : r < 160) : s 739 r = Int32.ofNat (gn (s 739 r)) ∧ gn (s 739 r) ≤ 16 := by
  obtain ⟨l, -, hl, hle⟩ := iRow_len (iAll_row I r hr)
  rw [hle, gn_of (by omega)]; exact ⟨rfl, hl⟩
theorem gEn_i {i : Nat} (hi : i < 16) : gEn s r i = s 740 (16 * r + i) := if_pos hi
theorem gMk_i {i : Nat} (hi : i < 6) : gMk s r i = s 741 (6 * r + i) := if_pos hi
theorem row_cSt (C : cAll c n (gI m) s) (I : iAll n s) (hr : r < 160) : cSt c (gCd n s) r (gn (s 739 r)) (gEn s r) m :=
  ⟨cAll_cd C, (cRw_len (cAll_rw C r hr)).trans (row_len I hr).1, fun i hi => by rw [gEn_i hi]; exact cRw_ent (cAll_rw C r hr) i hi⟩
/-- refresh: D and choice are those of the entries then -/
theorem c_refresh (K : gK c d n p m) (C : cAll c n (gI m) s) (I : iAll n s) (hr : r < 160) (hb : s 738 r ≠ 0) : ∃ m', gd_call 133 [.ref 8, .ref (58 + 4 * r)] m = some (.null, m') ∧ oX m m' ∧ cAll c n (gI m') s ∧ gI m' (58 + 4 * r) 5 = 0 := by
  have hn := gK_n1 K
  have hc := gK_c1 K
  rw [q_X_refresh]
  simp only [gK_N K, gK_8_0 K, gK_8_1 K, gK_8_2 K, gK_8_3 K, gK_8_4 K, gK_8_5 K, gK_8_6 K, gK_8_7 K, gK_8_8 K, gK_10_0 K, gK_10_1 K, gK_10_2 K, gK_11_0 K, gK_15_0 K, gK_15_1 K, gK_15_2 K, gK_15_3 K, gK_20_0 K, gK_20_1 K, gK_20_2 K, gK_20_3 K, gK_20_4 K, gK_20_5 K, gK_698_0 K, gK_698_3 K, gK_698_16 K, gK_698_17 K, gK_698_20 K, gK_698_21 K, gK_698_22 K, gK_698_23 K, gK_698_24 K, gK_698_25 K, gK_698_26 K, gK_698_27 K, gK_698_28 K, gK_698_29 K, gK_698_30 K, gK_698_31 K, gK_698_32 K, gK_698_33 K, gK_698_34 K, gK_698_35 K, gK_698_36 K, gK_698_37 K, gK_698_38 K, gK_698_39 K, gK_698_41 K, gK_698_42 K, gK_698_44 K, gK_c K, gK_d K, gK_n K, gK_p K, gok_8, gok_10, gok_11, gok_15, gok_20, gok_698, gok_699, goA_9, goA_12, goA_13, goA_14, goA_16, goA_17, goA_18, goA_19, goA_21, goA_22, goA_23, goA_24, goA_25, goA_26, goA_27, goA_28, goA_29, goA_30, goA_31, goA_732, goA_733, goA_734, goA_735, goA_736, goA_737, goA_738, goA_739, goA_740, goA_741, goA_742, goA_743, goA_744, goA_745, goA_746, goA_747, goA_748, goA_749, goA_750, goA_751, goA_752, goA_753, goA_754, goA_755, goA_756, goA_757, gN_wI, gR_wI, gL_wI, if_true, eq_self, gK_row K hr, gK_ent K hr, gK_mrk K hr, gK_sen K hr, gok_row hr, goA_ent hr, goA_mrk hr, goA_sen hr, gd_row0, gd_row8, if_false]
  by_cases h5 : gI m (58 + 4 * r) 5 = 0
  · rw [if_pos h5]
    exact ⟨m, rfl, oX_refl, C, h5⟩
  · rw [if_neg h5]
    obtain ⟨m1, a1, a2, a3, a4⟩ := c_choose K hr (iAll_cod I) (row_eOk I hr hb) (row_cSt C I hr)
    have K1 := gK_o K a2.1
    have C1 : cAll c n (gI m1) s := cAll_O hc (fun a ha => a2.2 a (by omega)) C
    have W1 := cAll_rw C1 r hr
    rw [a1]
    simp only [gK_N K1, gK_8_0 K1, gK_8_1 K1, gK_8_2 K1, gK_8_3 K1, gK_8_4 K1, gK_8_5 K1, gK_8_6 K1, gK_8_7 K1, gK_8_8 K1, gK_10_0 K1, gK_10_1 K1, gK_10_2 K1, gK_11_0 K1, gK_15_0 K1, gK_15_1 K1, gK_15_2 K1, gK_15_3 K1, gK_20_0 K1, gK_20_1 K1, gK_20_2 K1, gK_20_3 K1, gK_20_4 K1, gK_20_5 K1, gK_698_0 K1, gK_698_3 K1, gK_698_16 K1, gK_698_17 K1, gK_698_20 K1, gK_698_21 K1, gK_698_22 K1, gK_698_23 K1, gK_698_24 K1, gK_698_25 K1, gK_698_26 K1, gK_698_27 K1, gK_698_28 K1, gK_698_29 K1, gK_698_30 K1, gK_698_31 K1, gK_698_32 K1, gK_698_33 K1, gK_698_34 K1, gK_698_35 K1, gK_698_36 K1, gK_698_37 K1, gK_698_38 K1, gK_698_39 K1, gK_698_41 K1, gK_698_42 K1, gK_698_44 K1, gK_c K1, gK_d K1, gK_n K1, gK_p K1, gok_8, gok_10, gok_11, gok_15, gok_20, gok_698, gok_699, goA_9, goA_12, goA_13, goA_14, goA_16, goA_17, goA_18, goA_19, goA_21, goA_22, goA_23, goA_24, goA_25, goA_26, goA_27, goA_28, goA_29, goA_30, goA_31, goA_732, goA_733, goA_734, goA_735, goA_736, goA_737, goA_738, goA_739, goA_740, goA_741, goA_742, goA_743, goA_744, goA_745, goA_746, goA_747, goA_748, goA_749, goA_750, goA_751, goA_752, goA_753, goA_754, goA_755, goA_756, goA_757, gN_wI, gR_wI, gL_wI, if_true, eq_self, gK_row K1 hr, gK_ent K1 hr, gK_mrk K1 hr, gK_sen K1 hr, gok_row hr, goA_ent hr, goA_mrk hr, goA_sen hr, gd_row0, gd_row8, if_false, Option.bind_some, gd_kV_v]
    rw [q_Ro_takeChoice]
    simp only [gK_N K1, gK_8_0 K1, gK_8_1 K1, gK_8_2 K1, gK_8_3 K1, gK_8_4 K1, gK_8_5 K1, gK_8_6 K1, gK_8_7 K1, gK_8_8 K1, gK_10_0 K1, gK_10_1 K1, gK_10_2 K1, gK_11_0 K1, gK_15_0 K1, gK_15_1 K1, gK_15_2 K1, gK_15_3 K1, gK_20_0 K1, gK_20_1 K1, gK_20_2 K1, gK_20_3 K1, gK_20_4 K1, gK_20_5 K1, gK_698_0 K1, gK_698_3 K1, gK_698_16 K1, gK_698_17 K1, gK_698_20 K1, gK_698_21 K1, gK_698_22 K1, gK_698_23 K1, gK_698_24 K1, gK_698_25 K1, gK_698_26 K1, gK_698_27 K1, gK_698_28 K1, gK_698_29 K1, gK_698_30 K1, gK_698_31 K1, gK_698_32 K1, gK_698_33 K1, gK_698_34 K1, gK_698_35 K1, gK_698_36 K1, gK_698_37 K1, gK_698_38 K1, gK_698_39 K1, gK_698_41 K1, gK_698_42 K1, gK_698_44 K1, gK_c K1, gK_d K1, gK_n K1, gK_p K1, gok_8, gok_10, gok_11, gok_15, gok_20, gok_698, gok_699, goA_9, goA_12, goA_13, goA_14, goA_16, goA_17, goA_18, goA_19, goA_21, goA_22, goA_23, goA_24, goA_25, goA_26, goA_27, goA_28, goA_29, goA_30, goA_31, goA_732, goA_733, goA_734, goA_735, goA_736, goA_737, goA_738, goA_739, goA_740, goA_741, goA_742, goA_743, goA_744, goA_745, goA_746, goA_747, goA_748, goA_749, goA_750, goA_751, goA_752, goA_753, goA_754, goA_755, goA_756, goA_757, gN_wI, gR_wI, gL_wI, if_true, eq_self, gK_row K1 hr, gK_ent K1 hr, gK_mrk K1 hr, gK_sen K1 hr, gok_row hr, goA_ent hr, goA_mrk hr, goA_sen hr, gd_row0, gd_row8, if_false, Option.bind_some, gd_kV_v]
    rw [← (row_len I hr).1] at a3 a4
    refine ⟨_, rfl, oX_w (oX_w (oX_w (oC_X a2) (by omega)) (by omega)) (by omega), ?_, gI_wI_s⟩
    refine cAll_row hc hn C1 hr (fun a ha => by rw [gI_wI_f (by omega), gI_wI_f (by omega), gI_wI_f (by omega)]) (fun _ _ => rfl) (fun q hq hne => rEq_refl) (fun q => rfl) ?_
    have t : ∀ j, j ≠ 5 → j ≠ 9 → j ≠ 10 → gI (wI (wI (wI m1 (58 + 4 * r) 9 (gI m1 15 5)) (58 + 4 * r) 10 (gI m1 15 6)) (58 + 4 * r) 5 0) (58 + 4 * r) j = gI m1 (58 + 4 * r) j := fun j h1 h2 h3 => by
      rw [gI_wI_k h1, gI_wI_k h3, gI_wI_k h2]
    have t9 : gI (wI (wI (wI m1 (58 + 4 * r) 9 (gI m1 15 5)) (58 + 4 * r) 10 (gI m1 15 6)) (58 + 4 * r) 5 0) (58 + 4 * r) 9 = gI m1 15 5 := by
      rw [gI_wI_k (by decide), gI_wI_k (by decide), gI_wI_s]
    have t10 : gI (wI (wI (wI m1 (58 + 4 * r) 9 (gI m1 15 5)) (58 + 4 * r) 10 (gI m1 15 6)) (58 + 4 * r) 5 0) (58 + 4 * r) 10 = gI m1 15 6 := by
      rw [gI_wI_k (by decide), gI_wI_s]
    have u : ∀ a, a ≠ 58 + 4 * r → gI (wI (wI (wI m1 (58 + 4 * r) 9 (gI m1 15 5)) (58 + 4 * r) 10 (gI m1 15 6)) (58 + 4 * r) 5 0) a = gI m1 a := fun a h => by
      rw [gI_wI_f h, gI_wI_f h, gI_wI_f h]
    refine ⟨(t 3 (by decide) (by decide) (by decide)).trans (cRw_bgn W1), (t 6 (by decide) (by decide) (by decide)).trans (cRw_len W1), fun i hi => ?_, fun j hj => ?_, (t 7 (by decide) (by decide) (by decide)).trans (cRw_mkd W1), (t 8 (by decide) (by decide) (by decide)).trans (cRw_ask W1), (t 14 (by decide) (by decide) (by decide)).trans (cRw_inq W1), fun f hf i => ?_, fun q => ?_, fun q1 q2 => ?_, fun q1 q2 => ?_, fun q1 q2 => ?_⟩
    · rw [u (59 + 4 * r) (by omega)]; exact cRw_ent W1 i hi
    · rw [u (60 + 4 * r) (by omega)]; exact cRw_mrk W1 j hj
    · rw [u (61 + 4 * r) (by omega)]; exact cRw_sen W1 f hf i
    · rw [t 4 (by decide) (by decide) (by decide)]; exact cRw_pst W1 q
    · rw [t 13 (by decide) (by decide) (by decide)]; exact cRw_pat W1 q1 q2
    · rw [t9, t10]; exact ⟨a3, a4⟩
    · have z := cRw_don W1 q1 q2
      rw [t 11 (by decide) (by decide) (by decide), t 12 (by decide) (by decide) (by decide)]
      exact ⟨gI_wI_s, z.2⟩
/-! the reference tries -/
theorem row_rSt (K : gK c d n p m) (S : gSm n (gI m) s) (I : iAll n s) (hr : r < 160) : rSt (gCd n s) n r (gn (s 739 r)) (gEn s r) m :=
  ⟨(gS_739 S).trans (row_len I hr).1, fun i hi => by rw [gEn_i hi]; exact gS_740 S, fun j => gS_n K S, fun k h1 h2 j => by rw [gCd_k h2]; exact S (n + k) j (gRl_n (gK_n1 K) k h2)⟩
theorem gSm_oT {m m1 : gd_M} (hn : n = 700 ∨ n = 716) (h : gSm n (gI m) s) (o : oT m m1) : gSm n (gI m1) s := fun a j q => by
  rw [o.2 a ?_]
  · exact h a j q
  · by_cases h1 : a < 747
    · exact .inl h1
    · exfalso
      unfold gRl at q
      have e1 : Nat.ble a 746 = false := by
        cases e : Nat.ble a 746 with
        | false => rfl
        | true => have := Nat.le_of_ble_eq_true e; omega
      have e2 : Nat.beq a 732 = false := by
        cases e : Nat.beq a 732 with
        | false => rfl
        | true => have := Nat.eq_of_beq_eq_true e; omega
      have e3 : Nat.beq a 698 = false := by
        cases e : Nat.beq a 698 with
        | false => rfl
        | true => have := Nat.eq_of_beq_eq_true e; omega
      have e4 : Nat.ble a (n + 15) = false := by
        cases e : Nat.ble a (n + 15) with
        | false => rfl
        | true => have := Nat.le_of_ble_eq_true e; omega
      rw [e1, e2, e3, e4] at q
      simp at q
theorem gCh_fR {m m1 : gd_M} (h : gCh n (gI m) s) (f : fR r m m1) (h7 : gI m1 747 r = gBw (gCd n s) (s 739 r) (gEn s r)) (h8 : gI m1 748 r = gBs (gCd n s) (s 739 r) (gEn s r)) : gCh n (gI m1) s := fun q hq q1 q2 => by
  by_cases e : q = r
  · rw [e]; exact ⟨h7, h8⟩
  · obtain ⟨f1, f2, f3⟩ := f q e
    rw [f3] at q2
    rw [f1, f2]; exact h q hq q1 q2
theorem c_tryK (K : gK c d n p m) (S : gSm n (gI m) s) (H : gCh n (gI m) s) (I : iAll n s) (hr : r < 160) (hb : s 738 r ≠ 0) : ∃ m', gd_call 141 [.ref 698, .int (Int32.ofNat r)] m = some (.null, m') ∧ oT m m' ∧ gSm n (gI m') s ∧ gCh n (gI m') s ∧ gI m' 748 r = gBs (gCd n s) (s 739 r) (gEn s r) := by
  obtain ⟨m', a1, a2, a3, a4, a5, a6⟩ := c_tryAll K hr (iAll_cod I) (row_eOk I hr hb) (row_rSt K S I hr) (fun q => by rw [← (row_len I hr).1]; exact H r hr hb q)
  rw [← (row_len I hr).1] at a5 a6
  exact ⟨m', a1, a2, gSm_oT (gK_n1 K) S a2, gCh_fR H a3 a5 a6, a6⟩
theorem c_diffK (K : gK c d n p m) (S : gSm n (gI m) s) (H : gCh n (gI m) s) (I : iAll n s) (hr : r < 160) (hb : s 738 r ≠ 0) : ∃ m', gd_call 142 [.ref 698, .int (Int32.ofNat r)] m = some (.int (gM0 (gBw (gCd n s) (s 739 r) (gEn s r))), m') ∧ oT m m' ∧ gSm n (gI m') s ∧ gCh n (gI m') s := by
  obtain ⟨m', a1, a2, a3, a4, a5, a6⟩ := c_diff K hr (iAll_cod I) (row_eOk I hr hb) (row_rSt K S I hr) (fun q => by rw [← (row_len I hr).1]; exact H r hr hb q)
  rw [← (row_len I hr).1] at a1 a5 a6
  exact ⟨m', a1, a2, gSm_oT (gK_n1 K) S a2, gCh_fR H a3 a5 a6⟩
/-! the mean of the marks -/
theorem c_meanOff_11 (K : gK c d n p m) (hr : r < 160) {N : Nat} (hN1 : 1 ≤ N) (hN6 : N ≤ 6) (hNe : A 0 21 = Int32.ofNat N) {mk : Nat → Int32} (hm : ∀ j < 6, gI m (60 + 4 * r) j = mk j) : ∀ j i, i + j = N → gd_Den (134, 11, [.ref (58 + 4 * r), .int (Int32.ofNat N), .int (gSum mk i), .int (gHi mk i), .int (gLo mk i), .int (Int32.ofNat i)], [], m) = some (.int (gJd A mk), m) := by
  intro j
  induction j with
  | zero =>
    intro i h
    have : i = N := by omega
    subst this
    rw [q_Ro_meanOff_11, if_neg (fun q => by have := (gn_lt (by omega) (by omega)).1 q; omega)]
    unfold gJd
    rw [hNe, gn_of (by omega)]
    by_cases h4 : i < 4
    · rw [if_pos ((gnlb_4 (by omega) (by decide)).2 h4), if_pos ((gnlb_4 (by omega) (by decide)).2 h4), if_pos ((gnla_0 (by decide) (by omega)).2 (by omega)), if_neg (fun q => by have := (gneb_0 (by omega) (by decide)).1 q; omega), Int32.mul_comm]
    · rw [if_neg (fun q => h4 ((gnlb_4 (by omega) (by decide)).1 q)), if_neg (fun q => h4 ((gnlb_4 (by omega) (by decide)).1 q)), if_neg (fun q => ?_), Int32.mul_comm]
      have e2 : Int32.ofNat i - 2 = Int32.ofNat (i - 2) := gn_sub (b := 2) (by omega)
      rw [e2] at q
      have := (gneb_0 (by omega) (by decide)).1 q
      omega
  | succ j ih =>
    intro i h
    have hI := ih (i + 1) (by omega)
    rw [q_Ro_meanOff_11, if_pos ((gn_lt (by omega) (by omega)).2 (by omega))]
    simp only [gK_N K, gK_8_0 K, gK_8_1 K, gK_8_2 K, gK_8_3 K, gK_8_4 K, gK_8_5 K, gK_8_6 K, gK_8_7 K, gK_8_8 K, gK_10_0 K, gK_10_1 K, gK_10_2 K, gK_11_0 K, gK_15_0 K, gK_15_1 K, gK_15_2 K, gK_15_3 K, gK_20_0 K, gK_20_1 K, gK_20_2 K, gK_20_3 K, gK_20_4 K, gK_20_5 K, gK_698_0 K, gK_698_3 K, gK_698_16 K, gK_698_17 K, gK_698_20 K, gK_698_21 K, gK_698_22 K, gK_698_23 K, gK_698_24 K, gK_698_25 K, gK_698_26 K, gK_698_27 K, gK_698_28 K, gK_698_29 K, gK_698_30 K, gK_698_31 K, gK_698_32 K, gK_698_33 K, gK_698_34 K, gK_698_35 K, gK_698_36 K, gK_698_37 K, gK_698_38 K, gK_698_39 K, gK_698_41 K, gK_698_42 K, gK_698_44 K, gK_c K, gK_d K, gK_n K, gK_p K, gok_8, gok_10, gok_11, gok_15, gok_20, gok_698, gok_699, goA_9, goA_12, goA_13, goA_14, goA_16, goA_17, goA_18, goA_19, goA_21, goA_22, goA_23, goA_24, goA_25, goA_26, goA_27, goA_28, goA_29, goA_30, goA_31, goA_732, goA_733, goA_734, goA_735, goA_736, goA_737, goA_738, goA_739, goA_740, goA_741, goA_742, goA_743, goA_744, goA_745, goA_746, goA_747, goA_748, goA_749, goA_750, goA_751, goA_752, goA_753, goA_754, goA_755, goA_756, goA_757, gN_wI, gR_wI, gL_wI, if_true, eq_self, gK_row K hr, gK_ent K hr, gK_mrk K hr, gK_sen K hr, gok_row hr, goA_ent hr, goA_mrk hr, goA_sen hr, gd_row0, gd_row8, if_false]
    rw [gn_in (by omega) (show i < 6 by omega), if_pos rfl, gn_nat (show i < 2147483648 by omega), hm i (by omega), c_max]
    simp only [gK_N K, gK_8_0 K, gK_8_1 K, gK_8_2 K, gK_8_3 K, gK_8_4 K, gK_8_5 K, gK_8_6 K, gK_8_7 K, gK_8_8 K, gK_10_0 K, gK_10_1 K, gK_10_2 K, gK_11_0 K, gK_15_0 K, gK_15_1 K, gK_15_2 K, gK_15_3 K, gK_20_0 K, gK_20_1 K, gK_20_2 K, gK_20_3 K, gK_20_4 K, gK_20_5 K, gK_698_0 K, gK_698_3 K, gK_698_16 K, gK_698_17 K, gK_698_20 K, gK_698_21 K, gK_698_22 K, gK_698_23 K, gK_698_24 K, gK_698_25 K, gK_698_26 K, gK_698_27 K, gK_698_28 K, gK_698_29 K, gK_698_30 K, gK_698_31 K, gK_698_32 K, gK_698_33 K, gK_698_34 K, gK_698_35 K, gK_698_36 K, gK_698_37 K, gK_698_38 K, gK_698_39 K, gK_698_41 K, gK_698_42 K, gK_698_44 K, gK_c K, gK_d K, gK_n K, gK_p K, gok_8, gok_10, gok_11, gok_15, gok_20, gok_698, gok_699, goA_9, goA_12, goA_13, goA_14, goA_16, goA_17, goA_18, goA_19, goA_21, goA_22, goA_23, goA_24, goA_25, goA_26, goA_27, goA_28, goA_29, goA_30, goA_31, goA_732, goA_733, goA_734, goA_735, goA_736, goA_737, goA_738, goA_739, goA_740, goA_741, goA_742, goA_743, goA_744, goA_745, goA_746, goA_747, goA_748, goA_749, goA_750, goA_751, goA_752, goA_753, goA_754, goA_755, goA_756, goA_757, gN_wI, gR_wI, gL_wI, if_true, eq_self, gK_row K hr, gK_ent K hr, gK_mrk K hr, gK_sen K hr, gok_row hr, goA_ent hr, goA_mrk hr, goA_sen hr, gd_row0, gd_row8, if_false, Option.bind_some, gd_k0I_i, gn_in (show i < 2147483648 by omega) (show i < 6 by omega), gn_nat (show i < 2147483648 by omega), hm i (show i < 6 by omega)]
    rw [q_Ma_min]
    have e1 : (if mk i < gLo mk i then some (Value.int (mk i), m) else some (Value.int (gLo mk i), m)) = some (Value.int (gLo mk (i + 1)), m) := by
      show _ = some (Value.int (if mk i < gLo mk i then mk i else gLo mk i), m)
      by_cases q : mk i < gLo mk i
      · rw [if_pos q, if_pos q]
      · rw [if_neg q, if_neg q]
    rw [e1]
    simp only [Option.bind_some, gd_k0I_i]
    rw [gn_succ]
    exact hI
theorem c_meanOff (K : gK c d n p m) (hr : r < 160) {N : Nat} (hN1 : 1 ≤ N) (hN6 : N ≤ 6) (hNe : A 0 21 = Int32.ofNat N) {mk : Nat → Int32} (hm : ∀ j < 6, gI m (60 + 4 * r) j = mk j) : gd_call 134 [.ref (58 + 4 * r), .int (Int32.ofNat N)] m = some (.int (gJd A mk), m) := by
  rw [q_Ro_meanOff]
  exact c_meanOff_11 K hr hN1 hN6 hNe hm N 0 (by omega)
theorem gSum_c {mk mk' : Nat → Int32} : ∀ k, (∀ j < k, mk j = mk' j) → gSum mk k = gSum mk' k ∧ gHi mk k = gHi mk' k ∧ gLo mk k = gLo mk' k := by
  intro k
  induction k with
  | zero => intro _; exact ⟨rfl, rfl, rfl⟩
  | succ k ih =>
    intro h
    obtain ⟨h1, h2, h3⟩ := ih fun j hj => h j (by omega)
    refine ⟨?_, ?_, ?_⟩
    · show gSum mk k + mk k = gSum mk' k + mk' k
      rw [h1, h k (by omega)]
    · show (if gHi mk k < mk k then mk k else gHi mk k) = if gHi mk' k < mk' k then mk' k else gHi mk' k
      rw [h2, h k (by omega)]
    · show (if mk k < gLo mk k then mk k else gLo mk k) = if mk' k < gLo mk' k then mk' k else gLo mk' k
      rw [h3, h k (by omega)]
theorem c_judged_11 (K : gK c d n p m) (S : gSm n (gI m) s) (hr : r < 160) {N : Nat} (hN1 : 1 ≤ N) (hN6 : N ≤ 6) (hNe : gCd n s 0 21 = Int32.ofNat N) : ∀ j i v, i + j = N → gd_Den (143, 11, [.ref 698, .int (Int32.ofNat r), .int (gSum (gMk s r) i), .int (gHi (gMk s r) i), .int (gLo (gMk s r) i), .int (Int32.ofNat i), v], [], m) = some (.int (gJd (gCd n s) (gMk s r)), m) := by
  intro j
  induction j with
  | zero =>
    intro i v h
    have : i = N := by omega
    subst this
    rw [q_Mo_judged_11]
    simp only [gK_N K, gK_8_0 K, gK_8_1 K, gK_8_2 K, gK_8_3 K, gK_8_4 K, gK_8_5 K, gK_8_6 K, gK_8_7 K, gK_8_8 K, gK_10_0 K, gK_10_1 K, gK_10_2 K, gK_11_0 K, gK_15_0 K, gK_15_1 K, gK_15_2 K, gK_15_3 K, gK_20_0 K, gK_20_1 K, gK_20_2 K, gK_20_3 K, gK_20_4 K, gK_20_5 K, gK_698_0 K, gK_698_3 K, gK_698_16 K, gK_698_17 K, gK_698_20 K, gK_698_21 K, gK_698_22 K, gK_698_23 K, gK_698_24 K, gK_698_25 K, gK_698_26 K, gK_698_27 K, gK_698_28 K, gK_698_29 K, gK_698_30 K, gK_698_31 K, gK_698_32 K, gK_698_33 K, gK_698_34 K, gK_698_35 K, gK_698_36 K, gK_698_37 K, gK_698_38 K, gK_698_39 K, gK_698_41 K, gK_698_42 K, gK_698_44 K, gK_c K, gK_d K, gK_n K, gK_p K, gok_8, gok_10, gok_11, gok_15, gok_20, gok_698, gok_699, goA_9, goA_12, goA_13, goA_14, goA_16, goA_17, goA_18, goA_19, goA_21, goA_22, goA_23, goA_24, goA_25, goA_26, goA_27, goA_28, goA_29, goA_30, goA_31, goA_732, goA_733, goA_734, goA_735, goA_736, goA_737, goA_738, goA_739, goA_740, goA_741, goA_742, goA_743, goA_744, goA_745, goA_746, goA_747, goA_748, goA_749, goA_750, goA_751, goA_752, goA_753, goA_754, goA_755, goA_756, goA_757, gN_wI, gR_wI, gL_wI, if_true, eq_self, gok_c K, gok_d K, gok_n K, gok_p K, gK_c_0 K, gK_c_1 K, gK_c_2 K, gK_c_3 K, gK_c_4 K, gK_c_5 K, gK_c_6 K, gK_c_7 K, gK_c_8 K, gK_c_9 K, gK_c_10 K, gK_c_11 K, gK_n_3 K, gK_n_4 K, gK_n_5 K, gK_n_6 K, gK_n_7 K, gK_n_8 K, gK_n_9 K, gK_n_10 K, gK_n_11 K, gK_n_12 K, gK_n_13 K, gK_n_14 K, gK_n_15 K, gK_n_16 K, gK_n_17 K, goA_c1 K, goA_c2 K, goA_c3 K, goA_c4 K, goA_c5 K, goA_c6 K, goA_c7 K, goA_c8 K, goA_c9 K, goA_c10 K, goA_c11 K, goA_c12 K, goA_n1 K, goA_n2 K, goA_n3 K, goA_n4 K, goA_n5 K, goA_n6 K, goA_n7 K, goA_n8 K, goA_n9 K, goA_n10 K, goA_n11 K, goA_n12 K, goA_n13 K, goA_n14 K, goA_n15 K, gS_n K S, gS_n5 K S, gS_n6 K S, gS_n7 K S, gS_n8 K S, gS_n9 K S, gS_n10 K S, gS_n11 K S, gS_n12 K S, gS_n13 K S, gS_n14 K S, gS_n15 K S, gS_732 S, gS_735 S, gS_736 S, gS_737 S, gS_738 S, gS_739 S, gS_740 S, gS_741 S, gS_742 S, gS_743 S, gS_744 S, gS_745 S, gS_746 S, gS_698_4 S, gS_698_14 S, gS_698_15 S, gS_698_18 S, gS_698_19 S]
    rw [hNe, if_neg (fun q => by have := (gn_lt (by omega) (by omega)).1 q; omega)]
    unfold gJd
    rw [hNe, gn_of (by omega)]
    by_cases h4 : i < 4
    · rw [if_pos ((gnlb_4 (by omega) (by decide)).2 h4), if_pos ((gnlb_4 (by omega) (by decide)).2 h4), if_neg (fun q => by have := (gneb_0 (by omega) (by decide)).1 q; omega)]
    · rw [if_neg (fun q => h4 ((gnlb_4 (by omega) (by decide)).1 q)), if_neg (fun q => h4 ((gnlb_4 (by omega) (by decide)).1 q)), if_neg (fun q => ?_)]
      have e2 : Int32.ofNat i - 2 = Int32.ofNat (i - 2) := gn_sub (b := 2) (by omega)
      rw [e2] at q
      have := (gneb_0 (by omega) (by decide)).1 q
      omega
  | succ j ih =>
    intro i v h
    have hI := ih (i + 1) (.int (gMk s r i)) (by omega)
    have g1 : gSum (gMk s r) (i + 1) = gSum (gMk s r) i + gMk s r i := rfl
    have g2 : gHi (gMk s r) (i + 1) = if gHi (gMk s r) i < gMk s r i then gMk s r i else gHi (gMk s r) i := rfl
    have g3 : gLo (gMk s r) (i + 1) = if gMk s r i < gLo (gMk s r) i then gMk s r i else gLo (gMk s r) i := rfl
    rw [g1, g2, g3] at hI
    rw [q_Mo_judged_11]
    simp only [gK_N K, gK_8_0 K, gK_8_1 K, gK_8_2 K, gK_8_3 K, gK_8_4 K, gK_8_5 K, gK_8_6 K, gK_8_7 K, gK_8_8 K, gK_10_0 K, gK_10_1 K, gK_10_2 K, gK_11_0 K, gK_15_0 K, gK_15_1 K, gK_15_2 K, gK_15_3 K, gK_20_0 K, gK_20_1 K, gK_20_2 K, gK_20_3 K, gK_20_4 K, gK_20_5 K, gK_698_0 K, gK_698_3 K, gK_698_16 K, gK_698_17 K, gK_698_20 K, gK_698_21 K, gK_698_22 K, gK_698_23 K, gK_698_24 K, gK_698_25 K, gK_698_26 K, gK_698_27 K, gK_698_28 K, gK_698_29 K, gK_698_30 K, gK_698_31 K, gK_698_32 K, gK_698_33 K, gK_698_34 K, gK_698_35 K, gK_698_36 K, gK_698_37 K, gK_698_38 K, gK_698_39 K, gK_698_41 K, gK_698_42 K, gK_698_44 K, gK_c K, gK_d K, gK_n K, gK_p K, gok_8, gok_10, gok_11, gok_15, gok_20, gok_698, gok_699, goA_9, goA_12, goA_13, goA_14, goA_16, goA_17, goA_18, goA_19, goA_21, goA_22, goA_23, goA_24, goA_25, goA_26, goA_27, goA_28, goA_29, goA_30, goA_31, goA_732, goA_733, goA_734, goA_735, goA_736, goA_737, goA_738, goA_739, goA_740, goA_741, goA_742, goA_743, goA_744, goA_745, goA_746, goA_747, goA_748, goA_749, goA_750, goA_751, goA_752, goA_753, goA_754, goA_755, goA_756, goA_757, gN_wI, gR_wI, gL_wI, if_true, eq_self, gok_c K, gok_d K, gok_n K, gok_p K, gK_c_0 K, gK_c_1 K, gK_c_2 K, gK_c_3 K, gK_c_4 K, gK_c_5 K, gK_c_6 K, gK_c_7 K, gK_c_8 K, gK_c_9 K, gK_c_10 K, gK_c_11 K, gK_n_3 K, gK_n_4 K, gK_n_5 K, gK_n_6 K, gK_n_7 K, gK_n_8 K, gK_n_9 K, gK_n_10 K, gK_n_11 K, gK_n_12 K, gK_n_13 K, gK_n_14 K, gK_n_15 K, gK_n_16 K, gK_n_17 K, goA_c1 K, goA_c2 K, goA_c3 K, goA_c4 K, goA_c5 K, goA_c6 K, goA_c7 K, goA_c8 K, goA_c9 K, goA_c10 K, goA_c11 K, goA_c12 K, goA_n1 K, goA_n2 K, goA_n3 K, goA_n4 K, goA_n5 K, goA_n6 K, goA_n7 K, goA_n8 K, goA_n9 K, goA_n10 K, goA_n11 K, goA_n12 K, goA_n13 K, goA_n14 K, goA_n15 K, gS_n K S, gS_n5 K S, gS_n6 K S, gS_n7 K S, gS_n8 K S, gS_n9 K S, gS_n10 K S, gS_n11 K S, gS_n12 K S, gS_n13 K S, gS_n14 K S, gS_n15 K S, gS_732 S, gS_735 S, gS_736 S, gS_737 S, gS_738 S, gS_739 S, gS_740 S, gS_741 S, gS_742 S, gS_743 S, gS_744 S, gS_745 S, gS_746 S, gS_698_4 S, gS_698_14 S, gS_698_15 S, gS_698_18 S, gS_698_19 S, gm6, gn_add]
    rw [hNe, if_pos ((gn_lt (by omega) (by omega)).2 (by omega)), gn_in (by omega) (show 6 * r + i < 960 by omega), if_pos rfl, gn_nat (show 6 * r + i < 2147483648 by omega), ← gMk_i (s := s) (r := r) (show i < 6 by omega), gn_succ]
    by_cases h1 : gHi (gMk s r) i < gMk s r i
    · rw [if_pos h1]; rw [if_pos h1] at hI
      by_cases h2 : gMk s r i < gLo (gMk s r) i
      · rw [if_pos h2]; rw [if_pos h2] at hI; exact hI
      · rw [if_neg h2]; rw [if_neg h2] at hI; exact hI
    · rw [if_neg h1]; rw [if_neg h1] at hI
      by_cases h2 : gMk s r i < gLo (gMk s r) i
      · rw [if_pos h2]; rw [if_pos h2] at hI; exact hI
      · rw [if_neg h2]; rw [if_neg h2] at hI; exact hI
theorem c_judged (K : gK c d n p m) (S : gSm n (gI m) s) (I : iAll n s) (hr : r < 160) : gd_call 143 [.ref 698, .int (Int32.ofNat r)] m = some (.int (gJd (gCd n s) (gMk s r)), m) := by
  obtain ⟨N, hN1, hN6, hNe⟩ := iCd_pan (iAll_cod I)
  rw [q_Mo_judged]
  exact c_judged_11 K S hr hN1 hN6 hNe N 0 .null (by omega)
/-- the reference's score -/
theorem c_scoreK (K : gK c d n p m) (S : gSm n (gI m) s) (H : gCh n (gI m) s) (I : iAll n s) (hr : r < 160) (hb : s 738 r ≠ 0) : ∃ m', gd_call 144 [.ref 698, .int (Int32.ofNat r)] m = some (.int (gSc (gCd n s) (s 739 r) (gEn s r) (gMk s r) (gSn s r)), m') ∧ oT m m' ∧ gSm n (gI m') s ∧ gCh n (gI m') s := by
  obtain ⟨m', a1, a2, a3, a4⟩ := c_diffK K S H I hr hb
  have K1 := gK_o K a2.1
  refine ⟨m', ?_, a2, a3, a4⟩
  rw [q_Mo_score]
  simp only [gK_N K, gK_8_0 K, gK_8_1 K, gK_8_2 K, gK_8_3 K, gK_8_4 K, gK_8_5 K, gK_8_6 K, gK_8_7 K, gK_8_8 K, gK_10_0 K, gK_10_1 K, gK_10_2 K, gK_11_0 K, gK_15_0 K, gK_15_1 K, gK_15_2 K, gK_15_3 K, gK_20_0 K, gK_20_1 K, gK_20_2 K, gK_20_3 K, gK_20_4 K, gK_20_5 K, gK_698_0 K, gK_698_3 K, gK_698_16 K, gK_698_17 K, gK_698_20 K, gK_698_21 K, gK_698_22 K, gK_698_23 K, gK_698_24 K, gK_698_25 K, gK_698_26 K, gK_698_27 K, gK_698_28 K, gK_698_29 K, gK_698_30 K, gK_698_31 K, gK_698_32 K, gK_698_33 K, gK_698_34 K, gK_698_35 K, gK_698_36 K, gK_698_37 K, gK_698_38 K, gK_698_39 K, gK_698_41 K, gK_698_42 K, gK_698_44 K, gK_c K, gK_d K, gK_n K, gK_p K, gok_8, gok_10, gok_11, gok_15, gok_20, gok_698, gok_699, goA_9, goA_12, goA_13, goA_14, goA_16, goA_17, goA_18, goA_19, goA_21, goA_22, goA_23, goA_24, goA_25, goA_26, goA_27, goA_28, goA_29, goA_30, goA_31, goA_732, goA_733, goA_734, goA_735, goA_736, goA_737, goA_738, goA_739, goA_740, goA_741, goA_742, goA_743, goA_744, goA_745, goA_746, goA_747, goA_748, goA_749, goA_750, goA_751, goA_752, goA_753, goA_754, goA_755, goA_756, goA_757, gN_wI, gR_wI, gL_wI, if_true, eq_self]
  rw [a1]
  simp only [gK_N K1, gK_8_0 K1, gK_8_1 K1, gK_8_2 K1, gK_8_3 K1, gK_8_4 K1, gK_8_5 K1, gK_8_6 K1, gK_8_7 K1, gK_8_8 K1, gK_10_0 K1, gK_10_1 K1, gK_10_2 K1, gK_11_0 K1, gK_15_0 K1, gK_15_1 K1, gK_15_2 K1, gK_15_3 K1, gK_20_0 K1, gK_20_1 K1, gK_20_2 K1, gK_20_3 K1, gK_20_4 K1, gK_20_5 K1, gK_698_0 K1, gK_698_3 K1, gK_698_16 K1, gK_698_17 K1, gK_698_20 K1, gK_698_21 K1, gK_698_22 K1, gK_698_23 K1, gK_698_24 K1, gK_698_25 K1, gK_698_26 K1, gK_698_27 K1, gK_698_28 K1, gK_698_29 K1, gK_698_30 K1, gK_698_31 K1, gK_698_32 K1, gK_698_33 K1, gK_698_34 K1, gK_698_35 K1, gK_698_36 K1, gK_698_37 K1, gK_698_38 K1, gK_698_39 K1, gK_698_41 K1, gK_698_42 K1, gK_698_44 K1, gK_c K1, gK_d K1, gK_n K1, gK_p K1, gok_8, gok_10, gok_11, gok_15, gok_20, gok_698, gok_699, goA_9, goA_12, goA_13, goA_14, goA_16, goA_17, goA_18, goA_19, goA_21, goA_22, goA_23, goA_24, goA_25, goA_26, goA_27, goA_28, goA_29, goA_30, goA_31, goA_732, goA_733, goA_734, goA_735, goA_736, goA_737, goA_738, goA_739, goA_740, goA_741, goA_742, goA_743, goA_744, goA_745, goA_746, goA_747, goA_748, goA_749, goA_750, goA_751, goA_752, goA_753, goA_754, goA_755, goA_756, goA_757, gN_wI, gR_wI, gL_wI, if_true, eq_self, Option.bind_some, gd_kI_i]
  rw [c_judged K1 a3 I hr]
  simp only [gK_N K1, gK_8_0 K1, gK_8_1 K1, gK_8_2 K1, gK_8_3 K1, gK_8_4 K1, gK_8_5 K1, gK_8_6 K1, gK_8_7 K1, gK_8_8 K1, gK_10_0 K1, gK_10_1 K1, gK_10_2 K1, gK_11_0 K1, gK_15_0 K1, gK_15_1 K1, gK_15_2 K1, gK_15_3 K1, gK_20_0 K1, gK_20_1 K1, gK_20_2 K1, gK_20_3 K1, gK_20_4 K1, gK_20_5 K1, gK_698_0 K1, gK_698_3 K1, gK_698_16 K1, gK_698_17 K1, gK_698_20 K1, gK_698_21 K1, gK_698_22 K1, gK_698_23 K1, gK_698_24 K1, gK_698_25 K1, gK_698_26 K1, gK_698_27 K1, gK_698_28 K1, gK_698_29 K1, gK_698_30 K1, gK_698_31 K1, gK_698_32 K1, gK_698_33 K1, gK_698_34 K1, gK_698_35 K1, gK_698_36 K1, gK_698_37 K1, gK_698_38 K1, gK_698_39 K1, gK_698_41 K1, gK_698_42 K1, gK_698_44 K1, gK_c K1, gK_d K1, gK_n K1, gK_p K1, gok_8, gok_10, gok_11, gok_15, gok_20, gok_698, gok_699, goA_9, goA_12, goA_13, goA_14, goA_16, goA_17, goA_18, goA_19, goA_21, goA_22, goA_23, goA_24, goA_25, goA_26, goA_27, goA_28, goA_29, goA_30, goA_31, goA_732, goA_733, goA_734, goA_735, goA_736, goA_737, goA_738, goA_739, goA_740, goA_741, goA_742, goA_743, goA_744, goA_745, goA_746, goA_747, goA_748, goA_749, goA_750, goA_751, goA_752, goA_753, goA_754, goA_755, goA_756, goA_757, gN_wI, gR_wI, gL_wI, if_true, eq_self, Option.bind_some, gd_kI_i]
  rw [c_off K1 hr a3 (iAll_cod I)]
  simp only [Option.bind_some, gd_kI_i]
  unfold gSc
  generalize 100 * gM0 (gBw (gCd n s) (s 739 r) (gEn s r)) + 10000 - gJd (gCd n s) (gMk s r) - 100 * gOff (gCd n s) (gSn s r) = z
  unfold gM0
  by_cases q : z < 0
  · rw [if_pos q, if_pos q]
  · rw [if_neg q, if_neg q]
/-- the class's score -/
theorem c_settleScore (K : gK c d n p m) (hr : r < 160) (Cd : cCd c (gI m) A) (Id : iCd A) {sn : Nat → Nat → Int32} (hs : ∀ f < 10, ∀ i, gb (gI m (61 + 4 * r) f) i = (decide (i < 16) && !decide (sn f i = 0))) {D E : Int32} (h9 : gI m (58 + 4 * r) 9 = D) (h11 : gI m (58 + 4 * r) 11 = E) : gd_call 135 [.ref (58 + 4 * r), .ref c] m = some (.null, wI m (58 + 4 * r) 12 (gM0 (100 * D + 10000 - E - 100 * gOff A sn))) := by
  rw [q_Ro_settleScore]
  simp only [gK_N K, gK_8_0 K, gK_8_1 K, gK_8_2 K, gK_8_3 K, gK_8_4 K, gK_8_5 K, gK_8_6 K, gK_8_7 K, gK_8_8 K, gK_10_0 K, gK_10_1 K, gK_10_2 K, gK_11_0 K, gK_15_0 K, gK_15_1 K, gK_15_2 K, gK_15_3 K, gK_20_0 K, gK_20_1 K, gK_20_2 K, gK_20_3 K, gK_20_4 K, gK_20_5 K, gK_698_0 K, gK_698_3 K, gK_698_16 K, gK_698_17 K, gK_698_20 K, gK_698_21 K, gK_698_22 K, gK_698_23 K, gK_698_24 K, gK_698_25 K, gK_698_26 K, gK_698_27 K, gK_698_28 K, gK_698_29 K, gK_698_30 K, gK_698_31 K, gK_698_32 K, gK_698_33 K, gK_698_34 K, gK_698_35 K, gK_698_36 K, gK_698_37 K, gK_698_38 K, gK_698_39 K, gK_698_41 K, gK_698_42 K, gK_698_44 K, gK_c K, gK_d K, gK_n K, gK_p K, gok_8, gok_10, gok_11, gok_15, gok_20, gok_698, gok_699, goA_9, goA_12, goA_13, goA_14, goA_16, goA_17, goA_18, goA_19, goA_21, goA_22, goA_23, goA_24, goA_25, goA_26, goA_27, goA_28, goA_29, goA_30, goA_31, goA_732, goA_733, goA_734, goA_735, goA_736, goA_737, goA_738, goA_739, goA_740, goA_741, goA_742, goA_743, goA_744, goA_745, goA_746, goA_747, goA_748, goA_749, goA_750, goA_751, goA_752, goA_753, goA_754, goA_755, goA_756, goA_757, gN_wI, gR_wI, gL_wI, if_true, eq_self, gK_row K hr, gK_ent K hr, gK_mrk K hr, gK_sen K hr, gok_row hr, goA_ent hr, goA_mrk hr, goA_sen hr, gd_row0, gd_row8, if_false]
  rw [c_takenOff K hr Cd Id hs]
  simp only [Option.bind_some, gd_kI_i]
  rw [c_max, h9, h11, gM0_mx]
  simp only [gK_N K, gK_8_0 K, gK_8_1 K, gK_8_2 K, gK_8_3 K, gK_8_4 K, gK_8_5 K, gK_8_6 K, gK_8_7 K, gK_8_8 K, gK_10_0 K, gK_10_1 K, gK_10_2 K, gK_11_0 K, gK_15_0 K, gK_15_1 K, gK_15_2 K, gK_15_3 K, gK_20_0 K, gK_20_1 K, gK_20_2 K, gK_20_3 K, gK_20_4 K, gK_20_5 K, gK_698_0 K, gK_698_3 K, gK_698_16 K, gK_698_17 K, gK_698_20 K, gK_698_21 K, gK_698_22 K, gK_698_23 K, gK_698_24 K, gK_698_25 K, gK_698_26 K, gK_698_27 K, gK_698_28 K, gK_698_29 K, gK_698_30 K, gK_698_31 K, gK_698_32 K, gK_698_33 K, gK_698_34 K, gK_698_35 K, gK_698_36 K, gK_698_37 K, gK_698_38 K, gK_698_39 K, gK_698_41 K, gK_698_42 K, gK_698_44 K, gK_c K, gK_d K, gK_n K, gK_p K, gok_8, gok_10, gok_11, gok_15, gok_20, gok_698, gok_699, goA_9, goA_12, goA_13, goA_14, goA_16, goA_17, goA_18, goA_19, goA_21, goA_22, goA_23, goA_24, goA_25, goA_26, goA_27, goA_28, goA_29, goA_30, goA_31, goA_732, goA_733, goA_734, goA_735, goA_736, goA_737, goA_738, goA_739, goA_740, goA_741, goA_742, goA_743, goA_744, goA_745, goA_746, goA_747, goA_748, goA_749, goA_750, goA_751, goA_752, goA_753, goA_754, goA_755, goA_756, goA_757, gN_wI, gR_wI, gL_wI, if_true, eq_self, gK_row K hr, gK_ent K hr, gK_mrk K hr, gK_sen K hr, gok_row hr, goA_ent hr, goA_mrk hr, goA_sen hr, gd_row0, gd_row8, if_false, Option.bind_some, gd_k0I_i]
end P80
