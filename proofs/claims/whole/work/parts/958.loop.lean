/-! ===== code ===== -/
/-- rows from i on not begun -/
def wRw (m : gd_M) (i : Nat) : Nat → gd_M
  | 0 => m
  | j + 1 => wRw (wI m (58 + 4 * i) 3 0) (i + 1) j
theorem wRw_2 : ∀ j i (m : gd_M), (wRw m i j).2 = m.2 := by
  intro j
  induction j with
  | zero => intro i m; rfl
  | succ j ih => intro i m; exact ih (i + 1) (wI m (58 + 4 * i) 3 0)
theorem wRw_o {a q : Nat} : ∀ j i (m : gd_M), (q ≠ 3 ∨ ∀ r, i ≤ r → r < i + j → a ≠ 58 + 4 * r) → gI (wRw m i j) a q = gI m a q := by
  intro j
  induction j with
  | zero => intro i m _; rfl
  | succ j ih =>
    intro i m h
    refine (ih (i + 1) (wI m (58 + 4 * i) 3 0) ?_).trans ?_
    · rcases h with h | h
      · exact .inl h
      · exact .inr fun r h1 h2 => h r (by omega) (by omega)
    · rcases h with h | h
      · exact gI_wI_k h
      · exact gI_wI_a (h i (Nat.le_refl i) (by omega))
theorem wRw_r {r : Nat} : ∀ j i (m : gd_M), i ≤ r → r < i + j → gI (wRw m i j) (58 + 4 * r) 3 = 0 := by
  intro j
  induction j with
  | zero => intro i m h1 h2; omega
  | succ j ih =>
    intro i m h1 h2
    by_cases e : i = r
    · subst e
      refine (wRw_o j (i + 1) (wI m (58 + 4 * i) 3 0) (.inr fun r' a1 a2 => by omega)).trans gI_wI_s
    · exact ih (i + 1) (wI m (58 + 4 * i) 3 0) (by omega) (by omega)
theorem gRl_t {n a j : Nat} (q : gRl n a j = true) : (735 ≤ a ∧ a ≤ 746) ∨ a = 732 ∨ (a = 698 ∧ (j = 4 ∨ j = 14 ∨ j = 15 ∨ j = 18 ∨ j = 19)) ∨ (n ≤ a ∧ a ≤ n + 15) := by
  unfold gRl at q
  simp only [Bool.or_eq_true, Bool.and_eq_true, Nat.ble_eq, Nat.beq_eq] at q
  omega
section P958
variable {c d cc dd n p : Nat} {t : Nat → Int32} {T e k N : Nat} {m m0 m1 mX mM mX' mM' : gd_M} {s : gd_C}
theorem PR_start (hT : T ≤ 3000) (Kx : gK c d n p mX) (Km : gK cc dd n p mM) (X : xT t T mX) (Z : zT t T mM) (tl : gR mX 10 3 = d) (fx : fX d m0 mX) (fm : fM p m1 mM) (fz : fZ mX mM) (x4 : gI mX 10 4 = 0) (xi : iniX d (gI mX)) (ia : iniA (gCd p (gI mM))) (iF0 : iniF p mM) (ig : ∀ g < 5, gI mM 733 g = 0 ∧ gI mM 734 g = 0) (x3 : gI mX 11 3 = Int32.ofNat 0) (x114 : gI mX 11 4 = Int32.ofNat 0) (tk : tkM t T (kSt t T 0) 0 mM) : PR c d cc dd n p t T m0 m1 mX mM ∧ tP t T 0 0 mX mM := by
  have i0 := ia.1
  have i2 := ia.2.2.1
  rw [gA0] at i0 i2
  obtain ⟨b1, b2, b3, b4, b5⟩ := iF0
  refine ⟨⟨⟨Kx, Km, X, Z, tl, fx, fm, fz⟩, iCd_ini ia, cCd_ini xi ia, fun i hi => ?_, fun i hi => ?_, ?_, fun g hg => ?_, fun g hg => ?_⟩, Nat.zero_le T, by decide, x3, x114, tk⟩
  · rw [i0] at hi; exact absurd hi (Nat.not_lt_zero i)
  · rw [i2] at hi; exact absurd hi (Nat.not_lt_zero i)
  · unfold LB
    rw [x4, b1, b2, b3, b4, b5]
    decide
  · have := (ia.2.2.2.1 g hg).1
    rw [gCd_k (by decide)] at this
    rw [(ig g hg).1, this]
  · have := (ia.2.2.2.1 g hg).2.2
    rw [gCd_k (by decide)] at this
    rw [(ig g hg).2, this]
    exact ⟨fun _ => rfl, fun _ => rfl⟩
theorem code_loop (hB : ∀ i, isB (t i)) (hT : T ≤ 3000) : ∀ fuel i e k (mX mM : gd_M), 700 < fuel + k → i ≤ k → PR c d cc dd n p t T m0 m1 mX mM → tP t T e k mX mM → ∃ z mX' mM', gd_Den (59, 39, [.ref 10, .ref 9, .int (Int32.ofNat T), .ref d, .int (Int32.ofNat i)], [], mX) = some (.int z, mX') ∧ ((z = 1 ∧ PR c d cc dd n p t T m0 m1 mX' mM' ∧ gd_Den (82, 71, [.ref 698, .int (Int32.ofNat 5), .null], [], mM) = gd_Den (82, 122, [.ref 698, .ref n, .int 0], [], wI (wI (wR (wR mM' 698 1 p) 698 2 n) 698 18 0) 698 19 0)) ∨ (z = 0 ∧ gd_Den (82, 71, [.ref 698, .int (Int32.ofNat 5), .null], [], mM) = some (.int (-1), mM') ∧ FO c d cc dd n p m0 m1 mX' mM')) := by
  intro fuel
  induction fuel with
  | zero =>
    intro i e k mX mM h hi P Q
    have := Q.2.1
    omega
  | succ fuel ih =>
    intro i e k mX mM h hi P Q
    obtain ⟨q1, q2, q3, q4, q5⟩ := id Q
    obtain ⟨mX1, a1, o1, F1⟩ := fetch hB hT P.1 Q
    have P1 := PR_S P o1
    have Kx := P.1.1
    have Kx1 := P1.1.1
    have Km := P.1.2.1
    obtain ⟨f1, f2, f3, f4⟩ := id F1
    have x0 := (xzTy _ (kTy_6 (t := t) (T := T) (s := kSt t T e))).1.2.2.2
    have z5 := (xzTy _ (kTy_6 (t := t) (T := T) (s := kSt t T e))).2.2.2.2.2
    rw [q_Re_readCode_39, q_Mo_code_71, if_neg (fun u : (700 : Int32) < Int32.ofNat i => by have := (gnla_700 (by decide) (by omega)).1 u; omega)]
    simp only [gK_N Kx, gK_8_0 Kx, gK_8_1 Kx, gK_8_2 Kx, gK_8_3 Kx, gK_8_4 Kx, gK_8_5 Kx, gK_8_6 Kx, gK_8_7 Kx, gK_8_8 Kx, gK_10_0 Kx, gK_10_1 Kx, gK_10_2 Kx, gK_11_0 Kx, gK_15_0 Kx, gK_15_1 Kx, gK_15_2 Kx, gK_15_3 Kx, gK_20_0 Kx, gK_20_1 Kx, gK_20_2 Kx, gK_20_3 Kx, gK_20_4 Kx, gK_20_5 Kx, gK_698_0 Kx, gK_698_3 Kx, gK_698_16 Kx, gK_698_17 Kx, gK_698_20 Kx, gK_698_21 Kx, gK_698_22 Kx, gK_698_23 Kx, gK_698_24 Kx, gK_698_25 Kx, gK_698_26 Kx, gK_698_27 Kx, gK_698_28 Kx, gK_698_29 Kx, gK_698_30 Kx, gK_698_31 Kx, gK_698_32 Kx, gK_698_33 Kx, gK_698_34 Kx, gK_698_35 Kx, gK_698_36 Kx, gK_698_37 Kx, gK_698_38 Kx, gK_698_39 Kx, gK_698_41 Kx, gK_698_42 Kx, gK_698_44 Kx, gK_c Kx, gK_d Kx, gK_n Kx, gK_p Kx, gok_8, gok_10, gok_11, gok_15, gok_20, gok_698, gok_699, goA_9, goA_12, goA_13, goA_14, goA_16, goA_17, goA_18, goA_19, goA_21, goA_22, goA_23, goA_24, goA_25, goA_26, goA_27, goA_28, goA_29, goA_30, goA_31, goA_732, goA_733, goA_734, goA_735, goA_736, goA_737, goA_738, goA_739, goA_740, goA_741, goA_742, goA_743, goA_744, goA_745, goA_746, goA_747, goA_748, goA_749, goA_750, goA_751, goA_752, goA_753, goA_754, goA_755, goA_756, goA_757, gN_wI, gR_wI, gL_wI, if_true, eq_self]
    rw [a1]
    simp only [gK_N Kx1, gK_8_0 Kx1, gK_8_1 Kx1, gK_8_2 Kx1, gK_8_3 Kx1, gK_8_4 Kx1, gK_8_5 Kx1, gK_8_6 Kx1, gK_8_7 Kx1, gK_8_8 Kx1, gK_10_0 Kx1, gK_10_1 Kx1, gK_10_2 Kx1, gK_11_0 Kx1, gK_15_0 Kx1, gK_15_1 Kx1, gK_15_2 Kx1, gK_15_3 Kx1, gK_20_0 Kx1, gK_20_1 Kx1, gK_20_2 Kx1, gK_20_3 Kx1, gK_20_4 Kx1, gK_20_5 Kx1, gK_698_0 Kx1, gK_698_3 Kx1, gK_698_16 Kx1, gK_698_17 Kx1, gK_698_20 Kx1, gK_698_21 Kx1, gK_698_22 Kx1, gK_698_23 Kx1, gK_698_24 Kx1, gK_698_25 Kx1, gK_698_26 Kx1, gK_698_27 Kx1, gK_698_28 Kx1, gK_698_29 Kx1, gK_698_30 Kx1, gK_698_31 Kx1, gK_698_32 Kx1, gK_698_33 Kx1, gK_698_34 Kx1, gK_698_35 Kx1, gK_698_36 Kx1, gK_698_37 Kx1, gK_698_38 Kx1, gK_698_39 Kx1, gK_698_41 Kx1, gK_698_42 Kx1, gK_698_44 Kx1, gK_c Kx1, gK_d Kx1, gK_n Kx1, gK_p Kx1, gok_8, gok_10, gok_11, gok_15, gok_20, gok_698, gok_699, goA_9, goA_12, goA_13, goA_14, goA_16, goA_17, goA_18, goA_19, goA_21, goA_22, goA_23, goA_24, goA_25, goA_26, goA_27, goA_28, goA_29, goA_30, goA_31, goA_732, goA_733, goA_734, goA_735, goA_736, goA_737, goA_738, goA_739, goA_740, goA_741, goA_742, goA_743, goA_744, goA_745, goA_746, goA_747, goA_748, goA_749, goA_750, goA_751, goA_752, goA_753, goA_754, goA_755, goA_756, goA_757, gN_wI, gR_wI, gL_wI, if_true, eq_self, Option.bind_some, gd_kV_v]
    simp only [gK_N Km, gK_8_0 Km, gK_8_1 Km, gK_8_2 Km, gK_8_3 Km, gK_8_4 Km, gK_8_5 Km, gK_8_6 Km, gK_8_7 Km, gK_8_8 Km, gK_10_0 Km, gK_10_1 Km, gK_10_2 Km, gK_11_0 Km, gK_15_0 Km, gK_15_1 Km, gK_15_2 Km, gK_15_3 Km, gK_20_0 Km, gK_20_1 Km, gK_20_2 Km, gK_20_3 Km, gK_20_4 Km, gK_20_5 Km, gK_698_0 Km, gK_698_3 Km, gK_698_16 Km, gK_698_17 Km, gK_698_20 Km, gK_698_21 Km, gK_698_22 Km, gK_698_23 Km, gK_698_24 Km, gK_698_25 Km, gK_698_26 Km, gK_698_27 Km, gK_698_28 Km, gK_698_29 Km, gK_698_30 Km, gK_698_31 Km, gK_698_32 Km, gK_698_33 Km, gK_698_34 Km, gK_698_35 Km, gK_698_36 Km, gK_698_37 Km, gK_698_38 Km, gK_698_39 Km, gK_698_41 Km, gK_698_42 Km, gK_698_44 Km, gK_c Km, gK_d Km, gK_n Km, gK_p Km, gok_8, gok_10, gok_11, gok_15, gok_20, gok_698, gok_699, goA_9, goA_12, goA_13, goA_14, goA_16, goA_17, goA_18, goA_19, goA_21, goA_22, goA_23, goA_24, goA_25, goA_26, goA_27, goA_28, goA_29, goA_30, goA_31, goA_732, goA_733, goA_734, goA_735, goA_736, goA_737, goA_738, goA_739, goA_740, goA_741, goA_742, goA_743, goA_744, goA_745, goA_746, goA_747, goA_748, goA_749, goA_750, goA_751, goA_752, goA_753, goA_754, goA_755, goA_756, goA_757, gN_wI, gR_wI, gL_wI, if_true, eq_self]
    rw [f3.2.2.2.1, f4.2.2.2.1]
    by_cases h0 : kTy t T (kSt t T e) = 0
    · rw [if_pos (x0.2 h0), if_pos (z5.2 h0)]
      exact ⟨1, mX1, mM, rfl, .inl ⟨rfl, P1, rfl⟩⟩
    · have hs : ¬ T ≤ kSt t T e := fun u => h0 (kTy_0.2 u)
      rw [if_neg (fun u => h0 (x0.1 u)), if_neg (fun u => h0 (z5.1 u))]
      obtain ⟨z, mX2, mM2, o, b1, b2, hz⟩ := L_line hB hT P1 F1 hs (k0 := k) (Nat.le_refl k)
      rw [b1, b2]
      rcases hz with ⟨rfl, rfl, P2, e2, k2, Q2, hk2⟩ | ⟨rfl, rfl, Fo⟩
      · simp only [Option.bind_some, gd_kI_i, gd_khV_v]
        rw [if_neg (show ¬ (1 : Int32) = 0 by decide), gn_succ]
        exact ih (i + 1) e2 k2 mX2 mM2 (by omega) (by omega) P2 Q2
      · simp only [Option.bind_some, gd_kI_i, gd_khV_t]
        rw [if_pos trivial, q_Mo_code_90]
        exact ⟨0, mX2, mM2, rfl, .inr ⟨rfl, rfl, Fo⟩⟩
/-! a new meeting -/
theorem c_st60_2 : ∀ j i (m : gd_M), i + j = 160 → gK c d n p m → gd_Den (60, 2, [.ref 8, .int (Int32.ofNat i)], [], m) = gd_Den (60, 29, [.ref 8, .int 0], [], wRw m i j) := by
  have hKD : (Nat.ble 10 (gd_KD 27) && Nat.ble (gd_KD 27) 14 && decide (27 < 758)) = true := by decide +kernel
  have hLN : gd_LN 27 = 160 := by decide +kernel
  intro j
  induction j with
  | zero =>
    intro i m h K
    have : i = 160 := by omega
    subst this
    rw [q_X_startMeeting_2]
    simp only [gK_N K, gK_8_0 K, gK_8_1 K, gK_8_2 K, gK_8_3 K, gK_8_4 K, gK_8_5 K, gK_8_6 K, gK_8_7 K, gK_8_8 K, gK_10_0 K, gK_10_1 K, gK_10_2 K, gK_11_0 K, gK_15_0 K, gK_15_1 K, gK_15_2 K, gK_15_3 K, gK_20_0 K, gK_20_1 K, gK_20_2 K, gK_20_3 K, gK_20_4 K, gK_20_5 K, gK_698_0 K, gK_698_3 K, gK_698_16 K, gK_698_17 K, gK_698_20 K, gK_698_21 K, gK_698_22 K, gK_698_23 K, gK_698_24 K, gK_698_25 K, gK_698_26 K, gK_698_27 K, gK_698_28 K, gK_698_29 K, gK_698_30 K, gK_698_31 K, gK_698_32 K, gK_698_33 K, gK_698_34 K, gK_698_35 K, gK_698_36 K, gK_698_37 K, gK_698_38 K, gK_698_39 K, gK_698_41 K, gK_698_42 K, gK_698_44 K, gK_c K, gK_d K, gK_n K, gK_p K, gok_8, gok_10, gok_11, gok_15, gok_20, gok_698, gok_699, goA_9, goA_12, goA_13, goA_14, goA_16, goA_17, goA_18, goA_19, goA_21, goA_22, goA_23, goA_24, goA_25, goA_26, goA_27, goA_28, goA_29, goA_30, goA_31, goA_732, goA_733, goA_734, goA_735, goA_736, goA_737, goA_738, goA_739, goA_740, goA_741, goA_742, goA_743, goA_744, goA_745, goA_746, goA_747, goA_748, goA_749, goA_750, goA_751, goA_752, goA_753, goA_754, goA_755, goA_756, goA_757, gN_wI, gR_wI, gL_wI, if_true, eq_self, hKD, hLN]
    rw [if_neg Int32.lt_irrefl]
    rfl
  | succ j ih =>
    intro i m h K
    have hr : i < 160 := by omega
    have i1 : gd_in (Int32.ofNat i) 160 = true := gn_in (by omega) hr
    have n1 : (Int32.ofNat i).toNatClampNeg = i := gn_nat (by omega)
    rw [q_X_startMeeting_2]
    simp only [gK_N K, gK_8_0 K, gK_8_1 K, gK_8_2 K, gK_8_3 K, gK_8_4 K, gK_8_5 K, gK_8_6 K, gK_8_7 K, gK_8_8 K, gK_10_0 K, gK_10_1 K, gK_10_2 K, gK_11_0 K, gK_15_0 K, gK_15_1 K, gK_15_2 K, gK_15_3 K, gK_20_0 K, gK_20_1 K, gK_20_2 K, gK_20_3 K, gK_20_4 K, gK_20_5 K, gK_698_0 K, gK_698_3 K, gK_698_16 K, gK_698_17 K, gK_698_20 K, gK_698_21 K, gK_698_22 K, gK_698_23 K, gK_698_24 K, gK_698_25 K, gK_698_26 K, gK_698_27 K, gK_698_28 K, gK_698_29 K, gK_698_30 K, gK_698_31 K, gK_698_32 K, gK_698_33 K, gK_698_34 K, gK_698_35 K, gK_698_36 K, gK_698_37 K, gK_698_38 K, gK_698_39 K, gK_698_41 K, gK_698_42 K, gK_698_44 K, gK_c K, gK_d K, gK_n K, gK_p K, gok_8, gok_10, gok_11, gok_15, gok_20, gok_698, gok_699, goA_9, goA_12, goA_13, goA_14, goA_16, goA_17, goA_18, goA_19, goA_21, goA_22, goA_23, goA_24, goA_25, goA_26, goA_27, goA_28, goA_29, goA_30, goA_31, goA_732, goA_733, goA_734, goA_735, goA_736, goA_737, goA_738, goA_739, goA_740, goA_741, goA_742, goA_743, goA_744, goA_745, goA_746, goA_747, goA_748, goA_749, goA_750, goA_751, goA_752, goA_753, goA_754, goA_755, goA_756, goA_757, gN_wI, gR_wI, gL_wI, if_true, eq_self, hKD, hLN, i1, n1, gn_succ, gK_row K hr, gK_ent K hr, gK_mrk K hr, gK_sen K hr, gok_row hr, goA_ent hr, goA_mrk hr, goA_sen hr, gd_row0, gd_row8, if_false]
    rw [if_pos ((gn_lt (by omega) (by decide)).2 hr)]
    exact ih (i + 1) (wI m (58 + 4 * i) 3 0) (by omega) K
theorem c_st60_29 : ∀ j i (m : gd_M), i + j = 10 → gK c d n p m → gd_Den (60, 29, [.ref 8, .int (Int32.ofNat i)], [], m) = some (.null, wI (wI (wI (wFl m 30 i 0 j) 8 12 0) 8 13 0) 8 14 0) := by
  intro j
  induction j with
  | zero =>
    intro i m h K
    have : i = 10 := by omega
    subst this
    rw [q_X_startMeeting_29, if_neg (show ¬ Int32.ofNat 10 < 10 by decide)]
    simp only [gK_N K, gK_8_0 K, gK_8_1 K, gK_8_2 K, gK_8_3 K, gK_8_4 K, gK_8_5 K, gK_8_6 K, gK_8_7 K, gK_8_8 K, gK_10_0 K, gK_10_1 K, gK_10_2 K, gK_11_0 K, gK_15_0 K, gK_15_1 K, gK_15_2 K, gK_15_3 K, gK_20_0 K, gK_20_1 K, gK_20_2 K, gK_20_3 K, gK_20_4 K, gK_20_5 K, gK_698_0 K, gK_698_3 K, gK_698_16 K, gK_698_17 K, gK_698_20 K, gK_698_21 K, gK_698_22 K, gK_698_23 K, gK_698_24 K, gK_698_25 K, gK_698_26 K, gK_698_27 K, gK_698_28 K, gK_698_29 K, gK_698_30 K, gK_698_31 K, gK_698_32 K, gK_698_33 K, gK_698_34 K, gK_698_35 K, gK_698_36 K, gK_698_37 K, gK_698_38 K, gK_698_39 K, gK_698_41 K, gK_698_42 K, gK_698_44 K, gK_c K, gK_d K, gK_n K, gK_p K, gok_8, gok_10, gok_11, gok_15, gok_20, gok_698, gok_699, goA_9, goA_12, goA_13, goA_14, goA_16, goA_17, goA_18, goA_19, goA_21, goA_22, goA_23, goA_24, goA_25, goA_26, goA_27, goA_28, goA_29, goA_30, goA_31, goA_732, goA_733, goA_734, goA_735, goA_736, goA_737, goA_738, goA_739, goA_740, goA_741, goA_742, goA_743, goA_744, goA_745, goA_746, goA_747, goA_748, goA_749, goA_750, goA_751, goA_752, goA_753, goA_754, goA_755, goA_756, goA_757, gN_wI, gR_wI, gL_wI, if_true, eq_self]
    rfl
  | succ j ih =>
    intro i m h K
    have i1 : gd_in (Int32.ofNat i) 10 = true := gn_in (by omega) (by omega)
    have n1 : (Int32.ofNat i).toNatClampNeg = i := gn_nat (by omega)
    rw [q_X_startMeeting_29, if_pos ((gnlb_10 (by omega) (by decide)).2 (by omega))]
    simp only [gK_N K, gK_8_0 K, gK_8_1 K, gK_8_2 K, gK_8_3 K, gK_8_4 K, gK_8_5 K, gK_8_6 K, gK_8_7 K, gK_8_8 K, gK_10_0 K, gK_10_1 K, gK_10_2 K, gK_11_0 K, gK_15_0 K, gK_15_1 K, gK_15_2 K, gK_15_3 K, gK_20_0 K, gK_20_1 K, gK_20_2 K, gK_20_3 K, gK_20_4 K, gK_20_5 K, gK_698_0 K, gK_698_3 K, gK_698_16 K, gK_698_17 K, gK_698_20 K, gK_698_21 K, gK_698_22 K, gK_698_23 K, gK_698_24 K, gK_698_25 K, gK_698_26 K, gK_698_27 K, gK_698_28 K, gK_698_29 K, gK_698_30 K, gK_698_31 K, gK_698_32 K, gK_698_33 K, gK_698_34 K, gK_698_35 K, gK_698_36 K, gK_698_37 K, gK_698_38 K, gK_698_39 K, gK_698_41 K, gK_698_42 K, gK_698_44 K, gK_c K, gK_d K, gK_n K, gK_p K, gok_8, gok_10, gok_11, gok_15, gok_20, gok_698, gok_699, goA_9, goA_12, goA_13, goA_14, goA_16, goA_17, goA_18, goA_19, goA_21, goA_22, goA_23, goA_24, goA_25, goA_26, goA_27, goA_28, goA_29, goA_30, goA_31, goA_732, goA_733, goA_734, goA_735, goA_736, goA_737, goA_738, goA_739, goA_740, goA_741, goA_742, goA_743, goA_744, goA_745, goA_746, goA_747, goA_748, goA_749, goA_750, goA_751, goA_752, goA_753, goA_754, goA_755, goA_756, goA_757, gN_wI, gR_wI, gL_wI, if_true, eq_self, i1, n1, gn_succ]
    exact ih (i + 1) (wI m 30 i 0) (by omega) K
theorem c_st60 (K : gK c d n p m) : gd_call 60 [.ref 8] m = some (.null, wI (wI (wI (wFl (wRw m 0 160) 30 0 0 10) 8 12 0) 8 13 0) 8 14 0) := by
  have h1 := c_st60_2 (c := c) (d := d) (n := n) (p := p) 160 0 m (by omega) K
  have h2 := c_st60_29 (c := c) (d := d) (n := n) (p := p) 10 0 (wRw m 0 160) (by omega) (gK_o K (wRw_2 160 0 m))
  rw [gn_0] at h1 h2
  rw [q_X_startMeeting, h1, h2]
theorem c_co122 {r1 : Nat} : ∀ j i (m : gd_M), i + j = 160 → gK c d n p m → gd_Den (82, 122, [.ref 698, .ref r1, .int (Int32.ofNat i)], [], m) = gd_Den (82, 144, [.ref 698, .ref r1, .int 0], [], wFl m 738 i 0 j) := by
  intro j
  induction j with
  | zero =>
    intro i m h K
    have : i = 160 := by omega
    subst this
    rw [q_Mo_code_122, if_neg (show ¬ Int32.ofNat 160 < 160 by decide)]
    rfl
  | succ j ih =>
    intro i m h K
    have i1 : gd_in (Int32.ofNat i) 160 = true := gn_in (by omega) (by omega)
    have n1 : (Int32.ofNat i).toNatClampNeg = i := gn_nat (by omega)
    rw [q_Mo_code_122, if_pos ((gnlb_160 (by omega) (by decide)).2 (by omega))]
    simp only [gK_N K, gK_8_0 K, gK_8_1 K, gK_8_2 K, gK_8_3 K, gK_8_4 K, gK_8_5 K, gK_8_6 K, gK_8_7 K, gK_8_8 K, gK_10_0 K, gK_10_1 K, gK_10_2 K, gK_11_0 K, gK_15_0 K, gK_15_1 K, gK_15_2 K, gK_15_3 K, gK_20_0 K, gK_20_1 K, gK_20_2 K, gK_20_3 K, gK_20_4 K, gK_20_5 K, gK_698_0 K, gK_698_3 K, gK_698_16 K, gK_698_17 K, gK_698_20 K, gK_698_21 K, gK_698_22 K, gK_698_23 K, gK_698_24 K, gK_698_25 K, gK_698_26 K, gK_698_27 K, gK_698_28 K, gK_698_29 K, gK_698_30 K, gK_698_31 K, gK_698_32 K, gK_698_33 K, gK_698_34 K, gK_698_35 K, gK_698_36 K, gK_698_37 K, gK_698_38 K, gK_698_39 K, gK_698_41 K, gK_698_42 K, gK_698_44 K, gK_c K, gK_d K, gK_n K, gK_p K, gok_8, gok_10, gok_11, gok_15, gok_20, gok_698, gok_699, goA_9, goA_12, goA_13, goA_14, goA_16, goA_17, goA_18, goA_19, goA_21, goA_22, goA_23, goA_24, goA_25, goA_26, goA_27, goA_28, goA_29, goA_30, goA_31, goA_732, goA_733, goA_734, goA_735, goA_736, goA_737, goA_738, goA_739, goA_740, goA_741, goA_742, goA_743, goA_744, goA_745, goA_746, goA_747, goA_748, goA_749, goA_750, goA_751, goA_752, goA_753, goA_754, goA_755, goA_756, goA_757, gN_wI, gR_wI, gL_wI, if_true, eq_self, i1, n1, gn_succ, gd_vn0]
    exact ih (i + 1) (wI m 738 i 0) (by omega) K
theorem c_co144 {r1 : Nat} : ∀ j i (m : gd_M), i + j = 10 → gK c d n p m → gd_Den (82, 144, [.ref 698, .ref r1, .int (Int32.ofNat i)], [], m) = some (.int (gI (wFl m 736 i 0 j) n 0), wFl m 736 i 0 j) := by
  intro j
  induction j with
  | zero =>
    intro i m h K
    have : i = 10 := by omega
    subst this
    rw [q_Mo_code_144, if_neg (show ¬ Int32.ofNat 10 < 10 by decide)]
    simp only [gK_N K, gK_8_0 K, gK_8_1 K, gK_8_2 K, gK_8_3 K, gK_8_4 K, gK_8_5 K, gK_8_6 K, gK_8_7 K, gK_8_8 K, gK_10_0 K, gK_10_1 K, gK_10_2 K, gK_11_0 K, gK_15_0 K, gK_15_1 K, gK_15_2 K, gK_15_3 K, gK_20_0 K, gK_20_1 K, gK_20_2 K, gK_20_3 K, gK_20_4 K, gK_20_5 K, gK_698_0 K, gK_698_3 K, gK_698_16 K, gK_698_17 K, gK_698_20 K, gK_698_21 K, gK_698_22 K, gK_698_23 K, gK_698_24 K, gK_698_25 K, gK_698_26 K, gK_698_27 K, gK_698_28 K, gK_698_29 K, gK_698_30 K, gK_698_31 K, gK_698_32 K, gK_698_33 K, gK_698_34 K, gK_698_35 K, gK_698_36 K, gK_698_37 K, gK_698_38 K, gK_698_39 K, gK_698_41 K, gK_698_42 K, gK_698_44 K, gK_c K, gK_d K, gK_n K, gK_p K, gok_8, gok_10, gok_11, gok_15, gok_20, gok_698, gok_699, goA_9, goA_12, goA_13, goA_14, goA_16, goA_17, goA_18, goA_19, goA_21, goA_22, goA_23, goA_24, goA_25, goA_26, goA_27, goA_28, goA_29, goA_30, goA_31, goA_732, goA_733, goA_734, goA_735, goA_736, goA_737, goA_738, goA_739, goA_740, goA_741, goA_742, goA_743, goA_744, goA_745, goA_746, goA_747, goA_748, goA_749, goA_750, goA_751, goA_752, goA_753, goA_754, goA_755, goA_756, goA_757, gN_wI, gR_wI, gL_wI, if_true, eq_self, gok_c K, gok_d K, gok_n K, gok_p K, gK_c_0 K, gK_c_1 K, gK_c_2 K, gK_c_3 K, gK_c_4 K, gK_c_5 K, gK_c_6 K, gK_c_7 K, gK_c_8 K, gK_c_9 K, gK_c_10 K, gK_c_11 K, gK_n_3 K, gK_n_4 K, gK_n_5 K, gK_n_6 K, gK_n_7 K, gK_n_8 K, gK_n_9 K, gK_n_10 K, gK_n_11 K, gK_n_12 K, gK_n_13 K, gK_n_14 K, gK_n_15 K, gK_n_16 K, gK_n_17 K, goA_c1 K, goA_c2 K, goA_c3 K, goA_c4 K, goA_c5 K, goA_c6 K, goA_c7 K, goA_c8 K, goA_c9 K, goA_c10 K, goA_c11 K, goA_c12 K, goA_n1 K, goA_n2 K, goA_n3 K, goA_n4 K, goA_n5 K, goA_n6 K, goA_n7 K, goA_n8 K, goA_n9 K, goA_n10 K, goA_n11 K, goA_n12 K, goA_n13 K, goA_n14 K, goA_n15 K]
    rfl
  | succ j ih =>
    intro i m h K
    have i1 : gd_in (Int32.ofNat i) 10 = true := gn_in (by omega) (by omega)
    have n1 : (Int32.ofNat i).toNatClampNeg = i := gn_nat (by omega)
    rw [q_Mo_code_144, if_pos ((gnlb_10 (by omega) (by decide)).2 (by omega))]
    simp only [gK_N K, gK_8_0 K, gK_8_1 K, gK_8_2 K, gK_8_3 K, gK_8_4 K, gK_8_5 K, gK_8_6 K, gK_8_7 K, gK_8_8 K, gK_10_0 K, gK_10_1 K, gK_10_2 K, gK_11_0 K, gK_15_0 K, gK_15_1 K, gK_15_2 K, gK_15_3 K, gK_20_0 K, gK_20_1 K, gK_20_2 K, gK_20_3 K, gK_20_4 K, gK_20_5 K, gK_698_0 K, gK_698_3 K, gK_698_16 K, gK_698_17 K, gK_698_20 K, gK_698_21 K, gK_698_22 K, gK_698_23 K, gK_698_24 K, gK_698_25 K, gK_698_26 K, gK_698_27 K, gK_698_28 K, gK_698_29 K, gK_698_30 K, gK_698_31 K, gK_698_32 K, gK_698_33 K, gK_698_34 K, gK_698_35 K, gK_698_36 K, gK_698_37 K, gK_698_38 K, gK_698_39 K, gK_698_41 K, gK_698_42 K, gK_698_44 K, gK_c K, gK_d K, gK_n K, gK_p K, gok_8, gok_10, gok_11, gok_15, gok_20, gok_698, gok_699, goA_9, goA_12, goA_13, goA_14, goA_16, goA_17, goA_18, goA_19, goA_21, goA_22, goA_23, goA_24, goA_25, goA_26, goA_27, goA_28, goA_29, goA_30, goA_31, goA_732, goA_733, goA_734, goA_735, goA_736, goA_737, goA_738, goA_739, goA_740, goA_741, goA_742, goA_743, goA_744, goA_745, goA_746, goA_747, goA_748, goA_749, goA_750, goA_751, goA_752, goA_753, goA_754, goA_755, goA_756, goA_757, gN_wI, gR_wI, gL_wI, if_true, eq_self, i1, n1, gn_succ]
    exact ih (i + 1) (wI m 736 i 0) (by omega) K
theorem gI_wFl_f {a b k0 j : Nat} {x : Int32} (h : b ≠ a) : gI (wFl m a k0 x j) b = gI m b := by rw [gI_wFl, gUr_f h]
theorem gI_wFl_i {a k0 j i : Nat} {x : Int32} : gI (wFl m a k0 x j) a i = if k0 ≤ i ∧ i < k0 + j then x else gI m a i := by
  rw [gI_wFl, gUr_e]
  by_cases h : k0 ≤ i ∧ i < k0 + j
  · rw [if_pos ⟨rfl, h⟩, if_pos h]
  · rw [if_neg (fun u => h u.2), if_neg h]
/-- both begin -/
theorem code_start (hB : ∀ i, isB (s 732 i)) (hT : T ≤ 3000) (S : gSm n (gI m) s) (C : cMt (gI m) s) (h4 : s 698 4 = Int32.ofNat T) {m1 : gd_M} (K1 : gK cc dd n p m1) (e1 : ∀ a, 698 ≤ a → gI m1 a = gI m a) (KX : gK c d n p mX) (x9 : ∀ i, gI mX 9 i = gI m 9 i) (x112 : gI mX 11 2 = Int32.ofNat T) (xr1 : gR mX 11 1 = 9) (xr3 : gR mX 10 3 = d) (xf : fX d m0 mX) (x104 : gI mX 10 4 = 0) (x106 : gI mX 10 6 = 0) (x107 : gI mX 10 7 = -1) (x113 : gI mX 11 3 = Int32.ofNat 0) (x114 : gI mX 11 4 = Int32.ofNat 0) (xi : iniX d (gI mX)) : ∃ mM, gd_call 82 [.ref 698] m1 = gd_Den (82, 71, [.ref 698, .int (Int32.ofNat 5), .null], [], mM) ∧ PR c d cc dd n p (s 732) T m0 (wI (wI m1 698 5 (Int32.ofNat T)) 698 4 0) mX mM ∧ tP (s 732) T 0 0 mX mM := by
  obtain ⟨mM, a1, Km, Z, fm, z14, z15, tk, ia, iF0, ig⟩ := M_start (t := s 732) hB hT K1 (fun i => by rw [e1 732 (by decide)]; exact gS_732 S) (by rw [e1 698 (by decide), gS_698_4 S]; exact h4)
  have X : xT (s 732) T mX := ⟨fun i => (x9 i).trans (cMt_tap C i), x112, xr1⟩
  obtain ⟨P, Q⟩ := PR_start hT KX Km X Z xr3 xf fm ⟨x106, x107, z14, z15⟩ x104 xi ia iF0 ig x113 x114 tk
  exact ⟨mM, a1, P, Q⟩
end P958
