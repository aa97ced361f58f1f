/-! ===== reading: names, the code told so far ===== -/
def iF (P : Nat → Bool) : Nat → Nat → Nat
  | 0, i => i
  | j + 1, i => if P i = true then i else iF P j (i + 1)
theorem iF_0 {P : Nat → Bool} {i : Nat} : iF P 0 i = i := rfl
theorem iF_b {P : Nat → Bool} : ∀ j i, i ≤ iF P j i ∧ iF P j i ≤ i + j ∧ (iF P j i < i + j → P (iF P j i) = true) ∧ ∀ q, i ≤ q → q < iF P j i → P q = false := by
  intro j
  induction j with
  | zero => intro i; exact ⟨Nat.le_refl i, Nat.le_refl i, fun h => absurd h (Nat.lt_irrefl i), fun q h1 h2 => absurd h2 (Nat.not_lt.2 h1)⟩
  | succ j ih =>
    intro i
    cases h : P i with
    | true =>
      have e1 : iF P (j + 1) i = i := if_pos h
      rw [e1]
      exact ⟨Nat.le_refl i, by omega, fun _ => h, fun q h1 h2 => absurd h2 (Nat.not_lt.2 h1)⟩
    | false =>
      have e1 : iF P (j + 1) i = iF P j (i + 1) := if_neg (by rw [h]; decide)
      obtain ⟨a1, a2, a3, a4⟩ := ih (i + 1)
      rw [e1]
      refine ⟨by omega, by omega, fun q => a3 (by omega), fun q h1 h2 => ?_⟩
      by_cases e : q = i
      · rw [e]; exact h
      · exact a4 q (by omega) h2
theorem iF_c {P P' : Nat → Bool} : ∀ j i, (∀ q, i ≤ q → q < i + j → P q = P' q) → iF P j i = iF P' j i := by
  intro j
  induction j with
  | zero => intro i _; rfl
  | succ j ih =>
    intro i h
    show (if P i = true then i else iF P j (i + 1)) = if P' i = true then i else iF P' j (i + 1)
    rw [h i (Nat.le_refl i) (by omega), ih (i + 1) fun q h1 h2 => h q (by omega) (by omega)]
/-- one name, as both keep it -/
def nmE (t : Nat → Int32) (T : Nat) (x a b : Int64) : Prop := ∃ s, kTy t T s = 1 ∧ x = gC5 (kL t T s) (kLn t T s) ∧ a = gNa (kL t T s) (kLn t T s) ∧ b = gNb (kL t T s) (kLn t T s)
theorem nmE_eq {t : Nat → Int32} {T s : Nat} {x a b : Int64} (h : nmE t T x a b) (h1 : kTy t T s = 1) : x = gC5 (kL t T s) (kLn t T s) ↔ a = gNa (kL t T s) (kLn t T s) ∧ b = gNb (kL t T s) (kLn t T s) := by
  obtain ⟨s', g1, rfl, rfl, rfl⟩ := h
  obtain ⟨a1, a2, a3⟩ := kTy_1 (.inl h1)
  obtain ⟨b1, b2, b3⟩ := kTy_1 (.inl g1)
  rw [gC5_inj (kL_lt b1 b2) (kL_lt a1 a2) b3 a3, gNab_inj (kL_lt b1 b2) (kL_lt a1 a2) b3 a3]
def LB (p : Nat) (mX mM : gd_M) : Prop := gb (gI mX 10 4) 4 = !decide (gI mM p 27 = 0) ∧ gb (gI mX 10 4) 5 = !decide (gI mM p 28 = 0) ∧ gb (gI mX 10 4) 7 = !decide (gI mM p 29 = 0) ∧ gb (gI mX 10 4) 8 = !decide (gI mM p 30 = 0) ∧ gb (gI mX 10 4) 9 = !decide (gI mM p 31 = 0)
/-- what both have told -/
def PR (c d cc dd n p : Nat) (t : Nat → Int32) (T : Nat) (m0 m1 mX mM : gd_M) : Prop := TR c d cc dd n p t T m0 m1 mX mM ∧ iCd (gCd p (gI mM)) ∧ cCd d (gI mX) (gCd p (gI mM)) ∧ (∀ i < gn (gI mM p 0), nmE t T (gJ mX 13 i) (gJ mM (p + 1) i) (gJ mM (p + 2) i)) ∧ (∀ i < gn (gI mM p 2), nmE t T (gJ mX 14 i) (gJ mM (p + 3) i) (gJ mM (p + 4) i)) ∧ LB p mX mM ∧ (∀ g < 5, gI mM 733 g = 0 ↔ gI mM (p + 13) g = 0) ∧ ∀ g < 5, gI mM 734 g = 0 ↔ gI mM (p + 15) g = -1
/-- both go on, or both have the same fault -/
def JJ (c d cc dd n p : Nat) (m0 m1 : gd_M) (X M : Option (Value × gd_M)) (G : gd_M → gd_M → Prop) : Prop := ∃ z mX mM o, X = some (.int z, mX) ∧ M = some (o, mM) ∧ ((z = 1 ∧ o = .null ∧ G mX mM) ∨ (z = 0 ∧ o = .retAddr 0 ∧ FO c d cc dd n p m0 m1 mX mM))
section P94
variable {c d cc dd n p : Nat} {m : gd_M} {t : Nat → Int32} {T s e k N : Nat} {m0 m1 mX mM mX' mM' : gd_M} {G : gd_M → gd_M → Prop}
theorem JJ_f {mX mM : gd_M} (F : FO c d cc dd n p m0 m1 mX mM) : JJ c d cc dd n p m0 m1 (some (.int 0, mX)) (some (.retAddr 0, mM)) G := ⟨0, mX, mM, .retAddr 0, rfl, rfl, .inr ⟨rfl, rfl, F⟩⟩
theorem JJ_g {mX mM : gd_M} (F : G mX mM) : JJ c d cc dd n p m0 m1 (some (.int 1, mX)) (some (.null, mM)) G := ⟨1, mX, mM, .null, rfl, rfl, .inl ⟨rfl, rfl, F⟩⟩
theorem gA0 {J : gd_C} {j : Nat} : gCd p J 0 j = J p j := gCd_k (by decide)
theorem c_isName (K : gK c d n p m) (H : tkX t T s k m) : gd_call 36 [.ref 11] m = some (.int (gB (decide (kTy t T s = 1))), m) := by
  have x1 := (xzTy _ (kTy_6 (t := t) (T := T) (s := s))).1.2.1
  rw [q_Sc_isName]
  simp only [gK_N K, gK_8_0 K, gK_8_1 K, gK_8_2 K, gK_8_3 K, gK_8_4 K, gK_8_5 K, gK_8_6 K, gK_8_7 K, gK_8_8 K, gK_10_0 K, gK_10_1 K, gK_10_2 K, gK_11_0 K, gK_15_0 K, gK_15_1 K, gK_15_2 K, gK_15_3 K, gK_20_0 K, gK_20_1 K, gK_20_2 K, gK_20_3 K, gK_20_4 K, gK_20_5 K, gK_698_0 K, gK_698_3 K, gK_698_16 K, gK_698_17 K, gK_698_20 K, gK_698_21 K, gK_698_22 K, gK_698_23 K, gK_698_24 K, gK_698_25 K, gK_698_26 K, gK_698_27 K, gK_698_28 K, gK_698_29 K, gK_698_30 K, gK_698_31 K, gK_698_32 K, gK_698_33 K, gK_698_34 K, gK_698_35 K, gK_698_36 K, gK_698_37 K, gK_698_38 K, gK_698_39 K, gK_698_41 K, gK_698_42 K, gK_698_44 K, gK_c K, gK_d K, gK_n K, gK_p K, gok_8, gok_10, gok_11, gok_15, gok_20, gok_698, gok_699, goA_9, goA_12, goA_13, goA_14, goA_16, goA_17, goA_18, goA_19, goA_21, goA_22, goA_23, goA_24, goA_25, goA_26, goA_27, goA_28, goA_29, goA_30, goA_31, goA_732, goA_733, goA_734, goA_735, goA_736, goA_737, goA_738, goA_739, goA_740, goA_741, goA_742, goA_743, goA_744, goA_745, goA_746, goA_747, goA_748, goA_749, goA_750, goA_751, goA_752, goA_753, goA_754, goA_755, goA_756, goA_757, gN_wI, gR_wI, gL_wI, if_true, eq_self]
  rw [H.2.2.2.1, H.2.2.2.2.1]
  by_cases h1 : kTy t T s = 1
  · rw [if_pos (x1.2 (.inl h1)), if_neg (show ¬ kTy t T s = 2 by omega), if_pos rfl, decide_eq_true h1]; rfl
  · rw [decide_eq_false h1]
    by_cases h2 : kTy t T s = 2
    · have := kTy_w h2
      rw [if_pos (x1.2 (.inr h2)), if_pos h2, if_neg]
      · rfl
      · intro u
        have := congrArg Int32.toInt u
        rw [gn_toInt (by omega)] at this
        have e1 : ((-1 : Int32)).toInt = -1 := rfl
        omega
    · rw [if_neg (fun u => by have := x1.1 u; omega)]; rfl
theorem c_indexOf_2 (K : gK c d n p m) {arr len : Nat} (hKD : (Nat.ble 10 (gd_KD arr) && Nat.ble (gd_KD arr) 14 && decide (arr < 758)) = true) (hLN : gd_LN arr = len) (hA : ∀ i, gd_okA 758 arr 13 i = gd_in i len) (hl : len ≤ 30) (hN : N ≤ len) : ∀ j i, i + j = N → gd_Den (37, 2, [.ref 10, .ref arr, .int (Int32.ofNat N), .int (Int32.ofNat i)], [], m) = some (.int (if iF (fun q => decide (gJ m arr q = gJ m 11 8)) j i < N then Int32.ofNat (iF (fun q => decide (gJ m arr q = gJ m 11 8)) j i) else -1), m) := by
  intro j
  induction j with
  | zero =>
    intro i h
    have : i = N := by omega
    subst this
    rw [q_Re_indexOf_2, if_neg Int32.lt_irrefl, iF_0, if_neg (Nat.lt_irrefl _)]
  | succ j ih =>
    intro i h
    rw [q_Re_indexOf_2, if_pos ((gn_lt (by omega) (by omega)).2 (by omega))]
    simp only [gK_N K, gK_8_0 K, gK_8_1 K, gK_8_2 K, gK_8_3 K, gK_8_4 K, gK_8_5 K, gK_8_6 K, gK_8_7 K, gK_8_8 K, gK_10_0 K, gK_10_1 K, gK_10_2 K, gK_11_0 K, gK_15_0 K, gK_15_1 K, gK_15_2 K, gK_15_3 K, gK_20_0 K, gK_20_1 K, gK_20_2 K, gK_20_3 K, gK_20_4 K, gK_20_5 K, gK_698_0 K, gK_698_3 K, gK_698_16 K, gK_698_17 K, gK_698_20 K, gK_698_21 K, gK_698_22 K, gK_698_23 K, gK_698_24 K, gK_698_25 K, gK_698_26 K, gK_698_27 K, gK_698_28 K, gK_698_29 K, gK_698_30 K, gK_698_31 K, gK_698_32 K, gK_698_33 K, gK_698_34 K, gK_698_35 K, gK_698_36 K, gK_698_37 K, gK_698_38 K, gK_698_39 K, gK_698_41 K, gK_698_42 K, gK_698_44 K, gK_c K, gK_d K, gK_n K, gK_p K, gok_8, gok_10, gok_11, gok_15, gok_20, gok_698, gok_699, goA_9, goA_12, goA_13, goA_14, goA_16, goA_17, goA_18, goA_19, goA_21, goA_22, goA_23, goA_24, goA_25, goA_26, goA_27, goA_28, goA_29, goA_30, goA_31, goA_732, goA_733, goA_734, goA_735, goA_736, goA_737, goA_738, goA_739, goA_740, goA_741, goA_742, goA_743, goA_744, goA_745, goA_746, goA_747, goA_748, goA_749, goA_750, goA_751, goA_752, goA_753, goA_754, goA_755, goA_756, goA_757, gN_wI, gR_wI, gL_wI, if_true, eq_self, hKD, hLN, hA]
    rw [if_pos ((gn_lt (by omega) (by omega)).2 (by omega)), gn_in (by omega) (show i < len by omega), if_pos rfl, gn_nat (by omega), gn_succ]
    have eF : iF (fun q => decide (gJ m arr q = gJ m 11 8)) (j + 1) i = if decide (gJ m arr i = gJ m 11 8) = true then i else iF (fun q => decide (gJ m arr q = gJ m 11 8)) j (i + 1) := rfl
    rw [eF]
    by_cases q : gJ m arr i = gJ m 11 8
    · rw [if_pos (lg_cmp0.2 q), if_pos (decide_eq_true q), if_pos (show i < N by omega)]
    · rw [if_neg (fun u => q (lg_cmp0.1 u)), if_neg (fun u => q (of_decide_eq_true u))]
      exact ih (i + 1) (by omega)
theorem c_idx13 (K : gK c d n p m) (hN : N ≤ 30) : gd_call 37 [.ref 10, .ref 13, .int (Int32.ofNat N)] m = some (.int (if iF (fun q => decide (gJ m 13 q = gJ m 11 8)) N 0 < N then Int32.ofNat (iF (fun q => decide (gJ m 13 q = gJ m 11 8)) N 0) else -1), m) := by
  rw [q_Re_indexOf]
  exact c_indexOf_2 (len := 30) K (by decide +kernel) (by decide +kernel) (fun i => goA_13) (by decide) hN N 0 (by omega)
theorem c_idx14 (K : gK c d n p m) (hN : N ≤ 10) : gd_call 37 [.ref 10, .ref 14, .int (Int32.ofNat N)] m = some (.int (if iF (fun q => decide (gJ m 14 q = gJ m 11 8)) N 0 < N then Int32.ofNat (iF (fun q => decide (gJ m 14 q = gJ m 11 8)) N 0) else -1), m) := by
  rw [q_Re_indexOf]
  exact c_indexOf_2 (len := 10) K (by decide +kernel) (by decide +kernel) (fun i => goA_14) (by decide) hN N 0 (by omega)
theorem c_partOf_3 (K : gK c d n p m) (hN : N ≤ 30) (h0 : gI m p 0 = Int32.ofNat N) {a b : Int64} : ∀ j i, i + j = N → gd_Den (70, 3, [.ref 698, .long a, .null, .long b, .null, .int (Int32.ofNat i)], [], m) = some (.int (if iF (fun q => decide (gJ m (p + 1) q = a) && decide (gJ m (p + 2) q = b)) j i < N then Int32.ofNat (iF (fun q => decide (gJ m (p + 1) q = a) && decide (gJ m (p + 2) q = b)) j i) else -1), m) := by
  intro j
  induction j with
  | zero =>
    intro i h
    have : i = N := by omega
    subst this
    rw [q_Mo_partOf_3]
    simp only [gK_N K, gK_8_0 K, gK_8_1 K, gK_8_2 K, gK_8_3 K, gK_8_4 K, gK_8_5 K, gK_8_6 K, gK_8_7 K, gK_8_8 K, gK_10_0 K, gK_10_1 K, gK_10_2 K, gK_11_0 K, gK_15_0 K, gK_15_1 K, gK_15_2 K, gK_15_3 K, gK_20_0 K, gK_20_1 K, gK_20_2 K, gK_20_3 K, gK_20_4 K, gK_20_5 K, gK_698_0 K, gK_698_3 K, gK_698_16 K, gK_698_17 K, gK_698_20 K, gK_698_21 K, gK_698_22 K, gK_698_23 K, gK_698_24 K, gK_698_25 K, gK_698_26 K, gK_698_27 K, gK_698_28 K, gK_698_29 K, gK_698_30 K, gK_698_31 K, gK_698_32 K, gK_698_33 K, gK_698_34 K, gK_698_35 K, gK_698_36 K, gK_698_37 K, gK_698_38 K, gK_698_39 K, gK_698_41 K, gK_698_42 K, gK_698_44 K, gK_c K, gK_d K, gK_n K, gK_p K, gok_8, gok_10, gok_11, gok_15, gok_20, gok_698, gok_699, goA_9, goA_12, goA_13, goA_14, goA_16, goA_17, goA_18, goA_19, goA_21, goA_22, goA_23, goA_24, goA_25, goA_26, goA_27, goA_28, goA_29, goA_30, goA_31, goA_732, goA_733, goA_734, goA_735, goA_736, goA_737, goA_738, goA_739, goA_740, goA_741, goA_742, goA_743, goA_744, goA_745, goA_746, goA_747, goA_748, goA_749, goA_750, goA_751, goA_752, goA_753, goA_754, goA_755, goA_756, goA_757, gN_wI, gR_wI, gL_wI, if_true, eq_self, gok_c K, gok_d K, gok_n K, gok_p K, gK_c_0 K, gK_c_1 K, gK_c_2 K, gK_c_3 K, gK_c_4 K, gK_c_5 K, gK_c_6 K, gK_c_7 K, gK_c_8 K, gK_c_9 K, gK_c_10 K, gK_c_11 K, gK_n_3 K, gK_n_4 K, gK_n_5 K, gK_n_6 K, gK_n_7 K, gK_n_8 K, gK_n_9 K, gK_n_10 K, gK_n_11 K, gK_n_12 K, gK_n_13 K, gK_n_14 K, gK_n_15 K, gK_n_16 K, gK_n_17 K, goA_c1 K, goA_c2 K, goA_c3 K, goA_c4 K, goA_c5 K, goA_c6 K, goA_c7 K, goA_c8 K, goA_c9 K, goA_c10 K, goA_c11 K, goA_c12 K, goA_n1 K, goA_n2 K, goA_n3 K, goA_n4 K, goA_n5 K, goA_n6 K, goA_n7 K, goA_n8 K, goA_n9 K, goA_n10 K, goA_n11 K, goA_n12 K, goA_n13 K, goA_n14 K, goA_n15 K, gK_d_0 K, gK_d_1 K, gK_d_2 K, gK_d_3 K, gK_d_4 K, gK_d_5 K, gK_d_6 K, gK_d_7 K, gK_d_8 K, gK_d_9 K, gK_d_10 K, gK_d_11 K, gK_p_3 K, gK_p_4 K, gK_p_5 K, gK_p_6 K, gK_p_7 K, gK_p_8 K, gK_p_9 K, gK_p_10 K, gK_p_11 K, gK_p_12 K, gK_p_13 K, gK_p_14 K, gK_p_15 K, gK_p_16 K, gK_p_17 K, goA_d1 K, goA_d2 K, goA_d3 K, goA_d4 K, goA_d5 K, goA_d6 K, goA_d7 K, goA_d8 K, goA_d9 K, goA_d10 K, goA_d11 K, goA_d12 K, goA_p1 K, goA_p2 K, goA_p3 K, goA_p4 K, goA_p5 K, goA_p6 K, goA_p7 K, goA_p8 K, goA_p9 K, goA_p10 K, goA_p11 K, goA_p12 K, goA_p13 K, goA_p14 K, goA_p15 K]
    rw [h0, if_neg Int32.lt_irrefl, iF_0, if_neg (Nat.lt_irrefl _)]
  | succ j ih =>
    intro i h
    rw [q_Mo_partOf_3]
    simp only [gK_N K, gK_8_0 K, gK_8_1 K, gK_8_2 K, gK_8_3 K, gK_8_4 K, gK_8_5 K, gK_8_6 K, gK_8_7 K, gK_8_8 K, gK_10_0 K, gK_10_1 K, gK_10_2 K, gK_11_0 K, gK_15_0 K, gK_15_1 K, gK_15_2 K, gK_15_3 K, gK_20_0 K, gK_20_1 K, gK_20_2 K, gK_20_3 K, gK_20_4 K, gK_20_5 K, gK_698_0 K, gK_698_3 K, gK_698_16 K, gK_698_17 K, gK_698_20 K, gK_698_21 K, gK_698_22 K, gK_698_23 K, gK_698_24 K, gK_698_25 K, gK_698_26 K, gK_698_27 K, gK_698_28 K, gK_698_29 K, gK_698_30 K, gK_698_31 K, gK_698_32 K, gK_698_33 K, gK_698_34 K, gK_698_35 K, gK_698_36 K, gK_698_37 K, gK_698_38 K, gK_698_39 K, gK_698_41 K, gK_698_42 K, gK_698_44 K, gK_c K, gK_d K, gK_n K, gK_p K, gok_8, gok_10, gok_11, gok_15, gok_20, gok_698, gok_699, goA_9, goA_12, goA_13, goA_14, goA_16, goA_17, goA_18, goA_19, goA_21, goA_22, goA_23, goA_24, goA_25, goA_26, goA_27, goA_28, goA_29, goA_30, goA_31, goA_732, goA_733, goA_734, goA_735, goA_736, goA_737, goA_738, goA_739, goA_740, goA_741, goA_742, goA_743, goA_744, goA_745, goA_746, goA_747, goA_748, goA_749, goA_750, goA_751, goA_752, goA_753, goA_754, goA_755, goA_756, goA_757, gN_wI, gR_wI, gL_wI, if_true, eq_self, gok_c K, gok_d K, gok_n K, gok_p K, gK_c_0 K, gK_c_1 K, gK_c_2 K, gK_c_3 K, gK_c_4 K, gK_c_5 K, gK_c_6 K, gK_c_7 K, gK_c_8 K, gK_c_9 K, gK_c_10 K, gK_c_11 K, gK_n_3 K, gK_n_4 K, gK_n_5 K, gK_n_6 K, gK_n_7 K, gK_n_8 K, gK_n_9 K, gK_n_10 K, gK_n_11 K, gK_n_12 K, gK_n_13 K, gK_n_14 K, gK_n_15 K, gK_n_16 K, gK_n_17 K, goA_c1 K, goA_c2 K, goA_c3 K, goA_c4 K, goA_c5 K, goA_c6 K, goA_c7 K, goA_c8 K, goA_c9 K, goA_c10 K, goA_c11 K, goA_c12 K, goA_n1 K, goA_n2 K, goA_n3 K, goA_n4 K, goA_n5 K, goA_n6 K, goA_n7 K, goA_n8 K, goA_n9 K, goA_n10 K, goA_n11 K, goA_n12 K, goA_n13 K, goA_n14 K, goA_n15 K, gK_d_0 K, gK_d_1 K, gK_d_2 K, gK_d_3 K, gK_d_4 K, gK_d_5 K, gK_d_6 K, gK_d_7 K, gK_d_8 K, gK_d_9 K, gK_d_10 K, gK_d_11 K, gK_p_3 K, gK_p_4 K, gK_p_5 K, gK_p_6 K, gK_p_7 K, gK_p_8 K, gK_p_9 K, gK_p_10 K, gK_p_11 K, gK_p_12 K, gK_p_13 K, gK_p_14 K, gK_p_15 K, gK_p_16 K, gK_p_17 K, goA_d1 K, goA_d2 K, goA_d3 K, goA_d4 K, goA_d5 K, goA_d6 K, goA_d7 K, goA_d8 K, goA_d9 K, goA_d10 K, goA_d11 K, goA_d12 K, goA_p1 K, goA_p2 K, goA_p3 K, goA_p4 K, goA_p5 K, goA_p6 K, goA_p7 K, goA_p8 K, goA_p9 K, goA_p10 K, goA_p11 K, goA_p12 K, goA_p13 K, goA_p14 K, goA_p15 K]
    rw [h0, if_pos ((gn_lt (by omega) (by omega)).2 (by omega)), gn_in (by omega) (show i < 31 by omega), if_pos rfl, gn_nat (by omega), gn_succ]
    have eF : iF (fun q => decide (gJ m (p + 1) q = a) && decide (gJ m (p + 2) q = b)) (j + 1) i = if (decide (gJ m (p + 1) i = a) && decide (gJ m (p + 2) i = b)) = true then i else iF (fun q => decide (gJ m (p + 1) q = a) && decide (gJ m (p + 2) q = b)) j (i + 1) := rfl
    rw [eF]
    by_cases q : gJ m (p + 1) i = a
    · rw [if_pos (lg_cmp0.2 q), if_pos rfl, decide_eq_true q, Bool.true_and]
      by_cases q2 : gJ m (p + 2) i = b
      · rw [if_pos (lg_cmp0.2 q2), if_pos (decide_eq_true q2), if_pos (show i < N by omega)]
      · rw [if_neg (fun u => q2 (lg_cmp0.1 u)), if_neg (fun u => q2 (of_decide_eq_true u))]
        exact ih (i + 1) (by omega)
    · rw [if_neg (fun u => q (lg_cmp0.1 u)), decide_eq_false q, Bool.false_and, if_neg (show ¬ false = true by decide)]
      exact ih (i + 1) (by omega)
theorem c_partOf (K : gK c d n p m) (hN : N ≤ 30) (h0 : gI m p 0 = Int32.ofNat N) {a b : Int64} : gd_call 70 [.ref 698, .long a, .long b] m = some (.int (if iF (fun q => decide (gJ m (p + 1) q = a) && decide (gJ m (p + 2) q = b)) N 0 < N then Int32.ofNat (iF (fun q => decide (gJ m (p + 1) q = a) && decide (gJ m (p + 2) q = b)) N 0) else -1), m) := by
  rw [q_Mo_partOf]
  exact c_partOf_3 K hN h0 N 0 (by omega)
theorem ofNat_ne {i : Nat} (h : i < 2147483648) : ¬ Int32.ofNat i = -1 := fun u => by
  have := congrArg Int32.toInt u
  rw [gn_toInt h] at this
  have e1 : ((-1 : Int32)).toInt = -1 := rfl
  omega
/-- both find the same name among the parts -/
theorem nm_iF (hn : ∀ i < N, nmE t T (gJ mX 13 i) (gJ mM (p + 1) i) (gJ mM (p + 2) i)) (HX : tkX t T s k mX) (HM : tkM t T s k mM) (h1 : kTy t T s = 1) : iF (fun q => decide (gJ mX 13 q = gJ mX 11 8)) N 0 = iF (fun q => decide (gJ mM (p + 1) q = gJ mM 698 12) && decide (gJ mM (p + 2) q = gJ mM 698 13)) N 0 := iF_c N 0 fun q _ hq => by
  have h := nmE_eq (hn q (by omega)) h1
  have e1 := HX.2.2.2.2.2.2 (.inl h1)
  obtain ⟨e2, e3⟩ := HM.2.2.2.2.2.2 h1
  show decide (gJ mX 13 q = gJ mX 11 8) = (decide (gJ mM (p + 1) q = gJ mM 698 12) && decide (gJ mM (p + 2) q = gJ mM 698 13))
  rw [e1, e2, e3]
  by_cases g : gJ mX 13 q = gC5 (kL t T s) (kLn t T s)
  · obtain ⟨g1, g2⟩ := h.1 g
    rw [decide_eq_true g, decide_eq_true g1, decide_eq_true g2]; rfl
  · rw [decide_eq_false g]
    symm
    rw [← Bool.not_eq_true, Bool.and_eq_true]
    exact fun u => g (h.2 ⟨of_decide_eq_true u.1, of_decide_eq_true u.2⟩)
/-- the latest token as the name of a part -/
theorem J_fp (R : TR c d cc dd n p t T m0 m1 mX mM) (Q : tF t T s k mX mM) (hN : N ≤ 30) (hX : gI mX d 12 = Int32.ofNat N) (hM : gI mM p 0 = Int32.ofNat N) (hn : ∀ i < N, nmE t T (gJ mX 13 i) (gJ mM (p + 1) i) (gJ mM (p + 2) i)) : (∃ r, r < N ∧ kTy t T s = 1 ∧ gd_call 42 [.ref 10] mX = some (.int 0, wI mX 10 5 (Int32.ofNat r)) ∧ gd_call 75 [.ref 698] mM = some (.int (Int32.ofNat r), mM)) ∨ (∃ f, (f = 1 ∨ f = 2) ∧ gd_call 42 [.ref 10] mX = some (.int f, mX) ∧ gd_call 75 [.ref 698] mM = some (.retAddr 0, mF mM f)) := by
  have Kx := R.1
  have Km := R.2.1
  have tl := R.2.2.2.2.1
  obtain ⟨q1, q2, q3, q4⟩ := id Q
  have z1 := (xzTy _ (kTy_6 (t := t) (T := T) (s := s))).2.2.2.1
  rw [q_Re_faultOfPartName, q_Mo_partHere]
  simp only [gK_N Kx, gK_8_0 Kx, gK_8_1 Kx, gK_8_2 Kx, gK_8_3 Kx, gK_8_4 Kx, gK_8_5 Kx, gK_8_6 Kx, gK_8_7 Kx, gK_8_8 Kx, gK_10_0 Kx, gK_10_1 Kx, gK_10_2 Kx, gK_11_0 Kx, gK_15_0 Kx, gK_15_1 Kx, gK_15_2 Kx, gK_15_3 Kx, gK_20_0 Kx, gK_20_1 Kx, gK_20_2 Kx, gK_20_3 Kx, gK_20_4 Kx, gK_20_5 Kx, gK_698_0 Kx, gK_698_3 Kx, gK_698_16 Kx, gK_698_17 Kx, gK_698_20 Kx, gK_698_21 Kx, gK_698_22 Kx, gK_698_23 Kx, gK_698_24 Kx, gK_698_25 Kx, gK_698_26 Kx, gK_698_27 Kx, gK_698_28 Kx, gK_698_29 Kx, gK_698_30 Kx, gK_698_31 Kx, gK_698_32 Kx, gK_698_33 Kx, gK_698_34 Kx, gK_698_35 Kx, gK_698_36 Kx, gK_698_37 Kx, gK_698_38 Kx, gK_698_39 Kx, gK_698_41 Kx, gK_698_42 Kx, gK_698_44 Kx, gK_c Kx, gK_d Kx, gK_n Kx, gK_p Kx, gok_8, gok_10, gok_11, gok_15, gok_20, gok_698, gok_699, goA_9, goA_12, goA_13, goA_14, goA_16, goA_17, goA_18, goA_19, goA_21, goA_22, goA_23, goA_24, goA_25, goA_26, goA_27, goA_28, goA_29, goA_30, goA_31, goA_732, goA_733, goA_734, goA_735, goA_736, goA_737, goA_738, goA_739, goA_740, goA_741, goA_742, goA_743, goA_744, goA_745, goA_746, goA_747, goA_748, goA_749, goA_750, goA_751, goA_752, goA_753, goA_754, goA_755, goA_756, goA_757, gN_wI, gR_wI, gL_wI, if_true, eq_self]
  rw [c_isName Kx q3]
  simp only [gK_N Kx, gK_8_0 Kx, gK_8_1 Kx, gK_8_2 Kx, gK_8_3 Kx, gK_8_4 Kx, gK_8_5 Kx, gK_8_6 Kx, gK_8_7 Kx, gK_8_8 Kx, gK_10_0 Kx, gK_10_1 Kx, gK_10_2 Kx, gK_11_0 Kx, gK_15_0 Kx, gK_15_1 Kx, gK_15_2 Kx, gK_15_3 Kx, gK_20_0 Kx, gK_20_1 Kx, gK_20_2 Kx, gK_20_3 Kx, gK_20_4 Kx, gK_20_5 Kx, gK_698_0 Kx, gK_698_3 Kx, gK_698_16 Kx, gK_698_17 Kx, gK_698_20 Kx, gK_698_21 Kx, gK_698_22 Kx, gK_698_23 Kx, gK_698_24 Kx, gK_698_25 Kx, gK_698_26 Kx, gK_698_27 Kx, gK_698_28 Kx, gK_698_29 Kx, gK_698_30 Kx, gK_698_31 Kx, gK_698_32 Kx, gK_698_33 Kx, gK_698_34 Kx, gK_698_35 Kx, gK_698_36 Kx, gK_698_37 Kx, gK_698_38 Kx, gK_698_39 Kx, gK_698_41 Kx, gK_698_42 Kx, gK_698_44 Kx, gK_c Kx, gK_d Kx, gK_n Kx, gK_p Kx, gok_8, gok_10, gok_11, gok_15, gok_20, gok_698, gok_699, goA_9, goA_12, goA_13, goA_14, goA_16, goA_17, goA_18, goA_19, goA_21, goA_22, goA_23, goA_24, goA_25, goA_26, goA_27, goA_28, goA_29, goA_30, goA_31, goA_732, goA_733, goA_734, goA_735, goA_736, goA_737, goA_738, goA_739, goA_740, goA_741, goA_742, goA_743, goA_744, goA_745, goA_746, goA_747, goA_748, goA_749, goA_750, goA_751, goA_752, goA_753, goA_754, goA_755, goA_756, goA_757, gN_wI, gR_wI, gL_wI, if_true, eq_self, gok_c Kx, gok_d Kx, gok_n Kx, gok_p Kx, gK_c_0 Kx, gK_c_1 Kx, gK_c_2 Kx, gK_c_3 Kx, gK_c_4 Kx, gK_c_5 Kx, gK_c_6 Kx, gK_c_7 Kx, gK_c_8 Kx, gK_c_9 Kx, gK_c_10 Kx, gK_c_11 Kx, gK_n_3 Kx, gK_n_4 Kx, gK_n_5 Kx, gK_n_6 Kx, gK_n_7 Kx, gK_n_8 Kx, gK_n_9 Kx, gK_n_10 Kx, gK_n_11 Kx, gK_n_12 Kx, gK_n_13 Kx, gK_n_14 Kx, gK_n_15 Kx, gK_n_16 Kx, gK_n_17 Kx, goA_c1 Kx, goA_c2 Kx, goA_c3 Kx, goA_c4 Kx, goA_c5 Kx, goA_c6 Kx, goA_c7 Kx, goA_c8 Kx, goA_c9 Kx, goA_c10 Kx, goA_c11 Kx, goA_c12 Kx, goA_n1 Kx, goA_n2 Kx, goA_n3 Kx, goA_n4 Kx, goA_n5 Kx, goA_n6 Kx, goA_n7 Kx, goA_n8 Kx, goA_n9 Kx, goA_n10 Kx, goA_n11 Kx, goA_n12 Kx, goA_n13 Kx, goA_n14 Kx, goA_n15 Kx, gK_d_0 Kx, gK_d_1 Kx, gK_d_2 Kx, gK_d_3 Kx, gK_d_4 Kx, gK_d_5 Kx, gK_d_6 Kx, gK_d_7 Kx, gK_d_8 Kx, gK_d_9 Kx, gK_d_10 Kx, gK_d_11 Kx, gK_p_3 Kx, gK_p_4 Kx, gK_p_5 Kx, gK_p_6 Kx, gK_p_7 Kx, gK_p_8 Kx, gK_p_9 Kx, gK_p_10 Kx, gK_p_11 Kx, gK_p_12 Kx, gK_p_13 Kx, gK_p_14 Kx, gK_p_15 Kx, gK_p_16 Kx, gK_p_17 Kx, goA_d1 Kx, goA_d2 Kx, goA_d3 Kx, goA_d4 Kx, goA_d5 Kx, goA_d6 Kx, goA_d7 Kx, goA_d8 Kx, goA_d9 Kx, goA_d10 Kx, goA_d11 Kx, goA_d12 Kx, goA_p1 Kx, goA_p2 Kx, goA_p3 Kx, goA_p4 Kx, goA_p5 Kx, goA_p6 Kx, goA_p7 Kx, goA_p8 Kx, goA_p9 Kx, goA_p10 Kx, goA_p11 Kx, goA_p12 Kx, goA_p13 Kx, goA_p14 Kx, goA_p15 Kx, tl, Option.bind_some, gd_kI_i, gB_0]
  simp only [gK_N Km, gK_8_0 Km, gK_8_1 Km, gK_8_2 Km, gK_8_3 Km, gK_8_4 Km, gK_8_5 Km, gK_8_6 Km, gK_8_7 Km, gK_8_8 Km, gK_10_0 Km, gK_10_1 Km, gK_10_2 Km, gK_11_0 Km, gK_15_0 Km, gK_15_1 Km, gK_15_2 Km, gK_15_3 Km, gK_20_0 Km, gK_20_1 Km, gK_20_2 Km, gK_20_3 Km, gK_20_4 Km, gK_20_5 Km, gK_698_0 Km, gK_698_3 Km, gK_698_16 Km, gK_698_17 Km, gK_698_20 Km, gK_698_21 Km, gK_698_22 Km, gK_698_23 Km, gK_698_24 Km, gK_698_25 Km, gK_698_26 Km, gK_698_27 Km, gK_698_28 Km, gK_698_29 Km, gK_698_30 Km, gK_698_31 Km, gK_698_32 Km, gK_698_33 Km, gK_698_34 Km, gK_698_35 Km, gK_698_36 Km, gK_698_37 Km, gK_698_38 Km, gK_698_39 Km, gK_698_41 Km, gK_698_42 Km, gK_698_44 Km, gK_c Km, gK_d Km, gK_n Km, gK_p Km, gok_8, gok_10, gok_11, gok_15, gok_20, gok_698, gok_699, goA_9, goA_12, goA_13, goA_14, goA_16, goA_17, goA_18, goA_19, goA_21, goA_22, goA_23, goA_24, goA_25, goA_26, goA_27, goA_28, goA_29, goA_30, goA_31, goA_732, goA_733, goA_734, goA_735, goA_736, goA_737, goA_738, goA_739, goA_740, goA_741, goA_742, goA_743, goA_744, goA_745, goA_746, goA_747, goA_748, goA_749, goA_750, goA_751, goA_752, goA_753, goA_754, goA_755, goA_756, goA_757, gN_wI, gR_wI, gL_wI, if_true, eq_self]
  rw [q4.2.2.2.1]
  by_cases h1 : kTy t T s = 1
  · rw [decide_eq_true h1, if_neg (show ¬ true = false by decide), if_pos (z1.2 h1), c_nd1, hX, c_idx13 Kx hN]
    simp only [gK_N Kx, gK_8_0 Kx, gK_8_1 Kx, gK_8_2 Kx, gK_8_3 Kx, gK_8_4 Kx, gK_8_5 Kx, gK_8_6 Kx, gK_8_7 Kx, gK_8_8 Kx, gK_10_0 Kx, gK_10_1 Kx, gK_10_2 Kx, gK_11_0 Kx, gK_15_0 Kx, gK_15_1 Kx, gK_15_2 Kx, gK_15_3 Kx, gK_20_0 Kx, gK_20_1 Kx, gK_20_2 Kx, gK_20_3 Kx, gK_20_4 Kx, gK_20_5 Kx, gK_698_0 Kx, gK_698_3 Kx, gK_698_16 Kx, gK_698_17 Kx, gK_698_20 Kx, gK_698_21 Kx, gK_698_22 Kx, gK_698_23 Kx, gK_698_24 Kx, gK_698_25 Kx, gK_698_26 Kx, gK_698_27 Kx, gK_698_28 Kx, gK_698_29 Kx, gK_698_30 Kx, gK_698_31 Kx, gK_698_32 Kx, gK_698_33 Kx, gK_698_34 Kx, gK_698_35 Kx, gK_698_36 Kx, gK_698_37 Kx, gK_698_38 Kx, gK_698_39 Kx, gK_698_41 Kx, gK_698_42 Kx, gK_698_44 Kx, gK_c Kx, gK_d Kx, gK_n Kx, gK_p Kx, gok_8, gok_10, gok_11, gok_15, gok_20, gok_698, gok_699, goA_9, goA_12, goA_13, goA_14, goA_16, goA_17, goA_18, goA_19, goA_21, goA_22, goA_23, goA_24, goA_25, goA_26, goA_27, goA_28, goA_29, goA_30, goA_31, goA_732, goA_733, goA_734, goA_735, goA_736, goA_737, goA_738, goA_739, goA_740, goA_741, goA_742, goA_743, goA_744, goA_745, goA_746, goA_747, goA_748, goA_749, goA_750, goA_751, goA_752, goA_753, goA_754, goA_755, goA_756, goA_757, gN_wI, gR_wI, gL_wI, if_true, eq_self, Option.bind_some, gd_kI_i, gd_kV_v]
    simp only [gK_N Km, gK_8_0 Km, gK_8_1 Km, gK_8_2 Km, gK_8_3 Km, gK_8_4 Km, gK_8_5 Km, gK_8_6 Km, gK_8_7 Km, gK_8_8 Km, gK_10_0 Km, gK_10_1 Km, gK_10_2 Km, gK_11_0 Km, gK_15_0 Km, gK_15_1 Km, gK_15_2 Km, gK_15_3 Km, gK_20_0 Km, gK_20_1 Km, gK_20_2 Km, gK_20_3 Km, gK_20_4 Km, gK_20_5 Km, gK_698_0 Km, gK_698_3 Km, gK_698_16 Km, gK_698_17 Km, gK_698_20 Km, gK_698_21 Km, gK_698_22 Km, gK_698_23 Km, gK_698_24 Km, gK_698_25 Km, gK_698_26 Km, gK_698_27 Km, gK_698_28 Km, gK_698_29 Km, gK_698_30 Km, gK_698_31 Km, gK_698_32 Km, gK_698_33 Km, gK_698_34 Km, gK_698_35 Km, gK_698_36 Km, gK_698_37 Km, gK_698_38 Km, gK_698_39 Km, gK_698_41 Km, gK_698_42 Km, gK_698_44 Km, gK_c Km, gK_d Km, gK_n Km, gK_p Km, gok_8, gok_10, gok_11, gok_15, gok_20, gok_698, gok_699, goA_9, goA_12, goA_13, goA_14, goA_16, goA_17, goA_18, goA_19, goA_21, goA_22, goA_23, goA_24, goA_25, goA_26, goA_27, goA_28, goA_29, goA_30, goA_31, goA_732, goA_733, goA_734, goA_735, goA_736, goA_737, goA_738, goA_739, goA_740, goA_741, goA_742, goA_743, goA_744, goA_745, goA_746, goA_747, goA_748, goA_749, goA_750, goA_751, goA_752, goA_753, goA_754, goA_755, goA_756, goA_757, gN_wI, gR_wI, gL_wI, if_true, eq_self]
    rw [c_partOf Km hN hM, ← nm_iF hn q3 q4 h1]
    simp only [gK_N Km, gK_8_0 Km, gK_8_1 Km, gK_8_2 Km, gK_8_3 Km, gK_8_4 Km, gK_8_5 Km, gK_8_6 Km, gK_8_7 Km, gK_8_8 Km, gK_10_0 Km, gK_10_1 Km, gK_10_2 Km, gK_11_0 Km, gK_15_0 Km, gK_15_1 Km, gK_15_2 Km, gK_15_3 Km, gK_20_0 Km, gK_20_1 Km, gK_20_2 Km, gK_20_3 Km, gK_20_4 Km, gK_20_5 Km, gK_698_0 Km, gK_698_3 Km, gK_698_16 Km, gK_698_17 Km, gK_698_20 Km, gK_698_21 Km, gK_698_22 Km, gK_698_23 Km, gK_698_24 Km, gK_698_25 Km, gK_698_26 Km, gK_698_27 Km, gK_698_28 Km, gK_698_29 Km, gK_698_30 Km, gK_698_31 Km, gK_698_32 Km, gK_698_33 Km, gK_698_34 Km, gK_698_35 Km, gK_698_36 Km, gK_698_37 Km, gK_698_38 Km, gK_698_39 Km, gK_698_41 Km, gK_698_42 Km, gK_698_44 Km, gK_c Km, gK_d Km, gK_n Km, gK_p Km, gok_8, gok_10, gok_11, gok_15, gok_20, gok_698, gok_699, goA_9, goA_12, goA_13, goA_14, goA_16, goA_17, goA_18, goA_19, goA_21, goA_22, goA_23, goA_24, goA_25, goA_26, goA_27, goA_28, goA_29, goA_30, goA_31, goA_732, goA_733, goA_734, goA_735, goA_736, goA_737, goA_738, goA_739, goA_740, goA_741, goA_742, goA_743, goA_744, goA_745, goA_746, goA_747, goA_748, goA_749, goA_750, goA_751, goA_752, goA_753, goA_754, goA_755, goA_756, goA_757, gN_wI, gR_wI, gL_wI, if_true, eq_self, Option.bind_some, gd_kI_i]
    generalize iF (fun q => decide (gJ mX 13 q = gJ mX 11 8)) N 0 = r
    by_cases hr : r < N
    · left
      refine ⟨r, hr, h1, ?_, ?_⟩
      · rw [if_pos hr, if_neg (ofNat_ne (by omega))]
      · rw [if_pos hr, if_neg (ofNat_ne (by omega)), c_nd1]; rfl
    · right
      refine ⟨2, .inr rfl, ?_, ?_⟩
      · rw [if_neg hr, if_pos rfl]
      · rw [if_neg hr, if_pos rfl, c_nd0 Km]; rfl
  · right
    refine ⟨1, .inl rfl, ?_, ?_⟩
    · rw [decide_eq_false h1, if_pos rfl]
    · rw [if_neg (fun u => h1 (z1.1 u)), c_nd0 Km]; rfl
/-- nameOfPart: fetched, judged; the reference's partHere alone -/
theorem J_name (hB : ∀ i, isB (t i)) (hT : T ≤ 3000) (R : TR c d cc dd n p t T m0 m1 mX mM) (Q : tP t T e k mX mM) (hN : N ≤ 30) (hX : gI mX d 12 = Int32.ofNat N) (hM : gI mM p 0 = Int32.ofNat N) (hn : ∀ i < N, nmE t T (gJ mX 13 i) (gJ mM (p + 1) i) (gJ mM (p + 2) i)) : (∃ r mX1, r < N ∧ kTy t T (kSt t T e) = 1 ∧ oS mX mX1 ∧ tF t T (kSt t T e) k mX1 mM ∧ gd_call 43 [.ref 10] mX = (gd_call 35 [.ref 10, .int 0] (wI mX1 10 5 (Int32.ofNat r))).bind (gd_kI fun z12 m10 => if gd_bo z12 = true then some (.int z12, m10) else none) ∧ gd_call 75 [.ref 698] mM = some (.int (Int32.ofNat r), mM)) ∨ (∃ mX' mM', gd_call 43 [.ref 10] mX = some (.int 0, mX') ∧ gd_call 75 [.ref 698] mM = some (.retAddr 0, mM') ∧ FO c d cc dd n p m0 m1 mX' mM') := by
  obtain ⟨mX1, a1, a2, a3⟩ := fetch hB hT R Q
  have R1 := TR_S R a2
  have Kx := R1.1
  have hc := gK_d1 Kx
  have hd : gI mX1 d 12 = Int32.ofNat N := by rw [a2.2.1 d (by omega)]; exact hX
  have h13 : ∀ i < N, nmE t T (gJ mX1 13 i) (gJ mM (p + 1) i) (gJ mM (p + 2) i) := fun i hi => by rw [a2.2.2.1 13 (by decide)]; exact hn i hi
  have e43 : ∀ f mX2, gd_call 42 [.ref 10] mX1 = some (.int f, mX2) → gK c d n p mX2 → gd_call 43 [.ref 10] mX = (gd_call 35 [.ref 10, .int f] mX2).bind (gd_kI fun z12 m10 => if gd_bo z12 = true then some (.int z12, m10) else none) := fun f mX2 h1 h2 => by
    rw [q_Re_nameOfPart]
    simp only [gK_N R.1, gK_8_0 R.1, gK_8_1 R.1, gK_8_2 R.1, gK_8_3 R.1, gK_8_4 R.1, gK_8_5 R.1, gK_8_6 R.1, gK_8_7 R.1, gK_8_8 R.1, gK_10_0 R.1, gK_10_1 R.1, gK_10_2 R.1, gK_11_0 R.1, gK_15_0 R.1, gK_15_1 R.1, gK_15_2 R.1, gK_15_3 R.1, gK_20_0 R.1, gK_20_1 R.1, gK_20_2 R.1, gK_20_3 R.1, gK_20_4 R.1, gK_20_5 R.1, gK_698_0 R.1, gK_698_3 R.1, gK_698_16 R.1, gK_698_17 R.1, gK_698_20 R.1, gK_698_21 R.1, gK_698_22 R.1, gK_698_23 R.1, gK_698_24 R.1, gK_698_25 R.1, gK_698_26 R.1, gK_698_27 R.1, gK_698_28 R.1, gK_698_29 R.1, gK_698_30 R.1, gK_698_31 R.1, gK_698_32 R.1, gK_698_33 R.1, gK_698_34 R.1, gK_698_35 R.1, gK_698_36 R.1, gK_698_37 R.1, gK_698_38 R.1, gK_698_39 R.1, gK_698_41 R.1, gK_698_42 R.1, gK_698_44 R.1, gK_c R.1, gK_d R.1, gK_n R.1, gK_p R.1, gok_8, gok_10, gok_11, gok_15, gok_20, gok_698, gok_699, goA_9, goA_12, goA_13, goA_14, goA_16, goA_17, goA_18, goA_19, goA_21, goA_22, goA_23, goA_24, goA_25, goA_26, goA_27, goA_28, goA_29, goA_30, goA_31, goA_732, goA_733, goA_734, goA_735, goA_736, goA_737, goA_738, goA_739, goA_740, goA_741, goA_742, goA_743, goA_744, goA_745, goA_746, goA_747, goA_748, goA_749, goA_750, goA_751, goA_752, goA_753, goA_754, goA_755, goA_756, goA_757, gN_wI, gR_wI, gL_wI, if_true, eq_self]
    rw [a1]
    simp only [gK_N Kx, gK_8_0 Kx, gK_8_1 Kx, gK_8_2 Kx, gK_8_3 Kx, gK_8_4 Kx, gK_8_5 Kx, gK_8_6 Kx, gK_8_7 Kx, gK_8_8 Kx, gK_10_0 Kx, gK_10_1 Kx, gK_10_2 Kx, gK_11_0 Kx, gK_15_0 Kx, gK_15_1 Kx, gK_15_2 Kx, gK_15_3 Kx, gK_20_0 Kx, gK_20_1 Kx, gK_20_2 Kx, gK_20_3 Kx, gK_20_4 Kx, gK_20_5 Kx, gK_698_0 Kx, gK_698_3 Kx, gK_698_16 Kx, gK_698_17 Kx, gK_698_20 Kx, gK_698_21 Kx, gK_698_22 Kx, gK_698_23 Kx, gK_698_24 Kx, gK_698_25 Kx, gK_698_26 Kx, gK_698_27 Kx, gK_698_28 Kx, gK_698_29 Kx, gK_698_30 Kx, gK_698_31 Kx, gK_698_32 Kx, gK_698_33 Kx, gK_698_34 Kx, gK_698_35 Kx, gK_698_36 Kx, gK_698_37 Kx, gK_698_38 Kx, gK_698_39 Kx, gK_698_41 Kx, gK_698_42 Kx, gK_698_44 Kx, gK_c Kx, gK_d Kx, gK_n Kx, gK_p Kx, gok_8, gok_10, gok_11, gok_15, gok_20, gok_698, gok_699, goA_9, goA_12, goA_13, goA_14, goA_16, goA_17, goA_18, goA_19, goA_21, goA_22, goA_23, goA_24, goA_25, goA_26, goA_27, goA_28, goA_29, goA_30, goA_31, goA_732, goA_733, goA_734, goA_735, goA_736, goA_737, goA_738, goA_739, goA_740, goA_741, goA_742, goA_743, goA_744, goA_745, goA_746, goA_747, goA_748, goA_749, goA_750, goA_751, goA_752, goA_753, goA_754, goA_755, goA_756, goA_757, gN_wI, gR_wI, gL_wI, if_true, eq_self, Option.bind_some, gd_kV_v]
    rw [h1]
    simp only [gK_N h2, gK_8_0 h2, gK_8_1 h2, gK_8_2 h2, gK_8_3 h2, gK_8_4 h2, gK_8_5 h2, gK_8_6 h2, gK_8_7 h2, gK_8_8 h2, gK_10_0 h2, gK_10_1 h2, gK_10_2 h2, gK_11_0 h2, gK_15_0 h2, gK_15_1 h2, gK_15_2 h2, gK_15_3 h2, gK_20_0 h2, gK_20_1 h2, gK_20_2 h2, gK_20_3 h2, gK_20_4 h2, gK_20_5 h2, gK_698_0 h2, gK_698_3 h2, gK_698_16 h2, gK_698_17 h2, gK_698_20 h2, gK_698_21 h2, gK_698_22 h2, gK_698_23 h2, gK_698_24 h2, gK_698_25 h2, gK_698_26 h2, gK_698_27 h2, gK_698_28 h2, gK_698_29 h2, gK_698_30 h2, gK_698_31 h2, gK_698_32 h2, gK_698_33 h2, gK_698_34 h2, gK_698_35 h2, gK_698_36 h2, gK_698_37 h2, gK_698_38 h2, gK_698_39 h2, gK_698_41 h2, gK_698_42 h2, gK_698_44 h2, gK_c h2, gK_d h2, gK_n h2, gK_p h2, gok_8, gok_10, gok_11, gok_15, gok_20, gok_698, gok_699, goA_9, goA_12, goA_13, goA_14, goA_16, goA_17, goA_18, goA_19, goA_21, goA_22, goA_23, goA_24, goA_25, goA_26, goA_27, goA_28, goA_29, goA_30, goA_31, goA_732, goA_733, goA_734, goA_735, goA_736, goA_737, goA_738, goA_739, goA_740, goA_741, goA_742, goA_743, goA_744, goA_745, goA_746, goA_747, goA_748, goA_749, goA_750, goA_751, goA_752, goA_753, goA_754, goA_755, goA_756, goA_757, gN_wI, gR_wI, gL_wI, if_true, eq_self, Option.bind_some, gd_kI_i]
  rcases J_fp R1 a3 hN hd hM h13 with ⟨r, hr, h1, b1, b2⟩ | ⟨f, hf, b1, b2⟩
  · exact .inl ⟨r, mX1, hr, h1, a2, a3, e43 0 _ b1 (gK_w Kx), b2⟩
  · refine .inr ⟨xF mX1 f, mF mM f, ?_, b2, FO_mk R1 a3 f⟩
    rw [e43 f mX1 b1 Kx, c_st_f Kx (by rcases hf with h | h <;> simp [h])]
    rfl
end P94
