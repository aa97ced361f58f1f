/-! ===== list, place, finalist ===== -/
/-- how many of the first k have another score than the i-th -/
noncomputable def lAh (n : Nat) (s : gd_C) (a : Nat) (L : Nat → Nat) (i : Nat) : Nat → Nat
  | 0 => 0
  | k + 1 => lAh n s a L i k + if kS n s a (L k) = kS n s a (L i) then 0 else 1
def lHs (F : Nat → Nat) (g : Nat) : Nat → Bool
  | 0 => false
  | k + 1 => lHs F g k || decide (F k = g)
theorem lHs_t {F : Nat → Nat} {g k : Nat} (h : lHs F g k = true) : ∀ j, lHs F g (k + j) = true := by
  intro j
  induction j with
  | zero => exact h
  | succ j ih => show (lHs F g (k + j) || decide (F (k + j) = g)) = true; rw [ih]; rfl
theorem lAh_le {n : Nat} {s : gd_C} {a : Nat} {L : Nat → Nat} {i : Nat} : ∀ k, lAh n s a L i k ≤ k := by
  intro k
  induction k with
  | zero => exact Nat.le_refl 0
  | succ k ih =>
    show lAh n s a L i k + (if kS n s a (L k) = kS n s a (L i) then 0 else 1) ≤ k + 1
    by_cases h : kS n s a (L k) = kS n s a (L i)
    · rw [if_pos h]; omega
    · rw [if_neg h]; omega
section P88
variable {c d n p : Nat} {m : gd_M} {s : gd_C} {a len i g : Nat} {L F : Nat → Nat}
theorem c_aheadOf_4 (K : gK c d n p m) (B : cLs n s a len L m) (hlen : len ≤ 40) (hL : ∀ j < len, L j < 40) (hi : i < len) : ∀ j k, k + j = i → gd_Den (169, 4, [.ref 20, .int (Int32.ofNat i), .int (Int32.ofNat (lAh n s a L i k)), .int (Int32.ofNat k)], [], m) = some (.int (Int32.ofNat (lAh n s a L i i)), m) := by
  intro j
  induction j with
  | zero =>
    intro k h
    have : k = i := by omega
    subst this
    rw [q_Ra_aheadOf_4, if_neg Int32.lt_irrefl]
  | succ j ih =>
    intro k h
    have hI := ih (k + 1) (by omega)
    have e1 : lAh n s a L i (k + 1) = lAh n s a L i k + if kS n s a (L k) = kS n s a (L i) then 0 else 1 := rfl
    rw [e1] at hI
    obtain ⟨f1, f2, -, -⟩ := B.2 k (by omega)
    obtain ⟨g1, g2, -, -⟩ := B.2 i hi
    have h1 := hL k (by omega)
    have h2 := hL i hi
    rw [q_Ra_aheadOf_4, if_pos ((gn_lt (by omega) (by omega)).2 (by omega))]
    simp only [gK_N K, gK_8_0 K, gK_8_1 K, gK_8_2 K, gK_8_3 K, gK_8_4 K, gK_8_5 K, gK_8_6 K, gK_8_7 K, gK_8_8 K, gK_10_0 K, gK_10_1 K, gK_10_2 K, gK_11_0 K, gK_15_0 K, gK_15_1 K, gK_15_2 K, gK_15_3 K, gK_20_0 K, gK_20_1 K, gK_20_2 K, gK_20_3 K, gK_20_4 K, gK_20_5 K, gK_698_0 K, gK_698_3 K, gK_698_16 K, gK_698_17 K, gK_698_20 K, gK_698_21 K, gK_698_22 K, gK_698_23 K, gK_698_24 K, gK_698_25 K, gK_698_26 K, gK_698_27 K, gK_698_28 K, gK_698_29 K, gK_698_30 K, gK_698_31 K, gK_698_32 K, gK_698_33 K, gK_698_34 K, gK_698_35 K, gK_698_36 K, gK_698_37 K, gK_698_38 K, gK_698_39 K, gK_698_41 K, gK_698_42 K, gK_698_44 K, gK_c K, gK_d K, gK_n K, gK_p K, gok_8, gok_10, gok_11, gok_15, gok_20, gok_698, gok_699, goA_9, goA_12, goA_13, goA_14, goA_16, goA_17, goA_18, goA_19, goA_21, goA_22, goA_23, goA_24, goA_25, goA_26, goA_27, goA_28, goA_29, goA_30, goA_31, goA_732, goA_733, goA_734, goA_735, goA_736, goA_737, goA_738, goA_739, goA_740, goA_741, goA_742, goA_743, goA_744, goA_745, goA_746, goA_747, goA_748, goA_749, goA_750, goA_751, goA_752, goA_753, goA_754, goA_755, goA_756, goA_757, gN_wI, gR_wI, gL_wI, if_true, eq_self, gn_in (show k < 2147483648 by omega) (show k < 40 by omega), gn_nat (show k < 2147483648 by omega), f1, gn_in (show L k < 2147483648 by omega) h1, gn_nat (show L k < 2147483648 by omega), f2, gn_in (show i < 2147483648 by omega) (show i < 40 by omega), gn_nat (show i < 2147483648 by omega), g1, gn_in (show L i < 2147483648 by omega) h2, gn_nat (show L i < 2147483648 by omega), g2, gn_succ]
    by_cases q : kS n s a (L k) = kS n s a (L i)
    · rw [if_pos q]; rw [if_pos q] at hI; exact hI
    · rw [if_neg q]; rw [if_neg q] at hI; exact hI
theorem c_place_85 (K : gK c d n p m) (B : mLs n s a len L m) (hlen : len ≤ 40) (hi : i < len) {x1 x3 : Int32} : ∀ j k, k + j = i → gd_Den (175, 85, [.ref 698, .int x1, .int (Int32.ofNat i), .int x3, .int (Int32.ofNat (1 + lAh n s a L i k)), .int (Int32.ofNat k)], [], m) = some (.int (Int32.ofNat (1 + lAh n s a L i i)), m) := by
  intro j
  induction j with
  | zero =>
    intro k h
    have : k = i := by omega
    subst this
    rw [q_Mo_place_85, if_neg Int32.lt_irrefl]
  | succ j ih =>
    intro k h
    have hI := ih (k + 1) (by omega)
    have e1 : lAh n s a L i (k + 1) = lAh n s a L i k + if kS n s a (L k) = kS n s a (L i) then 0 else 1 := rfl
    rw [e1] at hI
    obtain ⟨f1, f2, -, -⟩ := B.2 k (by omega)
    obtain ⟨g1, g2, -, -⟩ := B.2 i hi
    rw [q_Mo_place_85, if_pos ((gn_lt (by omega) (by omega)).2 (by omega))]
    simp only [gK_N K, gK_8_0 K, gK_8_1 K, gK_8_2 K, gK_8_3 K, gK_8_4 K, gK_8_5 K, gK_8_6 K, gK_8_7 K, gK_8_8 K, gK_10_0 K, gK_10_1 K, gK_10_2 K, gK_11_0 K, gK_15_0 K, gK_15_1 K, gK_15_2 K, gK_15_3 K, gK_20_0 K, gK_20_1 K, gK_20_2 K, gK_20_3 K, gK_20_4 K, gK_20_5 K, gK_698_0 K, gK_698_3 K, gK_698_16 K, gK_698_17 K, gK_698_20 K, gK_698_21 K, gK_698_22 K, gK_698_23 K, gK_698_24 K, gK_698_25 K, gK_698_26 K, gK_698_27 K, gK_698_28 K, gK_698_29 K, gK_698_30 K, gK_698_31 K, gK_698_32 K, gK_698_33 K, gK_698_34 K, gK_698_35 K, gK_698_36 K, gK_698_37 K, gK_698_38 K, gK_698_39 K, gK_698_41 K, gK_698_42 K, gK_698_44 K, gK_c K, gK_d K, gK_n K, gK_p K, gok_8, gok_10, gok_11, gok_15, gok_20, gok_698, gok_699, goA_9, goA_12, goA_13, goA_14, goA_16, goA_17, goA_18, goA_19, goA_21, goA_22, goA_23, goA_24, goA_25, goA_26, goA_27, goA_28, goA_29, goA_30, goA_31, goA_732, goA_733, goA_734, goA_735, goA_736, goA_737, goA_738, goA_739, goA_740, goA_741, goA_742, goA_743, goA_744, goA_745, goA_746, goA_747, goA_748, goA_749, goA_750, goA_751, goA_752, goA_753, goA_754, goA_755, goA_756, goA_757, gN_wI, gR_wI, gL_wI, if_true, eq_self, gn_in (show k < 2147483648 by omega) (show k < 40 by omega), gn_nat (show k < 2147483648 by omega), f2, gn_in (show i < 2147483648 by omega) (show i < 40 by omega), gn_nat (show i < 2147483648 by omega), g2, gn_succ, Int32.add_zero]
    by_cases q : kS n s a (L k) = kS n s a (L i)
    · rw [if_pos q]; rw [if_pos q] at hI; exact hI
    · rw [if_neg q]; rw [if_neg q, ← Nat.add_assoc] at hI; exact hI
theorem c_isFin_2 {nf : Nat} (K : gK c d n p m) (h7 : gI m 20 7 = Int32.ofNat nf) (hnf : nf ≤ 10) (hF : ∀ j < nf, gI m 25 j = Int32.ofNat (F j) ∧ F j < 40) (hg : g < 40) : ∀ j k, k + j = nf → lHs F g k = false → gd_Den (172, 2, [.ref 20, .int (Int32.ofNat g), .int (Int32.ofNat k)], [], m) = some (.int (gB (lHs F g nf)), m) := by
  intro j
  induction j with
  | zero =>
    intro k h q
    have : k = nf := by omega
    subst this
    rw [q_Ra_isFinalist_2]
    simp only [gK_N K, gK_8_0 K, gK_8_1 K, gK_8_2 K, gK_8_3 K, gK_8_4 K, gK_8_5 K, gK_8_6 K, gK_8_7 K, gK_8_8 K, gK_10_0 K, gK_10_1 K, gK_10_2 K, gK_11_0 K, gK_15_0 K, gK_15_1 K, gK_15_2 K, gK_15_3 K, gK_20_0 K, gK_20_1 K, gK_20_2 K, gK_20_3 K, gK_20_4 K, gK_20_5 K, gK_698_0 K, gK_698_3 K, gK_698_16 K, gK_698_17 K, gK_698_20 K, gK_698_21 K, gK_698_22 K, gK_698_23 K, gK_698_24 K, gK_698_25 K, gK_698_26 K, gK_698_27 K, gK_698_28 K, gK_698_29 K, gK_698_30 K, gK_698_31 K, gK_698_32 K, gK_698_33 K, gK_698_34 K, gK_698_35 K, gK_698_36 K, gK_698_37 K, gK_698_38 K, gK_698_39 K, gK_698_41 K, gK_698_42 K, gK_698_44 K, gK_c K, gK_d K, gK_n K, gK_p K, gok_8, gok_10, gok_11, gok_15, gok_20, gok_698, gok_699, goA_9, goA_12, goA_13, goA_14, goA_16, goA_17, goA_18, goA_19, goA_21, goA_22, goA_23, goA_24, goA_25, goA_26, goA_27, goA_28, goA_29, goA_30, goA_31, goA_732, goA_733, goA_734, goA_735, goA_736, goA_737, goA_738, goA_739, goA_740, goA_741, goA_742, goA_743, goA_744, goA_745, goA_746, goA_747, goA_748, goA_749, goA_750, goA_751, goA_752, goA_753, goA_754, goA_755, goA_756, goA_757, gN_wI, gR_wI, gL_wI, if_true, eq_self]
    rw [h7, if_neg Int32.lt_irrefl, q]; rfl
  | succ j ih =>
    intro k h q
    obtain ⟨f1, f2⟩ := hF k (by omega)
    have e1 : lHs F g (k + 1) = (lHs F g k || decide (F k = g)) := rfl
    rw [q, Bool.false_or] at e1
    rw [q_Ra_isFinalist_2]
    simp only [gK_N K, gK_8_0 K, gK_8_1 K, gK_8_2 K, gK_8_3 K, gK_8_4 K, gK_8_5 K, gK_8_6 K, gK_8_7 K, gK_8_8 K, gK_10_0 K, gK_10_1 K, gK_10_2 K, gK_11_0 K, gK_15_0 K, gK_15_1 K, gK_15_2 K, gK_15_3 K, gK_20_0 K, gK_20_1 K, gK_20_2 K, gK_20_3 K, gK_20_4 K, gK_20_5 K, gK_698_0 K, gK_698_3 K, gK_698_16 K, gK_698_17 K, gK_698_20 K, gK_698_21 K, gK_698_22 K, gK_698_23 K, gK_698_24 K, gK_698_25 K, gK_698_26 K, gK_698_27 K, gK_698_28 K, gK_698_29 K, gK_698_30 K, gK_698_31 K, gK_698_32 K, gK_698_33 K, gK_698_34 K, gK_698_35 K, gK_698_36 K, gK_698_37 K, gK_698_38 K, gK_698_39 K, gK_698_41 K, gK_698_42 K, gK_698_44 K, gK_c K, gK_d K, gK_n K, gK_p K, gok_8, gok_10, gok_11, gok_15, gok_20, gok_698, gok_699, goA_9, goA_12, goA_13, goA_14, goA_16, goA_17, goA_18, goA_19, goA_21, goA_22, goA_23, goA_24, goA_25, goA_26, goA_27, goA_28, goA_29, goA_30, goA_31, goA_732, goA_733, goA_734, goA_735, goA_736, goA_737, goA_738, goA_739, goA_740, goA_741, goA_742, goA_743, goA_744, goA_745, goA_746, goA_747, goA_748, goA_749, goA_750, goA_751, goA_752, goA_753, goA_754, goA_755, goA_756, goA_757, gN_wI, gR_wI, gL_wI, if_true, eq_self]
    rw [h7, if_pos ((gn_lt (by omega) (by omega)).2 (by omega)), gn_in (by omega) (show k < 10 by omega), if_pos rfl, gn_nat (by omega), f1, gn_succ]
    by_cases e : F k = g
    · rw [decide_eq_true e] at e1
      have h4 := lHs_t e1 (nf - (k + 1))
      rw [show k + 1 + (nf - (k + 1)) = nf by omega] at h4
      rw [if_pos (by rw [e]), h4]; rfl
    · rw [decide_eq_false e] at e1
      rw [if_neg (fun t => e ((gn_eq (by omega) (by omega)).1 t))]
      exact ih (k + 1) (by omega) e1
theorem c_place_129 {nf : Nat} (K : gK c d n p m) (h7 : gI m 698 43 = Int32.ofNat nf) (hnf : nf ≤ 10) (hF : ∀ j < nf, gI m 756 j = Int32.ofNat (F j) ∧ F j < 40) (hg : g < 40) (hi : i < 40) (hgi : gI m 751 i = Int32.ofNat g) {x1 x3 x4 : Int32} : ∀ j k, k + j = nf → lHs F g k = false → gd_Den (175, 129, [.ref 698, .int x1, .int (Int32.ofNat i), .int x3, .int x4, .int (Int32.ofNat k)], [], m) = some (.int (gB (lHs F g nf)), m) := by
  intro j
  induction j with
  | zero =>
    intro k h q
    have : k = nf := by omega
    subst this
    rw [q_Mo_place_129]
    simp only [gK_N K, gK_8_0 K, gK_8_1 K, gK_8_2 K, gK_8_3 K, gK_8_4 K, gK_8_5 K, gK_8_6 K, gK_8_7 K, gK_8_8 K, gK_10_0 K, gK_10_1 K, gK_10_2 K, gK_11_0 K, gK_15_0 K, gK_15_1 K, gK_15_2 K, gK_15_3 K, gK_20_0 K, gK_20_1 K, gK_20_2 K, gK_20_3 K, gK_20_4 K, gK_20_5 K, gK_698_0 K, gK_698_3 K, gK_698_16 K, gK_698_17 K, gK_698_20 K, gK_698_21 K, gK_698_22 K, gK_698_23 K, gK_698_24 K, gK_698_25 K, gK_698_26 K, gK_698_27 K, gK_698_28 K, gK_698_29 K, gK_698_30 K, gK_698_31 K, gK_698_32 K, gK_698_33 K, gK_698_34 K, gK_698_35 K, gK_698_36 K, gK_698_37 K, gK_698_38 K, gK_698_39 K, gK_698_41 K, gK_698_42 K, gK_698_44 K, gK_c K, gK_d K, gK_n K, gK_p K, gok_8, gok_10, gok_11, gok_15, gok_20, gok_698, gok_699, goA_9, goA_12, goA_13, goA_14, goA_16, goA_17, goA_18, goA_19, goA_21, goA_22, goA_23, goA_24, goA_25, goA_26, goA_27, goA_28, goA_29, goA_30, goA_31, goA_732, goA_733, goA_734, goA_735, goA_736, goA_737, goA_738, goA_739, goA_740, goA_741, goA_742, goA_743, goA_744, goA_745, goA_746, goA_747, goA_748, goA_749, goA_750, goA_751, goA_752, goA_753, goA_754, goA_755, goA_756, goA_757, gN_wI, gR_wI, gL_wI, if_true, eq_self]
    rw [h7, if_neg Int32.lt_irrefl, q]; rfl
  | succ j ih =>
    intro k h q
    obtain ⟨f1, f2⟩ := hF k (by omega)
    have e1 : lHs F g (k + 1) = (lHs F g k || decide (F k = g)) := rfl
    rw [q, Bool.false_or] at e1
    rw [q_Mo_place_129]
    simp only [gK_N K, gK_8_0 K, gK_8_1 K, gK_8_2 K, gK_8_3 K, gK_8_4 K, gK_8_5 K, gK_8_6 K, gK_8_7 K, gK_8_8 K, gK_10_0 K, gK_10_1 K, gK_10_2 K, gK_11_0 K, gK_15_0 K, gK_15_1 K, gK_15_2 K, gK_15_3 K, gK_20_0 K, gK_20_1 K, gK_20_2 K, gK_20_3 K, gK_20_4 K, gK_20_5 K, gK_698_0 K, gK_698_3 K, gK_698_16 K, gK_698_17 K, gK_698_20 K, gK_698_21 K, gK_698_22 K, gK_698_23 K, gK_698_24 K, gK_698_25 K, gK_698_26 K, gK_698_27 K, gK_698_28 K, gK_698_29 K, gK_698_30 K, gK_698_31 K, gK_698_32 K, gK_698_33 K, gK_698_34 K, gK_698_35 K, gK_698_36 K, gK_698_37 K, gK_698_38 K, gK_698_39 K, gK_698_41 K, gK_698_42 K, gK_698_44 K, gK_c K, gK_d K, gK_n K, gK_p K, gok_8, gok_10, gok_11, gok_15, gok_20, gok_698, gok_699, goA_9, goA_12, goA_13, goA_14, goA_16, goA_17, goA_18, goA_19, goA_21, goA_22, goA_23, goA_24, goA_25, goA_26, goA_27, goA_28, goA_29, goA_30, goA_31, goA_732, goA_733, goA_734, goA_735, goA_736, goA_737, goA_738, goA_739, goA_740, goA_741, goA_742, goA_743, goA_744, goA_745, goA_746, goA_747, goA_748, goA_749, goA_750, goA_751, goA_752, goA_753, goA_754, goA_755, goA_756, goA_757, gN_wI, gR_wI, gL_wI, if_true, eq_self]
    rw [h7, if_pos ((gn_lt (by omega) (by omega)).2 (by omega)), gn_in (by omega) (show k < 10 by omega), if_pos rfl, gn_nat (by omega), f1, gn_in (by omega) (show i < 40 by omega), if_pos rfl, gn_nat (by omega), hgi, gn_succ]
    by_cases e : F k = g
    · rw [decide_eq_true e] at e1
      have h4 := lHs_t e1 (nf - (k + 1))
      rw [show k + 1 + (nf - (k + 1)) = nf by omega] at h4
      rw [if_pos (by rw [e]), h4]; rfl
    · rw [decide_eq_false e] at e1
      rw [if_neg (fun t => e ((gn_eq (by omega) (by omega)).1 t))]
      exact ih (k + 1) (by omega) e1
theorem fN_40 {la : Nat → Nat} {most mol : Nat} (hL : ∀ j < len, L j < 40) : ∀ k, k ≤ len → ∀ j < (fN la L most mol k).2.1, (fN la L most mol k).2.2 j < 40 := by
  intro k
  induction k with
  | zero => intro _ j hj; exact absurd hj (Nat.not_lt_zero j)
  | succ k ih =>
    intro hk j hj
    by_cases h : (fN la L most mol k).2.1 < most ∧ (fN la L most mol k).1 (la (L k)) < mol
    · rw [fN_y h.1 h.2] at hj ⊢
      show (if j = (fN la L most mol k).2.1 then L k else (fN la L most mol k).2.2 j) < 40
      by_cases e : j = (fN la L most mol k).2.1
      · rw [if_pos e]; exact hL k (by omega)
      · rw [if_neg e]
        have hj : j < (fN la L most mol k).2.1 + 1 := hj
        exact ih (by omega) j (by omega)
    · rw [fN_n h] at hj ⊢
      exact ih (by omega) j hj
theorem P_list (R : gRel c d n p m s) (x : Int32) : gPr 165 168 [.int x] m := by
  obtain ⟨K, I, C, S, H⟩ := id R
  obtain ⟨P, -, hP2, hP⟩ := iAll_ppl I
  cases h : gIs 5 x with
  | false =>
    refine gPr_of R (v := -2) (s' := s) ⟨m, ?_, oX_refl, C⟩ (fun m1 K S H => ⟨m1, ?_, oM_refl, S, H⟩) I
    · rw [q_X_list, c_isList, h]; rfl
    · rw [q_Mo_list, c_in4, h]; rfl
  | true =>
    obtain ⟨a, ha, rfl⟩ := gIs_t (by decide) h
    obtain ⟨m2, a1, a2, a3⟩ := c_rank K C I hP hP2 ha
    have K2 := gK_o K a2.1
    refine gPr_of R (v := Int32.ofNat (lLi n s a P).1) (s' := s) ⟨m2, ?_, oL_X a2, oL_C (gK_c1 K) a2 C⟩ (fun m1 K S H => ?_) I
    · rw [q_X_list, c_isList, h]
      simp only [Option.bind_some, gd_k0I_i, gB_t, gK_N K, gok_8, if_true]
      rw [if_neg (by decide), a1]
      simp only [gK_N K2, gK_8_0 K2, gK_8_1 K2, gK_8_2 K2, gK_8_3 K2, gK_8_4 K2, gK_8_5 K2, gK_8_6 K2, gK_8_7 K2, gK_8_8 K2, gK_10_0 K2, gK_10_1 K2, gK_10_2 K2, gK_11_0 K2, gK_15_0 K2, gK_15_1 K2, gK_15_2 K2, gK_15_3 K2, gK_20_0 K2, gK_20_1 K2, gK_20_2 K2, gK_20_3 K2, gK_20_4 K2, gK_20_5 K2, gK_698_0 K2, gK_698_3 K2, gK_698_16 K2, gK_698_17 K2, gK_698_20 K2, gK_698_21 K2, gK_698_22 K2, gK_698_23 K2, gK_698_24 K2, gK_698_25 K2, gK_698_26 K2, gK_698_27 K2, gK_698_28 K2, gK_698_29 K2, gK_698_30 K2, gK_698_31 K2, gK_698_32 K2, gK_698_33 K2, gK_698_34 K2, gK_698_35 K2, gK_698_36 K2, gK_698_37 K2, gK_698_38 K2, gK_698_39 K2, gK_698_41 K2, gK_698_42 K2, gK_698_44 K2, gK_c K2, gK_d K2, gK_n K2, gK_p K2, gok_8, gok_10, gok_11, gok_15, gok_20, gok_698, gok_699, goA_9, goA_12, goA_13, goA_14, goA_16, goA_17, goA_18, goA_19, goA_21, goA_22, goA_23, goA_24, goA_25, goA_26, goA_27, goA_28, goA_29, goA_30, goA_31, goA_732, goA_733, goA_734, goA_735, goA_736, goA_737, goA_738, goA_739, goA_740, goA_741, goA_742, goA_743, goA_744, goA_745, goA_746, goA_747, goA_748, goA_749, goA_750, goA_751, goA_752, goA_753, goA_754, goA_755, goA_756, goA_757, gN_wI, gR_wI, gL_wI, if_true, eq_self, Option.bind_some, gd_kV_v]
      rw [a3.1]
    · obtain ⟨m3, b1, b2, b3⟩ := c_makeList K S H I hP hP2 ha
      have K3 := gK_o K b2.1.1
      refine ⟨m3, ?_, b2⟩
      rw [q_Mo_list, c_in4, h]
      simp only [Option.bind_some, gd_k0I_i, gB_t, gK_N K, gok_698, if_true]
      rw [if_neg (by decide), b1]
      simp only [gK_N K3, gK_8_0 K3, gK_8_1 K3, gK_8_2 K3, gK_8_3 K3, gK_8_4 K3, gK_8_5 K3, gK_8_6 K3, gK_8_7 K3, gK_8_8 K3, gK_10_0 K3, gK_10_1 K3, gK_10_2 K3, gK_11_0 K3, gK_15_0 K3, gK_15_1 K3, gK_15_2 K3, gK_15_3 K3, gK_20_0 K3, gK_20_1 K3, gK_20_2 K3, gK_20_3 K3, gK_20_4 K3, gK_20_5 K3, gK_698_0 K3, gK_698_3 K3, gK_698_16 K3, gK_698_17 K3, gK_698_20 K3, gK_698_21 K3, gK_698_22 K3, gK_698_23 K3, gK_698_24 K3, gK_698_25 K3, gK_698_26 K3, gK_698_27 K3, gK_698_28 K3, gK_698_29 K3, gK_698_30 K3, gK_698_31 K3, gK_698_32 K3, gK_698_33 K3, gK_698_34 K3, gK_698_35 K3, gK_698_36 K3, gK_698_37 K3, gK_698_38 K3, gK_698_39 K3, gK_698_41 K3, gK_698_42 K3, gK_698_44 K3, gK_c K3, gK_d K3, gK_n K3, gK_p K3, gok_8, gok_10, gok_11, gok_15, gok_20, gok_698, gok_699, goA_9, goA_12, goA_13, goA_14, goA_16, goA_17, goA_18, goA_19, goA_21, goA_22, goA_23, goA_24, goA_25, goA_26, goA_27, goA_28, goA_29, goA_30, goA_31, goA_732, goA_733, goA_734, goA_735, goA_736, goA_737, goA_738, goA_739, goA_740, goA_741, goA_742, goA_743, goA_744, goA_745, goA_746, goA_747, goA_748, goA_749, goA_750, goA_751, goA_752, goA_753, goA_754, goA_755, goA_756, goA_757, gN_wI, gR_wI, gL_wI, if_true, eq_self, Option.bind_some, gd_kV_v]
      rw [b3.1]
theorem P_place (R : gRel c d n p m s) (x y z : Int32) : gPr 173 175 [.int x, .int y, .int z] m := by
  obtain ⟨K, I, C, S, H⟩ := id R
  obtain ⟨P, -, hP2, hP⟩ := iAll_ppl I
  have hc := gK_c1 K
  cases h : gIs 5 x with
  | false =>
    have o1 : oL m (wI (wI m 20 6 0) 20 7 0) := oL_w (oL_w oL_refl (by decide)) (by decide)
    have K1 : gK c d n p (wI (wI m 20 6 0) 20 7 0) := K
    refine gPr_of R (v := -1) (s' := s) ⟨_, ?_, oL_X o1, oL_C hc o1 C⟩ (fun m1 K S H => ⟨m1, ?_, oM_refl, S, H⟩) I
    · rw [q_X_place]
      simp only [gK_N K, gK_8_0 K, gK_8_1 K, gK_8_2 K, gK_8_3 K, gK_8_4 K, gK_8_5 K, gK_8_6 K, gK_8_7 K, gK_8_8 K, gK_10_0 K, gK_10_1 K, gK_10_2 K, gK_11_0 K, gK_15_0 K, gK_15_1 K, gK_15_2 K, gK_15_3 K, gK_20_0 K, gK_20_1 K, gK_20_2 K, gK_20_3 K, gK_20_4 K, gK_20_5 K, gK_698_0 K, gK_698_3 K, gK_698_16 K, gK_698_17 K, gK_698_20 K, gK_698_21 K, gK_698_22 K, gK_698_23 K, gK_698_24 K, gK_698_25 K, gK_698_26 K, gK_698_27 K, gK_698_28 K, gK_698_29 K, gK_698_30 K, gK_698_31 K, gK_698_32 K, gK_698_33 K, gK_698_34 K, gK_698_35 K, gK_698_36 K, gK_698_37 K, gK_698_38 K, gK_698_39 K, gK_698_41 K, gK_698_42 K, gK_698_44 K, gK_c K, gK_d K, gK_n K, gK_p K, gok_8, gok_10, gok_11, gok_15, gok_20, gok_698, gok_699, goA_9, goA_12, goA_13, goA_14, goA_16, goA_17, goA_18, goA_19, goA_21, goA_22, goA_23, goA_24, goA_25, goA_26, goA_27, goA_28, goA_29, goA_30, goA_31, goA_732, goA_733, goA_734, goA_735, goA_736, goA_737, goA_738, goA_739, goA_740, goA_741, goA_742, goA_743, goA_744, goA_745, goA_746, goA_747, goA_748, goA_749, goA_750, goA_751, goA_752, goA_753, goA_754, goA_755, goA_756, goA_757, gN_wI, gR_wI, gL_wI, if_true, eq_self]
      rw [c_rank_no K h]
      simp only [gK_N K1, gK_8_0 K1, gK_8_1 K1, gK_8_2 K1, gK_8_3 K1, gK_8_4 K1, gK_8_5 K1, gK_8_6 K1, gK_8_7 K1, gK_8_8 K1, gK_10_0 K1, gK_10_1 K1, gK_10_2 K1, gK_11_0 K1, gK_15_0 K1, gK_15_1 K1, gK_15_2 K1, gK_15_3 K1, gK_20_0 K1, gK_20_1 K1, gK_20_2 K1, gK_20_3 K1, gK_20_4 K1, gK_20_5 K1, gK_698_0 K1, gK_698_3 K1, gK_698_16 K1, gK_698_17 K1, gK_698_20 K1, gK_698_21 K1, gK_698_22 K1, gK_698_23 K1, gK_698_24 K1, gK_698_25 K1, gK_698_26 K1, gK_698_27 K1, gK_698_28 K1, gK_698_29 K1, gK_698_30 K1, gK_698_31 K1, gK_698_32 K1, gK_698_33 K1, gK_698_34 K1, gK_698_35 K1, gK_698_36 K1, gK_698_37 K1, gK_698_38 K1, gK_698_39 K1, gK_698_41 K1, gK_698_42 K1, gK_698_44 K1, gK_c K1, gK_d K1, gK_n K1, gK_p K1, gok_8, gok_10, gok_11, gok_15, gok_20, gok_698, gok_699, goA_9, goA_12, goA_13, goA_14, goA_16, goA_17, goA_18, goA_19, goA_21, goA_22, goA_23, goA_24, goA_25, goA_26, goA_27, goA_28, goA_29, goA_30, goA_31, goA_732, goA_733, goA_734, goA_735, goA_736, goA_737, goA_738, goA_739, goA_740, goA_741, goA_742, goA_743, goA_744, goA_745, goA_746, goA_747, goA_748, goA_749, goA_750, goA_751, goA_752, goA_753, goA_754, goA_755, goA_756, goA_757, gN_wI, gR_wI, gL_wI, if_true, eq_self, Option.bind_some, gd_kV_v]
      by_cases q : y < 0
      · rw [if_pos q]
      · rw [if_neg q, gI_wI_k (show (6 : Nat) ≠ 7 by decide), gI_wI_s, if_neg q]
    · rw [q_Mo_place, c_in4, h]; rfl
  | true =>
    obtain ⟨a, ha, rfl⟩ := gIs_t (by decide) h
    have hlt := lLi_lt (n := n) (s := s) (a := a) P
    have hL40 : ∀ j < (lLi n s a P).1, (lLi n s a P).2 j < 40 := fun j hj => by have := hlt.2 j hj; omega
    obtain ⟨m2, a1, a2, a3⟩ := c_rank K C I hP hP2 ha
    have K2 := gK_o K a2.1
    have C2 := oL_C hc a2 C
    have hMk : ∀ m1, gK c d n p m1 → gSm n (gI m1) s → gCh n (gI m1) s → ∃ m3, gK c d n p m3 ∧ rK n s m1 m3 ∧ mLs n s a (lLi n s a P).1 (lLi n s a P).2 m3 ∧ mFi (gLa s) (lLi n s a P).2 (gFi n s) (gMo n s) (lLi n s a P).1 m3 ∧ gd_call 175 [.ref 698, .int (Int32.ofNat a), .int y, .int z] m1 = if gIs (lLi n s a P).1 y = false then some (.int (-1), m3) else if z = 0 then (if gd_in y 40 = true then some (.int (gI m3 751 y.toNatClampNeg), m3) else none) else if z = 1 then (if gd_in y 40 = true then some (.int (gI m3 752 y.toNatClampNeg), m3) else none) else if z = 2 then gd_Den (175, 85, [.ref 698, .int (Int32.ofNat a), .int y, .int z, .int 1, .int 0], [], m3) else if z = 3 then gd_Den (175, 129, [.ref 698, .int (Int32.ofNat a), .int y, .int z, .int 1, .int 0], [], m3) else some (.int (-1), m3) := fun m1 K S H => by
      obtain ⟨m3, b1, b2, b3, b4⟩ := c_makeFinal K S H I hP hP2 ha
      have K3 := gK_o K b2.1.1
      refine ⟨m3, K3, b2, b3, b4, ?_⟩
      rw [q_Mo_place, c_in4, h]
      simp only [Option.bind_some, gd_k0I_i, gB_t, gK_N K, gok_698, if_true]
      rw [if_neg (by decide), b1]
      simp only [gK_N K3, gK_8_0 K3, gK_8_1 K3, gK_8_2 K3, gK_8_3 K3, gK_8_4 K3, gK_8_5 K3, gK_8_6 K3, gK_8_7 K3, gK_8_8 K3, gK_10_0 K3, gK_10_1 K3, gK_10_2 K3, gK_11_0 K3, gK_15_0 K3, gK_15_1 K3, gK_15_2 K3, gK_15_3 K3, gK_20_0 K3, gK_20_1 K3, gK_20_2 K3, gK_20_3 K3, gK_20_4 K3, gK_20_5 K3, gK_698_0 K3, gK_698_3 K3, gK_698_16 K3, gK_698_17 K3, gK_698_20 K3, gK_698_21 K3, gK_698_22 K3, gK_698_23 K3, gK_698_24 K3, gK_698_25 K3, gK_698_26 K3, gK_698_27 K3, gK_698_28 K3, gK_698_29 K3, gK_698_30 K3, gK_698_31 K3, gK_698_32 K3, gK_698_33 K3, gK_698_34 K3, gK_698_35 K3, gK_698_36 K3, gK_698_37 K3, gK_698_38 K3, gK_698_39 K3, gK_698_41 K3, gK_698_42 K3, gK_698_44 K3, gK_c K3, gK_d K3, gK_n K3, gK_p K3, gok_8, gok_10, gok_11, gok_15, gok_20, gok_698, gok_699, goA_9, goA_12, goA_13, goA_14, goA_16, goA_17, goA_18, goA_19, goA_21, goA_22, goA_23, goA_24, goA_25, goA_26, goA_27, goA_28, goA_29, goA_30, goA_31, goA_732, goA_733, goA_734, goA_735, goA_736, goA_737, goA_738, goA_739, goA_740, goA_741, goA_742, goA_743, goA_744, goA_745, goA_746, goA_747, goA_748, goA_749, goA_750, goA_751, goA_752, goA_753, goA_754, goA_755, goA_756, goA_757, gN_wI, gR_wI, gL_wI, if_true, eq_self, Option.bind_some, gd_kV_v]
      rw [b3.1, c_in (by omega)]
      simp only [gK_N K3, gK_8_0 K3, gK_8_1 K3, gK_8_2 K3, gK_8_3 K3, gK_8_4 K3, gK_8_5 K3, gK_8_6 K3, gK_8_7 K3, gK_8_8 K3, gK_10_0 K3, gK_10_1 K3, gK_10_2 K3, gK_11_0 K3, gK_15_0 K3, gK_15_1 K3, gK_15_2 K3, gK_15_3 K3, gK_20_0 K3, gK_20_1 K3, gK_20_2 K3, gK_20_3 K3, gK_20_4 K3, gK_20_5 K3, gK_698_0 K3, gK_698_3 K3, gK_698_16 K3, gK_698_17 K3, gK_698_20 K3, gK_698_21 K3, gK_698_22 K3, gK_698_23 K3, gK_698_24 K3, gK_698_25 K3, gK_698_26 K3, gK_698_27 K3, gK_698_28 K3, gK_698_29 K3, gK_698_30 K3, gK_698_31 K3, gK_698_32 K3, gK_698_33 K3, gK_698_34 K3, gK_698_35 K3, gK_698_36 K3, gK_698_37 K3, gK_698_38 K3, gK_698_39 K3, gK_698_41 K3, gK_698_42 K3, gK_698_44 K3, gK_c K3, gK_d K3, gK_n K3, gK_p K3, gok_8, gok_10, gok_11, gok_15, gok_20, gok_698, gok_699, goA_9, goA_12, goA_13, goA_14, goA_16, goA_17, goA_18, goA_19, goA_21, goA_22, goA_23, goA_24, goA_25, goA_26, goA_27, goA_28, goA_29, goA_30, goA_31, goA_732, goA_733, goA_734, goA_735, goA_736, goA_737, goA_738, goA_739, goA_740, goA_741, goA_742, goA_743, goA_744, goA_745, goA_746, goA_747, goA_748, goA_749, goA_750, goA_751, goA_752, goA_753, goA_754, goA_755, goA_756, goA_757, gN_wI, gR_wI, gL_wI, if_true, eq_self, Option.bind_some, gd_k0I_i, gB_0]
    have hXk : gd_call 173 [.ref 8, .int (Int32.ofNat a), .int y, .int z] m = if gIs (lLi n s a P).1 y = false then some (.int (-1), m2) else (if gd_in y 40 = true then (if z = 0 then (some (.int (gI m2 21 y.toNatClampNeg), m2)) else if z = 1 then (if gd_in (gI m2 21 y.toNatClampNeg) 40 = true then (some (.int (gI m2 22 (gI m2 21 y.toNatClampNeg).toNatClampNeg), m2)) else none) else if z = 2 then ((gd_call 169 [.ref 20, .int y] m2).bind (gd_kI fun z20 m18 => some (.int (1 + z20), m18))) else if z = 3 then ((gd_call 171 [.ref 8] m2).bind (gd_kV fun m23 => if gd_ok (gN m23) 8 6 = true then (if gd_ok (gN m23) (gR m23 8 3) 2 = true then ((gd_call 172 [.ref (gR m23 8 3), .int (gI m2 21 y.toNatClampNeg)] m23).bind (gd_kI fun z29 m27 => if (z29 = 0 : Prop) then (some (.int 0, m27)) else (some (.int 1, m27)))) else none) else none)) else (some (.int (-1), m2))) else none) := by
      rw [q_X_place]
      simp only [gK_N K, gK_8_0 K, gK_8_1 K, gK_8_2 K, gK_8_3 K, gK_8_4 K, gK_8_5 K, gK_8_6 K, gK_8_7 K, gK_8_8 K, gK_10_0 K, gK_10_1 K, gK_10_2 K, gK_11_0 K, gK_15_0 K, gK_15_1 K, gK_15_2 K, gK_15_3 K, gK_20_0 K, gK_20_1 K, gK_20_2 K, gK_20_3 K, gK_20_4 K, gK_20_5 K, gK_698_0 K, gK_698_3 K, gK_698_16 K, gK_698_17 K, gK_698_20 K, gK_698_21 K, gK_698_22 K, gK_698_23 K, gK_698_24 K, gK_698_25 K, gK_698_26 K, gK_698_27 K, gK_698_28 K, gK_698_29 K, gK_698_30 K, gK_698_31 K, gK_698_32 K, gK_698_33 K, gK_698_34 K, gK_698_35 K, gK_698_36 K, gK_698_37 K, gK_698_38 K, gK_698_39 K, gK_698_41 K, gK_698_42 K, gK_698_44 K, gK_c K, gK_d K, gK_n K, gK_p K, gok_8, gok_10, gok_11, gok_15, gok_20, gok_698, gok_699, goA_9, goA_12, goA_13, goA_14, goA_16, goA_17, goA_18, goA_19, goA_21, goA_22, goA_23, goA_24, goA_25, goA_26, goA_27, goA_28, goA_29, goA_30, goA_31, goA_732, goA_733, goA_734, goA_735, goA_736, goA_737, goA_738, goA_739, goA_740, goA_741, goA_742, goA_743, goA_744, goA_745, goA_746, goA_747, goA_748, goA_749, goA_750, goA_751, goA_752, goA_753, goA_754, goA_755, goA_756, goA_757, gN_wI, gR_wI, gL_wI, if_true, eq_self]
      rw [a1]
      simp only [gK_N K2, gK_8_0 K2, gK_8_1 K2, gK_8_2 K2, gK_8_3 K2, gK_8_4 K2, gK_8_5 K2, gK_8_6 K2, gK_8_7 K2, gK_8_8 K2, gK_10_0 K2, gK_10_1 K2, gK_10_2 K2, gK_11_0 K2, gK_15_0 K2, gK_15_1 K2, gK_15_2 K2, gK_15_3 K2, gK_20_0 K2, gK_20_1 K2, gK_20_2 K2, gK_20_3 K2, gK_20_4 K2, gK_20_5 K2, gK_698_0 K2, gK_698_3 K2, gK_698_16 K2, gK_698_17 K2, gK_698_20 K2, gK_698_21 K2, gK_698_22 K2, gK_698_23 K2, gK_698_24 K2, gK_698_25 K2, gK_698_26 K2, gK_698_27 K2, gK_698_28 K2, gK_698_29 K2, gK_698_30 K2, gK_698_31 K2, gK_698_32 K2, gK_698_33 K2, gK_698_34 K2, gK_698_35 K2, gK_698_36 K2, gK_698_37 K2, gK_698_38 K2, gK_698_39 K2, gK_698_41 K2, gK_698_42 K2, gK_698_44 K2, gK_c K2, gK_d K2, gK_n K2, gK_p K2, gok_8, gok_10, gok_11, gok_15, gok_20, gok_698, gok_699, goA_9, goA_12, goA_13, goA_14, goA_16, goA_17, goA_18, goA_19, goA_21, goA_22, goA_23, goA_24, goA_25, goA_26, goA_27, goA_28, goA_29, goA_30, goA_31, goA_732, goA_733, goA_734, goA_735, goA_736, goA_737, goA_738, goA_739, goA_740, goA_741, goA_742, goA_743, goA_744, goA_745, goA_746, goA_747, goA_748, goA_749, goA_750, goA_751, goA_752, goA_753, goA_754, goA_755, goA_756, goA_757, gN_wI, gR_wI, gL_wI, if_true, eq_self, Option.bind_some, gd_kV_v]
      rw [a3.1]
      by_cases q : y < 0
      · rw [if_pos q, show gIs (lLi n s a P).1 y = false by unfold gIs; rw [decide_eq_true q]; rfl, if_pos rfl]
      · rw [if_neg q]
        by_cases q2 : y < Int32.ofNat (lLi n s a P).1
        · rw [if_pos q2, if_neg (show ¬ gIs (lLi n s a P).1 y = false by unfold gIs; rw [decide_eq_false q, decide_eq_true q2]; decide)]
        · rw [if_neg q2, if_pos (show gIs (lLi n s a P).1 y = false by unfold gIs; rw [decide_eq_false q2, Bool.and_false])]
    cases h2 : gIs (lLi n s a P).1 y with
    | false =>
      refine gPr_of R (v := -1) (s' := s) ⟨m2, by rw [hXk, h2]; rfl, oL_X a2, C2⟩ (fun m1 K S H => ?_) I
      obtain ⟨m3, K3, b2, b3, b4, b5⟩ := hMk m1 K S H
      exact ⟨m3, by rw [b5, h2]; rfl, b2⟩
    | true =>
      obtain ⟨i, hi, rfl⟩ := gIs_t (by omega) h2
      rw [h2, if_neg (show ¬ true = false by decide), gn_in (by omega) (show i < 40 by omega), if_pos rfl, gn_nat (by omega), (a3.2 i hi).1] at hXk
      have hMk2 : ∀ m1, gK c d n p m1 → gSm n (gI m1) s → gCh n (gI m1) s → ∃ m3, gK c d n p m3 ∧ rK n s m1 m3 ∧ mLs n s a (lLi n s a P).1 (lLi n s a P).2 m3 ∧ mFi (gLa s) (lLi n s a P).2 (gFi n s) (gMo n s) (lLi n s a P).1 m3 ∧ gd_call 175 [.ref 698, .int (Int32.ofNat a), .int (Int32.ofNat i), .int z] m1 = if z = 0 then some (.int (gI m3 751 i), m3) else if z = 1 then some (.int (gI m3 752 i), m3) else if z = 2 then gd_Den (175, 85, [.ref 698, .int (Int32.ofNat a), .int (Int32.ofNat i), .int z, .int 1, .int 0], [], m3) else if z = 3 then gd_Den (175, 129, [.ref 698, .int (Int32.ofNat a), .int (Int32.ofNat i), .int z, .int 1, .int 0], [], m3) else some (.int (-1), m3) := fun m1 K S H => by
        obtain ⟨m3, K3, b2, b3, b4, b5⟩ := hMk m1 K S H
        refine ⟨m3, K3, b2, b3, b4, ?_⟩
        rw [b5, h2, if_neg (show ¬ true = false by decide), gn_in (by omega) (show i < 40 by omega), if_pos rfl, if_pos rfl, gn_nat (by omega)]
      have hLi := hL40 i hi
      by_cases z0 : z = 0
      · refine gPr_of R (v := Int32.ofNat ((lLi n s a P).2 i)) (s' := s) ⟨m2, by rw [hXk, if_pos z0], oL_X a2, C2⟩ (fun m1 K S H => ?_) I
        obtain ⟨m3, K3, b2, b3, b4, b5⟩ := hMk2 m1 K S H
        exact ⟨m3, by rw [b5, if_pos z0, (b3.2 i hi).1], b2⟩
      by_cases z1 : z = 1
      · refine gPr_of R (v := kS n s a ((lLi n s a P).2 i)) (s' := s) ⟨m2, ?_, oL_X a2, C2⟩ (fun m1 K S H => ?_) I
        · rw [hXk, if_neg z0, if_pos z1, gn_in (by omega) hLi, if_pos rfl, gn_nat (by omega), (a3.2 i hi).2.1]
        · obtain ⟨m3, K3, b2, b3, b4, b5⟩ := hMk2 m1 K S H
          exact ⟨m3, by rw [b5, if_neg z0, if_pos z1, (b3.2 i hi).2.1], b2⟩
      by_cases z2 : z = 2
      · refine gPr_of R (v := Int32.ofNat (1 + lAh n s a (lLi n s a P).2 i i)) (s' := s) ⟨m2, ?_, oL_X a2, C2⟩ (fun m1 K S H => ?_) I
        · have t := c_aheadOf_4 K2 a3 (by omega) hL40 hi i 0 (by omega)
          rw [show lAh n s a (lLi n s a P).2 i 0 = 0 from rfl, gn_0] at t
          rw [hXk, if_neg z0, if_neg z1, if_pos z2, q_Ra_aheadOf, t]
          simp only [Option.bind_some, gd_kI_i]
          rw [show (1 : Int32) = Int32.ofNat 1 from rfl, gn_add]
        · obtain ⟨m3, K3, b2, b3, b4, b5⟩ := hMk2 m1 K S H
          have t := c_place_85 K3 b3 (by omega) hi (x1 := Int32.ofNat a) (x3 := z) i 0 (by omega)
          exact ⟨m3, by rw [b5, if_neg z0, if_neg z1, if_pos z2]; exact t, b2⟩
      by_cases z3 : z = 3
      · obtain ⟨m4, d1, d2, d3, d4, d5⟩ := c_callFinal K2 C2 I (show (lLi n s a P).1 ≤ 40 by omega) a3.1 (fun j hj => (a3.2 j hj).1) hL40
        have K4 := gK_o K2 d2.1
        have hb := fN_b (la := gLa s) (L := (lLi n s a P).2) (most := gFi n s) (mol := gMo n s) (lLi n s a P).1
        have hfi := (gFi_e I).2
        have h40 := fN_40 (la := gLa s) (most := gFi n s) (mol := gMo n s) hL40 (lLi n s a P).1 (Nat.le_refl _)
        refine gPr_of R (v := gB (lHs (fN (gLa s) (lLi n s a P).2 (gFi n s) (gMo n s) (lLi n s a P).1).2.2 ((lLi n s a P).2 i) (fN (gLa s) (lLi n s a P).2 (gFi n s) (gMo n s) (lLi n s a P).1).2.1)) (s' := s) ⟨m4, ?_, oL_X (oL_tr a2 d2), oL_C hc d2 C2⟩ (fun m1 K S H => ?_) I
        · rw [hXk, if_neg z0, if_neg z1, if_neg z2, if_pos z3, d1]
          simp only [gK_N K4, gK_8_0 K4, gK_8_1 K4, gK_8_2 K4, gK_8_3 K4, gK_8_4 K4, gK_8_5 K4, gK_8_6 K4, gK_8_7 K4, gK_8_8 K4, gK_10_0 K4, gK_10_1 K4, gK_10_2 K4, gK_11_0 K4, gK_15_0 K4, gK_15_1 K4, gK_15_2 K4, gK_15_3 K4, gK_20_0 K4, gK_20_1 K4, gK_20_2 K4, gK_20_3 K4, gK_20_4 K4, gK_20_5 K4, gK_698_0 K4, gK_698_3 K4, gK_698_16 K4, gK_698_17 K4, gK_698_20 K4, gK_698_21 K4, gK_698_22 K4, gK_698_23 K4, gK_698_24 K4, gK_698_25 K4, gK_698_26 K4, gK_698_27 K4, gK_698_28 K4, gK_698_29 K4, gK_698_30 K4, gK_698_31 K4, gK_698_32 K4, gK_698_33 K4, gK_698_34 K4, gK_698_35 K4, gK_698_36 K4, gK_698_37 K4, gK_698_38 K4, gK_698_39 K4, gK_698_41 K4, gK_698_42 K4, gK_698_44 K4, gK_c K4, gK_d K4, gK_n K4, gK_p K4, gok_8, gok_10, gok_11, gok_15, gok_20, gok_698, gok_699, goA_9, goA_12, goA_13, goA_14, goA_16, goA_17, goA_18, goA_19, goA_21, goA_22, goA_23, goA_24, goA_25, goA_26, goA_27, goA_28, goA_29, goA_30, goA_31, goA_732, goA_733, goA_734, goA_735, goA_736, goA_737, goA_738, goA_739, goA_740, goA_741, goA_742, goA_743, goA_744, goA_745, goA_746, goA_747, goA_748, goA_749, goA_750, goA_751, goA_752, goA_753, goA_754, goA_755, goA_756, goA_757, gN_wI, gR_wI, gL_wI, if_true, eq_self, Option.bind_some, gd_kV_v]
          have t := c_isFin_2 (F := (fN (gLa s) (lLi n s a P).2 (gFi n s) (gMo n s) (lLi n s a P).1).2.2) K4 d5.1 (by omega) (fun j hj => ⟨d5.2.2 j hj, h40 j hj⟩) hLi (fN (gLa s) (lLi n s a P).2 (gFi n s) (gMo n s) (lLi n s a P).1).2.1 0 (by omega) rfl
          rw [gn_0] at t
          rw [q_Ra_isFinalist, t]
          simp only [Option.bind_some, gd_kI_i]
          cases lHs (fN (gLa s) (lLi n s a P).2 (gFi n s) (gMo n s) (lLi n s a P).1).2.2 ((lLi n s a P).2 i) (fN (gLa s) (lLi n s a P).2 (gFi n s) (gMo n s) (lLi n s a P).1).2.1 <;> rfl
        · obtain ⟨m3, K3, b2, b3, b4, b5⟩ := hMk2 m1 K S H
          have t := c_place_129 (F := (fN (gLa s) (lLi n s a P).2 (gFi n s) (gMo n s) (lLi n s a P).1).2.2) (x1 := Int32.ofNat a) (x3 := z) (x4 := 1) K3 b4.1 (by omega) (fun j hj => ⟨b4.2.2 j hj, h40 j hj⟩) hLi (show i < 40 by omega) (b3.2 i hi).1 (fN (gLa s) (lLi n s a P).2 (gFi n s) (gMo n s) (lLi n s a P).1).2.1 0 (by omega) rfl
          exact ⟨m3, by rw [b5, if_neg z0, if_neg z1, if_neg z2, if_pos z3]; exact t, b2⟩
      refine gPr_of R (v := -1) (s' := s) ⟨m2, by rw [hXk, if_neg z0, if_neg z1, if_neg z2, if_neg z3], oL_X a2, C2⟩ (fun m1 K S H => ?_) I
      obtain ⟨m3, K3, b2, b3, b4, b5⟩ := hMk2 m1 K S H
      exact ⟨m3, by rw [b5, if_neg z0, if_neg z1, if_neg z2, if_neg z3], b2⟩
theorem P_finalist (R : gRel c d n p m s) (x y : Int32) : gPr 176 177 [.int x, .int y] m := by
  obtain ⟨K, I, C, S, H⟩ := id R
  obtain ⟨P, -, hP2, hP⟩ := iAll_ppl I
  have hc := gK_c1 K
  cases h : gIs 5 x with
  | false =>
    have o1 : oL m (wI (wI m 20 6 0) 20 7 0) := oL_w (oL_w oL_refl (by decide)) (by decide)
    have K1 : gK c d n p (wI (wI m 20 6 0) 20 7 0) := K
    have C1 := oL_C hc o1 C
    obtain ⟨m4, d1, d2, d3, d4, d5⟩ := c_callFinal (L := fun _ => 0) (len := 0) K1 C1 I (by decide) (by rw [gI_wI_k (by decide), gI_wI_s]; rfl) (fun j hj => absurd hj (Nat.not_lt_zero j)) (fun j hj => absurd hj (Nat.not_lt_zero j))
    have K4 := gK_o K1 d2.1
    have d7 : gI m4 20 7 = 0 := d5.1
    refine gPr_of R (v := -1) (s' := s) ⟨m4, ?_, oL_X (oL_tr o1 d2), oL_C hc d2 C1⟩ (fun m1 K S H => ⟨m1, ?_, oM_refl, S, H⟩) I
    · rw [q_X_finalist]
      simp only [gK_N K, gK_8_0 K, gK_8_1 K, gK_8_2 K, gK_8_3 K, gK_8_4 K, gK_8_5 K, gK_8_6 K, gK_8_7 K, gK_8_8 K, gK_10_0 K, gK_10_1 K, gK_10_2 K, gK_11_0 K, gK_15_0 K, gK_15_1 K, gK_15_2 K, gK_15_3 K, gK_20_0 K, gK_20_1 K, gK_20_2 K, gK_20_3 K, gK_20_4 K, gK_20_5 K, gK_698_0 K, gK_698_3 K, gK_698_16 K, gK_698_17 K, gK_698_20 K, gK_698_21 K, gK_698_22 K, gK_698_23 K, gK_698_24 K, gK_698_25 K, gK_698_26 K, gK_698_27 K, gK_698_28 K, gK_698_29 K, gK_698_30 K, gK_698_31 K, gK_698_32 K, gK_698_33 K, gK_698_34 K, gK_698_35 K, gK_698_36 K, gK_698_37 K, gK_698_38 K, gK_698_39 K, gK_698_41 K, gK_698_42 K, gK_698_44 K, gK_c K, gK_d K, gK_n K, gK_p K, gok_8, gok_10, gok_11, gok_15, gok_20, gok_698, gok_699, goA_9, goA_12, goA_13, goA_14, goA_16, goA_17, goA_18, goA_19, goA_21, goA_22, goA_23, goA_24, goA_25, goA_26, goA_27, goA_28, goA_29, goA_30, goA_31, goA_732, goA_733, goA_734, goA_735, goA_736, goA_737, goA_738, goA_739, goA_740, goA_741, goA_742, goA_743, goA_744, goA_745, goA_746, goA_747, goA_748, goA_749, goA_750, goA_751, goA_752, goA_753, goA_754, goA_755, goA_756, goA_757, gN_wI, gR_wI, gL_wI, if_true, eq_self]
      rw [c_rank_no K h]
      simp only [gK_N K1, gK_8_0 K1, gK_8_1 K1, gK_8_2 K1, gK_8_3 K1, gK_8_4 K1, gK_8_5 K1, gK_8_6 K1, gK_8_7 K1, gK_8_8 K1, gK_10_0 K1, gK_10_1 K1, gK_10_2 K1, gK_11_0 K1, gK_15_0 K1, gK_15_1 K1, gK_15_2 K1, gK_15_3 K1, gK_20_0 K1, gK_20_1 K1, gK_20_2 K1, gK_20_3 K1, gK_20_4 K1, gK_20_5 K1, gK_698_0 K1, gK_698_3 K1, gK_698_16 K1, gK_698_17 K1, gK_698_20 K1, gK_698_21 K1, gK_698_22 K1, gK_698_23 K1, gK_698_24 K1, gK_698_25 K1, gK_698_26 K1, gK_698_27 K1, gK_698_28 K1, gK_698_29 K1, gK_698_30 K1, gK_698_31 K1, gK_698_32 K1, gK_698_33 K1, gK_698_34 K1, gK_698_35 K1, gK_698_36 K1, gK_698_37 K1, gK_698_38 K1, gK_698_39 K1, gK_698_41 K1, gK_698_42 K1, gK_698_44 K1, gK_c K1, gK_d K1, gK_n K1, gK_p K1, gok_8, gok_10, gok_11, gok_15, gok_20, gok_698, gok_699, goA_9, goA_12, goA_13, goA_14, goA_16, goA_17, goA_18, goA_19, goA_21, goA_22, goA_23, goA_24, goA_25, goA_26, goA_27, goA_28, goA_29, goA_30, goA_31, goA_732, goA_733, goA_734, goA_735, goA_736, goA_737, goA_738, goA_739, goA_740, goA_741, goA_742, goA_743, goA_744, goA_745, goA_746, goA_747, goA_748, goA_749, goA_750, goA_751, goA_752, goA_753, goA_754, goA_755, goA_756, goA_757, gN_wI, gR_wI, gL_wI, if_true, eq_self, Option.bind_some, gd_kV_v]
      rw [d1]
      simp only [gK_N K4, gK_8_0 K4, gK_8_1 K4, gK_8_2 K4, gK_8_3 K4, gK_8_4 K4, gK_8_5 K4, gK_8_6 K4, gK_8_7 K4, gK_8_8 K4, gK_10_0 K4, gK_10_1 K4, gK_10_2 K4, gK_11_0 K4, gK_15_0 K4, gK_15_1 K4, gK_15_2 K4, gK_15_3 K4, gK_20_0 K4, gK_20_1 K4, gK_20_2 K4, gK_20_3 K4, gK_20_4 K4, gK_20_5 K4, gK_698_0 K4, gK_698_3 K4, gK_698_16 K4, gK_698_17 K4, gK_698_20 K4, gK_698_21 K4, gK_698_22 K4, gK_698_23 K4, gK_698_24 K4, gK_698_25 K4, gK_698_26 K4, gK_698_27 K4, gK_698_28 K4, gK_698_29 K4, gK_698_30 K4, gK_698_31 K4, gK_698_32 K4, gK_698_33 K4, gK_698_34 K4, gK_698_35 K4, gK_698_36 K4, gK_698_37 K4, gK_698_38 K4, gK_698_39 K4, gK_698_41 K4, gK_698_42 K4, gK_698_44 K4, gK_c K4, gK_d K4, gK_n K4, gK_p K4, gok_8, gok_10, gok_11, gok_15, gok_20, gok_698, gok_699, goA_9, goA_12, goA_13, goA_14, goA_16, goA_17, goA_18, goA_19, goA_21, goA_22, goA_23, goA_24, goA_25, goA_26, goA_27, goA_28, goA_29, goA_30, goA_31, goA_732, goA_733, goA_734, goA_735, goA_736, goA_737, goA_738, goA_739, goA_740, goA_741, goA_742, goA_743, goA_744, goA_745, goA_746, goA_747, goA_748, goA_749, goA_750, goA_751, goA_752, goA_753, goA_754, goA_755, goA_756, goA_757, gN_wI, gR_wI, gL_wI, if_true, eq_self, Option.bind_some, gd_kV_v]
      by_cases q : y < 0
      · rw [if_pos q]
      · rw [if_neg q, d7, if_neg q]
    · rw [q_Mo_finalist, c_in4, h]; rfl
  | true =>
    obtain ⟨a, ha, rfl⟩ := gIs_t (by decide) h
    have hlt := lLi_lt (n := n) (s := s) (a := a) P
    have hL40 : ∀ j < (lLi n s a P).1, (lLi n s a P).2 j < 40 := fun j hj => by have := hlt.2 j hj; omega
    obtain ⟨m2, a1, a2, a3⟩ := c_rank K C I hP hP2 ha
    have K2 := gK_o K a2.1
    have C2 := oL_C hc a2 C
    obtain ⟨m4, d1, d2, d3, d4, d5⟩ := c_callFinal K2 C2 I (show (lLi n s a P).1 ≤ 40 by omega) a3.1 (fun j hj => (a3.2 j hj).1) hL40
    have K4 := gK_o K2 d2.1
    have hb := fN_b (la := gLa s) (L := (lLi n s a P).2) (most := gFi n s) (mol := gMo n s) (lLi n s a P).1
    have hfi := (gFi_e I).2
    obtain ⟨nf, hnf⟩ : ∃ q, (fN (gLa s) (lLi n s a P).2 (gFi n s) (gMo n s) (lLi n s a P).1).2.1 = q := ⟨_, rfl⟩
    have hnf10 : nf ≤ 10 := by omega
    have d7 : gI m4 20 7 = Int32.ofNat nf := by rw [d5.1, hnf]
    have d8 : ∀ j < nf, gI m4 25 j = Int32.ofNat ((fN (gLa s) (lLi n s a P).2 (gFi n s) (gMo n s) (lLi n s a P).1).2.2 j) := fun j hj => d5.2.2 j (by rw [hnf]; exact hj)
    refine gPr_of R (v := if gIs nf y = true then Int32.ofNat ((fN (gLa s) (lLi n s a P).2 (gFi n s) (gMo n s) (lLi n s a P).1).2.2 (gn y)) else -1) (s' := s) ⟨m4, ?_, oL_X (oL_tr a2 d2), oL_C hc d2 C2⟩ (fun m1 K S H => ?_) I
    · rw [q_X_finalist]
      simp only [gK_N K, gK_8_0 K, gK_8_1 K, gK_8_2 K, gK_8_3 K, gK_8_4 K, gK_8_5 K, gK_8_6 K, gK_8_7 K, gK_8_8 K, gK_10_0 K, gK_10_1 K, gK_10_2 K, gK_11_0 K, gK_15_0 K, gK_15_1 K, gK_15_2 K, gK_15_3 K, gK_20_0 K, gK_20_1 K, gK_20_2 K, gK_20_3 K, gK_20_4 K, gK_20_5 K, gK_698_0 K, gK_698_3 K, gK_698_16 K, gK_698_17 K, gK_698_20 K, gK_698_21 K, gK_698_22 K, gK_698_23 K, gK_698_24 K, gK_698_25 K, gK_698_26 K, gK_698_27 K, gK_698_28 K, gK_698_29 K, gK_698_30 K, gK_698_31 K, gK_698_32 K, gK_698_33 K, gK_698_34 K, gK_698_35 K, gK_698_36 K, gK_698_37 K, gK_698_38 K, gK_698_39 K, gK_698_41 K, gK_698_42 K, gK_698_44 K, gK_c K, gK_d K, gK_n K, gK_p K, gok_8, gok_10, gok_11, gok_15, gok_20, gok_698, gok_699, goA_9, goA_12, goA_13, goA_14, goA_16, goA_17, goA_18, goA_19, goA_21, goA_22, goA_23, goA_24, goA_25, goA_26, goA_27, goA_28, goA_29, goA_30, goA_31, goA_732, goA_733, goA_734, goA_735, goA_736, goA_737, goA_738, goA_739, goA_740, goA_741, goA_742, goA_743, goA_744, goA_745, goA_746, goA_747, goA_748, goA_749, goA_750, goA_751, goA_752, goA_753, goA_754, goA_755, goA_756, goA_757, gN_wI, gR_wI, gL_wI, if_true, eq_self]
      rw [a1]
      simp only [gK_N K2, gK_8_0 K2, gK_8_1 K2, gK_8_2 K2, gK_8_3 K2, gK_8_4 K2, gK_8_5 K2, gK_8_6 K2, gK_8_7 K2, gK_8_8 K2, gK_10_0 K2, gK_10_1 K2, gK_10_2 K2, gK_11_0 K2, gK_15_0 K2, gK_15_1 K2, gK_15_2 K2, gK_15_3 K2, gK_20_0 K2, gK_20_1 K2, gK_20_2 K2, gK_20_3 K2, gK_20_4 K2, gK_20_5 K2, gK_698_0 K2, gK_698_3 K2, gK_698_16 K2, gK_698_17 K2, gK_698_20 K2, gK_698_21 K2, gK_698_22 K2, gK_698_23 K2, gK_698_24 K2, gK_698_25 K2, gK_698_26 K2, gK_698_27 K2, gK_698_28 K2, gK_698_29 K2, gK_698_30 K2, gK_698_31 K2, gK_698_32 K2, gK_698_33 K2, gK_698_34 K2, gK_698_35 K2, gK_698_36 K2, gK_698_37 K2, gK_698_38 K2, gK_698_39 K2, gK_698_41 K2, gK_698_42 K2, gK_698_44 K2, gK_c K2, gK_d K2, gK_n K2, gK_p K2, gok_8, gok_10, gok_11, gok_15, gok_20, gok_698, gok_699, goA_9, goA_12, goA_13, goA_14, goA_16, goA_17, goA_18, goA_19, goA_21, goA_22, goA_23, goA_24, goA_25, goA_26, goA_27, goA_28, goA_29, goA_30, goA_31, goA_732, goA_733, goA_734, goA_735, goA_736, goA_737, goA_738, goA_739, goA_740, goA_741, goA_742, goA_743, goA_744, goA_745, goA_746, goA_747, goA_748, goA_749, goA_750, goA_751, goA_752, goA_753, goA_754, goA_755, goA_756, goA_757, gN_wI, gR_wI, gL_wI, if_true, eq_self, Option.bind_some, gd_kV_v]
      rw [d1]
      simp only [gK_N K4, gK_8_0 K4, gK_8_1 K4, gK_8_2 K4, gK_8_3 K4, gK_8_4 K4, gK_8_5 K4, gK_8_6 K4, gK_8_7 K4, gK_8_8 K4, gK_10_0 K4, gK_10_1 K4, gK_10_2 K4, gK_11_0 K4, gK_15_0 K4, gK_15_1 K4, gK_15_2 K4, gK_15_3 K4, gK_20_0 K4, gK_20_1 K4, gK_20_2 K4, gK_20_3 K4, gK_20_4 K4, gK_20_5 K4, gK_698_0 K4, gK_698_3 K4, gK_698_16 K4, gK_698_17 K4, gK_698_20 K4, gK_698_21 K4, gK_698_22 K4, gK_698_23 K4, gK_698_24 K4, gK_698_25 K4, gK_698_26 K4, gK_698_27 K4, gK_698_28 K4, gK_698_29 K4, gK_698_30 K4, gK_698_31 K4, gK_698_32 K4, gK_698_33 K4, gK_698_34 K4, gK_698_35 K4, gK_698_36 K4, gK_698_37 K4, gK_698_38 K4, gK_698_39 K4, gK_698_41 K4, gK_698_42 K4, gK_698_44 K4, gK_c K4, gK_d K4, gK_n K4, gK_p K4, gok_8, gok_10, gok_11, gok_15, gok_20, gok_698, gok_699, goA_9, goA_12, goA_13, goA_14, goA_16, goA_17, goA_18, goA_19, goA_21, goA_22, goA_23, goA_24, goA_25, goA_26, goA_27, goA_28, goA_29, goA_30, goA_31, goA_732, goA_733, goA_734, goA_735, goA_736, goA_737, goA_738, goA_739, goA_740, goA_741, goA_742, goA_743, goA_744, goA_745, goA_746, goA_747, goA_748, goA_749, goA_750, goA_751, goA_752, goA_753, goA_754, goA_755, goA_756, goA_757, gN_wI, gR_wI, gL_wI, if_true, eq_self, Option.bind_some, gd_kV_v]
      rw [d7]
      by_cases q : y < 0
      · rw [if_pos q, show gIs nf y = false by unfold gIs; rw [decide_eq_true q]; rfl]; rfl
      · rw [if_neg q]
        by_cases q2 : y < Int32.ofNat nf
        · have h3 : gIs nf y = true := by unfold gIs; rw [decide_eq_false q, decide_eq_true q2]; rfl
          obtain ⟨i, hi, rfl⟩ := gIs_t (by omega) h3
          rw [if_pos q2, h3, if_pos rfl, gn_in (by omega) (show i < 10 by omega), if_pos rfl, gn_nat (by omega), d8 i hi, gn_of (by omega)]
        · rw [if_neg q2, show gIs nf y = false by unfold gIs; rw [decide_eq_false q2, Bool.and_false]]; rfl
    · obtain ⟨m3, b1, b2, b3, b4⟩ := c_makeFinal K S H I hP hP2 ha
      have K3 := gK_o K b2.1.1
      have e7 : gI m3 698 43 = Int32.ofNat nf := by rw [b4.1, hnf]
      have e8 : ∀ j < nf, gI m3 756 j = Int32.ofNat ((fN (gLa s) (lLi n s a P).2 (gFi n s) (gMo n s) (lLi n s a P).1).2.2 j) := fun j hj => b4.2.2 j (by rw [hnf]; exact hj)
      refine ⟨m3, ?_, b2⟩
      rw [q_Mo_finalist, c_in4, h]
      simp only [Option.bind_some, gd_k0I_i, gB_t, gK_N K, gok_698, if_true]
      rw [if_neg (by decide), b1]
      simp only [gK_N K3, gK_8_0 K3, gK_8_1 K3, gK_8_2 K3, gK_8_3 K3, gK_8_4 K3, gK_8_5 K3, gK_8_6 K3, gK_8_7 K3, gK_8_8 K3, gK_10_0 K3, gK_10_1 K3, gK_10_2 K3, gK_11_0 K3, gK_15_0 K3, gK_15_1 K3, gK_15_2 K3, gK_15_3 K3, gK_20_0 K3, gK_20_1 K3, gK_20_2 K3, gK_20_3 K3, gK_20_4 K3, gK_20_5 K3, gK_698_0 K3, gK_698_3 K3, gK_698_16 K3, gK_698_17 K3, gK_698_20 K3, gK_698_21 K3, gK_698_22 K3, gK_698_23 K3, gK_698_24 K3, gK_698_25 K3, gK_698_26 K3, gK_698_27 K3, gK_698_28 K3, gK_698_29 K3, gK_698_30 K3, gK_698_31 K3, gK_698_32 K3, gK_698_33 K3, gK_698_34 K3, gK_698_35 K3, gK_698_36 K3, gK_698_37 K3, gK_698_38 K3, gK_698_39 K3, gK_698_41 K3, gK_698_42 K3, gK_698_44 K3, gK_c K3, gK_d K3, gK_n K3, gK_p K3, gok_8, gok_10, gok_11, gok_15, gok_20, gok_698, gok_699, goA_9, goA_12, goA_13, goA_14, goA_16, goA_17, goA_18, goA_19, goA_21, goA_22, goA_23, goA_24, goA_25, goA_26, goA_27, goA_28, goA_29, goA_30, goA_31, goA_732, goA_733, goA_734, goA_735, goA_736, goA_737, goA_738, goA_739, goA_740, goA_741, goA_742, goA_743, goA_744, goA_745, goA_746, goA_747, goA_748, goA_749, goA_750, goA_751, goA_752, goA_753, goA_754, goA_755, goA_756, goA_757, gN_wI, gR_wI, gL_wI, if_true, eq_self, Option.bind_some, gd_kV_v]
      rw [e7, c_in (by omega)]
      simp only [gK_N K3, gK_8_0 K3, gK_8_1 K3, gK_8_2 K3, gK_8_3 K3, gK_8_4 K3, gK_8_5 K3, gK_8_6 K3, gK_8_7 K3, gK_8_8 K3, gK_10_0 K3, gK_10_1 K3, gK_10_2 K3, gK_11_0 K3, gK_15_0 K3, gK_15_1 K3, gK_15_2 K3, gK_15_3 K3, gK_20_0 K3, gK_20_1 K3, gK_20_2 K3, gK_20_3 K3, gK_20_4 K3, gK_20_5 K3, gK_698_0 K3, gK_698_3 K3, gK_698_16 K3, gK_698_17 K3, gK_698_20 K3, gK_698_21 K3, gK_698_22 K3, gK_698_23 K3, gK_698_24 K3, gK_698_25 K3, gK_698_26 K3, gK_698_27 K3, gK_698_28 K3, gK_698_29 K3, gK_698_30 K3, gK_698_31 K3, gK_698_32 K3, gK_698_33 K3, gK_698_34 K3, gK_698_35 K3, gK_698_36 K3, gK_698_37 K3, gK_698_38 K3, gK_698_39 K3, gK_698_41 K3, gK_698_42 K3, gK_698_44 K3, gK_c K3, gK_d K3, gK_n K3, gK_p K3, gok_8, gok_10, gok_11, gok_15, gok_20, gok_698, gok_699, goA_9, goA_12, goA_13, goA_14, goA_16, goA_17, goA_18, goA_19, goA_21, goA_22, goA_23, goA_24, goA_25, goA_26, goA_27, goA_28, goA_29, goA_30, goA_31, goA_732, goA_733, goA_734, goA_735, goA_736, goA_737, goA_738, goA_739, goA_740, goA_741, goA_742, goA_743, goA_744, goA_745, goA_746, goA_747, goA_748, goA_749, goA_750, goA_751, goA_752, goA_753, goA_754, goA_755, goA_756, goA_757, gN_wI, gR_wI, gL_wI, if_true, eq_self, Option.bind_some, gd_k0I_i, gB_0]
      cases h3 : gIs nf y with
      | false => rfl
      | true =>
        obtain ⟨i, hi, rfl⟩ := gIs_t (by omega) h3
        rw [if_neg (by decide), gn_in (by omega) (show i < 10 by omega), if_pos rfl, gn_nat (by omega), e8 i hi, if_pos rfl, gn_of (by omega)]
end P88
