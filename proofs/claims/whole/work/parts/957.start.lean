/-! ===== reading: a code's start ===== -/
/-- as at first -/
def iniA (A : gd_C) : Prop := A 0 0 = 0 ∧ A 0 1 = 0 ∧ A 0 2 = 0 ∧ (∀ g < 5, A 13 g = 0 ∧ A 14 g = 0 ∧ A 15 g = -1) ∧ A 0 18 = 8 ∧ A 0 19 = 0 ∧ A 0 20 = 0 ∧ A 0 21 = 4 ∧ A 0 22 = 3 ∧ A 0 23 = 4 ∧ A 0 24 = 3 ∧ A 0 25 = 8 ∧ A 0 26 = 2
def iniX (d : Nat) (J : gd_C) : Prop := J d 12 = 0 ∧ J d 13 = 0 ∧ J d 14 = 0 ∧ (∀ g < 5, J (d + 9) g = 0 ∧ J (d + 10) g = 0 ∧ J (d + 11) g = -1) ∧ J (d + 12) 3 = 4 ∧ J (d + 12) 4 = 3 ∧ J (d + 12) 5 = 8 ∧ J (d + 12) 6 = 0 ∧ J (d + 12) 7 = 0 ∧ J (d + 12) 8 = 4 ∧ J (d + 12) 9 = 3 ∧ J (d + 12) 10 = 8 ∧ J (d + 12) 11 = 2
theorem isN_k {lo hi : Nat} (k : Nat) (h1 : lo ≤ k) (h2 : k ≤ hi) : isN (Int32.ofNat k) lo hi := ⟨k, h1, h2, rfl⟩
theorem iCd_ini {A : gd_C} (h : iniA A) : iCd A := by
  obtain ⟨h0, h1, h2, hg, h18, h19, h20, h21, h22, h23, h24, h25, h26⟩ := h
  unfold iCd
  rw [h0, h1, h2, h18, h19, h20, h21, h22, h23, h24, h25, h26]
  have n0 : ∀ i, ¬ i < gn 0 := fun i => Nat.not_lt_zero i
  exact ⟨isN_k 0 (by decide) (by decide), isN_k 0 (by decide) (by decide), isN_k 0 (by decide) (by decide), fun i hi => absurd hi (n0 i), fun i hi => absurd hi (n0 i), fun i hi => absurd hi (n0 i), fun i hi => absurd hi (n0 i), fun i hi => absurd hi (n0 i), fun i hi => absurd hi (n0 i), fun g hg' => by rw [(hg g hg').1]; exact isN_k 0 (by decide) (by decide), fun g hg' => by rw [(hg g hg').2.1]; exact isN_k 0 (by decide) (by decide), fun g hg' => .inl (hg g hg').2.2, isN_k 8 (by decide) (by decide), isN_k 0 (by decide) (by decide), isN_k 0 (by decide) (by decide), isN_k 4 (by decide) (by decide), isN_k 3 (by decide) (by decide), isN_k 4 (by decide) (by decide), isN_k 3 (by decide) (by decide), isN_k 8 (by decide) (by decide), isN_k 2 (by decide) (by decide)⟩
theorem cCd_ini {A J : gd_C} {d : Nat} (hX : iniX d J) (h : iniA A) : cCd d J A := by
  obtain ⟨h0, h1, h2, hg, h18, h19, h20, h21, h22, h23, h24, h25, h26⟩ := h
  obtain ⟨x0, x1, x2, xg, x3, x4, x5, x6, x7, x8, x9, x10, x11⟩ := hX
  unfold cCd
  rw [h0, h1, h2, h18, h19, h20, h21, h22, h23, h24, h25, h26, x0, x1, x2, x3, x4, x5, x6, x7, x8, x9, x10, x11]
  have n0 : ∀ i, ¬ i < gn 0 := fun i => Nat.not_lt_zero i
  exact ⟨rfl, rfl, rfl, fun i hi => absurd hi (n0 i), fun i hi => absurd hi (n0 i), fun i hi => absurd hi (n0 i), fun i hi => absurd hi (n0 i), fun i hi => absurd hi (n0 i), fun i hi => absurd hi (n0 i), fun i hi => absurd hi (n0 i), fun i hi => absurd hi (n0 i), fun g hg' => by rw [(hg g hg').1, (xg g hg').1], fun g hg' => by rw [(hg g hg').2.1, (xg g hg').2.1], fun g hg' => by rw [(hg g hg').2.2, (xg g hg').2.2], rfl, rfl, rfl, rfl, rfl, rfl, rfl, rfl, rfl⟩
theorem if_rng {i g : Nat} {x y : Int32} : (if i + 1 ≤ g ∧ g < 5 then x else if g = i then x else y) = if i ≤ g ∧ (g < 5 ∨ g = i) then x else y := by
  by_cases h1 : i + 1 ≤ g ∧ g < 5
  · rw [if_pos h1, if_pos (by omega)]
  · rw [if_neg h1]
    by_cases h2 : g = i
    · rw [if_pos h2, if_pos (by omega)]
    · rw [if_neg h2, if_neg (by omega)]
section P957
variable {c d cc dd n p : Nat} {t : Nat → Int32} {T s e k N : Nat} {m m0 m1 mX mM mX' mM' : gd_M}
theorem c_clear_17 : ∀ j i (m : gd_M), i + j = 5 → gK c d n p m → ∃ m', gd_Den (11, 17, [.ref d, .int (Int32.ofNat i)], [], m) = some (.null, m') ∧ m'.2 = m.2 ∧ (∀ a, a ≠ d + 9 → a ≠ d + 10 → a ≠ d + 11 → a ≠ d + 12 → gI m' a = gI m a) ∧ (∀ g, i ≤ g → g < 5 → gI m' (d + 9) g = 0 ∧ gI m' (d + 10) g = 0 ∧ gI m' (d + 11) g = -1) ∧ (∀ g, g < i → gI m' (d + 9) g = gI m (d + 9) g ∧ gI m' (d + 10) g = gI m (d + 10) g ∧ gI m' (d + 11) g = gI m (d + 11) g) ∧ gI m' (d + 12) 3 = 4 ∧ gI m' (d + 12) 4 = 3 ∧ gI m' (d + 12) 5 = 8 ∧ gI m' (d + 12) 6 = 0 ∧ gI m' (d + 12) 7 = 0 ∧ gI m' (d + 12) 8 = 4 ∧ gI m' (d + 12) 9 = 3 ∧ gI m' (d + 12) 10 = 8 ∧ gI m' (d + 12) 11 = 2 := by
  intro j
  induction j with
  | zero =>
    intro i m h K
    have : i = 5 := by omega
    subst this
    rw [q_Co_clear_17, if_neg (show ¬ Int32.ofNat 5 < 5 by decide)]
    simp only [gK_N K, gK_8_0 K, gK_8_1 K, gK_8_2 K, gK_8_3 K, gK_8_4 K, gK_8_5 K, gK_8_6 K, gK_8_7 K, gK_8_8 K, gK_10_0 K, gK_10_1 K, gK_10_2 K, gK_11_0 K, gK_15_0 K, gK_15_1 K, gK_15_2 K, gK_15_3 K, gK_20_0 K, gK_20_1 K, gK_20_2 K, gK_20_3 K, gK_20_4 K, gK_20_5 K, gK_698_0 K, gK_698_3 K, gK_698_16 K, gK_698_17 K, gK_698_20 K, gK_698_21 K, gK_698_22 K, gK_698_23 K, gK_698_24 K, gK_698_25 K, gK_698_26 K, gK_698_27 K, gK_698_28 K, gK_698_29 K, gK_698_30 K, gK_698_31 K, gK_698_32 K, gK_698_33 K, gK_698_34 K, gK_698_35 K, gK_698_36 K, gK_698_37 K, gK_698_38 K, gK_698_39 K, gK_698_41 K, gK_698_42 K, gK_698_44 K, gK_c K, gK_d K, gK_n K, gK_p K, gok_8, gok_10, gok_11, gok_15, gok_20, gok_698, gok_699, goA_9, goA_12, goA_13, goA_14, goA_16, goA_17, goA_18, goA_19, goA_21, goA_22, goA_23, goA_24, goA_25, goA_26, goA_27, goA_28, goA_29, goA_30, goA_31, goA_732, goA_733, goA_734, goA_735, goA_736, goA_737, goA_738, goA_739, goA_740, goA_741, goA_742, goA_743, goA_744, goA_745, goA_746, goA_747, goA_748, goA_749, goA_750, goA_751, goA_752, goA_753, goA_754, goA_755, goA_756, goA_757, gN_wI, gR_wI, gL_wI, if_true, eq_self, gok_c K, gok_d K, gok_n K, gok_p K, gK_c_0 K, gK_c_1 K, gK_c_2 K, gK_c_3 K, gK_c_4 K, gK_c_5 K, gK_c_6 K, gK_c_7 K, gK_c_8 K, gK_c_9 K, gK_c_10 K, gK_c_11 K, gK_n_3 K, gK_n_4 K, gK_n_5 K, gK_n_6 K, gK_n_7 K, gK_n_8 K, gK_n_9 K, gK_n_10 K, gK_n_11 K, gK_n_12 K, gK_n_13 K, gK_n_14 K, gK_n_15 K, gK_n_16 K, gK_n_17 K, goA_c1 K, goA_c2 K, goA_c3 K, goA_c4 K, goA_c5 K, goA_c6 K, goA_c7 K, goA_c8 K, goA_c9 K, goA_c10 K, goA_c11 K, goA_c12 K, goA_n1 K, goA_n2 K, goA_n3 K, goA_n4 K, goA_n5 K, goA_n6 K, goA_n7 K, goA_n8 K, goA_n9 K, goA_n10 K, goA_n11 K, goA_n12 K, goA_n13 K, goA_n14 K, goA_n15 K, gK_d_0 K, gK_d_1 K, gK_d_2 K, gK_d_3 K, gK_d_4 K, gK_d_5 K, gK_d_6 K, gK_d_7 K, gK_d_8 K, gK_d_9 K, gK_d_10 K, gK_d_11 K, gK_p_3 K, gK_p_4 K, gK_p_5 K, gK_p_6 K, gK_p_7 K, gK_p_8 K, gK_p_9 K, gK_p_10 K, gK_p_11 K, gK_p_12 K, gK_p_13 K, gK_p_14 K, gK_p_15 K, gK_p_16 K, gK_p_17 K, goA_d1 K, goA_d2 K, goA_d3 K, goA_d4 K, goA_d5 K, goA_d6 K, goA_d7 K, goA_d8 K, goA_d9 K, goA_d10 K, goA_d11 K, goA_d12 K, goA_p1 K, goA_p2 K, goA_p3 K, goA_p4 K, goA_p5 K, goA_p6 K, goA_p7 K, goA_p8 K, goA_p9 K, goA_p10 K, goA_p11 K, goA_p12 K, goA_p13 K, goA_p14 K, goA_p15 K, show gd_in 3 12 = true from by decide, show gd_in 4 12 = true from by decide, show gd_in 5 12 = true from by decide, show gd_in 6 12 = true from by decide, show gd_in 7 12 = true from by decide, show gd_in 8 12 = true from by decide, show gd_in 9 12 = true from by decide, show gd_in 10 12 = true from by decide, show gd_in 11 12 = true from by decide, show (3 : Int32).toNatClampNeg = 3 from rfl, show (4 : Int32).toNatClampNeg = 4 from rfl, show (5 : Int32).toNatClampNeg = 5 from rfl, show (6 : Int32).toNatClampNeg = 6 from rfl, show (7 : Int32).toNatClampNeg = 7 from rfl, show (8 : Int32).toNatClampNeg = 8 from rfl, show (9 : Int32).toNatClampNeg = 9 from rfl, show (10 : Int32).toNatClampNeg = 10 from rfl, show (11 : Int32).toNatClampNeg = 11 from rfl]
    refine ⟨_, rfl, rfl, fun a h1 h2 h3 h4 => ?_, fun g h1 h2 => by omega, fun g h1 => ⟨?_, ?_, ?_⟩, ?_, ?_, ?_, ?_, ?_, ?_, ?_, ?_, ?_⟩
    · rw [gI_wI_f h4, gI_wI_f h4, gI_wI_f h4, gI_wI_f h4, gI_wI_f h4, gI_wI_f h4, gI_wI_f h4, gI_wI_f h4, gI_wI_f h4]
    · rw [gI_wI_a (by omega), gI_wI_a (by omega), gI_wI_a (by omega), gI_wI_a (by omega), gI_wI_a (by omega), gI_wI_a (by omega), gI_wI_a (by omega), gI_wI_a (by omega), gI_wI_a (by omega)]
    · rw [gI_wI_a (by omega), gI_wI_a (by omega), gI_wI_a (by omega), gI_wI_a (by omega), gI_wI_a (by omega), gI_wI_a (by omega), gI_wI_a (by omega), gI_wI_a (by omega), gI_wI_a (by omega)]
    · rw [gI_wI_a (by omega), gI_wI_a (by omega), gI_wI_a (by omega), gI_wI_a (by omega), gI_wI_a (by omega), gI_wI_a (by omega), gI_wI_a (by omega), gI_wI_a (by omega), gI_wI_a (by omega)]
    · rw [gI_wI_k (by decide), gI_wI_k (by decide), gI_wI_k (by decide), gI_wI_k (by decide), gI_wI_k (by decide), gI_wI_k (by decide), gI_wI_k (by decide), gI_wI_k (by decide), gI_wI_s]
    · rw [gI_wI_k (by decide), gI_wI_k (by decide), gI_wI_k (by decide), gI_wI_k (by decide), gI_wI_k (by decide), gI_wI_k (by decide), gI_wI_k (by decide), gI_wI_s]
    · rw [gI_wI_k (by decide), gI_wI_k (by decide), gI_wI_k (by decide), gI_wI_k (by decide), gI_wI_k (by decide), gI_wI_k (by decide), gI_wI_s]
    · rw [gI_wI_k (by decide), gI_wI_k (by decide), gI_wI_k (by decide), gI_wI_k (by decide), gI_wI_k (by decide), gI_wI_s]
    · rw [gI_wI_k (by decide), gI_wI_k (by decide), gI_wI_k (by decide), gI_wI_k (by decide), gI_wI_s]
    · rw [gI_wI_k (by decide), gI_wI_k (by decide), gI_wI_k (by decide), gI_wI_s]
    · rw [gI_wI_k (by decide), gI_wI_k (by decide), gI_wI_s]
    · rw [gI_wI_k (by decide), gI_wI_s]
    · rw [gI_wI_s]
  | succ j ih =>
    intro i m h K
    have hd := gK_d1 K
    have i1 : gd_in (Int32.ofNat i) 5 = true := gn_in (by omega) (by omega)
    have n1 : (Int32.ofNat i).toNatClampNeg = i := gn_nat (by omega)
    rw [q_Co_clear_17, if_pos ((gnlb_5 (by omega) (by decide)).2 (by omega))]
    simp only [gK_N K, gK_8_0 K, gK_8_1 K, gK_8_2 K, gK_8_3 K, gK_8_4 K, gK_8_5 K, gK_8_6 K, gK_8_7 K, gK_8_8 K, gK_10_0 K, gK_10_1 K, gK_10_2 K, gK_11_0 K, gK_15_0 K, gK_15_1 K, gK_15_2 K, gK_15_3 K, gK_20_0 K, gK_20_1 K, gK_20_2 K, gK_20_3 K, gK_20_4 K, gK_20_5 K, gK_698_0 K, gK_698_3 K, gK_698_16 K, gK_698_17 K, gK_698_20 K, gK_698_21 K, gK_698_22 K, gK_698_23 K, gK_698_24 K, gK_698_25 K, gK_698_26 K, gK_698_27 K, gK_698_28 K, gK_698_29 K, gK_698_30 K, gK_698_31 K, gK_698_32 K, gK_698_33 K, gK_698_34 K, gK_698_35 K, gK_698_36 K, gK_698_37 K, gK_698_38 K, gK_698_39 K, gK_698_41 K, gK_698_42 K, gK_698_44 K, gK_c K, gK_d K, gK_n K, gK_p K, gok_8, gok_10, gok_11, gok_15, gok_20, gok_698, gok_699, goA_9, goA_12, goA_13, goA_14, goA_16, goA_17, goA_18, goA_19, goA_21, goA_22, goA_23, goA_24, goA_25, goA_26, goA_27, goA_28, goA_29, goA_30, goA_31, goA_732, goA_733, goA_734, goA_735, goA_736, goA_737, goA_738, goA_739, goA_740, goA_741, goA_742, goA_743, goA_744, goA_745, goA_746, goA_747, goA_748, goA_749, goA_750, goA_751, goA_752, goA_753, goA_754, goA_755, goA_756, goA_757, gN_wI, gR_wI, gL_wI, if_true, eq_self, gok_c K, gok_d K, gok_n K, gok_p K, gK_c_0 K, gK_c_1 K, gK_c_2 K, gK_c_3 K, gK_c_4 K, gK_c_5 K, gK_c_6 K, gK_c_7 K, gK_c_8 K, gK_c_9 K, gK_c_10 K, gK_c_11 K, gK_n_3 K, gK_n_4 K, gK_n_5 K, gK_n_6 K, gK_n_7 K, gK_n_8 K, gK_n_9 K, gK_n_10 K, gK_n_11 K, gK_n_12 K, gK_n_13 K, gK_n_14 K, gK_n_15 K, gK_n_16 K, gK_n_17 K, goA_c1 K, goA_c2 K, goA_c3 K, goA_c4 K, goA_c5 K, goA_c6 K, goA_c7 K, goA_c8 K, goA_c9 K, goA_c10 K, goA_c11 K, goA_c12 K, goA_n1 K, goA_n2 K, goA_n3 K, goA_n4 K, goA_n5 K, goA_n6 K, goA_n7 K, goA_n8 K, goA_n9 K, goA_n10 K, goA_n11 K, goA_n12 K, goA_n13 K, goA_n14 K, goA_n15 K, gK_d_0 K, gK_d_1 K, gK_d_2 K, gK_d_3 K, gK_d_4 K, gK_d_5 K, gK_d_6 K, gK_d_7 K, gK_d_8 K, gK_d_9 K, gK_d_10 K, gK_d_11 K, gK_p_3 K, gK_p_4 K, gK_p_5 K, gK_p_6 K, gK_p_7 K, gK_p_8 K, gK_p_9 K, gK_p_10 K, gK_p_11 K, gK_p_12 K, gK_p_13 K, gK_p_14 K, gK_p_15 K, gK_p_16 K, gK_p_17 K, goA_d1 K, goA_d2 K, goA_d3 K, goA_d4 K, goA_d5 K, goA_d6 K, goA_d7 K, goA_d8 K, goA_d9 K, goA_d10 K, goA_d11 K, goA_d12 K, goA_p1 K, goA_p2 K, goA_p3 K, goA_p4 K, goA_p5 K, goA_p6 K, goA_p7 K, goA_p8 K, goA_p9 K, goA_p10 K, goA_p11 K, goA_p12 K, goA_p13 K, goA_p14 K, goA_p15 K, i1, n1, gn_succ]
    obtain ⟨m', a1, a2, a3, a4, a5, a6⟩ := ih (i + 1) (wI (wI (wI m (d + 9) i 0) (d + 10) i 0) (d + 11) i (-1)) (by omega) K
    refine ⟨m', a1, a2, fun a h1 h2 h3 h4 => ?_, fun g h1 h2 => ?_, fun g h1 => ?_, a6⟩
    · rw [a3 a h1 h2 h3 h4, gI_wI_f h3, gI_wI_f h2, gI_wI_f h1]
    · by_cases e : g = i
      · obtain ⟨b1, b2, b3⟩ := a5 g (by omega)
        rw [b1, b2, b3, e]
        refine ⟨?_, ?_, gI_wI_s⟩
        · rw [gI_wI_a (by omega), gI_wI_a (by omega), gI_wI_s]
        · rw [gI_wI_a (by omega), gI_wI_s]
      · exact a4 g (by omega) h2
    · obtain ⟨b1, b2, b3⟩ := a5 g (by omega)
      rw [b1, b2, b3]
      refine ⟨?_, ?_, ?_⟩
      · rw [gI_wI_a (by omega), gI_wI_a (by omega), gI_wI_k (by omega)]
      · rw [gI_wI_a (by omega), gI_wI_k (by omega), gI_wI_a (by omega)]
      · rw [gI_wI_k (by omega), gI_wI_a (by omega), gI_wI_a (by omega)]
theorem c_clear (K : gK c d n p m) : ∃ m', gd_call 11 [.ref d] m = some (.null, m') ∧ m'.2 = m.2 ∧ (∀ a, (a < d ∨ d + 12 < a) → gI m' a = gI m a) ∧ iniX d (gI m') := by
  have hd := gK_d1 K
  obtain ⟨m', a1, a2, a3, a4, a5, a6⟩ := c_clear_17 (c := c) (d := d) (n := n) (p := p) 5 0 (wI (wI (wI m d 12 0) d 13 0) d 14 0) (by omega) K
  rw [gn_0] at a1
  have ed : gI m' d = gI (wI (wI (wI m d 12 0) d 13 0) d 14 0) d := a3 d (by omega) (by omega) (by omega) (by omega)
  refine ⟨m', ?_, a2, fun a ha => ?_, ?_, ?_, ?_, fun g hg => a4 g (Nat.zero_le g) hg, a6⟩
  · rw [q_Co_clear]
    simp only [gK_N K, gK_8_0 K, gK_8_1 K, gK_8_2 K, gK_8_3 K, gK_8_4 K, gK_8_5 K, gK_8_6 K, gK_8_7 K, gK_8_8 K, gK_10_0 K, gK_10_1 K, gK_10_2 K, gK_11_0 K, gK_15_0 K, gK_15_1 K, gK_15_2 K, gK_15_3 K, gK_20_0 K, gK_20_1 K, gK_20_2 K, gK_20_3 K, gK_20_4 K, gK_20_5 K, gK_698_0 K, gK_698_3 K, gK_698_16 K, gK_698_17 K, gK_698_20 K, gK_698_21 K, gK_698_22 K, gK_698_23 K, gK_698_24 K, gK_698_25 K, gK_698_26 K, gK_698_27 K, gK_698_28 K, gK_698_29 K, gK_698_30 K, gK_698_31 K, gK_698_32 K, gK_698_33 K, gK_698_34 K, gK_698_35 K, gK_698_36 K, gK_698_37 K, gK_698_38 K, gK_698_39 K, gK_698_41 K, gK_698_42 K, gK_698_44 K, gK_c K, gK_d K, gK_n K, gK_p K, gok_8, gok_10, gok_11, gok_15, gok_20, gok_698, gok_699, goA_9, goA_12, goA_13, goA_14, goA_16, goA_17, goA_18, goA_19, goA_21, goA_22, goA_23, goA_24, goA_25, goA_26, goA_27, goA_28, goA_29, goA_30, goA_31, goA_732, goA_733, goA_734, goA_735, goA_736, goA_737, goA_738, goA_739, goA_740, goA_741, goA_742, goA_743, goA_744, goA_745, goA_746, goA_747, goA_748, goA_749, goA_750, goA_751, goA_752, goA_753, goA_754, goA_755, goA_756, goA_757, gN_wI, gR_wI, gL_wI, if_true, eq_self, gok_c K, gok_d K, gok_n K, gok_p K, gK_c_0 K, gK_c_1 K, gK_c_2 K, gK_c_3 K, gK_c_4 K, gK_c_5 K, gK_c_6 K, gK_c_7 K, gK_c_8 K, gK_c_9 K, gK_c_10 K, gK_c_11 K, gK_n_3 K, gK_n_4 K, gK_n_5 K, gK_n_6 K, gK_n_7 K, gK_n_8 K, gK_n_9 K, gK_n_10 K, gK_n_11 K, gK_n_12 K, gK_n_13 K, gK_n_14 K, gK_n_15 K, gK_n_16 K, gK_n_17 K, goA_c1 K, goA_c2 K, goA_c3 K, goA_c4 K, goA_c5 K, goA_c6 K, goA_c7 K, goA_c8 K, goA_c9 K, goA_c10 K, goA_c11 K, goA_c12 K, goA_n1 K, goA_n2 K, goA_n3 K, goA_n4 K, goA_n5 K, goA_n6 K, goA_n7 K, goA_n8 K, goA_n9 K, goA_n10 K, goA_n11 K, goA_n12 K, goA_n13 K, goA_n14 K, goA_n15 K, gK_d_0 K, gK_d_1 K, gK_d_2 K, gK_d_3 K, gK_d_4 K, gK_d_5 K, gK_d_6 K, gK_d_7 K, gK_d_8 K, gK_d_9 K, gK_d_10 K, gK_d_11 K, gK_p_3 K, gK_p_4 K, gK_p_5 K, gK_p_6 K, gK_p_7 K, gK_p_8 K, gK_p_9 K, gK_p_10 K, gK_p_11 K, gK_p_12 K, gK_p_13 K, gK_p_14 K, gK_p_15 K, gK_p_16 K, gK_p_17 K, goA_d1 K, goA_d2 K, goA_d3 K, goA_d4 K, goA_d5 K, goA_d6 K, goA_d7 K, goA_d8 K, goA_d9 K, goA_d10 K, goA_d11 K, goA_d12 K, goA_p1 K, goA_p2 K, goA_p3 K, goA_p4 K, goA_p5 K, goA_p6 K, goA_p7 K, goA_p8 K, goA_p9 K, goA_p10 K, goA_p11 K, goA_p12 K, goA_p13 K, goA_p14 K, goA_p15 K]
    exact a1
  · rw [a3 a (by omega) (by omega) (by omega) (by omega), gI_wI_f (by omega), gI_wI_f (by omega), gI_wI_f (by omega)]
  · rw [ed, gI_wI_k (by decide), gI_wI_k (by decide), gI_wI_s]
  · rw [ed, gI_wI_k (by decide), gI_wI_s]
  · rw [ed, gI_wI_s]
theorem c_begin_17x : ∀ j i (m : gd_M), i + j = 5 → gK c d n p m → ∃ m', gd_Den (20, 17, [.ref p, .int (Int32.ofNat i)], [], m) = some (.null, m') ∧ m'.2 = m.2 ∧ (∀ a, a ≠ p → a ≠ p + 13 → a ≠ p + 14 → a ≠ p + 15 → gI m' a = gI m a) ∧ (∀ g, i ≤ g → g < 5 → gI m' (p + 13) g = 0 ∧ gI m' (p + 14) g = 0 ∧ gI m' (p + 15) g = -1) ∧ (∀ g, g < i → gI m' (p + 13) g = gI m (p + 13) g ∧ gI m' (p + 14) g = gI m (p + 14) g ∧ gI m' (p + 15) g = gI m (p + 15) g) ∧ (∀ q, q < 18 → gI m' p q = gI m p q) ∧ gI m' p 18 = 8 ∧ gI m' p 19 = 0 ∧ gI m' p 20 = 0 ∧ gI m' p 21 = 4 ∧ gI m' p 22 = 3 ∧ gI m' p 23 = 4 ∧ gI m' p 24 = 3 ∧ gI m' p 25 = 8 ∧ gI m' p 26 = 2 ∧ gI m' p 27 = 0 ∧ gI m' p 28 = 0 ∧ gI m' p 29 = 0 ∧ gI m' p 30 = 0 ∧ gI m' p 31 = 0 := by
  intro j
  induction j with
  | zero =>
    intro i m h K
    have : i = 5 := by omega
    subst this
    rw [q_MC_begin_17, if_neg (show ¬ Int32.ofNat 5 < 5 by decide)]
    simp only [gK_N K, gK_8_0 K, gK_8_1 K, gK_8_2 K, gK_8_3 K, gK_8_4 K, gK_8_5 K, gK_8_6 K, gK_8_7 K, gK_8_8 K, gK_10_0 K, gK_10_1 K, gK_10_2 K, gK_11_0 K, gK_15_0 K, gK_15_1 K, gK_15_2 K, gK_15_3 K, gK_20_0 K, gK_20_1 K, gK_20_2 K, gK_20_3 K, gK_20_4 K, gK_20_5 K, gK_698_0 K, gK_698_3 K, gK_698_16 K, gK_698_17 K, gK_698_20 K, gK_698_21 K, gK_698_22 K, gK_698_23 K, gK_698_24 K, gK_698_25 K, gK_698_26 K, gK_698_27 K, gK_698_28 K, gK_698_29 K, gK_698_30 K, gK_698_31 K, gK_698_32 K, gK_698_33 K, gK_698_34 K, gK_698_35 K, gK_698_36 K, gK_698_37 K, gK_698_38 K, gK_698_39 K, gK_698_41 K, gK_698_42 K, gK_698_44 K, gK_c K, gK_d K, gK_n K, gK_p K, gok_8, gok_10, gok_11, gok_15, gok_20, gok_698, gok_699, goA_9, goA_12, goA_13, goA_14, goA_16, goA_17, goA_18, goA_19, goA_21, goA_22, goA_23, goA_24, goA_25, goA_26, goA_27, goA_28, goA_29, goA_30, goA_31, goA_732, goA_733, goA_734, goA_735, goA_736, goA_737, goA_738, goA_739, goA_740, goA_741, goA_742, goA_743, goA_744, goA_745, goA_746, goA_747, goA_748, goA_749, goA_750, goA_751, goA_752, goA_753, goA_754, goA_755, goA_756, goA_757, gN_wI, gR_wI, gL_wI, if_true, eq_self, gok_c K, gok_d K, gok_n K, gok_p K, gK_c_0 K, gK_c_1 K, gK_c_2 K, gK_c_3 K, gK_c_4 K, gK_c_5 K, gK_c_6 K, gK_c_7 K, gK_c_8 K, gK_c_9 K, gK_c_10 K, gK_c_11 K, gK_n_3 K, gK_n_4 K, gK_n_5 K, gK_n_6 K, gK_n_7 K, gK_n_8 K, gK_n_9 K, gK_n_10 K, gK_n_11 K, gK_n_12 K, gK_n_13 K, gK_n_14 K, gK_n_15 K, gK_n_16 K, gK_n_17 K, goA_c1 K, goA_c2 K, goA_c3 K, goA_c4 K, goA_c5 K, goA_c6 K, goA_c7 K, goA_c8 K, goA_c9 K, goA_c10 K, goA_c11 K, goA_c12 K, goA_n1 K, goA_n2 K, goA_n3 K, goA_n4 K, goA_n5 K, goA_n6 K, goA_n7 K, goA_n8 K, goA_n9 K, goA_n10 K, goA_n11 K, goA_n12 K, goA_n13 K, goA_n14 K, goA_n15 K, gK_d_0 K, gK_d_1 K, gK_d_2 K, gK_d_3 K, gK_d_4 K, gK_d_5 K, gK_d_6 K, gK_d_7 K, gK_d_8 K, gK_d_9 K, gK_d_10 K, gK_d_11 K, gK_p_3 K, gK_p_4 K, gK_p_5 K, gK_p_6 K, gK_p_7 K, gK_p_8 K, gK_p_9 K, gK_p_10 K, gK_p_11 K, gK_p_12 K, gK_p_13 K, gK_p_14 K, gK_p_15 K, gK_p_16 K, gK_p_17 K, goA_d1 K, goA_d2 K, goA_d3 K, goA_d4 K, goA_d5 K, goA_d6 K, goA_d7 K, goA_d8 K, goA_d9 K, goA_d10 K, goA_d11 K, goA_d12 K, goA_p1 K, goA_p2 K, goA_p3 K, goA_p4 K, goA_p5 K, goA_p6 K, goA_p7 K, goA_p8 K, goA_p9 K, goA_p10 K, goA_p11 K, goA_p12 K, goA_p13 K, goA_p14 K, goA_p15 K]
    refine ⟨_, rfl, rfl, fun a h1 h2 h3 h4 => ?_, fun g h1 h2 => by omega, fun g h1 => ⟨?_, ?_, ?_⟩, fun q hq => ?_, ?_, ?_, ?_, ?_, ?_, ?_, ?_, ?_, ?_, ?_, ?_, ?_, ?_, ?_⟩
    · rw [gI_wI_f h1, gI_wI_f h1, gI_wI_f h1, gI_wI_f h1, gI_wI_f h1, gI_wI_f h1, gI_wI_f h1, gI_wI_f h1, gI_wI_f h1, gI_wI_f h1, gI_wI_f h1, gI_wI_f h1, gI_wI_f h1, gI_wI_f h1]
    · rw [gI_wI_a (by omega), gI_wI_a (by omega), gI_wI_a (by omega), gI_wI_a (by omega), gI_wI_a (by omega), gI_wI_a (by omega), gI_wI_a (by omega), gI_wI_a (by omega), gI_wI_a (by omega), gI_wI_a (by omega), gI_wI_a (by omega), gI_wI_a (by omega), gI_wI_a (by omega), gI_wI_a (by omega)]
    · rw [gI_wI_a (by omega), gI_wI_a (by omega), gI_wI_a (by omega), gI_wI_a (by omega), gI_wI_a (by omega), gI_wI_a (by omega), gI_wI_a (by omega), gI_wI_a (by omega), gI_wI_a (by omega), gI_wI_a (by omega), gI_wI_a (by omega), gI_wI_a (by omega), gI_wI_a (by omega), gI_wI_a (by omega)]
    · rw [gI_wI_a (by omega), gI_wI_a (by omega), gI_wI_a (by omega), gI_wI_a (by omega), gI_wI_a (by omega), gI_wI_a (by omega), gI_wI_a (by omega), gI_wI_a (by omega), gI_wI_a (by omega), gI_wI_a (by omega), gI_wI_a (by omega), gI_wI_a (by omega), gI_wI_a (by omega), gI_wI_a (by omega)]
    · rw [gI_wI_k (by omega), gI_wI_k (by omega), gI_wI_k (by omega), gI_wI_k (by omega), gI_wI_k (by omega), gI_wI_k (by omega), gI_wI_k (by omega), gI_wI_k (by omega), gI_wI_k (by omega), gI_wI_k (by omega), gI_wI_k (by omega), gI_wI_k (by omega), gI_wI_k (by omega), gI_wI_k (by omega)]
    · rw [gI_wI_k (by decide), gI_wI_k (by decide), gI_wI_k (by decide), gI_wI_k (by decide), gI_wI_k (by decide), gI_wI_k (by decide), gI_wI_k (by decide), gI_wI_k (by decide), gI_wI_k (by decide), gI_wI_k (by decide), gI_wI_k (by decide), gI_wI_k (by decide), gI_wI_k (by decide), gI_wI_s]
    · rw [gI_wI_k (by decide), gI_wI_k (by decide), gI_wI_k (by decide), gI_wI_k (by decide), gI_wI_k (by decide), gI_wI_k (by decide), gI_wI_k (by decide), gI_wI_k (by decide), gI_wI_k (by decide), gI_wI_k (by decide), gI_wI_k (by decide), gI_wI_k (by decide), gI_wI_s]
    · rw [gI_wI_k (by decide), gI_wI_k (by decide), gI_wI_k (by decide), gI_wI_k (by decide), gI_wI_k (by decide), gI_wI_k (by decide), gI_wI_k (by decide), gI_wI_k (by decide), gI_wI_k (by decide), gI_wI_k (by decide), gI_wI_k (by decide), gI_wI_s]
    · rw [gI_wI_k (by decide), gI_wI_k (by decide), gI_wI_k (by decide), gI_wI_k (by decide), gI_wI_k (by decide), gI_wI_k (by decide), gI_wI_k (by decide), gI_wI_k (by decide), gI_wI_k (by decide), gI_wI_k (by decide), gI_wI_s]
    · rw [gI_wI_k (by decide), gI_wI_k (by decide), gI_wI_k (by decide), gI_wI_k (by decide), gI_wI_k (by decide), gI_wI_k (by decide), gI_wI_k (by decide), gI_wI_k (by decide), gI_wI_k (by decide), gI_wI_s]
    · rw [gI_wI_k (by decide), gI_wI_k (by decide), gI_wI_k (by decide), gI_wI_k (by decide), gI_wI_k (by decide), gI_wI_k (by decide), gI_wI_k (by decide), gI_wI_k (by decide), gI_wI_s]
    · rw [gI_wI_k (by decide), gI_wI_k (by decide), gI_wI_k (by decide), gI_wI_k (by decide), gI_wI_k (by decide), gI_wI_k (by decide), gI_wI_k (by decide), gI_wI_s]
    · rw [gI_wI_k (by decide), gI_wI_k (by decide), gI_wI_k (by decide), gI_wI_k (by decide), gI_wI_k (by decide), gI_wI_k (by decide), gI_wI_s]
    · rw [gI_wI_k (by decide), gI_wI_k (by decide), gI_wI_k (by decide), gI_wI_k (by decide), gI_wI_k (by decide), gI_wI_s]
    · rw [gI_wI_k (by decide), gI_wI_k (by decide), gI_wI_k (by decide), gI_wI_k (by decide), gI_wI_s]
    · rw [gI_wI_k (by decide), gI_wI_k (by decide), gI_wI_k (by decide), gI_wI_s]
    · rw [gI_wI_k (by decide), gI_wI_k (by decide), gI_wI_s]
    · rw [gI_wI_k (by decide), gI_wI_s]
    · rw [gI_wI_s]
  | succ j ih =>
    intro i m h K
    have hp := gK_p1 K
    have i1 : gd_in (Int32.ofNat i) 5 = true := gn_in (by omega) (by omega)
    have n1 : (Int32.ofNat i).toNatClampNeg = i := gn_nat (by omega)
    rw [q_MC_begin_17, if_pos ((gnlb_5 (by omega) (by decide)).2 (by omega))]
    simp only [gK_N K, gK_8_0 K, gK_8_1 K, gK_8_2 K, gK_8_3 K, gK_8_4 K, gK_8_5 K, gK_8_6 K, gK_8_7 K, gK_8_8 K, gK_10_0 K, gK_10_1 K, gK_10_2 K, gK_11_0 K, gK_15_0 K, gK_15_1 K, gK_15_2 K, gK_15_3 K, gK_20_0 K, gK_20_1 K, gK_20_2 K, gK_20_3 K, gK_20_4 K, gK_20_5 K, gK_698_0 K, gK_698_3 K, gK_698_16 K, gK_698_17 K, gK_698_20 K, gK_698_21 K, gK_698_22 K, gK_698_23 K, gK_698_24 K, gK_698_25 K, gK_698_26 K, gK_698_27 K, gK_698_28 K, gK_698_29 K, gK_698_30 K, gK_698_31 K, gK_698_32 K, gK_698_33 K, gK_698_34 K, gK_698_35 K, gK_698_36 K, gK_698_37 K, gK_698_38 K, gK_698_39 K, gK_698_41 K, gK_698_42 K, gK_698_44 K, gK_c K, gK_d K, gK_n K, gK_p K, gok_8, gok_10, gok_11, gok_15, gok_20, gok_698, gok_699, goA_9, goA_12, goA_13, goA_14, goA_16, goA_17, goA_18, goA_19, goA_21, goA_22, goA_23, goA_24, goA_25, goA_26, goA_27, goA_28, goA_29, goA_30, goA_31, goA_732, goA_733, goA_734, goA_735, goA_736, goA_737, goA_738, goA_739, goA_740, goA_741, goA_742, goA_743, goA_744, goA_745, goA_746, goA_747, goA_748, goA_749, goA_750, goA_751, goA_752, goA_753, goA_754, goA_755, goA_756, goA_757, gN_wI, gR_wI, gL_wI, if_true, eq_self, gok_c K, gok_d K, gok_n K, gok_p K, gK_c_0 K, gK_c_1 K, gK_c_2 K, gK_c_3 K, gK_c_4 K, gK_c_5 K, gK_c_6 K, gK_c_7 K, gK_c_8 K, gK_c_9 K, gK_c_10 K, gK_c_11 K, gK_n_3 K, gK_n_4 K, gK_n_5 K, gK_n_6 K, gK_n_7 K, gK_n_8 K, gK_n_9 K, gK_n_10 K, gK_n_11 K, gK_n_12 K, gK_n_13 K, gK_n_14 K, gK_n_15 K, gK_n_16 K, gK_n_17 K, goA_c1 K, goA_c2 K, goA_c3 K, goA_c4 K, goA_c5 K, goA_c6 K, goA_c7 K, goA_c8 K, goA_c9 K, goA_c10 K, goA_c11 K, goA_c12 K, goA_n1 K, goA_n2 K, goA_n3 K, goA_n4 K, goA_n5 K, goA_n6 K, goA_n7 K, goA_n8 K, goA_n9 K, goA_n10 K, goA_n11 K, goA_n12 K, goA_n13 K, goA_n14 K, goA_n15 K, gK_d_0 K, gK_d_1 K, gK_d_2 K, gK_d_3 K, gK_d_4 K, gK_d_5 K, gK_d_6 K, gK_d_7 K, gK_d_8 K, gK_d_9 K, gK_d_10 K, gK_d_11 K, gK_p_3 K, gK_p_4 K, gK_p_5 K, gK_p_6 K, gK_p_7 K, gK_p_8 K, gK_p_9 K, gK_p_10 K, gK_p_11 K, gK_p_12 K, gK_p_13 K, gK_p_14 K, gK_p_15 K, gK_p_16 K, gK_p_17 K, goA_d1 K, goA_d2 K, goA_d3 K, goA_d4 K, goA_d5 K, goA_d6 K, goA_d7 K, goA_d8 K, goA_d9 K, goA_d10 K, goA_d11 K, goA_d12 K, goA_p1 K, goA_p2 K, goA_p3 K, goA_p4 K, goA_p5 K, goA_p6 K, goA_p7 K, goA_p8 K, goA_p9 K, goA_p10 K, goA_p11 K, goA_p12 K, goA_p13 K, goA_p14 K, goA_p15 K, i1, n1, gn_succ]
    obtain ⟨m', a1, a2, a3, a4, a5, a6, a7⟩ := ih (i + 1) (wI (wI (wI m (p + 13) i 0) (p + 14) i 0) (p + 15) i (-1)) (by omega) K
    refine ⟨m', a1, a2, fun a h1 h2 h3 h4 => ?_, fun g h1 h2 => ?_, fun g h1 => ?_, fun q hq => ?_, a7⟩
    · rw [a3 a h1 h2 h3 h4, gI_wI_f h4, gI_wI_f h3, gI_wI_f h2]
    · by_cases e : g = i
      · obtain ⟨b1, b2, b3⟩ := a5 g (by omega)
        rw [b1, b2, b3, e]
        refine ⟨?_, ?_, gI_wI_s⟩
        · rw [gI_wI_a (by omega), gI_wI_a (by omega), gI_wI_s]
        · rw [gI_wI_a (by omega), gI_wI_s]
      · exact a4 g (by omega) h2
    · obtain ⟨b1, b2, b3⟩ := a5 g (by omega)
      rw [b1, b2, b3]
      refine ⟨?_, ?_, ?_⟩
      · rw [gI_wI_a (by omega), gI_wI_a (by omega), gI_wI_k (by omega)]
      · rw [gI_wI_a (by omega), gI_wI_k (by omega), gI_wI_a (by omega)]
      · rw [gI_wI_k (by omega), gI_wI_a (by omega), gI_wI_a (by omega)]
    · rw [a6 q hq, gI_wI_a (by omega), gI_wI_a (by omega), gI_wI_a (by omega)]
/-- no word told yet -/
def iniF (p : Nat) (m : gd_M) : Prop := gI m p 27 = 0 ∧ gI m p 28 = 0 ∧ gI m p 29 = 0 ∧ gI m p 30 = 0 ∧ gI m p 31 = 0
theorem c_mbegin (K : gK c d n p m) : ∃ m', gd_call 20 [.ref p] m = some (.null, m') ∧ m'.2 = m.2 ∧ (∀ a, (a < p ∨ p + 15 < a) → gI m' a = gI m a) ∧ iniA (gCd p (gI m')) ∧ iniF p m' := by
  have hp := gK_p1 K
  obtain ⟨m', a1, a2, a3, a4, a5, a6, b18, b19, b20, b21, b22, b23, b24, b25, b26, b27⟩ := c_begin_17x (c := c) (d := d) (n := n) (p := p) 5 0 (wI (wI (wI m p 0 0) p 1 0) p 2 0) (by omega) K
  rw [gn_0] at a1
  refine ⟨m', ?_, a2, fun a ha => ?_, ⟨?_, ?_, ?_, fun g hg => ?_, ?_, ?_, ?_, ?_, ?_, ?_, ?_, ?_, ?_⟩, b27⟩
  · rw [q_MC_begin]
    simp only [gK_N K, gK_8_0 K, gK_8_1 K, gK_8_2 K, gK_8_3 K, gK_8_4 K, gK_8_5 K, gK_8_6 K, gK_8_7 K, gK_8_8 K, gK_10_0 K, gK_10_1 K, gK_10_2 K, gK_11_0 K, gK_15_0 K, gK_15_1 K, gK_15_2 K, gK_15_3 K, gK_20_0 K, gK_20_1 K, gK_20_2 K, gK_20_3 K, gK_20_4 K, gK_20_5 K, gK_698_0 K, gK_698_3 K, gK_698_16 K, gK_698_17 K, gK_698_20 K, gK_698_21 K, gK_698_22 K, gK_698_23 K, gK_698_24 K, gK_698_25 K, gK_698_26 K, gK_698_27 K, gK_698_28 K, gK_698_29 K, gK_698_30 K, gK_698_31 K, gK_698_32 K, gK_698_33 K, gK_698_34 K, gK_698_35 K, gK_698_36 K, gK_698_37 K, gK_698_38 K, gK_698_39 K, gK_698_41 K, gK_698_42 K, gK_698_44 K, gK_c K, gK_d K, gK_n K, gK_p K, gok_8, gok_10, gok_11, gok_15, gok_20, gok_698, gok_699, goA_9, goA_12, goA_13, goA_14, goA_16, goA_17, goA_18, goA_19, goA_21, goA_22, goA_23, goA_24, goA_25, goA_26, goA_27, goA_28, goA_29, goA_30, goA_31, goA_732, goA_733, goA_734, goA_735, goA_736, goA_737, goA_738, goA_739, goA_740, goA_741, goA_742, goA_743, goA_744, goA_745, goA_746, goA_747, goA_748, goA_749, goA_750, goA_751, goA_752, goA_753, goA_754, goA_755, goA_756, goA_757, gN_wI, gR_wI, gL_wI, if_true, eq_self, gok_c K, gok_d K, gok_n K, gok_p K, gK_c_0 K, gK_c_1 K, gK_c_2 K, gK_c_3 K, gK_c_4 K, gK_c_5 K, gK_c_6 K, gK_c_7 K, gK_c_8 K, gK_c_9 K, gK_c_10 K, gK_c_11 K, gK_n_3 K, gK_n_4 K, gK_n_5 K, gK_n_6 K, gK_n_7 K, gK_n_8 K, gK_n_9 K, gK_n_10 K, gK_n_11 K, gK_n_12 K, gK_n_13 K, gK_n_14 K, gK_n_15 K, gK_n_16 K, gK_n_17 K, goA_c1 K, goA_c2 K, goA_c3 K, goA_c4 K, goA_c5 K, goA_c6 K, goA_c7 K, goA_c8 K, goA_c9 K, goA_c10 K, goA_c11 K, goA_c12 K, goA_n1 K, goA_n2 K, goA_n3 K, goA_n4 K, goA_n5 K, goA_n6 K, goA_n7 K, goA_n8 K, goA_n9 K, goA_n10 K, goA_n11 K, goA_n12 K, goA_n13 K, goA_n14 K, goA_n15 K, gK_d_0 K, gK_d_1 K, gK_d_2 K, gK_d_3 K, gK_d_4 K, gK_d_5 K, gK_d_6 K, gK_d_7 K, gK_d_8 K, gK_d_9 K, gK_d_10 K, gK_d_11 K, gK_p_3 K, gK_p_4 K, gK_p_5 K, gK_p_6 K, gK_p_7 K, gK_p_8 K, gK_p_9 K, gK_p_10 K, gK_p_11 K, gK_p_12 K, gK_p_13 K, gK_p_14 K, gK_p_15 K, gK_p_16 K, gK_p_17 K, goA_d1 K, goA_d2 K, goA_d3 K, goA_d4 K, goA_d5 K, goA_d6 K, goA_d7 K, goA_d8 K, goA_d9 K, goA_d10 K, goA_d11 K, goA_d12 K, goA_p1 K, goA_p2 K, goA_p3 K, goA_p4 K, goA_p5 K, goA_p6 K, goA_p7 K, goA_p8 K, goA_p9 K, goA_p10 K, goA_p11 K, goA_p12 K, goA_p13 K, goA_p14 K, goA_p15 K]
    exact a1
  · rw [a3 a (by omega) (by omega) (by omega) (by omega), gI_wI_f (by omega), gI_wI_f (by omega), gI_wI_f (by omega)]
  · rw [gA0, a6 0 (by decide), gI_wI_k (by decide), gI_wI_k (by decide), gI_wI_s]
  · rw [gA0, a6 1 (by decide), gI_wI_k (by decide), gI_wI_s]
  · rw [gA0, a6 2 (by decide), gI_wI_s]
  · rw [gCd_k (by decide), gCd_k (by decide), gCd_k (by decide)]
    exact a4 g (Nat.zero_le g) hg
  · rw [gA0]; exact b18
  · rw [gA0]; exact b19
  · rw [gA0]; exact b20
  · rw [gA0]; exact b21
  · rw [gA0]; exact b22
  · rw [gA0]; exact b23
  · rw [gA0]; exact b24
  · rw [gA0]; exact b25
  · rw [gA0]; exact b26
theorem c_has : ∀ j i (m : gd_M), i + j = 5 → gK c d n p m → ∃ m', gd_Den (82, 42, [.ref 698, .int (Int32.ofNat i), .null], [], m) = (gd_call 67 [.ref 698] m').bind (gd_khV (fun m7 => gd_Den (82, 71, [.ref 698, .int (Int32.ofNat 5), .null], [], m7)) (fun m9 => gd_Den (82, 90, [.ref 698, .null, .null], [], m9))) ∧ m'.2 = m.2 ∧ (∀ a, a ≠ 733 → a ≠ 734 → gI m' a = gI m a) ∧ (∀ g, i ≤ g → g < 5 → gI m' 733 g = 0 ∧ gI m' 734 g = 0) ∧ ∀ g, g < i → gI m' 733 g = gI m 733 g ∧ gI m' 734 g = gI m 734 g := by
  intro j
  induction j with
  | zero =>
    intro i m h K
    have : i = 5 := by omega
    subst this
    rw [q_Mo_code_42, if_neg (show ¬ Int32.ofNat 5 < 5 by decide)]
    simp only [gK_N K, gK_8_0 K, gK_8_1 K, gK_8_2 K, gK_8_3 K, gK_8_4 K, gK_8_5 K, gK_8_6 K, gK_8_7 K, gK_8_8 K, gK_10_0 K, gK_10_1 K, gK_10_2 K, gK_11_0 K, gK_15_0 K, gK_15_1 K, gK_15_2 K, gK_15_3 K, gK_20_0 K, gK_20_1 K, gK_20_2 K, gK_20_3 K, gK_20_4 K, gK_20_5 K, gK_698_0 K, gK_698_3 K, gK_698_16 K, gK_698_17 K, gK_698_20 K, gK_698_21 K, gK_698_22 K, gK_698_23 K, gK_698_24 K, gK_698_25 K, gK_698_26 K, gK_698_27 K, gK_698_28 K, gK_698_29 K, gK_698_30 K, gK_698_31 K, gK_698_32 K, gK_698_33 K, gK_698_34 K, gK_698_35 K, gK_698_36 K, gK_698_37 K, gK_698_38 K, gK_698_39 K, gK_698_41 K, gK_698_42 K, gK_698_44 K, gK_c K, gK_d K, gK_n K, gK_p K, gok_8, gok_10, gok_11, gok_15, gok_20, gok_698, gok_699, goA_9, goA_12, goA_13, goA_14, goA_16, goA_17, goA_18, goA_19, goA_21, goA_22, goA_23, goA_24, goA_25, goA_26, goA_27, goA_28, goA_29, goA_30, goA_31, goA_732, goA_733, goA_734, goA_735, goA_736, goA_737, goA_738, goA_739, goA_740, goA_741, goA_742, goA_743, goA_744, goA_745, goA_746, goA_747, goA_748, goA_749, goA_750, goA_751, goA_752, goA_753, goA_754, goA_755, goA_756, goA_757, gN_wI, gR_wI, gL_wI, if_true, eq_self]
    exact ⟨m, rfl, rfl, fun a _ _ => rfl, fun g h1 h2 => by omega, fun g _ => ⟨rfl, rfl⟩⟩
  | succ j ih =>
    intro i m h K
    have i1 : gd_in (Int32.ofNat i) 5 = true := gn_in (by omega) (by omega)
    have n1 : (Int32.ofNat i).toNatClampNeg = i := gn_nat (by omega)
    rw [q_Mo_code_42, if_pos ((gnlb_5 (by omega) (by decide)).2 (by omega))]
    simp only [gK_N K, gK_8_0 K, gK_8_1 K, gK_8_2 K, gK_8_3 K, gK_8_4 K, gK_8_5 K, gK_8_6 K, gK_8_7 K, gK_8_8 K, gK_10_0 K, gK_10_1 K, gK_10_2 K, gK_11_0 K, gK_15_0 K, gK_15_1 K, gK_15_2 K, gK_15_3 K, gK_20_0 K, gK_20_1 K, gK_20_2 K, gK_20_3 K, gK_20_4 K, gK_20_5 K, gK_698_0 K, gK_698_3 K, gK_698_16 K, gK_698_17 K, gK_698_20 K, gK_698_21 K, gK_698_22 K, gK_698_23 K, gK_698_24 K, gK_698_25 K, gK_698_26 K, gK_698_27 K, gK_698_28 K, gK_698_29 K, gK_698_30 K, gK_698_31 K, gK_698_32 K, gK_698_33 K, gK_698_34 K, gK_698_35 K, gK_698_36 K, gK_698_37 K, gK_698_38 K, gK_698_39 K, gK_698_41 K, gK_698_42 K, gK_698_44 K, gK_c K, gK_d K, gK_n K, gK_p K, gok_8, gok_10, gok_11, gok_15, gok_20, gok_698, gok_699, goA_9, goA_12, goA_13, goA_14, goA_16, goA_17, goA_18, goA_19, goA_21, goA_22, goA_23, goA_24, goA_25, goA_26, goA_27, goA_28, goA_29, goA_30, goA_31, goA_732, goA_733, goA_734, goA_735, goA_736, goA_737, goA_738, goA_739, goA_740, goA_741, goA_742, goA_743, goA_744, goA_745, goA_746, goA_747, goA_748, goA_749, goA_750, goA_751, goA_752, goA_753, goA_754, goA_755, goA_756, goA_757, gN_wI, gR_wI, gL_wI, if_true, eq_self, i1, n1, gn_succ, gd_vn0]
    obtain ⟨m', a1, a2, a3, a4, a5⟩ := ih (i + 1) (wI (wI m 733 i 0) 734 i 0) (by omega) K
    refine ⟨m', a1, a2, fun a h1 h2 => ?_, fun g h1 h2 => ?_, fun g h1 => ?_⟩
    · rw [a3 a h1 h2, gI_wI_f h2, gI_wI_f h1]
    · by_cases e : g = i
      · obtain ⟨b1, b2⟩ := a5 g (by omega)
        rw [b1, b2, e]
        exact ⟨(gI_wI_a (by decide)).trans gI_wI_s, gI_wI_s⟩
      · exact a4 g (by omega) h2
    · obtain ⟨b1, b2⟩ := a5 g (by omega)
      rw [b1, b2]
      exact ⟨(gI_wI_a (by decide)).trans (gI_wI_k (by omega)), (gI_wI_k (by omega)).trans (gI_wI_a (by decide))⟩
/-- the class's start -/
theorem X_start (K : gK c d n p m) (hT : T ≤ 3000) : ∃ mX, gd_call 59 [.ref 10, .ref 9, .int (Int32.ofNat T), .ref d] m = gd_Den (59, 39, [.ref 10, .ref 9, .int (Int32.ofNat T), .ref d, .int (Int32.ofNat 0)], [], mX) ∧ gK c d n p mX ∧ (∀ i, gI mX 9 i = gI m 9 i) ∧ gI mX 11 2 = Int32.ofNat T ∧ gR mX 11 1 = 9 ∧ gR mX 10 3 = d ∧ fX d (wR (wR m 10 3 d) 11 1 9) mX ∧ gI mX 10 4 = 0 ∧ gI mX 10 6 = 0 ∧ gI mX 10 7 = -1 ∧ gI mX 11 3 = Int32.ofNat 0 ∧ gI mX 11 4 = Int32.ofNat 0 ∧ iniX d (gI mX) := by
  have hd := gK_d1 K
  have K1 : gK c d n p (wR m 10 3 d) := gK_wR K (.inl ⟨rfl, rfl⟩)
  have h103 : gR (wR m 10 3 d) 10 3 = d := by rw [gR_wR, if_pos ⟨rfl, rfl⟩]
  have hKD : (Nat.ble 10 (gd_KD 9) && Nat.ble (gd_KD 9) 14 && decide (9 < 758)) = true := by decide +kernel
  have hLN : gd_LN 9 = 3000 := by decide +kernel
  obtain ⟨m3, a1, a2, a3, a4⟩ := c_clear K1
  rw [q_Re_readCode, h103]
  simp only [gK_N K, gK_8_0 K, gK_8_1 K, gK_8_2 K, gK_8_3 K, gK_8_4 K, gK_8_5 K, gK_8_6 K, gK_8_7 K, gK_8_8 K, gK_10_0 K, gK_10_1 K, gK_10_2 K, gK_11_0 K, gK_15_0 K, gK_15_1 K, gK_15_2 K, gK_15_3 K, gK_20_0 K, gK_20_1 K, gK_20_2 K, gK_20_3 K, gK_20_4 K, gK_20_5 K, gK_698_0 K, gK_698_3 K, gK_698_16 K, gK_698_17 K, gK_698_20 K, gK_698_21 K, gK_698_22 K, gK_698_23 K, gK_698_24 K, gK_698_25 K, gK_698_26 K, gK_698_27 K, gK_698_28 K, gK_698_29 K, gK_698_30 K, gK_698_31 K, gK_698_32 K, gK_698_33 K, gK_698_34 K, gK_698_35 K, gK_698_36 K, gK_698_37 K, gK_698_38 K, gK_698_39 K, gK_698_41 K, gK_698_42 K, gK_698_44 K, gK_c K, gK_d K, gK_n K, gK_p K, gok_8, gok_10, gok_11, gok_15, gok_20, gok_698, gok_699, goA_9, goA_12, goA_13, goA_14, goA_16, goA_17, goA_18, goA_19, goA_21, goA_22, goA_23, goA_24, goA_25, goA_26, goA_27, goA_28, goA_29, goA_30, goA_31, goA_732, goA_733, goA_734, goA_735, goA_736, goA_737, goA_738, goA_739, goA_740, goA_741, goA_742, goA_743, goA_744, goA_745, goA_746, goA_747, goA_748, goA_749, goA_750, goA_751, goA_752, goA_753, goA_754, goA_755, goA_756, goA_757, gN_wI, gR_wI, gL_wI, if_true, eq_self, gok_c K, gok_d K, gok_n K, gok_p K, gK_c_0 K, gK_c_1 K, gK_c_2 K, gK_c_3 K, gK_c_4 K, gK_c_5 K, gK_c_6 K, gK_c_7 K, gK_c_8 K, gK_c_9 K, gK_c_10 K, gK_c_11 K, gK_n_3 K, gK_n_4 K, gK_n_5 K, gK_n_6 K, gK_n_7 K, gK_n_8 K, gK_n_9 K, gK_n_10 K, gK_n_11 K, gK_n_12 K, gK_n_13 K, gK_n_14 K, gK_n_15 K, gK_n_16 K, gK_n_17 K, goA_c1 K, goA_c2 K, goA_c3 K, goA_c4 K, goA_c5 K, goA_c6 K, goA_c7 K, goA_c8 K, goA_c9 K, goA_c10 K, goA_c11 K, goA_c12 K, goA_n1 K, goA_n2 K, goA_n3 K, goA_n4 K, goA_n5 K, goA_n6 K, goA_n7 K, goA_n8 K, goA_n9 K, goA_n10 K, goA_n11 K, goA_n12 K, goA_n13 K, goA_n14 K, goA_n15 K, gK_d_0 K, gK_d_1 K, gK_d_2 K, gK_d_3 K, gK_d_4 K, gK_d_5 K, gK_d_6 K, gK_d_7 K, gK_d_8 K, gK_d_9 K, gK_d_10 K, gK_d_11 K, gK_p_3 K, gK_p_4 K, gK_p_5 K, gK_p_6 K, gK_p_7 K, gK_p_8 K, gK_p_9 K, gK_p_10 K, gK_p_11 K, gK_p_12 K, gK_p_13 K, gK_p_14 K, gK_p_15 K, gK_p_16 K, gK_p_17 K, goA_d1 K, goA_d2 K, goA_d3 K, goA_d4 K, goA_d5 K, goA_d6 K, goA_d7 K, goA_d8 K, goA_d9 K, goA_d10 K, goA_d11 K, goA_d12 K, goA_p1 K, goA_p2 K, goA_p3 K, goA_p4 K, goA_p5 K, goA_p6 K, goA_p7 K, goA_p8 K, goA_p9 K, goA_p10 K, goA_p11 K, goA_p12 K, goA_p13 K, goA_p14 K, goA_p15 K]
  rw [a1]
  obtain ⟨I3, t3⟩ := m3
  have a2' : t3 = (wR m 10 3 d).2 := a2
  subst a2'
  have K3 : gK c d n p (I3, (wR m 10 3 d).2) := gK_o K1 rfl
  have r103 : gR (I3, (wR m 10 3 d).2) 10 3 = d := h103
  have eJ : gJ (I3, (wR m 10 3 d).2) = gJ m := rfl
  have eT : (I3, (wR m 10 3 d).2).2.2 = (wR m 10 3 d).2.2 := rfl
  generalize hm3 : ((I3, (wR m 10 3 d).2) : gd_M) = m3 at *
  simp only [gK_N K3, gK_8_0 K3, gK_8_1 K3, gK_8_2 K3, gK_8_3 K3, gK_8_4 K3, gK_8_5 K3, gK_8_6 K3, gK_8_7 K3, gK_8_8 K3, gK_10_0 K3, gK_10_1 K3, gK_10_2 K3, gK_11_0 K3, gK_15_0 K3, gK_15_1 K3, gK_15_2 K3, gK_15_3 K3, gK_20_0 K3, gK_20_1 K3, gK_20_2 K3, gK_20_3 K3, gK_20_4 K3, gK_20_5 K3, gK_698_0 K3, gK_698_3 K3, gK_698_16 K3, gK_698_17 K3, gK_698_20 K3, gK_698_21 K3, gK_698_22 K3, gK_698_23 K3, gK_698_24 K3, gK_698_25 K3, gK_698_26 K3, gK_698_27 K3, gK_698_28 K3, gK_698_29 K3, gK_698_30 K3, gK_698_31 K3, gK_698_32 K3, gK_698_33 K3, gK_698_34 K3, gK_698_35 K3, gK_698_36 K3, gK_698_37 K3, gK_698_38 K3, gK_698_39 K3, gK_698_41 K3, gK_698_42 K3, gK_698_44 K3, gK_c K3, gK_d K3, gK_n K3, gK_p K3, gok_8, gok_10, gok_11, gok_15, gok_20, gok_698, gok_699, goA_9, goA_12, goA_13, goA_14, goA_16, goA_17, goA_18, goA_19, goA_21, goA_22, goA_23, goA_24, goA_25, goA_26, goA_27, goA_28, goA_29, goA_30, goA_31, goA_732, goA_733, goA_734, goA_735, goA_736, goA_737, goA_738, goA_739, goA_740, goA_741, goA_742, goA_743, goA_744, goA_745, goA_746, goA_747, goA_748, goA_749, goA_750, goA_751, goA_752, goA_753, goA_754, goA_755, goA_756, goA_757, gN_wI, gR_wI, gL_wI, if_true, eq_self, Option.bind_some, gd_kV_v]
  have K4 : gK c d n p (wI (wI (wI m3 10 4 0) 10 6 0) 10 7 (-1)) := K3
  rw [q_Sc_open]
  simp only [gK_N K3, gK_8_0 K3, gK_8_1 K3, gK_8_2 K3, gK_8_3 K3, gK_8_4 K3, gK_8_5 K3, gK_8_6 K3, gK_8_7 K3, gK_8_8 K3, gK_10_0 K3, gK_10_1 K3, gK_10_2 K3, gK_11_0 K3, gK_15_0 K3, gK_15_1 K3, gK_15_2 K3, gK_15_3 K3, gK_20_0 K3, gK_20_1 K3, gK_20_2 K3, gK_20_3 K3, gK_20_4 K3, gK_20_5 K3, gK_698_0 K3, gK_698_3 K3, gK_698_16 K3, gK_698_17 K3, gK_698_20 K3, gK_698_21 K3, gK_698_22 K3, gK_698_23 K3, gK_698_24 K3, gK_698_25 K3, gK_698_26 K3, gK_698_27 K3, gK_698_28 K3, gK_698_29 K3, gK_698_30 K3, gK_698_31 K3, gK_698_32 K3, gK_698_33 K3, gK_698_34 K3, gK_698_35 K3, gK_698_36 K3, gK_698_37 K3, gK_698_38 K3, gK_698_39 K3, gK_698_41 K3, gK_698_42 K3, gK_698_44 K3, gK_c K3, gK_d K3, gK_n K3, gK_p K3, gok_8, gok_10, gok_11, gok_15, gok_20, gok_698, gok_699, goA_9, goA_12, goA_13, goA_14, goA_16, goA_17, goA_18, goA_19, goA_21, goA_22, goA_23, goA_24, goA_25, goA_26, goA_27, goA_28, goA_29, goA_30, goA_31, goA_732, goA_733, goA_734, goA_735, goA_736, goA_737, goA_738, goA_739, goA_740, goA_741, goA_742, goA_743, goA_744, goA_745, goA_746, goA_747, goA_748, goA_749, goA_750, goA_751, goA_752, goA_753, goA_754, goA_755, goA_756, goA_757, gN_wI, gR_wI, gL_wI, if_true, eq_self, hKD, hLN]
  rw [c_min_l hT (by decide)]
  have K5 : gK c d n p (wR (wI (wI (wI m3 10 4 0) 10 6 0) 10 7 (-1)) 11 1 9) := gK_wR K4 (.inr ⟨rfl, rfl⟩)
  simp only [gK_N K5, gK_8_0 K5, gK_8_1 K5, gK_8_2 K5, gK_8_3 K5, gK_8_4 K5, gK_8_5 K5, gK_8_6 K5, gK_8_7 K5, gK_8_8 K5, gK_10_0 K5, gK_10_1 K5, gK_10_2 K5, gK_11_0 K5, gK_15_0 K5, gK_15_1 K5, gK_15_2 K5, gK_15_3 K5, gK_20_0 K5, gK_20_1 K5, gK_20_2 K5, gK_20_3 K5, gK_20_4 K5, gK_20_5 K5, gK_698_0 K5, gK_698_3 K5, gK_698_16 K5, gK_698_17 K5, gK_698_20 K5, gK_698_21 K5, gK_698_22 K5, gK_698_23 K5, gK_698_24 K5, gK_698_25 K5, gK_698_26 K5, gK_698_27 K5, gK_698_28 K5, gK_698_29 K5, gK_698_30 K5, gK_698_31 K5, gK_698_32 K5, gK_698_33 K5, gK_698_34 K5, gK_698_35 K5, gK_698_36 K5, gK_698_37 K5, gK_698_38 K5, gK_698_39 K5, gK_698_41 K5, gK_698_42 K5, gK_698_44 K5, gK_c K5, gK_d K5, gK_n K5, gK_p K5, gok_8, gok_10, gok_11, gok_15, gok_20, gok_698, gok_699, goA_9, goA_12, goA_13, goA_14, goA_16, goA_17, goA_18, goA_19, goA_21, goA_22, goA_23, goA_24, goA_25, goA_26, goA_27, goA_28, goA_29, goA_30, goA_31, goA_732, goA_733, goA_734, goA_735, goA_736, goA_737, goA_738, goA_739, goA_740, goA_741, goA_742, goA_743, goA_744, goA_745, goA_746, goA_747, goA_748, goA_749, goA_750, goA_751, goA_752, goA_753, goA_754, goA_755, goA_756, goA_757, gN_wI, gR_wI, gL_wI, if_true, eq_self, Option.bind_some, gd_k0I_i, gd_kV_v]
  refine ⟨_, rfl, K5, fun i => ?_, ?_, ?_, ?_, ⟨?_, fun a ha => ?_, fun a h1 h2 h3 => ?_⟩, ?_, ?_, ?_, ?_, ?_, ?_⟩
  · rw [gI_wI_a (by decide), gI_wI_a (by decide), gI_wI_a (by decide)]
    show gI (wI (wI (wI m3 10 4 0) 10 6 0) 10 7 (-1)) 9 i = gI m 9 i
    rw [gI_wI_a (by decide), gI_wI_a (by decide), gI_wI_a (by decide), a3 9 (by omega)]
    rfl
  · rw [gI_wI_k (by decide), gI_wI_k (by decide), gI_wI_s]
  · rw [gR_wI, gR_wI, gR_wI, gR_wR, if_pos ⟨rfl, rfl⟩]
  · rw [gR_wI, gR_wI, gR_wI, gR_wR, if_neg (by decide)]; exact r103
  · subst hm3; rfl
  · rw [gI_wI_f (by omega), gI_wI_f (by omega), gI_wI_f (by omega)]
    show gI (wI (wI (wI m3 10 4 0) 10 6 0) 10 7 (-1)) a = gI m a
    rw [gI_wI_f (by omega), gI_wI_f (by omega), gI_wI_f (by omega), a3 a (by omega)]
    rfl
  · subst hm3; rfl
  · rw [gI_wI_a (by decide), gI_wI_a (by decide), gI_wI_a (by decide)]
    show gI (wI (wI (wI m3 10 4 0) 10 6 0) 10 7 (-1)) 10 4 = 0
    rw [gI_wI_k (by decide), gI_wI_k (by decide), gI_wI_s]
  · rw [gI_wI_a (by decide), gI_wI_a (by decide), gI_wI_a (by decide)]
    show gI (wI (wI (wI m3 10 4 0) 10 6 0) 10 7 (-1)) 10 6 = 0
    rw [gI_wI_k (by decide), gI_wI_s]
  · rw [gI_wI_a (by decide), gI_wI_a (by decide), gI_wI_a (by decide)]
    show gI (wI (wI (wI m3 10 4 0) 10 6 0) 10 7 (-1)) 10 7 = -1
    exact gI_wI_s
  · rw [gI_wI_k (by decide), gI_wI_s, gn_0]
  · rw [gI_wI_s, gn_0]
  · have eg : ∀ q, gI (wI (wI (wI (wR (wI (wI (wI m3 10 4 0) 10 6 0) 10 7 (-1)) 11 1 9) 11 2 (Int32.ofNat T)) 11 3 0) 11 4 0) (d + q) = gI m3 (d + q) := fun q => by
      rw [gI_wI_f (by omega), gI_wI_f (by omega), gI_wI_f (by omega)]
      show gI (wI (wI (wI m3 10 4 0) 10 6 0) 10 7 (-1)) (d + q) = _
      rw [gI_wI_f (by omega), gI_wI_f (by omega), gI_wI_f (by omega)]
    unfold iniX at a4 ⊢
    rw [show gI (wI (wI (wI (wR (wI (wI (wI m3 10 4 0) 10 6 0) 10 7 (-1)) 11 1 9) 11 2 (Int32.ofNat T)) 11 3 0) 11 4 0) d = gI m3 d from eg 0, eg 9, eg 10, eg 11, eg 12]
    exact a4
/-- the reference's start -/
theorem M_start (hB : ∀ i, isB (t i)) (hT : T ≤ 3000) (K : gK c d n p m) (ht : ∀ i, gI m 732 i = t i) (h4 : gI m 698 4 = Int32.ofNat T) : ∃ mM, gd_call 82 [.ref 698] m = gd_Den (82, 71, [.ref 698, .int (Int32.ofNat 5), .null], [], mM) ∧ gK c d n p mM ∧ zT t T mM ∧ fM p (wI (wI m 698 5 (Int32.ofNat T)) 698 4 0) mM ∧ gI mM 698 14 = 0 ∧ gI mM 698 15 = -1 ∧ tkM t T (kSt t T 0) 0 mM ∧ iniA (gCd p (gI mM)) ∧ iniF p mM ∧ ∀ g < 5, gI mM 733 g = 0 ∧ gI mM 734 g = 0 := by
  have hp := gK_p1 K
  rw [q_Mo_code]
  simp only [gK_N K, gK_8_0 K, gK_8_1 K, gK_8_2 K, gK_8_3 K, gK_8_4 K, gK_8_5 K, gK_8_6 K, gK_8_7 K, gK_8_8 K, gK_10_0 K, gK_10_1 K, gK_10_2 K, gK_11_0 K, gK_15_0 K, gK_15_1 K, gK_15_2 K, gK_15_3 K, gK_20_0 K, gK_20_1 K, gK_20_2 K, gK_20_3 K, gK_20_4 K, gK_20_5 K, gK_698_0 K, gK_698_3 K, gK_698_16 K, gK_698_17 K, gK_698_20 K, gK_698_21 K, gK_698_22 K, gK_698_23 K, gK_698_24 K, gK_698_25 K, gK_698_26 K, gK_698_27 K, gK_698_28 K, gK_698_29 K, gK_698_30 K, gK_698_31 K, gK_698_32 K, gK_698_33 K, gK_698_34 K, gK_698_35 K, gK_698_36 K, gK_698_37 K, gK_698_38 K, gK_698_39 K, gK_698_41 K, gK_698_42 K, gK_698_44 K, gK_c K, gK_d K, gK_n K, gK_p K, gok_8, gok_10, gok_11, gok_15, gok_20, gok_698, gok_699, goA_9, goA_12, goA_13, goA_14, goA_16, goA_17, goA_18, goA_19, goA_21, goA_22, goA_23, goA_24, goA_25, goA_26, goA_27, goA_28, goA_29, goA_30, goA_31, goA_732, goA_733, goA_734, goA_735, goA_736, goA_737, goA_738, goA_739, goA_740, goA_741, goA_742, goA_743, goA_744, goA_745, goA_746, goA_747, goA_748, goA_749, goA_750, goA_751, goA_752, goA_753, goA_754, goA_755, goA_756, goA_757, gN_wI, gR_wI, gL_wI, if_true, eq_self, gok_c K, gok_d K, gok_n K, gok_p K, gK_c_0 K, gK_c_1 K, gK_c_2 K, gK_c_3 K, gK_c_4 K, gK_c_5 K, gK_c_6 K, gK_c_7 K, gK_c_8 K, gK_c_9 K, gK_c_10 K, gK_c_11 K, gK_n_3 K, gK_n_4 K, gK_n_5 K, gK_n_6 K, gK_n_7 K, gK_n_8 K, gK_n_9 K, gK_n_10 K, gK_n_11 K, gK_n_12 K, gK_n_13 K, gK_n_14 K, gK_n_15 K, gK_n_16 K, gK_n_17 K, goA_c1 K, goA_c2 K, goA_c3 K, goA_c4 K, goA_c5 K, goA_c6 K, goA_c7 K, goA_c8 K, goA_c9 K, goA_c10 K, goA_c11 K, goA_c12 K, goA_n1 K, goA_n2 K, goA_n3 K, goA_n4 K, goA_n5 K, goA_n6 K, goA_n7 K, goA_n8 K, goA_n9 K, goA_n10 K, goA_n11 K, goA_n12 K, goA_n13 K, goA_n14 K, goA_n15 K, gK_d_0 K, gK_d_1 K, gK_d_2 K, gK_d_3 K, gK_d_4 K, gK_d_5 K, gK_d_6 K, gK_d_7 K, gK_d_8 K, gK_d_9 K, gK_d_10 K, gK_d_11 K, gK_p_3 K, gK_p_4 K, gK_p_5 K, gK_p_6 K, gK_p_7 K, gK_p_8 K, gK_p_9 K, gK_p_10 K, gK_p_11 K, gK_p_12 K, gK_p_13 K, gK_p_14 K, gK_p_15 K, gK_p_16 K, gK_p_17 K, goA_d1 K, goA_d2 K, goA_d3 K, goA_d4 K, goA_d5 K, goA_d6 K, goA_d7 K, goA_d8 K, goA_d9 K, goA_d10 K, goA_d11 K, goA_d12 K, goA_p1 K, goA_p2 K, goA_p3 K, goA_p4 K, goA_p5 K, goA_p6 K, goA_p7 K, goA_p8 K, goA_p9 K, goA_p10 K, goA_p11 K, goA_p12 K, goA_p13 K, goA_p14 K, goA_p15 K, h4]
  obtain ⟨mm, hmm⟩ : ∃ x, wI (wI (wI (wI (wI (wI m 698 5 (Int32.ofNat T)) 698 4 0) 698 9 0) 698 11 0) 698 14 0) 698 15 (-1) = x := ⟨_, rfl⟩
  have Km : gK c d n p mm := by rw [← hmm]; exact K
  have em : ∀ a, a ≠ 698 → gI mm a = gI m a := fun a ha => by rw [← hmm, gI_wI_f ha, gI_wI_f ha, gI_wI_f ha, gI_wI_f ha, gI_wI_f ha, gI_wI_f ha]
  have e2 : mm.2 = m.2 := by rw [← hmm]; rfl
  have m5 : gI mm 698 5 = Int32.ofNat T := by rw [← hmm, gI_wI_k (by decide), gI_wI_k (by decide), gI_wI_k (by decide), gI_wI_k (by decide), gI_wI_k (by decide), gI_wI_s]
  have m9 : gI mm 698 9 = Int32.ofNat 0 := by rw [← hmm, gI_wI_k (by decide), gI_wI_k (by decide), gI_wI_k (by decide), gI_wI_s, gn_0]
  have m11 : gI mm 698 11 = Int32.ofNat 0 := by rw [← hmm, gI_wI_k (by decide), gI_wI_k (by decide), gI_wI_s, gn_0]
  have m14 : gI mm 698 14 = 0 := by rw [← hmm, gI_wI_k (by decide), gI_wI_s]
  have m15 : gI mm 698 15 = -1 := by rw [← hmm, gI_wI_s]
  have mlo : ∀ j, (j < 6 ∨ 15 < j) → gI mm 698 j = gI (wI (wI m 698 5 (Int32.ofNat T)) 698 4 0) 698 j := fun j hj => by rw [← hmm, gI_wI_k (by omega), gI_wI_k (by omega), gI_wI_k (by omega), gI_wI_k (by omega)]
  rw [hmm]
  obtain ⟨m3, a1, a2, a3, a4, a5⟩ := c_mbegin Km
  rw [a1]
  simp only [Option.bind_some, gd_kV_v]
  have K3 : gK c d n p m3 := gK_o Km a2
  obtain ⟨m4, b1, b2, b3, b4, b5⟩ := c_has (c := c) (d := d) (n := n) (p := p) 5 0 m3 (by omega) K3
  have K4 : gK c d n p m4 := gK_o K3 b2
  rw [gn_0] at b1
  rw [b1]
  have f698 : gI m4 698 = gI mm 698 := by rw [b3 698 (by decide) (by decide), a3 698 (by omega)]
  have Z4 : zT t T m4 := ⟨fun i => by rw [b3 732 (by decide) (by decide), a3 732 (by omega), em 732 (by decide)]; exact ht i, by rw [f698]; exact m5⟩
  obtain ⟨mM, s1, s2, s3⟩ := c_scan hB hT (Nat.zero_le T) K4 Z4 (by rw [f698]; exact m9) (by rw [f698]; exact m11)
  rw [s1]
  simp only [Option.bind_some, gd_khV_v]
  have e4 : m4.2 = m.2 := b2.trans (a2.trans e2)
  refine ⟨mM, rfl, gK_oZ K4 s2, zT_Z Z4 s2, ⟨?_, fun a h1 h2 h3 h4 => ?_, fun j hj => ?_, fun a h1 h2 => ?_⟩, ?_, ?_, s3, ?_, ?_, fun g hg => ?_⟩
  · rw [s2.1, e4]; rfl
  · rw [s2.2.1 a h1, b3 a h2 h3, a3 a h4, em a h1, gI_wI_f h1, gI_wI_f h1]
  · rw [s2.2.2.2 j (by omega), f698]; exact mlo j hj
  · rw [s2.2.2.1 a h1]
    show gJ m4 a = gJ m a
    unfold gJ; rw [e4]
  · rw [s2.2.2.2 14 (by decide), f698]; exact m14
  · rw [s2.2.2.2 15 (by decide), f698]; exact m15
  · have : gCd p (gI mM) = gCd p (gI m3) := by
      rw [gCd_Z hp s2]
      exact gCd_c fun q hq => b3 _ (by omega) (by omega)
    rw [this]; exact a4
  · unfold iniF at a5 ⊢
    rw [s2.2.1 p (by omega), b3 p (by omega) (by omega)]; exact a5
  · rw [s2.2.1 733 (by decide), s2.2.1 734 (by decide)]
    exact b4 g (Nat.zero_le g) hg
end P957
