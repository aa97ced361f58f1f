/-! ===== both constructors ===== -/
theorem iniX_c {d : Nat} {J J' : gd_C} (h : iniX d J) (e : ∀ q, q ≤ 12 → J' (d + q) = J (d + q)) : iniX d J' := by
  unfold iniX at h ⊢
  rw [show J' d = J d from e 0 (by decide), e 9 (by decide), e 10 (by decide), e 11 (by decide), e 12 (by decide)]
  exact h
/-- what begin needs of a code -/
def kBg (p : Nat) (m : gd_M) : Prop := gd_ok (gN m) p 7 = true ∧ gR m p 15 = p + 13 ∧ gR m p 16 = p + 14 ∧ gR m p 17 = p + 15 ∧ (∀ i, gd_okA (gN m) (p + 13) 10 i = gd_in i 5) ∧ (∀ i, gd_okA (gN m) (p + 14) 10 i = gd_in i 5) ∧ ∀ i, gd_okA (gN m) (p + 15) 10 i = gd_in i 5
theorem k_begin_17 {p : Nat} : ∀ j i (m : gd_M), i + j = 5 → kBg p m → ∃ m', gd_Den (20, 17, [.ref p, .int (Int32.ofNat i)], [], m) = some (.null, m') ∧ m'.2 = m.2 ∧ (∀ a, a ≠ p → a ≠ p + 13 → a ≠ p + 14 → a ≠ p + 15 → gI m' a = gI m a) ∧ (∀ g, i ≤ g → g < 5 → gI m' (p + 13) g = 0 ∧ gI m' (p + 14) g = 0 ∧ gI m' (p + 15) g = -1) ∧ (∀ g, g < i → gI m' (p + 13) g = gI m (p + 13) g ∧ gI m' (p + 14) g = gI m (p + 14) g ∧ gI m' (p + 15) g = gI m (p + 15) g) ∧ (∀ q, q < 18 → gI m' p q = gI m p q) ∧ gI m' p 18 = 8 ∧ gI m' p 19 = 0 ∧ gI m' p 20 = 0 ∧ gI m' p 21 = 4 ∧ gI m' p 22 = 3 ∧ gI m' p 23 = 4 ∧ gI m' p 24 = 3 ∧ gI m' p 25 = 8 ∧ gI m' p 26 = 2 ∧ gI m' p 27 = 0 ∧ gI m' p 28 = 0 ∧ gI m' p 29 = 0 ∧ gI m' p 30 = 0 ∧ gI m' p 31 = 0 := by
  intro j
  induction j with
  | zero =>
    intro i m h K
    obtain ⟨k1, k2, k3, k4, k5, k6, k7⟩ := id K
    have : i = 5 := by omega
    subst this
    rw [q_MC_begin_17, if_neg (show ¬ Int32.ofNat 5 < 5 by decide)]
    simp only [k1, if_true, eq_self]
    refine ⟨_, rfl, rfl, fun a h1 h2 h3 h4 => ?_, fun g h1 h2 => by omega, fun g h1 => ⟨?_, ?_, ?_⟩, fun q hq => ?_, ?_, ?_, ?_, ?_, ?_, ?_, ?_, ?_, ?_, ?_, ?_, ?_, ?_, ?_⟩
    · rw [gI_wI_f h1, gI_wI_f h1, gI_wI_f h1, gI_wI_f h1, gI_wI_f h1, gI_wI_f h1, gI_wI_f h1, gI_wI_f h1, gI_wI_f h1, gI_wI_f h1, gI_wI_f h1, gI_wI_f h1, gI_wI_f h1, gI_wI_f h1]
    · rw [gI_wI_a (by omega), gI_wI_a (by omega), gI_wI_a (by omega), gI_wI_a (by omega), gI_wI_a (by omega), gI_wI_a (by omega), gI_wI_a (by omega), gI_wI_a (by omega), gI_wI_a (by omega), gI_wI_a (by omega), gI_wI_a (by omega), gI_wI_a (by omega), gI_wI_a (by omega), gI_wI_a (by omega)]
    · rw [gI_wI_a (by omega), gI_wI_a (by omega), gI_wI_a (by omega), gI_wI_a (by omega), gI_wI_a (by omega), gI_wI_a (by omega), gI_wI_a (by omega), gI_wI_a (by omega), gI_wI_a (by omega), gI_wI_a (by omega), gI_wI_a (by omega), gI_wI_a (by omega), gI_wI_a (by omega), gI_wI_a (by omega)]
    · rw [gI_wI_a (by omega), gI_wI_a (by omega), gI_wI_a (by omega), gI_wI_a (by omega), gI_wI_a (by omega), gI_wI_a (by omega), gI_wI_a (by omega), gI_wI_a (by omega), gI_wI_a (by omega), gI_wI_a (by omega), gI_wI_a (by omega), gI_wI_a (by omega), gI_wI_a (by omega), gI_wI_a (by omega)]
    · rw [gI_wI_k (by omega), gI_wI_k (by omega), gI_wI_k (by omega), gI_wI_k (by omega), gI_wI_k (by omega), gI_wI_k (by omega), gI_wI_k (by omega), gI_wI_k (by omega), gI_wI_k (by omega), gI_wI_k (by omega), gI_wI_k (by omega), gI_wI_k (by omega), gI_wI_k (by omega), gI_wI_k (by omega)]
    · rw [gI_wI_k (by decide), gI_wI_k (by decide), gI_wI_k (by decide), gI_wI_k (by decide), gI_wI_k (by decide), gI_wI_k (by decide), gI_wI_k (by decide), gI_wI_k (by decide), gI_wI_k (by decide), gI_wI_k (by decide), gI_wI_k (by decide), gI_wI_k (by decide), gI_wI_k (by decide), gI_wI_s]
    · rw [gI_wI_k (by decide), gI_wI_k (by decide), gI_wI_k (by decide), gI_wI_k (by decide), gI_wI_k (by decide), gI_wI_k (by decide), gI_wI_k (by decide), gI_wI_k (by decide), gI_wI_k (by decide), gI_wI_k (by decide), gI_wI_k (by decide), gI_wI_k (by decide), gI_wI_s]
    · rw [gI_wI_k (by decide), gI_wI_k (by decide), gI_wI_k (by decide), gI_wI_k (by decide), gI_wI_k (by decide), gI_wI_k (by decide), gI_wI_k (by decide), gI_wI_k (by decide), gI_wI_k (by decide), gI_wI_k (by decide), gI_wI_k (by decide), gI_wI_s]
    · rw [gI_wI_k (by decide), gI_wI_k (by decide), gI_wI_k (by decide), gI_wI_k (by decide), gI_wI_k (by decide), gI_wI_k (by decide), gI_wI_k (by decide), gI_wI_k (by decide), gI_wI_k (by decide), gI_wI_k (by decide), gI_wI_s]
    · rw [gI_wI_k (by decide), gI_wI_k (by decide), gI_wI_k (by decide), gI_wI_k (by decide), gI_wI_k (by decide), gI_wI_k (by decide), gI_wI_k (by decide), gI_wI_k (by decide), gI_wI_k (by decide), gI_wI_s]
    · rw [gI_wI_k (by decide), gI_wI_k (by decide), gI_wI_k (by decide), gI_wI_k (by decide), gI_wI_k (by decide), gI_wI_k (by decide), gI_wI_k (by decide), gI_wI_k (by decide), gI_wI_s]
    · rw [gI_wI_k (by decide), gI_wI_k (by decide), gI_wI_k (by decide), gI_wI_k (by decide), gI_wI_k (by decide), gI_wI_k (by decide), gI_wI_k (by decide), gI_wI_s]
    · rw [gI_wI_k (by decide), gI_wI_k (by decide), gI_wI_k (by decide), gI_wI_k (by decide), gI_wI_k (by decide), gI_wI_k (by decide), gI_wI_s]
    · rw [gI_wI_k (by decide), gI_wI_k (by decide), gI_wI_k (by decide), gI_wI_k (by decide), gI_wI_k (by decide), gI_wI_s]
    · rw [gI_wI_k (by decide), gI_wI_k (by decide), gI_wI_k (by decide), gI_wI_k (by decide), gI_wI_s]
    · rw [gI_wI_k (by decide), gI_wI_k (by decide), gI_wI_k (by decide), gI_wI_s]
    · rw [gI_wI_k (by decide), gI_wI_k (by decide), gI_wI_s]
    · rw [gI_wI_k (by decide), gI_wI_s]
    · rw [gI_wI_s]
  | succ j ih =>
    intro i m h K
    obtain ⟨k1, k2, k3, k4, k5, k6, k7⟩ := id K
    have i1 : gd_in (Int32.ofNat i) 5 = true := gn_in (by omega) (by omega)
    have n1 : (Int32.ofNat i).toNatClampNeg = i := gn_nat (by omega)
    rw [q_MC_begin_17, if_pos ((gnlb_5 (by omega) (by decide)).2 (by omega))]
    simp only [k1, k2, k3, k4, k5, k6, k7, if_true, eq_self, i1, n1, gn_succ]
    obtain ⟨m', a1, a2, a3, a4, a5, a6, a7⟩ := ih (i + 1) (wI (wI (wI m (p + 13) i 0) (p + 14) i 0) (p + 15) i (-1)) (by omega) K
    refine ⟨m', a1, a2, fun a h1 h2 h3 h4 => ?_, fun g h1 h2 => ?_, fun g h1 => ?_, fun q hq => ?_, a7⟩
    · rw [a3 a h1 h2 h3 h4, gI_wI_f h4, gI_wI_f h3, gI_wI_f h2]
    · by_cases e : g = i
      · obtain ⟨b1, b2, b3⟩ := a5 g (by omega)
        rw [b1, b2, b3, e]
        refine ⟨?_, ?_, gI_wI_s⟩
        · rw [gI_wI_a (by omega), gI_wI_a (by omega), gI_wI_s]
        · rw [gI_wI_a (by omega), gI_wI_s]
      · exact a4 g (by omega) h2
    · obtain ⟨b1, b2, b3⟩ := a5 g (by omega)
      rw [b1, b2, b3]
      refine ⟨?_, ?_, ?_⟩
      · rw [gI_wI_a (by omega), gI_wI_a (by omega), gI_wI_k (by omega)]
      · rw [gI_wI_a (by omega), gI_wI_k (by omega), gI_wI_a (by omega)]
      · rw [gI_wI_k (by omega), gI_wI_a (by omega), gI_wI_a (by omega)]
    · rw [a6 q hq, gI_wI_a (by omega), gI_wI_a (by omega), gI_wI_a (by omega)]

theorem k_mbegin {p : Nat} {m : gd_M} (K : kBg p m) (hp : 31 < p) : ∃ m', gd_call 20 [.ref p] m = some (.null, m') ∧ m'.2 = m.2 ∧ (∀ a, (a < p ∨ p + 15 < a) → gI m' a = gI m a) ∧ iniA (gCd p (gI m')) ∧ iniF p m' := by
  obtain ⟨k1, -⟩ := id K
  obtain ⟨m', a1, a2, a3, a4, a5, a6, b18, b19, b20, b21, b22, b23, b24, b25, b26, b27⟩ := k_begin_17 (p := p) 5 0 (wI (wI (wI m p 0 0) p 1 0) p 2 0) (by omega) K
  rw [gn_0] at a1
  refine ⟨m', ?_, a2, fun a ha => ?_, ⟨?_, ?_, ?_, fun g hg => ?_, ?_, ?_, ?_, ?_, ?_, ?_, ?_, ?_, ?_⟩, b27⟩
  · rw [q_MC_begin]
    rw [if_pos k1]
    exact a1
  · rw [a3 a (by omega) (by omega) (by omega) (by omega), gI_wI_f (by omega), gI_wI_f (by omega), gI_wI_f (by omega)]
  · rw [gA0, a6 0 (by decide), gI_wI_k (by decide), gI_wI_k (by decide), gI_wI_s]
  · rw [gA0, a6 1 (by decide), gI_wI_k (by decide), gI_wI_s]
  · rw [gA0, a6 2 (by decide), gI_wI_s]
  · rw [gCd_k (by decide), gCd_k (by decide), gCd_k (by decide)]
    exact a4 g (Nat.zero_le g) hg
  · rw [gA0]; exact b18
  · rw [gA0]; exact b19
  · rw [gA0]; exact b20
  · rw [gA0]; exact b21
  · rw [gA0]; exact b22
  · rw [gA0]; exact b23
  · rw [gA0]; exact b24
  · rw [gA0]; exact b25
  · rw [gA0]; exact b26

def kXf (m : gd_M) : Prop := gR m 8 0 = 9 ∧ gR m 8 1 = 10 ∧ gR m 8 2 = 15 ∧ gR m 8 3 = 20 ∧ gR m 8 4 = 27 ∧ gR m 8 5 = 28 ∧ gR m 8 6 = 29 ∧ gR m 8 7 = 30 ∧ gR m 8 8 = 31 ∧ gR m 8 9 = 32 ∧ gR m 8 10 = 45 ∧ gR m 10 0 = 11 ∧ gR m 10 1 = 13 ∧ gR m 10 2 = 14 ∧ gR m 11 0 = 12 ∧ gR m 15 0 = 16 ∧ gR m 15 1 = 17 ∧ gR m 15 2 = 18 ∧ gR m 15 3 = 19 ∧ gR m 20 0 = 21 ∧ gR m 20 1 = 22 ∧ gR m 20 2 = 23 ∧ gR m 20 3 = 24 ∧ gR m 20 4 = 25 ∧ gR m 20 5 = 26 ∧ gR m 32 0 = 33 ∧ gR m 32 1 = 34 ∧ gR m 32 2 = 35 ∧ gR m 32 3 = 36 ∧ gR m 32 4 = 37 ∧ gR m 32 5 = 38 ∧ gR m 32 6 = 39 ∧ gR m 32 7 = 40 ∧ gR m 32 8 = 41 ∧ gR m 32 9 = 42 ∧ gR m 32 10 = 43 ∧ gR m 32 11 = 44 ∧ gR m 45 0 = 46 ∧ gR m 45 1 = 47 ∧ gR m 45 2 = 48 ∧ gR m 45 3 = 49 ∧ gR m 45 4 = 50 ∧ gR m 45 5 = 51 ∧ gR m 45 6 = 52 ∧ gR m 45 7 = 53 ∧ gR m 45 8 = 54 ∧ gR m 45 9 = 55 ∧ gR m 45 10 = 56 ∧ gR m 45 11 = 57
theorem k_X (m : gd_M) (hN : gN m = 9) (h0 : ∀ w, gJ m 12 w = 0) : gW (gd_call 14 [.ref 8] m) (qV fun m' => gN m' = 698 ∧ gU m' = gU m + 14042 ∧ gL m' = gL m ∧ (∀ a, a ≠ 10 → (a < 32 ∨ 57 < a) → gI m' a = gI m a) ∧ (∀ k, k ≠ 7 → gI m' 10 k = gI m 10 k) ∧ gI m' 10 7 = -1 ∧ iniX 32 (gI m') ∧ (∀ w < 19, gJ m' 12 w = gQ w) ∧ (∀ r < 160, gR m' 27 r = 58 + 4 * r ∧ gR m' (58 + 4 * r) 0 = 59 + 4 * r ∧ gR m' (58 + 4 * r) 1 = 60 + 4 * r ∧ gR m' (58 + 4 * r) 2 = 61 + 4 * r) ∧ kXf m') := by
  refine gW_eq (q_X_init 8 m) ?_
  rw [hN]
  repeat refine gW_g (by decide +kernel) ?_
  refine gW_k0V (k_Re (gd_al (wR (gd_al m (3000 : Int32).toNatClampNeg) 8 0 9) 8) (by simp only [gN_al, gN_wR, hN]) h0) fun m8 h8 => ?_
  obtain ⟨⟨n8, u8, l8, f8'⟩, i8, i8k, i87, q8, j8⟩ := h8
  have f8 : ∀ a, a < 10 → gR m8 a = gR (gd_al (wR (gd_al m (3000 : Int32).toNatClampNeg) 8 0 9) 8) a := fun a ha => f8' a (.inl ha)
  rw [n8]
  repeat refine gW_g (by decide +kernel) ?_
  refine gW_k0V (k_Ch (gd_al (wR m8 8 1 (9 + 1)) 7) (by simp only [gN_al, gN_wR, n8])) fun m14 h14 => ?_
  obtain ⟨⟨n14, u14, l14, f14'⟩, i14, j14, q14⟩ := h14
  have f14 : ∀ a, a < 15 → gR m14 a = gR (gd_al (wR m8 8 1 (9 + 1)) 7) a := fun a ha => f14' a (.inl ha)
  rw [n14]
  repeat refine gW_g (by decide +kernel) ?_
  refine gW_k0V (k_Ra (gd_al (wR m14 8 2 15) 8) (by simp only [gN_al, gN_wR, n14])) fun m20 h20 => ?_
  obtain ⟨⟨n20, u20, l20, f20'⟩, i20, j20, q20⟩ := h20
  have f20 : ∀ a, a < 20 → gR m20 a = gR (gd_al (wR m14 8 2 15) 8) a := fun a ha => f20' a (.inl ha)
  rw [n20]
  repeat refine gW_g (by decide +kernel) ?_
  refine gW_k0V (k_Co0 (gd_al (wR (gd_al (wR (gd_al (wR (gd_al (wR (gd_al (wR (gd_al (wR m20 8 3 20) (160 : Int32).toNatClampNeg) 8 4 27) (40 : Int32).toNatClampNeg) 8 5 (27 + 1)) (40 : Int32).toNatClampNeg) 8 6 (27 + 2)) (10 : Int32).toNatClampNeg) 8 7 (27 + 3)) (6 : Int32).toNatClampNeg) 8 8 (27 + 4)) 15) (by simp only [gN_al, gN_wR, n20])) fun m41 h41 => ?_
  obtain ⟨⟨n41, u41, l41, f41'⟩, i41, j41, x41, q41⟩ := h41
  have f41 : ∀ a, a < 32 → gR m41 a = gR (gd_al (wR (gd_al (wR (gd_al (wR (gd_al (wR (gd_al (wR (gd_al (wR m20 8 3 20) (160 : Int32).toNatClampNeg) 8 4 27) (40 : Int32).toNatClampNeg) 8 5 (27 + 1)) (40 : Int32).toNatClampNeg) 8 6 (27 + 2)) (10 : Int32).toNatClampNeg) 8 7 (27 + 3)) (6 : Int32).toNatClampNeg) 8 8 (27 + 4)) 15) a := fun a ha => f41' a (.inl ha)
  rw [n41]
  repeat refine gW_g (by decide +kernel) ?_
  refine gW_k0V (k_Co1 (gd_al (wR m41 8 9 (27 + 5)) 15) (by simp only [gN_al, gN_wR, n41])) fun m47 h47 => ?_
  obtain ⟨⟨n47, u47, l47, f47'⟩, i47, j47, -, q47⟩ := h47
  have f47 : ∀ a, a < 45 → gR m47 a = gR (gd_al (wR m41 8 9 (27 + 5)) 15) a := fun a ha => f47' a (.inl ha)
  rw [n47]
  repeat refine gW_g (by decide +kernel) ?_
  have h84 : gR (wR m47 8 10 45) 8 4 = 27 := by rw [gR_wR_k (by decide), f47 8 (by decide), gR_alf, gR_wR_k (by decide), f41 8 (by decide), gR_alf, gR_wR_k (by decide), gR_alf, gR_wR_k (by decide), gR_alf, gR_wR_k (by decide), gR_alf, gR_wR_k (by decide), gR_alf, gR_wR_s]
  obtain ⟨m', a1, a2, a3, a4, a5, a6, a7, a8⟩ := k_rows 160 0 (wR m47 8 10 45) (by decide) (by rw [gN_wR, n47]) h84
  rw [gn_0] at a1
  have eI : ∀ a, a ≠ 10 → (a < 32 ∨ 57 < a) → gI m' a = gI m8 a := fun a h1 h2 => by
    rw [a5, gI_wRf, i47 a (by omega), gI_alf, gI_wRf, i41 a (by omega), gI_alf, gI_wRf, gI_alf, gI_wRf, gI_alf, gI_wRf, gI_alf, gI_wRf, gI_alf, gI_wRf, gI_alf, gI_wRf, i20, gI_alf, gI_wRf, i14, gI_alf, gI_wRf]
  have e10 : gI m' 10 = gI m8 10 := by
    rw [a5, gI_wRf, i47 10 (by decide), gI_alf, gI_wRf, i41 10 (by decide), gI_alf, gI_wRf, gI_alf, gI_wRf, gI_alf, gI_wRf, gI_alf, gI_wRf, gI_alf, gI_wRf, gI_alf, gI_wRf, i20, gI_alf, gI_wRf, i14, gI_alf, gI_wRf]
  refine gW_eq a1 (gW_retV ⟨a2, ?_, ?_, fun a h1 h2 => ?_, fun k hk => ?_, ?_, ?_, fun w hw => ?_, fun r hr => a7 r (Nat.zero_le r) hr, ?_⟩)
  · have z1 : (3000 : Int32).toNatClampNeg = 3000 := rfl
    have z2 : (160 : Int32).toNatClampNeg = 160 := rfl
    have z3 : (40 : Int32).toNatClampNeg = 40 := rfl
    have z4 : (10 : Int32).toNatClampNeg = 10 := rfl
    have z5 : (6 : Int32).toNatClampNeg = 6 := rfl
    simp only [gU_wR, gU_al] at u8 u14 u20 u41 u47 a3
    omega
  · rw [a4, gL_wR, l47, gL_al, gL_wR, l41]
    simp only [gL_wR, gL_al]
    rw [l20, gL_al, gL_wR, l14, gL_al, gL_wR, l8]
    simp only [gL_wR, gL_al]
  · rw [eI a h1 h2, i8 a h1, gI_alf, gI_wRf, gI_alf]
  · rw [e10, i8k k hk]; rfl
  · rw [e10]; exact i87
  · exact iniX_c x41 fun q hq => by rw [a5, gI_wRf, i47 _ (by omega), gI_alf, gI_wRf]
  · rw [a6, gJ_wRf, j47, gJ_alf, gJ_wRf, j41, gJ_alf, gJ_wRf, gJ_alf, gJ_wRf, gJ_alf, gJ_wRf, gJ_alf, gJ_wRf, gJ_alf, gJ_wRf, gJ_alf, gJ_wRf, j20, gJ_alf, gJ_wRf, j14, gJ_alf, gJ_wRf]
    exact j8 w hw
  · refine ⟨?_, ?_, ?_, ?_, ?_, ?_, ?_, ?_, ?_, ?_, ?_, ?_, ?_, ?_, ?_, ?_, ?_, ?_, ?_, ?_, ?_, ?_, ?_, ?_, ?_, ?_, ?_, ?_, ?_, ?_, ?_, ?_, ?_, ?_, ?_, ?_, ?_, ?_, ?_, ?_, ?_, ?_, ?_, ?_, ?_, ?_, ?_, ?_, ?_⟩
    · rw [a8 8 0 (by decide) (.inl (by decide)), gR_wR_k (by decide), f47 8 (by decide), gR_alf, gR_wR_k (by decide), f41 8 (by decide), gR_alf, gR_wR_k (by decide), gR_alf, gR_wR_k (by decide), gR_alf, gR_wR_k (by decide), gR_alf, gR_wR_k (by decide), gR_alf, gR_wR_k (by decide), gR_alf, gR_wR_k (by decide), f20 8 (by decide), gR_alf, gR_wR_k (by decide), f14 8 (by decide), gR_alf, gR_wR_k (by decide), f8 8 (by decide), gR_alf, gR_wR_s]
    · rw [a8 8 1 (by decide) (.inl (by decide)), gR_wR_k (by decide), f47 8 (by decide), gR_alf, gR_wR_k (by decide), f41 8 (by decide), gR_alf, gR_wR_k (by decide), gR_alf, gR_wR_k (by decide), gR_alf, gR_wR_k (by decide), gR_alf, gR_wR_k (by decide), gR_alf, gR_wR_k (by decide), gR_alf, gR_wR_k (by decide), f20 8 (by decide), gR_alf, gR_wR_k (by decide), f14 8 (by decide), gR_alf, gR_wR_s]
    · rw [a8 8 2 (by decide) (.inl (by decide)), gR_wR_k (by decide), f47 8 (by decide), gR_alf, gR_wR_k (by decide), f41 8 (by decide), gR_alf, gR_wR_k (by decide), gR_alf, gR_wR_k (by decide), gR_alf, gR_wR_k (by decide), gR_alf, gR_wR_k (by decide), gR_alf, gR_wR_k (by decide), gR_alf, gR_wR_k (by decide), f20 8 (by decide), gR_alf, gR_wR_s]
    · rw [a8 8 3 (by decide) (.inl (by decide)), gR_wR_k (by decide), f47 8 (by decide), gR_alf, gR_wR_k (by decide), f41 8 (by decide), gR_alf, gR_wR_k (by decide), gR_alf, gR_wR_k (by decide), gR_alf, gR_wR_k (by decide), gR_alf, gR_wR_k (by decide), gR_alf, gR_wR_k (by decide), gR_alf, gR_wR_s]
    · rw [a8 8 4 (by decide) (.inl (by decide)), gR_wR_k (by decide), f47 8 (by decide), gR_alf, gR_wR_k (by decide), f41 8 (by decide), gR_alf, gR_wR_k (by decide), gR_alf, gR_wR_k (by decide), gR_alf, gR_wR_k (by decide), gR_alf, gR_wR_k (by decide), gR_alf, gR_wR_s]
    · rw [a8 8 5 (by decide) (.inl (by decide)), gR_wR_k (by decide), f47 8 (by decide), gR_alf, gR_wR_k (by decide), f41 8 (by decide), gR_alf, gR_wR_k (by decide), gR_alf, gR_wR_k (by decide), gR_alf, gR_wR_k (by decide), gR_alf, gR_wR_s]
    · rw [a8 8 6 (by decide) (.inl (by decide)), gR_wR_k (by decide), f47 8 (by decide), gR_alf, gR_wR_k (by decide), f41 8 (by decide), gR_alf, gR_wR_k (by decide), gR_alf, gR_wR_k (by decide), gR_alf, gR_wR_s]
    · rw [a8 8 7 (by decide) (.inl (by decide)), gR_wR_k (by decide), f47 8 (by decide), gR_alf, gR_wR_k (by decide), f41 8 (by decide), gR_alf, gR_wR_k (by decide), gR_alf, gR_wR_s]
    · rw [a8 8 8 (by decide) (.inl (by decide)), gR_wR_k (by decide), f47 8 (by decide), gR_alf, gR_wR_k (by decide), f41 8 (by decide), gR_alf, gR_wR_s]
    · rw [a8 8 9 (by decide) (.inl (by decide)), gR_wR_k (by decide), f47 8 (by decide), gR_alf, gR_wR_s]
    · rw [a8 8 10 (by decide) (.inl (by decide)), gR_wR_s]
    · rw [a8 10 0 (by decide) (.inl (by decide)), gR_wR_f (show 10 ≠ 8 by decide), f47 10 (by decide), gR_alf, gR_wR_f (show 10 ≠ 8 by decide), f41 10 (by decide), gR_alf, gR_wR_f (show 10 ≠ 8 by decide), gR_alf, gR_wR_f (show 10 ≠ 8 by decide), gR_alf, gR_wR_f (show 10 ≠ 8 by decide), gR_alf, gR_wR_f (show 10 ≠ 8 by decide), gR_alf, gR_wR_f (show 10 ≠ 8 by decide), gR_alf, gR_wR_f (show 10 ≠ 8 by decide), f20 10 (by decide), gR_alf, gR_wR_f (show 10 ≠ 8 by decide), f14 10 (by decide), gR_alf, gR_wR_f (show 10 ≠ 8 by decide), q8.1]
    · rw [a8 10 1 (by decide) (.inl (by decide)), gR_wR_f (show 10 ≠ 8 by decide), f47 10 (by decide), gR_alf, gR_wR_f (show 10 ≠ 8 by decide), f41 10 (by decide), gR_alf, gR_wR_f (show 10 ≠ 8 by decide), gR_alf, gR_wR_f (show 10 ≠ 8 by decide), gR_alf, gR_wR_f (show 10 ≠ 8 by decide), gR_alf, gR_wR_f (show 10 ≠ 8 by decide), gR_alf, gR_wR_f (show 10 ≠ 8 by decide), gR_alf, gR_wR_f (show 10 ≠ 8 by decide), f20 10 (by decide), gR_alf, gR_wR_f (show 10 ≠ 8 by decide), f14 10 (by decide), gR_alf, gR_wR_f (show 10 ≠ 8 by decide), q8.2.1]
    · rw [a8 10 2 (by decide) (.inl (by decide)), gR_wR_f (show 10 ≠ 8 by decide), f47 10 (by decide), gR_alf, gR_wR_f (show 10 ≠ 8 by decide), f41 10 (by decide), gR_alf, gR_wR_f (show 10 ≠ 8 by decide), gR_alf, gR_wR_f (show 10 ≠ 8 by decide), gR_alf, gR_wR_f (show 10 ≠ 8 by decide), gR_alf, gR_wR_f (show 10 ≠ 8 by decide), gR_alf, gR_wR_f (show 10 ≠ 8 by decide), gR_alf, gR_wR_f (show 10 ≠ 8 by decide), f20 10 (by decide), gR_alf, gR_wR_f (show 10 ≠ 8 by decide), f14 10 (by decide), gR_alf, gR_wR_f (show 10 ≠ 8 by decide), q8.2.2.1]
    · rw [a8 11 0 (by decide) (.inl (by decide)), gR_wR_f (show 11 ≠ 8 by decide), f47 11 (by decide), gR_alf, gR_wR_f (show 11 ≠ 8 by decide), f41 11 (by decide), gR_alf, gR_wR_f (show 11 ≠ 8 by decide), gR_alf, gR_wR_f (show 11 ≠ 8 by decide), gR_alf, gR_wR_f (show 11 ≠ 8 by decide), gR_alf, gR_wR_f (show 11 ≠ 8 by decide), gR_alf, gR_wR_f (show 11 ≠ 8 by decide), gR_alf, gR_wR_f (show 11 ≠ 8 by decide), f20 11 (by decide), gR_alf, gR_wR_f (show 11 ≠ 8 by decide), f14 11 (by decide), gR_alf, gR_wR_f (show 11 ≠ 8 by decide), q8.2.2.2]
    · rw [a8 15 0 (by decide) (.inl (by decide)), gR_wR_f (show 15 ≠ 8 by decide), f47 15 (by decide), gR_alf, gR_wR_f (show 15 ≠ 8 by decide), f41 15 (by decide), gR_alf, gR_wR_f (show 15 ≠ 8 by decide), gR_alf, gR_wR_f (show 15 ≠ 8 by decide), gR_alf, gR_wR_f (show 15 ≠ 8 by decide), gR_alf, gR_wR_f (show 15 ≠ 8 by decide), gR_alf, gR_wR_f (show 15 ≠ 8 by decide), gR_alf, gR_wR_f (show 15 ≠ 8 by decide), f20 15 (by decide), gR_alf, gR_wR_f (show 15 ≠ 8 by decide), q14.1]
    · rw [a8 15 1 (by decide) (.inl (by decide)), gR_wR_f (show 15 ≠ 8 by decide), f47 15 (by decide), gR_alf, gR_wR_f (show 15 ≠ 8 by decide), f41 15 (by decide), gR_alf, gR_wR_f (show 15 ≠ 8 by decide), gR_alf, gR_wR_f (show 15 ≠ 8 by decide), gR_alf, gR_wR_f (show 15 ≠ 8 by decide), gR_alf, gR_wR_f (show 15 ≠ 8 by decide), gR_alf, gR_wR_f (show 15 ≠ 8 by decide), gR_alf, gR_wR_f (show 15 ≠ 8 by decide), f20 15 (by decide), gR_alf, gR_wR_f (show 15 ≠ 8 by decide), q14.2.1]
    · rw [a8 15 2 (by decide) (.inl (by decide)), gR_wR_f (show 15 ≠ 8 by decide), f47 15 (by decide), gR_alf, gR_wR_f (show 15 ≠ 8 by decide), f41 15 (by decide), gR_alf, gR_wR_f (show 15 ≠ 8 by decide), gR_alf, gR_wR_f (show 15 ≠ 8 by decide), gR_alf, gR_wR_f (show 15 ≠ 8 by decide), gR_alf, gR_wR_f (show 15 ≠ 8 by decide), gR_alf, gR_wR_f (show 15 ≠ 8 by decide), gR_alf, gR_wR_f (show 15 ≠ 8 by decide), f20 15 (by decide), gR_alf, gR_wR_f (show 15 ≠ 8 by decide), q14.2.2.1]
    · rw [a8 15 3 (by decide) (.inl (by decide)), gR_wR_f (show 15 ≠ 8 by decide), f47 15 (by decide), gR_alf, gR_wR_f (show 15 ≠ 8 by decide), f41 15 (by decide), gR_alf, gR_wR_f (show 15 ≠ 8 by decide), gR_alf, gR_wR_f (show 15 ≠ 8 by decide), gR_alf, gR_wR_f (show 15 ≠ 8 by decide), gR_alf, gR_wR_f (show 15 ≠ 8 by decide), gR_alf, gR_wR_f (show 15 ≠ 8 by decide), gR_alf, gR_wR_f (show 15 ≠ 8 by decide), f20 15 (by decide), gR_alf, gR_wR_f (show 15 ≠ 8 by decide), q14.2.2.2]
    · rw [a8 20 0 (by decide) (.inl (by decide)), gR_wR_f (show 20 ≠ 8 by decide), f47 20 (by decide), gR_alf, gR_wR_f (show 20 ≠ 8 by decide), f41 20 (by decide), gR_alf, gR_wR_f (show 20 ≠ 8 by decide), gR_alf, gR_wR_f (show 20 ≠ 8 by decide), gR_alf, gR_wR_f (show 20 ≠ 8 by decide), gR_alf, gR_wR_f (show 20 ≠ 8 by decide), gR_alf, gR_wR_f (show 20 ≠ 8 by decide), gR_alf, gR_wR_f (show 20 ≠ 8 by decide), q20.1]
    · rw [a8 20 1 (by decide) (.inl (by decide)), gR_wR_f (show 20 ≠ 8 by decide), f47 20 (by decide), gR_alf, gR_wR_f (show 20 ≠ 8 by decide), f41 20 (by decide), gR_alf, gR_wR_f (show 20 ≠ 8 by decide), gR_alf, gR_wR_f (show 20 ≠ 8 by decide), gR_alf, gR_wR_f (show 20 ≠ 8 by decide), gR_alf, gR_wR_f (show 20 ≠ 8 by decide), gR_alf, gR_wR_f (show 20 ≠ 8 by decide), gR_alf, gR_wR_f (show 20 ≠ 8 by decide), q20.2.1]
    · rw [a8 20 2 (by decide) (.inl (by decide)), gR_wR_f (show 20 ≠ 8 by decide), f47 20 (by decide), gR_alf, gR_wR_f (show 20 ≠ 8 by decide), f41 20 (by decide), gR_alf, gR_wR_f (show 20 ≠ 8 by decide), gR_alf, gR_wR_f (show 20 ≠ 8 by decide), gR_alf, gR_wR_f (show 20 ≠ 8 by decide), gR_alf, gR_wR_f (show 20 ≠ 8 by decide), gR_alf, gR_wR_f (show 20 ≠ 8 by decide), gR_alf, gR_wR_f (show 20 ≠ 8 by decide), q20.2.2.1]
    · rw [a8 20 3 (by decide) (.inl (by decide)), gR_wR_f (show 20 ≠ 8 by decide), f47 20 (by decide), gR_alf, gR_wR_f (show 20 ≠ 8 by decide), f41 20 (by decide), gR_alf, gR_wR_f (show 20 ≠ 8 by decide), gR_alf, gR_wR_f (show 20 ≠ 8 by decide), gR_alf, gR_wR_f (show 20 ≠ 8 by decide), gR_alf, gR_wR_f (show 20 ≠ 8 by decide), gR_alf, gR_wR_f (show 20 ≠ 8 by decide), gR_alf, gR_wR_f (show 20 ≠ 8 by decide), q20.2.2.2.1]
    · rw [a8 20 4 (by decide) (.inl (by decide)), gR_wR_f (show 20 ≠ 8 by decide), f47 20 (by decide), gR_alf, gR_wR_f (show 20 ≠ 8 by decide), f41 20 (by decide), gR_alf, gR_wR_f (show 20 ≠ 8 by decide), gR_alf, gR_wR_f (show 20 ≠ 8 by decide), gR_alf, gR_wR_f (show 20 ≠ 8 by decide), gR_alf, gR_wR_f (show 20 ≠ 8 by decide), gR_alf, gR_wR_f (show 20 ≠ 8 by decide), gR_alf, gR_wR_f (show 20 ≠ 8 by decide), q20.2.2.2.2.1]
    · rw [a8 20 5 (by decide) (.inl (by decide)), gR_wR_f (show 20 ≠ 8 by decide), f47 20 (by decide), gR_alf, gR_wR_f (show 20 ≠ 8 by decide), f41 20 (by decide), gR_alf, gR_wR_f (show 20 ≠ 8 by decide), gR_alf, gR_wR_f (show 20 ≠ 8 by decide), gR_alf, gR_wR_f (show 20 ≠ 8 by decide), gR_alf, gR_wR_f (show 20 ≠ 8 by decide), gR_alf, gR_wR_f (show 20 ≠ 8 by decide), gR_alf, gR_wR_f (show 20 ≠ 8 by decide), q20.2.2.2.2.2]
    · rw [a8 32 0 (by decide) (.inl (by decide)), gR_wR_f (show 32 ≠ 8 by decide), f47 32 (by decide), gR_alf, gR_wR_f (show 32 ≠ 8 by decide), q41.1]
    · rw [a8 32 1 (by decide) (.inl (by decide)), gR_wR_f (show 32 ≠ 8 by decide), f47 32 (by decide), gR_alf, gR_wR_f (show 32 ≠ 8 by decide), q41.2.1]
    · rw [a8 32 2 (by decide) (.inl (by decide)), gR_wR_f (show 32 ≠ 8 by decide), f47 32 (by decide), gR_alf, gR_wR_f (show 32 ≠ 8 by decide), q41.2.2.1]
    · rw [a8 32 3 (by decide) (.inl (by decide)), gR_wR_f (show 32 ≠ 8 by decide), f47 32 (by decide), gR_alf, gR_wR_f (show 32 ≠ 8 by decide), q41.2.2.2.1]
    · rw [a8 32 4 (by decide) (.inl (by decide)), gR_wR_f (show 32 ≠ 8 by decide), f47 32 (by decide), gR_alf, gR_wR_f (show 32 ≠ 8 by decide), q41.2.2.2.2.1]
    · rw [a8 32 5 (by decide) (.inl (by decide)), gR_wR_f (show 32 ≠ 8 by decide), f47 32 (by decide), gR_alf, gR_wR_f (show 32 ≠ 8 by decide), q41.2.2.2.2.2.1]
    · rw [a8 32 6 (by decide) (.inl (by decide)), gR_wR_f (show 32 ≠ 8 by decide), f47 32 (by decide), gR_alf, gR_wR_f (show 32 ≠ 8 by decide), q41.2.2.2.2.2.2.1]
    · rw [a8 32 7 (by decide) (.inl (by decide)), gR_wR_f (show 32 ≠ 8 by decide), f47 32 (by decide), gR_alf, gR_wR_f (show 32 ≠ 8 by decide), q41.2.2.2.2.2.2.2.1]
    · rw [a8 32 8 (by decide) (.inl (by decide)), gR_wR_f (show 32 ≠ 8 by decide), f47 32 (by decide), gR_alf, gR_wR_f (show 32 ≠ 8 by decide), q41.2.2.2.2.2.2.2.2.1]
    · rw [a8 32 9 (by decide) (.inl (by decide)), gR_wR_f (show 32 ≠ 8 by decide), f47 32 (by decide), gR_alf, gR_wR_f (show 32 ≠ 8 by decide), q41.2.2.2.2.2.2.2.2.2.1]
    · rw [a8 32 10 (by decide) (.inl (by decide)), gR_wR_f (show 32 ≠ 8 by decide), f47 32 (by decide), gR_alf, gR_wR_f (show 32 ≠ 8 by decide), q41.2.2.2.2.2.2.2.2.2.2.1]
    · rw [a8 32 11 (by decide) (.inl (by decide)), gR_wR_f (show 32 ≠ 8 by decide), f47 32 (by decide), gR_alf, gR_wR_f (show 32 ≠ 8 by decide), q41.2.2.2.2.2.2.2.2.2.2.2]
    · rw [a8 45 0 (by decide) (.inl (by decide)), gR_wR_f (show 45 ≠ 8 by decide), q47.1]
    · rw [a8 45 1 (by decide) (.inl (by decide)), gR_wR_f (show 45 ≠ 8 by decide), q47.2.1]
    · rw [a8 45 2 (by decide) (.inl (by decide)), gR_wR_f (show 45 ≠ 8 by decide), q47.2.2.1]
    · rw [a8 45 3 (by decide) (.inl (by decide)), gR_wR_f (show 45 ≠ 8 by decide), q47.2.2.2.1]
    · rw [a8 45 4 (by decide) (.inl (by decide)), gR_wR_f (show 45 ≠ 8 by decide), q47.2.2.2.2.1]
    · rw [a8 45 5 (by decide) (.inl (by decide)), gR_wR_f (show 45 ≠ 8 by decide), q47.2.2.2.2.2.1]
    · rw [a8 45 6 (by decide) (.inl (by decide)), gR_wR_f (show 45 ≠ 8 by decide), q47.2.2.2.2.2.2.1]
    · rw [a8 45 7 (by decide) (.inl (by decide)), gR_wR_f (show 45 ≠ 8 by decide), q47.2.2.2.2.2.2.2.1]
    · rw [a8 45 8 (by decide) (.inl (by decide)), gR_wR_f (show 45 ≠ 8 by decide), q47.2.2.2.2.2.2.2.2.1]
    · rw [a8 45 9 (by decide) (.inl (by decide)), gR_wR_f (show 45 ≠ 8 by decide), q47.2.2.2.2.2.2.2.2.2.1]
    · rw [a8 45 10 (by decide) (.inl (by decide)), gR_wR_f (show 45 ≠ 8 by decide), q47.2.2.2.2.2.2.2.2.2.2.1]
    · rw [a8 45 11 (by decide) (.inl (by decide)), gR_wR_f (show 45 ≠ 8 by decide), q47.2.2.2.2.2.2.2.2.2.2.2]
theorem gR_wI_f {m : gd_M} {a k : Nat} {x : Int32} : gR (wI m a k x) = gR m := rfl
def kMf (m : gd_M) : Prop := gR m 698 0 = 699 ∧ gR m 698 1 = 700 ∧ gR m 698 2 = 716 ∧ gR m 698 3 = 732 ∧ gR m 698 16 = 733 ∧ gR m 698 17 = 734 ∧ gR m 698 20 = 735 ∧ gR m 698 21 = 736 ∧ gR m 698 22 = 737 ∧ gR m 698 23 = 738 ∧ gR m 698 24 = 739 ∧ gR m 698 25 = 740 ∧ gR m 698 26 = 741 ∧ gR m 698 27 = 742 ∧ gR m 698 28 = 743 ∧ gR m 698 29 = 744 ∧ gR m 698 30 = 745 ∧ gR m 698 31 = 746 ∧ gR m 698 32 = 747 ∧ gR m 698 33 = 748 ∧ gR m 698 34 = 749 ∧ gR m 698 35 = 750 ∧ gR m 698 36 = 751 ∧ gR m 698 37 = 752 ∧ gR m 698 38 = 753 ∧ gR m 698 39 = 754 ∧ gR m 698 41 = 755 ∧ gR m 698 42 = 756 ∧ gR m 698 44 = 757 ∧ (∀ k < 15, gR m 700 (3 + k) = 700 + 1 + k) ∧ ∀ k < 15, gR m 716 (3 + k) = 716 + 1 + k
theorem k_Mo (m : gd_M) (hN : gN m = 699) : gW (gd_call 21 [.ref 698] m) (qV fun m' => gN m' = 758 ∧ gU m' = gU m + 34669 ∧ gL m' = gL m ∧ (∀ a, a < 698 → gR m' a = gR m a) ∧ gJ m' = gJ m ∧ (∀ a, a ≠ 698 → (a < 700 ∨ 715 < a) → gI m' a = gI m a) ∧ (∀ k, k ≠ 15 → gI m' 698 k = gI m 698 k) ∧ gI m' 698 15 = -1 ∧ iniA (gCd 700 (gI m')) ∧ kMf m') := by
  refine gW_eq (q_Mo_init 698 m) ?_
  rw [hN]
  repeat refine gW_g (by decide +kernel) ?_
  refine gW_k0V (k_St (gd_al m 6) (by simp only [gN_al, hN])) fun m5 h5 => ?_
  obtain ⟨⟨n5, u5, l5, f5'⟩, i5, j5⟩ := h5
  rw [n5]
  repeat refine gW_g (by decide +kernel) ?_
  refine gW_k0V (k_MC0 (gd_al (wR m5 698 0 699) 32) (by simp only [gN_al, gN_wR, n5])) fun m11 h11 => ?_
  obtain ⟨⟨n11, u11, l11, f11'⟩, i11, j11, q11⟩ := h11
  rw [n11]
  repeat refine gW_g (by decide +kernel) ?_
  refine gW_k0V (k_MC1 (gd_al (wR m11 698 1 700) 32) (by simp only [gN_al, gN_wR, n11])) fun m17 h17 => ?_
  obtain ⟨⟨n17, u17, l17, f17'⟩, i17, j17, q17⟩ := h17
  have f11 : ∀ a, a < 700 → gR m11 a = gR (gd_al (wR m5 698 0 699) 32) a := fun a ha => f11' a (.inl ha)
  have f17 : ∀ a, a < 716 → gR m17 a = gR (gd_al (wR m11 698 1 700) 32) a := fun a ha => f17' a (.inl ha)
  rw [n17]
  repeat refine gW_g (by decide +kernel) ?_
  obtain ⟨mm, hmm⟩ : ∃ x, (wR (gd_al (wR (gd_al (wR (gd_al (wR (gd_al (wR (gd_al (wR (gd_al (wR (gd_al (wR (gd_al (wR (gd_al (wR (gd_al (wR (gd_al (wR (gd_al (wR (gd_al (wR (gd_al (wR (gd_al (wR (gd_al (wR (gd_al (wR (gd_al (wR (gd_al (wR (gd_al (wR (gd_al (wR (gd_al (wR (gd_al (wR (gd_al (wR (gd_al (wI (wR (gd_al (wR m17 698 2 (716)) (3000 : Int32).toNatClampNeg) 698 3 (732)) 698 15 (-1)) (5 : Int32).toNatClampNeg) 698 16 (732 + 1)) (5 : Int32).toNatClampNeg) 698 17 (732 + 2)) (40 : Int32).toNatClampNeg) 698 20 (732 + 3)) (10 : Int32).toNatClampNeg) 698 21 (732 + 4)) (200 : Int32).toNatClampNeg) 698 22 (732 + 5)) (160 : Int32).toNatClampNeg) 698 23 (732 + 6)) (160 : Int32).toNatClampNeg) 698 24 (732 + 7)) (2560 : Int32).toNatClampNeg) 698 25 (732 + 8)) (960 : Int32).toNatClampNeg) 698 26 (732 + 9)) (160 : Int32).toNatClampNeg) 698 27 (732 + 10)) (160 : Int32).toNatClampNeg) 698 28 (732 + 11)) (25600 : Int32).toNatClampNeg) 698 29 (732 + 12)) (160 : Int32).toNatClampNeg) 698 30 (732 + 13)) (160 : Int32).toNatClampNeg) 698 31 (732 + 14)) (160 : Int32).toNatClampNeg) 698 32 (732 + 15)) (160 : Int32).toNatClampNeg) 698 33 (732 + 16)) (160 : Int32).toNatClampNeg) 698 34 (732 + 17)) (5 : Int32).toNatClampNeg) 698 35 (732 + 18)) (40 : Int32).toNatClampNeg) 698 36 (732 + 19)) (40 : Int32).toNatClampNeg) 698 37 (732 + 20)) (40 : Int32).toNatClampNeg) 698 38 (732 + 21)) (40 : Int32).toNatClampNeg) 698 39 (732 + 22)) (10 : Int32).toNatClampNeg) 698 41 (732 + 23)) (10 : Int32).toNatClampNeg) 698 42 (732 + 24)) (40 : Int32).toNatClampNeg) 698 44 (732 + 25)) = x := ⟨_, rfl⟩
  rw [hmm]
  have hn : gN mm = 758 := by rw [← hmm]; simp only [gN_wR, gN_wI, gN_al, n17]
  have hU : gU mm = gU m + 34669 := by
    rw [← hmm]
    have z5 : (5 : Int32).toNatClampNeg = 5 := rfl
    have z10 : (10 : Int32).toNatClampNeg = 10 := rfl
    have z40 : (40 : Int32).toNatClampNeg = 40 := rfl
    have z160 : (160 : Int32).toNatClampNeg = 160 := rfl
    have z200 : (200 : Int32).toNatClampNeg = 200 := rfl
    have z960 : (960 : Int32).toNatClampNeg = 960 := rfl
    have z2560 : (2560 : Int32).toNatClampNeg = 2560 := rfl
    have z3000 : (3000 : Int32).toNatClampNeg = 3000 := rfl
    have z25600 : (25600 : Int32).toNatClampNeg = 25600 := rfl
    simp only [gU_wR, gU_wI, gU_al] at u5 u11 u17 ⊢
    omega
  have hL : gL mm = gL m := by
    rw [← hmm]
    simp only [gL_wR, gL_wI, gL_al]
    rw [l17, gL_al, gL_wR, l11, gL_al, gL_wR, l5, gL_al]
  have hJ : gJ mm = gJ m := by
    rw [← hmm]
    have e : ∀ (m : gd_M) (a k : Nat) (x : Int32), gJ (wI m a k x) = gJ m := fun _ _ _ _ => rfl
    simp only [gJ_wRf, gJ_alf, e]
    rw [j17, gJ_alf, gJ_wRf, j11, gJ_alf, gJ_wRf, j5, gJ_alf]
  have hI : gI mm = gI (wI m 698 15 (-1)) := by
    rw [← hmm]
    simp only [gI_wRf, gI_alf]
    have e : gI m17 = gI m := by rw [i17, gI_alf, gI_wRf, i11, gI_alf, gI_wRf, i5, gI_alf]
    funext a k
    rw [gI_wI, gI_wI, gI_wRf, gI_alf, gI_wRf, e]
  have hO : ∀ a, a ≠ 698 → gR mm a = gR m17 a := fun a ha => by
    rw [← hmm, gR_wR_f (show a ≠ 698 by omega), gR_alf, gR_wR_f (show a ≠ 698 by omega), gR_alf, gR_wR_f (show a ≠ 698 by omega), gR_alf, gR_wR_f (show a ≠ 698 by omega), gR_alf, gR_wR_f (show a ≠ 698 by omega), gR_alf, gR_wR_f (show a ≠ 698 by omega), gR_alf, gR_wR_f (show a ≠ 698 by omega), gR_alf, gR_wR_f (show a ≠ 698 by omega), gR_alf, gR_wR_f (show a ≠ 698 by omega), gR_alf, gR_wR_f (show a ≠ 698 by omega), gR_alf, gR_wR_f (show a ≠ 698 by omega), gR_alf, gR_wR_f (show a ≠ 698 by omega), gR_alf, gR_wR_f (show a ≠ 698 by omega), gR_alf, gR_wR_f (show a ≠ 698 by omega), gR_alf, gR_wR_f (show a ≠ 698 by omega), gR_alf, gR_wR_f (show a ≠ 698 by omega), gR_alf, gR_wR_f (show a ≠ 698 by omega), gR_alf, gR_wR_f (show a ≠ 698 by omega), gR_alf, gR_wR_f (show a ≠ 698 by omega), gR_alf, gR_wR_f (show a ≠ 698 by omega), gR_alf, gR_wR_f (show a ≠ 698 by omega), gR_alf, gR_wR_f (show a ≠ 698 by omega), gR_alf, gR_wR_f (show a ≠ 698 by omega), gR_alf, gR_wR_f (show a ≠ 698 by omega), gR_alf, gR_wR_f (show a ≠ 698 by omega), gR_alf, gR_wI_f, gR_wR_f (show a ≠ 698 by omega), gR_alf, gR_wR_f (show a ≠ 698 by omega)]
  have m0 : gR mm 698 0 = 699 := by rw [← hmm, gR_wR_k (by decide), gR_alf, gR_wR_k (by decide), gR_alf, gR_wR_k (by decide), gR_alf, gR_wR_k (by decide), gR_alf, gR_wR_k (by decide), gR_alf, gR_wR_k (by decide), gR_alf, gR_wR_k (by decide), gR_alf, gR_wR_k (by decide), gR_alf, gR_wR_k (by decide), gR_alf, gR_wR_k (by decide), gR_alf, gR_wR_k (by decide), gR_alf, gR_wR_k (by decide), gR_alf, gR_wR_k (by decide), gR_alf, gR_wR_k (by decide), gR_alf, gR_wR_k (by decide), gR_alf, gR_wR_k (by decide), gR_alf, gR_wR_k (by decide), gR_alf, gR_wR_k (by decide), gR_alf, gR_wR_k (by decide), gR_alf, gR_wR_k (by decide), gR_alf, gR_wR_k (by decide), gR_alf, gR_wR_k (by decide), gR_alf, gR_wR_k (by decide), gR_alf, gR_wR_k (by decide), gR_alf, gR_wR_k (by decide), gR_alf, gR_wI, gR_wR_k (by decide), gR_alf, gR_wR_k (by decide), f17 698 (by decide), gR_alf, gR_wR_k (by decide), f11 698 (by decide), gR_alf, gR_wR_s]
  have m1 : gR mm 698 1 = 700 := by rw [← hmm, gR_wR_k (by decide), gR_alf, gR_wR_k (by decide), gR_alf, gR_wR_k (by decide), gR_alf, gR_wR_k (by decide), gR_alf, gR_wR_k (by decide), gR_alf, gR_wR_k (by decide), gR_alf, gR_wR_k (by decide), gR_alf, gR_wR_k (by decide), gR_alf, gR_wR_k (by decide), gR_alf, gR_wR_k (by decide), gR_alf, gR_wR_k (by decide), gR_alf, gR_wR_k (by decide), gR_alf, gR_wR_k (by decide), gR_alf, gR_wR_k (by decide), gR_alf, gR_wR_k (by decide), gR_alf, gR_wR_k (by decide), gR_alf, gR_wR_k (by decide), gR_alf, gR_wR_k (by decide), gR_alf, gR_wR_k (by decide), gR_alf, gR_wR_k (by decide), gR_alf, gR_wR_k (by decide), gR_alf, gR_wR_k (by decide), gR_alf, gR_wR_k (by decide), gR_alf, gR_wR_k (by decide), gR_alf, gR_wR_k (by decide), gR_alf, gR_wI, gR_wR_k (by decide), gR_alf, gR_wR_k (by decide), f17 698 (by decide), gR_alf, gR_wR_s]
  have m2 : gR mm 698 2 = 716 := by rw [← hmm, gR_wR_k (by decide), gR_alf, gR_wR_k (by decide), gR_alf, gR_wR_k (by decide), gR_alf, gR_wR_k (by decide), gR_alf, gR_wR_k (by decide), gR_alf, gR_wR_k (by decide), gR_alf, gR_wR_k (by decide), gR_alf, gR_wR_k (by decide), gR_alf, gR_wR_k (by decide), gR_alf, gR_wR_k (by decide), gR_alf, gR_wR_k (by decide), gR_alf, gR_wR_k (by decide), gR_alf, gR_wR_k (by decide), gR_alf, gR_wR_k (by decide), gR_alf, gR_wR_k (by decide), gR_alf, gR_wR_k (by decide), gR_alf, gR_wR_k (by decide), gR_alf, gR_wR_k (by decide), gR_alf, gR_wR_k (by decide), gR_alf, gR_wR_k (by decide), gR_alf, gR_wR_k (by decide), gR_alf, gR_wR_k (by decide), gR_alf, gR_wR_k (by decide), gR_alf, gR_wR_k (by decide), gR_alf, gR_wR_k (by decide), gR_alf, gR_wI, gR_wR_k (by decide), gR_alf, gR_wR_s]
  have m3 : gR mm 698 3 = 732 := by rw [← hmm, gR_wR_k (by decide), gR_alf, gR_wR_k (by decide), gR_alf, gR_wR_k (by decide), gR_alf, gR_wR_k (by decide), gR_alf, gR_wR_k (by decide), gR_alf, gR_wR_k (by decide), gR_alf, gR_wR_k (by decide), gR_alf, gR_wR_k (by decide), gR_alf, gR_wR_k (by decide), gR_alf, gR_wR_k (by decide), gR_alf, gR_wR_k (by decide), gR_alf, gR_wR_k (by decide), gR_alf, gR_wR_k (by decide), gR_alf, gR_wR_k (by decide), gR_alf, gR_wR_k (by decide), gR_alf, gR_wR_k (by decide), gR_alf, gR_wR_k (by decide), gR_alf, gR_wR_k (by decide), gR_alf, gR_wR_k (by decide), gR_alf, gR_wR_k (by decide), gR_alf, gR_wR_k (by decide), gR_alf, gR_wR_k (by decide), gR_alf, gR_wR_k (by decide), gR_alf, gR_wR_k (by decide), gR_alf, gR_wR_k (by decide), gR_alf, gR_wI, gR_wR_s]
  have m16 : gR mm 698 16 = 733 := by rw [← hmm, gR_wR_k (by decide), gR_alf, gR_wR_k (by decide), gR_alf, gR_wR_k (by decide), gR_alf, gR_wR_k (by decide), gR_alf, gR_wR_k (by decide), gR_alf, gR_wR_k (by decide), gR_alf, gR_wR_k (by decide), gR_alf, gR_wR_k (by decide), gR_alf, gR_wR_k (by decide), gR_alf, gR_wR_k (by decide), gR_alf, gR_wR_k (by decide), gR_alf, gR_wR_k (by decide), gR_alf, gR_wR_k (by decide), gR_alf, gR_wR_k (by decide), gR_alf, gR_wR_k (by decide), gR_alf, gR_wR_k (by decide), gR_alf, gR_wR_k (by decide), gR_alf, gR_wR_k (by decide), gR_alf, gR_wR_k (by decide), gR_alf, gR_wR_k (by decide), gR_alf, gR_wR_k (by decide), gR_alf, gR_wR_k (by decide), gR_alf, gR_wR_k (by decide), gR_alf, gR_wR_k (by decide), gR_alf, gR_wR_s]
  have m17 : gR mm 698 17 = 734 := by rw [← hmm, gR_wR_k (by decide), gR_alf, gR_wR_k (by decide), gR_alf, gR_wR_k (by decide), gR_alf, gR_wR_k (by decide), gR_alf, gR_wR_k (by decide), gR_alf, gR_wR_k (by decide), gR_alf, gR_wR_k (by decide), gR_alf, gR_wR_k (by decide), gR_alf, gR_wR_k (by decide), gR_alf, gR_wR_k (by decide), gR_alf, gR_wR_k (by decide), gR_alf, gR_wR_k (by decide), gR_alf, gR_wR_k (by decide), gR_alf, gR_wR_k (by decide), gR_alf, gR_wR_k (by decide), gR_alf, gR_wR_k (by decide), gR_alf, gR_wR_k (by decide), gR_alf, gR_wR_k (by decide), gR_alf, gR_wR_k (by decide), gR_alf, gR_wR_k (by decide), gR_alf, gR_wR_k (by decide), gR_alf, gR_wR_k (by decide), gR_alf, gR_wR_k (by decide), gR_alf, gR_wR_s]
  have m20 : gR mm 698 20 = 735 := by rw [← hmm, gR_wR_k (by decide), gR_alf, gR_wR_k (by decide), gR_alf, gR_wR_k (by decide), gR_alf, gR_wR_k (by decide), gR_alf, gR_wR_k (by decide), gR_alf, gR_wR_k (by decide), gR_alf, gR_wR_k (by decide), gR_alf, gR_wR_k (by decide), gR_alf, gR_wR_k (by decide), gR_alf, gR_wR_k (by decide), gR_alf, gR_wR_k (by decide), gR_alf, gR_wR_k (by decide), gR_alf, gR_wR_k (by decide), gR_alf, gR_wR_k (by decide), gR_alf, gR_wR_k (by decide), gR_alf, gR_wR_k (by decide), gR_alf, gR_wR_k (by decide), gR_alf, gR_wR_k (by decide), gR_alf, gR_wR_k (by decide), gR_alf, gR_wR_k (by decide), gR_alf, gR_wR_k (by decide), gR_alf, gR_wR_k (by decide), gR_alf, gR_wR_s]
  have m21 : gR mm 698 21 = 736 := by rw [← hmm, gR_wR_k (by decide), gR_alf, gR_wR_k (by decide), gR_alf, gR_wR_k (by decide), gR_alf, gR_wR_k (by decide), gR_alf, gR_wR_k (by decide), gR_alf, gR_wR_k (by decide), gR_alf, gR_wR_k (by decide), gR_alf, gR_wR_k (by decide), gR_alf, gR_wR_k (by decide), gR_alf, gR_wR_k (by decide), gR_alf, gR_wR_k (by decide), gR_alf, gR_wR_k (by decide), gR_alf, gR_wR_k (by decide), gR_alf, gR_wR_k (by decide), gR_alf, gR_wR_k (by decide), gR_alf, gR_wR_k (by decide), gR_alf, gR_wR_k (by decide), gR_alf, gR_wR_k (by decide), gR_alf, gR_wR_k (by decide), gR_alf, gR_wR_k (by decide), gR_alf, gR_wR_k (by decide), gR_alf, gR_wR_s]
  have m22 : gR mm 698 22 = 737 := by rw [← hmm, gR_wR_k (by decide), gR_alf, gR_wR_k (by decide), gR_alf, gR_wR_k (by decide), gR_alf, gR_wR_k (by decide), gR_alf, gR_wR_k (by decide), gR_alf, gR_wR_k (by decide), gR_alf, gR_wR_k (by decide), gR_alf, gR_wR_k (by decide), gR_alf, gR_wR_k (by decide), gR_alf, gR_wR_k (by decide), gR_alf, gR_wR_k (by decide), gR_alf, gR_wR_k (by decide), gR_alf, gR_wR_k (by decide), gR_alf, gR_wR_k (by decide), gR_alf, gR_wR_k (by decide), gR_alf, gR_wR_k (by decide), gR_alf, gR_wR_k (by decide), gR_alf, gR_wR_k (by decide), gR_alf, gR_wR_k (by decide), gR_alf, gR_wR_k (by decide), gR_alf, gR_wR_s]
  have m23 : gR mm 698 23 = 738 := by rw [← hmm, gR_wR_k (by decide), gR_alf, gR_wR_k (by decide), gR_alf, gR_wR_k (by decide), gR_alf, gR_wR_k (by decide), gR_alf, gR_wR_k (by decide), gR_alf, gR_wR_k (by decide), gR_alf, gR_wR_k (by decide), gR_alf, gR_wR_k (by decide), gR_alf, gR_wR_k (by decide), gR_alf, gR_wR_k (by decide), gR_alf, gR_wR_k (by decide), gR_alf, gR_wR_k (by decide), gR_alf, gR_wR_k (by decide), gR_alf, gR_wR_k (by decide), gR_alf, gR_wR_k (by decide), gR_alf, gR_wR_k (by decide), gR_alf, gR_wR_k (by decide), gR_alf, gR_wR_k (by decide), gR_alf, gR_wR_k (by decide), gR_alf, gR_wR_s]
  have m24 : gR mm 698 24 = 739 := by rw [← hmm, gR_wR_k (by decide), gR_alf, gR_wR_k (by decide), gR_alf, gR_wR_k (by decide), gR_alf, gR_wR_k (by decide), gR_alf, gR_wR_k (by decide), gR_alf, gR_wR_k (by decide), gR_alf, gR_wR_k (by decide), gR_alf, gR_wR_k (by decide), gR_alf, gR_wR_k (by decide), gR_alf, gR_wR_k (by decide), gR_alf, gR_wR_k (by decide), gR_alf, gR_wR_k (by decide), gR_alf, gR_wR_k (by decide), gR_alf, gR_wR_k (by decide), gR_alf, gR_wR_k (by decide), gR_alf, gR_wR_k (by decide), gR_alf, gR_wR_k (by decide), gR_alf, gR_wR_k (by decide), gR_alf, gR_wR_s]
  have m25 : gR mm 698 25 = 740 := by rw [← hmm, gR_wR_k (by decide), gR_alf, gR_wR_k (by decide), gR_alf, gR_wR_k (by decide), gR_alf, gR_wR_k (by decide), gR_alf, gR_wR_k (by decide), gR_alf, gR_wR_k (by decide), gR_alf, gR_wR_k (by decide), gR_alf, gR_wR_k (by decide), gR_alf, gR_wR_k (by decide), gR_alf, gR_wR_k (by decide), gR_alf, gR_wR_k (by decide), gR_alf, gR_wR_k (by decide), gR_alf, gR_wR_k (by decide), gR_alf, gR_wR_k (by decide), gR_alf, gR_wR_k (by decide), gR_alf, gR_wR_k (by decide), gR_alf, gR_wR_k (by decide), gR_alf, gR_wR_s]
  have m26 : gR mm 698 26 = 741 := by rw [← hmm, gR_wR_k (by decide), gR_alf, gR_wR_k (by decide), gR_alf, gR_wR_k (by decide), gR_alf, gR_wR_k (by decide), gR_alf, gR_wR_k (by decide), gR_alf, gR_wR_k (by decide), gR_alf, gR_wR_k (by decide), gR_alf, gR_wR_k (by decide), gR_alf, gR_wR_k (by decide), gR_alf, gR_wR_k (by decide), gR_alf, gR_wR_k (by decide), gR_alf, gR_wR_k (by decide), gR_alf, gR_wR_k (by decide), gR_alf, gR_wR_k (by decide), gR_alf, gR_wR_k (by decide), gR_alf, gR_wR_k (by decide), gR_alf, gR_wR_s]
  have m27 : gR mm 698 27 = 742 := by rw [← hmm, gR_wR_k (by decide), gR_alf, gR_wR_k (by decide), gR_alf, gR_wR_k (by decide), gR_alf, gR_wR_k (by decide), gR_alf, gR_wR_k (by decide), gR_alf, gR_wR_k (by decide), gR_alf, gR_wR_k (by decide), gR_alf, gR_wR_k (by decide), gR_alf, gR_wR_k (by decide), gR_alf, gR_wR_k (by decide), gR_alf, gR_wR_k (by decide), gR_alf, gR_wR_k (by decide), gR_alf, gR_wR_k (by decide), gR_alf, gR_wR_k (by decide), gR_alf, gR_wR_k (by decide), gR_alf, gR_wR_s]
  have m28 : gR mm 698 28 = 743 := by rw [← hmm, gR_wR_k (by decide), gR_alf, gR_wR_k (by decide), gR_alf, gR_wR_k (by decide), gR_alf, gR_wR_k (by decide), gR_alf, gR_wR_k (by decide), gR_alf, gR_wR_k (by decide), gR_alf, gR_wR_k (by decide), gR_alf, gR_wR_k (by decide), gR_alf, gR_wR_k (by decide), gR_alf, gR_wR_k (by decide), gR_alf, gR_wR_k (by decide), gR_alf, gR_wR_k (by decide), gR_alf, gR_wR_k (by decide), gR_alf, gR_wR_k (by decide), gR_alf, gR_wR_s]
  have m29 : gR mm 698 29 = 744 := by rw [← hmm, gR_wR_k (by decide), gR_alf, gR_wR_k (by decide), gR_alf, gR_wR_k (by decide), gR_alf, gR_wR_k (by decide), gR_alf, gR_wR_k (by decide), gR_alf, gR_wR_k (by decide), gR_alf, gR_wR_k (by decide), gR_alf, gR_wR_k (by decide), gR_alf, gR_wR_k (by decide), gR_alf, gR_wR_k (by decide), gR_alf, gR_wR_k (by decide), gR_alf, gR_wR_k (by decide), gR_alf, gR_wR_k (by decide), gR_alf, gR_wR_s]
  have m30 : gR mm 698 30 = 745 := by rw [← hmm, gR_wR_k (by decide), gR_alf, gR_wR_k (by decide), gR_alf, gR_wR_k (by decide), gR_alf, gR_wR_k (by decide), gR_alf, gR_wR_k (by decide), gR_alf, gR_wR_k (by decide), gR_alf, gR_wR_k (by decide), gR_alf, gR_wR_k (by decide), gR_alf, gR_wR_k (by decide), gR_alf, gR_wR_k (by decide), gR_alf, gR_wR_k (by decide), gR_alf, gR_wR_k (by decide), gR_alf, gR_wR_s]
  have m31 : gR mm 698 31 = 746 := by rw [← hmm, gR_wR_k (by decide), gR_alf, gR_wR_k (by decide), gR_alf, gR_wR_k (by decide), gR_alf, gR_wR_k (by decide), gR_alf, gR_wR_k (by decide), gR_alf, gR_wR_k (by decide), gR_alf, gR_wR_k (by decide), gR_alf, gR_wR_k (by decide), gR_alf, gR_wR_k (by decide), gR_alf, gR_wR_k (by decide), gR_alf, gR_wR_k (by decide), gR_alf, gR_wR_s]
  have m32 : gR mm 698 32 = 747 := by rw [← hmm, gR_wR_k (by decide), gR_alf, gR_wR_k (by decide), gR_alf, gR_wR_k (by decide), gR_alf, gR_wR_k (by decide), gR_alf, gR_wR_k (by decide), gR_alf, gR_wR_k (by decide), gR_alf, gR_wR_k (by decide), gR_alf, gR_wR_k (by decide), gR_alf, gR_wR_k (by decide), gR_alf, gR_wR_k (by decide), gR_alf, gR_wR_s]
  have m33 : gR mm 698 33 = 748 := by rw [← hmm, gR_wR_k (by decide), gR_alf, gR_wR_k (by decide), gR_alf, gR_wR_k (by decide), gR_alf, gR_wR_k (by decide), gR_alf, gR_wR_k (by decide), gR_alf, gR_wR_k (by decide), gR_alf, gR_wR_k (by decide), gR_alf, gR_wR_k (by decide), gR_alf, gR_wR_k (by decide), gR_alf, gR_wR_s]
  have m34 : gR mm 698 34 = 749 := by rw [← hmm, gR_wR_k (by decide), gR_alf, gR_wR_k (by decide), gR_alf, gR_wR_k (by decide), gR_alf, gR_wR_k (by decide), gR_alf, gR_wR_k (by decide), gR_alf, gR_wR_k (by decide), gR_alf, gR_wR_k (by decide), gR_alf, gR_wR_k (by decide), gR_alf, gR_wR_s]
  have m35 : gR mm 698 35 = 750 := by rw [← hmm, gR_wR_k (by decide), gR_alf, gR_wR_k (by decide), gR_alf, gR_wR_k (by decide), gR_alf, gR_wR_k (by decide), gR_alf, gR_wR_k (by decide), gR_alf, gR_wR_k (by decide), gR_alf, gR_wR_k (by decide), gR_alf, gR_wR_s]
  have m36 : gR mm 698 36 = 751 := by rw [← hmm, gR_wR_k (by decide), gR_alf, gR_wR_k (by decide), gR_alf, gR_wR_k (by decide), gR_alf, gR_wR_k (by decide), gR_alf, gR_wR_k (by decide), gR_alf, gR_wR_k (by decide), gR_alf, gR_wR_s]
  have m37 : gR mm 698 37 = 752 := by rw [← hmm, gR_wR_k (by decide), gR_alf, gR_wR_k (by decide), gR_alf, gR_wR_k (by decide), gR_alf, gR_wR_k (by decide), gR_alf, gR_wR_k (by decide), gR_alf, gR_wR_s]
  have m38 : gR mm 698 38 = 753 := by rw [← hmm, gR_wR_k (by decide), gR_alf, gR_wR_k (by decide), gR_alf, gR_wR_k (by decide), gR_alf, gR_wR_k (by decide), gR_alf, gR_wR_s]
  have m39 : gR mm 698 39 = 754 := by rw [← hmm, gR_wR_k (by decide), gR_alf, gR_wR_k (by decide), gR_alf, gR_wR_k (by decide), gR_alf, gR_wR_s]
  have m41 : gR mm 698 41 = 755 := by rw [← hmm, gR_wR_k (by decide), gR_alf, gR_wR_k (by decide), gR_alf, gR_wR_s]
  have m42 : gR mm 698 42 = 756 := by rw [← hmm, gR_wR_k (by decide), gR_alf, gR_wR_s]
  have m44 : gR mm 698 44 = 757 := by rw [← hmm, gR_wR_s]
  have c0 : ∀ k < 15, gR mm 700 (3 + k) = 700 + 1 + k := fun k hk => by
    rw [hO 700 (by decide), f17 700 (by decide), gR_alf, gR_wR_f (by decide)]
    have hc : k = 0 ∨ k = 1 ∨ k = 2 ∨ k = 3 ∨ k = 4 ∨ k = 5 ∨ k = 6 ∨ k = 7 ∨ k = 8 ∨ k = 9 ∨ k = 10 ∨ k = 11 ∨ k = 12 ∨ k = 13 ∨ k = 14 := by omega
    obtain ⟨z0, z1, z2, z3, z4, z5, z6, z7, z8, z9, z10, z11, z12, z13, z14⟩ := q11
    rcases hc with rfl | rfl | rfl | rfl | rfl | rfl | rfl | rfl | rfl | rfl | rfl | rfl | rfl | rfl | rfl
    · exact z0
    · exact z1
    · exact z2
    · exact z3
    · exact z4
    · exact z5
    · exact z6
    · exact z7
    · exact z8
    · exact z9
    · exact z10
    · exact z11
    · exact z12
    · exact z13
    · exact z14
  have c1 : ∀ k < 15, gR mm 716 (3 + k) = 716 + 1 + k := fun k hk => by
    rw [hO 716 (by decide)]
    have hc : k = 0 ∨ k = 1 ∨ k = 2 ∨ k = 3 ∨ k = 4 ∨ k = 5 ∨ k = 6 ∨ k = 7 ∨ k = 8 ∨ k = 9 ∨ k = 10 ∨ k = 11 ∨ k = 12 ∨ k = 13 ∨ k = 14 := by omega
    obtain ⟨z0, z1, z2, z3, z4, z5, z6, z7, z8, z9, z10, z11, z12, z13, z14⟩ := q17
    rcases hc with rfl | rfl | rfl | rfl | rfl | rfl | rfl | rfl | rfl | rfl | rfl | rfl | rfl | rfl | rfl
    · exact z0
    · exact z1
    · exact z2
    · exact z3
    · exact z4
    · exact z5
    · exact z6
    · exact z7
    · exact z8
    · exact z9
    · exact z10
    · exact z11
    · exact z12
    · exact z13
    · exact z14
  have hK : kBg 700 mm := ⟨by rw [hn]; decide +kernel, c0 12 (by decide), c0 13 (by decide), c0 14 (by decide), fun i => by rw [hn]; exact gokA_l (by decide +kernel) (by decide) (by decide +kernel), fun i => by rw [hn]; exact gokA_l (by decide +kernel) (by decide) (by decide +kernel), fun i => by rw [hn]; exact gokA_l (by decide +kernel) (by decide) (by decide +kernel)⟩
  obtain ⟨m', a1, a2, a3, a4, -⟩ := k_mbegin hK (by decide)
  have e2 : m'.2.2 = mm.2.2 := congrArg (fun t => t.2) a2
  have eJ : gJ m' = gJ mm := congrArg (fun t => t.1) a2
  have eR : gR m' = gR mm := gR_e e2
  rw [m1]
  repeat refine gW_g (by decide +kernel) ?_
  refine gW_kVe a1 (gW_retV ⟨(gN_e e2).trans hn, (gU_e e2).trans hU, (gL_e e2).trans hL, fun a ha => ?_, eJ.trans hJ, fun a h1 h2 => ?_, fun k hk => ?_, ?_, a4, ?_⟩)
  · rw [eR, hO a (by omega), f17 a (by omega), gR_alf, gR_wR_f (by omega), f11 a (by omega), gR_alf, gR_wR_f (by omega), f5' a (.inl (by omega)), gR_alf]
  · rw [a3 a h2, hI, gI_wI_f h1]
  · rw [a3 698 (by decide), hI, gI_wI_k hk]
  · rw [a3 698 (by decide), hI, gI_wI_s]
  · unfold kMf
    rw [eR]
    exact ⟨m0, m1, m2, m3, m16, m17, m20, m21, m22, m23, m24, m25, m26, m27, m28, m29, m30, m31, m32, m33, m34, m35, m36, m37, m38, m39, m41, m42, m44, c0, c1⟩
theorem k_K {m : gd_M} (hN : gN m = 758) (hU : gU m = 48771) (hL : gL m ≤ 3072) (hX : kXf m) (hM : kMf m) (hr : ∀ r < 160, gR m 27 r = 58 + 4 * r ∧ gR m (58 + 4 * r) 0 = 59 + 4 * r ∧ gR m (58 + 4 * r) 1 = 60 + 4 * r ∧ gR m (58 + 4 * r) 2 = 61 + 4 * r) (hq : ∀ w < 19, gJ m 12 w = gQ w) : gK 32 45 700 716 m := by
  obtain ⟨x8_0, x8_1, x8_2, x8_3, x8_4, x8_5, x8_6, x8_7, x8_8, x8_9, x8_10, x10_0, x10_1, x10_2, x11_0, x15_0, x15_1, x15_2, x15_3, x20_0, x20_1, x20_2, x20_3, x20_4, x20_5, x32_0, x32_1, x32_2, x32_3, x32_4, x32_5, x32_6, x32_7, x32_8, x32_9, x32_10, x32_11, x45_0, x45_1, x45_2, x45_3, x45_4, x45_5, x45_6, x45_7, x45_8, x45_9, x45_10, x45_11⟩ := hX
  obtain ⟨x698_0, x698_1, x698_2, x698_3, x698_16, x698_17, x698_20, x698_21, x698_22, x698_23, x698_24, x698_25, x698_26, x698_27, x698_28, x698_29, x698_30, x698_31, x698_32, x698_33, x698_34, x698_35, x698_36, x698_37, x698_38, x698_39, x698_41, x698_42, x698_44, c0, c1⟩ := hM
  refine ⟨hN, hU, hL, .inl ⟨rfl, rfl⟩, .inl ⟨rfl, rfl⟩, x8_0, x8_1, x8_2, x8_3, x8_4, x8_5, x8_6, x8_7, x8_8, x10_0, x10_1, x10_2, x11_0, x15_0, x15_1, x15_2, x15_3, x20_0, x20_1, x20_2, x20_3, x20_4, x20_5, x698_0, x698_3, x698_16, x698_17, x698_20, x698_21, x698_22, x698_23, x698_24, x698_25, x698_26, x698_27, x698_28, x698_29, x698_30, x698_31, x698_32, x698_33, x698_34, x698_35, x698_36, x698_37, x698_38, x698_39, x698_41, x698_42, x698_44, x8_9, x8_10, x698_1, x698_2, fun x hx k hk => ?_, fun x hx k hk => ?_, hr, hq⟩
  · have hc : k = 0 ∨ k = 1 ∨ k = 2 ∨ k = 3 ∨ k = 4 ∨ k = 5 ∨ k = 6 ∨ k = 7 ∨ k = 8 ∨ k = 9 ∨ k = 10 ∨ k = 11 := by omega
    rcases hx with rfl | rfl
    · rcases hc with rfl | rfl | rfl | rfl | rfl | rfl | rfl | rfl | rfl | rfl | rfl | rfl
      · exact x32_0
      · exact x32_1
      · exact x32_2
      · exact x32_3
      · exact x32_4
      · exact x32_5
      · exact x32_6
      · exact x32_7
      · exact x32_8
      · exact x32_9
      · exact x32_10
      · exact x32_11
    · rcases hc with rfl | rfl | rfl | rfl | rfl | rfl | rfl | rfl | rfl | rfl | rfl | rfl
      · exact x45_0
      · exact x45_1
      · exact x45_2
      · exact x45_3
      · exact x45_4
      · exact x45_5
      · exact x45_6
      · exact x45_7
      · exact x45_8
      · exact x45_9
      · exact x45_10
      · exact x45_11
  · rcases hx with rfl | rfl
    · exact c0 k hk
    · exact c1 k hk
