/-! ===== constructors ===== -/
/-- m' stands n, u slots more, and differs from m at most at ids of W -/
def gX (W : Nat → Bool) (n u : Nat) (m m' : gd_M) : Prop := gN m' = n ∧ gU m' = gU m + u ∧ gL m' = gL m ∧ (∀ b j, W b = false → gI m' b j = gI m b j) ∧ (∀ b j, W b = false → gJ m' b j = gJ m b j) ∧ (∀ b j, W b = false → gR m' b j = gR m b j)
theorem gX_tr {W W' : Nat → Bool} {n u n' u' : Nat} {m m1 m2 : gd_M} (h : gX W n u m m1) (h' : gX W' n' u' m1 m2) : gX (fun b => W b || W' b) n' (u + u') m m2 := by
  obtain ⟨a1, a2, a3, a4, a5, a6⟩ := h
  obtain ⟨b1, b2, b3, b4, b5, b6⟩ := h'
  refine ⟨b1, by rw [b2, a2]; omega, by rw [b3, a3], fun b j q => ?_, fun b j q => ?_, fun b j q => ?_⟩
  all_goals
    have q0 := Bool.or_eq_false_iff.1 q
    have q1 : W b = false := q0.1
    have q2 : W' b = false := q0.2
  · rw [b4 b j q2, a4 b j q1]
  · rw [b5 b j q2, a5 b j q1]
  · rw [b6 b j q2, a6 b j q1]
theorem gX_mono {W W' : Nat → Bool} {n u : Nat} {m m1 : gd_M} (h : gX W n u m m1) (q : ∀ b, W' b = false → W b = false) : gX W' n u m m1 := by
  obtain ⟨a1, a2, a3, a4, a5, a6⟩ := h
  exact ⟨a1, a2, a3, fun b j x => a4 b j (q b x), fun b j x => a5 b j (q b x), fun b j x => a6 b j (q b x)⟩
theorem c_Ch_init (m : gd_M) (hN : gN m = 16) : gW (gd_call 9 [.ref 15] m) (qV fun m' => gX (fun b => Nat.beq b 15) 20 2570 m m' ∧ (∀ j, gI m' 15 j = gI m 15 j) ∧ gR m' 15 0 = 16 ∧ gR m' 15 1 = 17 ∧ gR m' 15 2 = 18 ∧ gR m' 15 3 = 19) := by
  refine gW_eq (q_Ch_init 15 m) ?_
  rw [hN]
  repeat refine gW_g (by decide +kernel) ?_
  refine gW_retV ?_
  refine ⟨⟨by simp only [gN_wR, gN_al, hN], by simp only [gU_wR, gU_al]; rfl, rfl, fun _ _ _ => rfl, fun _ _ _ => rfl, fun b j h => ?_⟩, fun _ => rfl, rfl, rfl, rfl, rfl⟩
  have hb : b ≠ 15 := fun e => by rw [e] at h; exact absurd h (by decide)
  simp only [gR_wR, gR_al, hb, false_and, if_false]
