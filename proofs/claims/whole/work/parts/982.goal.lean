/-! ===== the goal of the small machine ===== -/
theorem gd_goal : gd_Goal := by
  intro L xs hL
  have n0 : gN (gd_m0 L xs) = 8 := rfl
  have u0 : gU (gd_m0 L xs) = 0 := rfl
  have b0 : ∀ a j, a ≠ 3 → gI (gd_al (gd_m0 L xs) 15) a j = 0 := fun a j h => if_neg h
  obtain ⟨v, m4, e4, hv, n4, u4, l4, i4, i4k, i47, x4, j4, r4, f4⟩ := k_X (gd_al (gd_m0 L xs) 15) rfl (fun _ => rfl)
  subst hv
  obtain ⟨v, m9, e9, hv, n9, u9, l9, r9, j9, i9, i9k, i9m, a9, f9⟩ := k_Mo (gd_al m4 45) (by rw [gN_al, n4])
  subst hv
  have Zf : ∀ a, a ≠ 3 → a ≠ 10 → a ≠ 698 → (a < 32 ∨ 57 < a) → (a < 700 ∨ 715 < a) → ∀ j, gI m9 a j = 0 := fun a h1 h2 h3 h4 h5 j => by
    rw [i9 a h3 h5, gI_alf, i4 a h2 h4]; exact b0 a j h1
  have Z698 : ∀ k, k ≠ 15 → gI m9 698 k = 0 := fun k hk => by
    rw [i9k k hk, gI_alf, i4 698 (by decide) (by decide)]; exact b0 698 k (by decide)
  have Z10 : ∀ k, k ≠ 7 → gI m9 10 k = 0 := fun k hk => by
    rw [i9 10 (by decide) (by decide), gI_alf, i4k k hk]; exact b0 10 k (by decide)
  have Z107 : gI m9 10 7 = -1 := by rw [i9 10 (by decide) (by decide), gI_alf]; exact i47
  have X32 : iniX 32 (gI m9) := iniX_c x4 fun q hq => by rw [i9 _ (by omega) (by omega), gI_alf]
  have rr : ∀ a, a < 698 → gR m9 a = gR m4 a := fun a ha => by rw [r9 a ha, gR_alf]
  have hX : kXf m9 := by
    unfold kXf at f4 ⊢
    rw [rr 8 (by decide), rr 10 (by decide), rr 11 (by decide), rr 15 (by decide), rr 20 (by decide), rr 32 (by decide), rr 45 (by decide)]
    exact f4
  have lL : gL m9 = L := by rw [l9, gL_al, l4, gL_al]; rfl
  have K : gK 32 45 700 716 m9 := k_K n9 (by rw [gU_al] at u4 u9; omega) (by rw [lL]; exact hL) hX f9 (fun r hr => by rw [rr 27 (by decide), rr (58 + 4 * r) (by omega)]; exact r4 r hr) (fun w hw => by rw [j9, gJ_alf]; exact j4 w hw)
  have z738 : ∀ r, gI m9 738 r = 0 := Zf 738 (by decide) (by decide) (by decide) (by decide) (by decide)
  have Rl : gRel 32 45 700 716 m9 (gI m9) := by
    refine ⟨K, ⟨iCd_ini a9, ?_, ?_, ?_, fun g => ?_, fun r _ _ => z738 r, fun r hr => ⟨.inl (z738 r), ?_, fun h => absurd (z738 r) h, fun h => absurd (z738 r) h, fun h => absurd (z738 r) h, fun h => absurd (z738 r) h⟩, fun l a ha => ?_, fun i => ?_⟩, ⟨⟨?_, fun i => ?_, ?_, ?_, ?_, ?_, fun g => ?_, fun g hg a ha => ?_, fun l => ?_, ?_⟩, cCd_ini X32 a9, fun r hr => ⟨?_, ?_, fun i hi => ?_, fun i hi => ?_, ?_, ?_, ?_, fun f hf i => ?_, fun h => absurd (z738 r) h, fun h => absurd (z738 r) h, fun h => absurd (z738 r) h, fun h => absurd (z738 r) h⟩⟩, fun _ _ _ => rfl, fun r hr h _ => absurd (z738 r) h⟩
    · rw [Z698 4 (by decide)]; exact isN_k 0 (by decide) (by decide)
    · rw [Z698 18 (by decide)]; exact isN_k 0 (by decide) (by decide)
    · rw [Z698 19 (by decide)]; exact Int32.le_refl 0
    · rw [Zf 735 (by decide) (by decide) (by decide) (by decide) (by decide)]; exact isN_k 0 (by decide) (by decide)
    · rw [Zf 739 (by decide) (by decide) (by decide) (by decide) (by decide)]; exact isN_k 0 (by decide) (by decide)
    · rw [Z698 18 (by decide), show gn (0 : Int32) = 0 from rfl]; exact Nat.zero_le _
    · rw [Zf 732 (by decide) (by decide) (by decide) (by decide) (by decide)]; exact ⟨0, by decide⟩
    · rw [Zf 8 (by decide) (by decide) (by decide) (by decide) (by decide), Z698 4 (by decide)]
    · rw [Zf 9 (by decide) (by decide) (by decide) (by decide) (by decide), Zf 732 (by decide) (by decide) (by decide) (by decide) (by decide)]
    · rw [Z10 6 (by decide), Z698 14 (by decide)]
    · rw [Z107, i9m]
    · rw [Zf 8 (by decide) (by decide) (by decide) (by decide) (by decide), Z698 18 (by decide)]
    · rw [Zf 8 (by decide) (by decide) (by decide) (by decide) (by decide), Z698 19 (by decide)]
    · rw [Zf 28 (by decide) (by decide) (by decide) (by decide) (by decide), Zf 735 (by decide) (by decide) (by decide) (by decide) (by decide)]
    · rw [Zf 29 (by decide) (by decide) (by decide) (by decide) (by decide), Zf 737 (by decide) (by decide) (by decide) (by decide) (by decide), gb_zero]; rfl
    · rw [Zf 30 (by decide) (by decide) (by decide) (by decide) (by decide), Zf 736 (by decide) (by decide) (by decide) (by decide) (by decide)]
    · rw [Zf 8 (by decide) (by decide) (by decide) (by decide) (by decide), Z698 18 (by decide)]; rfl
    · rw [Zf (58 + 4 * r) (by omega) (by omega) (by omega) (by omega) (by omega), z738 r]
    · rw [Zf (58 + 4 * r) (by omega) (by omega) (by omega) (by omega) (by omega), Zf 739 (by decide) (by decide) (by decide) (by decide) (by decide)]
    · rw [Zf (59 + 4 * r) (by omega) (by omega) (by omega) (by omega) (by omega), Zf 740 (by decide) (by decide) (by decide) (by decide) (by decide)]
    · rw [Zf (60 + 4 * r) (by omega) (by omega) (by omega) (by omega) (by omega), Zf 741 (by decide) (by decide) (by decide) (by decide) (by decide)]
    · rw [Zf (58 + 4 * r) (by omega) (by omega) (by omega) (by omega) (by omega), Zf 742 (by decide) (by decide) (by decide) (by decide) (by decide)]
    · rw [Zf (58 + 4 * r) (by omega) (by omega) (by omega) (by omega) (by omega), Zf 743 (by decide) (by decide) (by decide) (by decide) (by decide)]
    · rw [Zf (58 + 4 * r) (by omega) (by omega) (by omega) (by omega) (by omega), Zf 746 (by decide) (by decide) (by decide) (by decide) (by decide)]
    · rw [Zf (61 + 4 * r) (by omega) (by omega) (by omega) (by omega) (by omega), Zf 744 (by decide) (by decide) (by decide) (by decide) (by decide), gb_zero]
      exact (Bool.and_false _).symm
  obtain ⟨m', h1, h2, h3⟩ := law_loop hL 4000 0 m9 (by omega) (by omega) ⟨32, 45, 700, 716, _, Rl⟩ lL
  rw [gn_0] at h1
  refine ⟨m', ?_, by omega, by omega⟩
  show gd_call 191 [.ref 3] (gd_m0 L xs) = _
  rw [q_L_law, n0, if_pos (show Nat.beq (gd_KD 8) 6 = true by decide +kernel), if_pos (show Nat.ble 8 8 = true from rfl), e4]
  simp only [Option.bind_some, gd_k0V_v]
  rw [n4, if_pos (show Nat.beq (gd_KD 698) 9 = true by decide +kernel), if_pos (show Nat.ble 8 698 = true by decide), e9]
  simp only [Option.bind_some, gd_k0V_v]
  exact h1
