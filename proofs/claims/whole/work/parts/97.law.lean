/-! ===== the law: call by call ===== -/
theorem gn_a1 {a : Nat} : Int32.ofNat a + 1 = Int32.ofNat (a + 1) := (Int32.ofNat_add a 1).symm
theorem gn_a2 {a : Nat} : Int32.ofNat a + 2 = Int32.ofNat (a + 2) := (Int32.ofNat_add a 2).symm
theorem gn_a3 {a : Nat} : Int32.ofNat a + 3 = Int32.ofNat (a + 3) := (Int32.ofNat_add a 3).symm
theorem gn_a4 {a : Nat} : Int32.ofNat a + 4 = Int32.ofNat (a + 4) := (Int32.ofNat_add a 4).symm
theorem gn_a5 {a : Nat} : Int32.ofNat a + 5 = Int32.ofNat (a + 5) := (Int32.ofNat_add a 5).symm
theorem gn_a6 {a : Nat} : Int32.ofNat a + 6 = Int32.ofNat (a + 6) := (Int32.ofNat_add a 6).symm
def gHas (m : gd_M) : Prop := ∃ c d n p s, gRel c d n p m s
theorem law_k {Q : Value → gd_M → Prop} {f g : Int32 → gd_M → Option (Value × gd_M)} : True := trivial
theorem law_loop {L : Nat} (hL : L ≤ 3072) : ∀ fuel i (m : gd_M), L < fuel + i → i ≤ 4000 → gHas m → gL m = L → ∃ m', gd_Den (191, 18, [.ref 3, .ref 8, .ref 698, .int (Int32.ofNat i)], [], m) = some (.int 1, m') ∧ gN m' = 758 ∧ gU m' = 48771 := by
  intro fuel
  induction fuel with
  | zero =>
    intro i m hf hi hR hl
    obtain ⟨c, d, n, p, s, R⟩ := hR
    have e6 : (6 : Int32).toInt = 6 := rfl
    refine ⟨m, ?_, gK_N R.1, gK_U R.1⟩
    rw [q_L_law_18, hl, if_pos]
    rw [Int32.lt_iff_toInt_lt, gt_sub (by rw [gn_toInt (by omega), e6]; omega), gn_toInt (by omega), gn_toInt (by omega), e6]
    omega
  | succ fuel ih =>
    intro i m hf hi hR hl
    obtain ⟨c, d, n, p, s, R⟩ := hR
    have N0 := gK_N R.1
    have e6 : (6 : Int32).toInt = 6 := rfl
    by_cases hend : L < i + 6
    · refine ⟨m, ?_, N0, gK_U R.1⟩
      rw [q_L_law_18, hl, if_pos]
      rw [Int32.lt_iff_toInt_lt, gt_sub (by rw [gn_toInt (by omega), e6]; omega), gn_toInt (by omega), gn_toInt (by omega), e6]
      omega
    · have hgo : ¬ Int32.ofNat L - 6 < Int32.ofNat i := by
        rw [Int32.lt_iff_toInt_lt, gt_sub (by rw [gn_toInt (by omega), e6]; omega), gn_toInt (by omega), gn_toInt (by omega), e6]
        omega
      have i0 : gd_in (Int32.ofNat i) L = true := gn_in (by omega) (by omega)
      have i1 : gd_in (Int32.ofNat (i + 1)) L = true := gn_in (by omega) (by omega)
      have i2 : gd_in (Int32.ofNat (i + 2)) L = true := gn_in (by omega) (by omega)
      have i3 : gd_in (Int32.ofNat (i + 3)) L = true := gn_in (by omega) (by omega)
      have i4 : gd_in (Int32.ofNat (i + 4)) L = true := gn_in (by omega) (by omega)
      have i5 : gd_in (Int32.ofNat (i + 5)) L = true := gn_in (by omega) (by omega)
      have ih' : ∀ m2, gHas m2 → gL m2 = L → ∃ m', gd_Den (191, 18, [.ref 3, .ref 8, .ref 698, .int (Int32.ofNat (i + 6))], [], m2) = some (.int 1, m') ∧ gN m' = 758 ∧ gU m' = 48771 := fun m2 h1 h2 => ih (i + 6) m2 (by omega) (by omega) h1 h2
      rw [q_L_law_18, hl, if_neg hgo, i0, if_pos rfl]
      by_cases h0 : gI m 3 (Int32.ofNat i).toNatClampNeg &&& 31 = 0
      · rw [if_pos h0]
        obtain ⟨v, m1, m2, e1, s1, e2, s2, l2, l1, n1, R2⟩ := P_feed R (gI m 3 (Int32.ofNat (i + 1)).toNatClampNeg) (gI m 3 (Int32.ofNat (i + 2)).toNatClampNeg) (gI m 3 (Int32.ofNat (i + 3)).toNatClampNeg) (gI m 3 (Int32.ofNat (i + 4)).toNatClampNeg) (gI m 3 (Int32.ofNat (i + 5)).toNatClampNeg)
        simp only [gn_a1, gn_a2, gn_a3, gn_a4, gn_a5, i1, i2, i3, i4, i5, N0, gok_8, if_true]
        rw [e1]
        simp only [Option.bind_some, gd_kI_i, l1, hl, n1, s1, i1, i2, i3, i4, i5, gok_698, if_true]
        rw [e2]
        simp only [Option.bind_some, gd_kI_i, gd_k0I_i, if_true, gn_a6]
        exact ih' m2 R2 (l2.trans hl)
      rw [if_neg h0]
      by_cases h1 : gI m 3 (Int32.ofNat i).toNatClampNeg &&& 31 = 1
      · rw [if_pos h1]
        obtain ⟨v, m1, m2, e1, s1, e2, s2, l2, l1, n1, R2⟩ := P_end R (gI m 3 (Int32.ofNat (i + 1)).toNatClampNeg)
        simp only [gn_a1, i1, N0, gok_8, if_true]
        rw [e1]
        simp only [Option.bind_some, gd_kI_i, l1, hl, n1, s1, i1, gok_698, if_true]
        rw [e2]
        simp only [Option.bind_some, gd_kI_i, gd_k0I_i, if_true, gn_a6]
        exact ih' m2 R2 (l2.trans hl)
      rw [if_neg h1]
      by_cases h2 : gI m 3 (Int32.ofNat i).toNatClampNeg &&& 31 = 2
      · rw [if_pos h2]
        obtain ⟨v, m1, m2, e1, s1, e2, s2, l2, l1, n1, R2⟩ := P_code R
        simp only [N0, gok_8, if_true]
        rw [e1]
        simp only [Option.bind_some, gd_kI_i, l1, hl, n1, s1, gok_698, if_true]
        rw [e2]
        simp only [Option.bind_some, gd_kI_i, gd_k0I_i, if_true, gn_a6]
        exact ih' m2 R2 (l2.trans hl)
      rw [if_neg h2]
      by_cases h3 : gI m 3 (Int32.ofNat i).toNatClampNeg &&& 31 = 3
      · rw [if_pos h3]
        obtain ⟨v, m1, m2, e1, s1, e2, s2, l2, l1, n1, R2⟩ := P_fault R (gI m 3 (Int32.ofNat (i + 1)).toNatClampNeg)
        simp only [gn_a1, i1, N0, gok_8, if_true]
        rw [e1]
        simp only [Option.bind_some, gd_kI_i, l1, hl, n1, s1, i1, gok_698, if_true]
        rw [e2]
        simp only [Option.bind_some, gd_kI_i, gd_k0I_i, if_true, gn_a6]
        exact ih' m2 R2 (l2.trans hl)
      rw [if_neg h3]
      by_cases h4 : gI m 3 (Int32.ofNat i).toNatClampNeg &&& 31 = 4
      · rw [if_pos h4]
        obtain ⟨v, m1, m2, e1, s1, e2, s2, l2, l1, n1, R2⟩ := P_part R (gI m 3 (Int32.ofNat (i + 1)).toNatClampNeg) (gI m 3 (Int32.ofNat (i + 2)).toNatClampNeg)
        simp only [gn_a1, gn_a2, i1, i2, N0, gok_8, if_true]
        rw [e1]
        simp only [Option.bind_some, gd_kI_i, l1, hl, n1, s1, i1, i2, gok_698, if_true]
        rw [e2]
        simp only [Option.bind_some, gd_kI_i, gd_k0I_i, if_true, gn_a6]
        exact ih' m2 R2 (l2.trans hl)
      rw [if_neg h4]
      by_cases h5 : gI m 3 (Int32.ofNat i).toNatClampNeg &&& 31 = 5
      · rw [if_pos h5]
        obtain ⟨v, m1, m2, e1, s1, e2, s2, l2, l1, n1, R2⟩ := P_enter R (gI m 3 (Int32.ofNat (i + 1)).toNatClampNeg)
        simp only [gn_a1, i1, N0, gok_8, if_true]
        rw [e1]
        simp only [Option.bind_some, gd_kI_i, l1, hl, n1, s1, i1, gok_698, if_true]
        rw [e2]
        simp only [Option.bind_some, gd_kI_i, gd_k0I_i, if_true, gn_a6]
        exact ih' m2 R2 (l2.trans hl)
      rw [if_neg h5]
      by_cases h6 : gI m 3 (Int32.ofNat i).toNatClampNeg &&& 31 = 6
      · rw [if_pos h6]
        obtain ⟨v, m1, m2, e1, s1, e2, s2, l2, l1, n1, R2⟩ := P_begin R (gI m 3 (Int32.ofNat (i + 1)).toNatClampNeg) (gI m 3 (Int32.ofNat (i + 2)).toNatClampNeg)
        simp only [gn_a1, gn_a2, i1, i2, N0, gok_8, if_true]
        rw [e1]
        simp only [Option.bind_some, gd_kI_i, l1, hl, n1, s1, i1, i2, gok_698, if_true]
        rw [e2]
        simp only [Option.bind_some, gd_kI_i, gd_k0I_i, if_true, gn_a6]
        exact ih' m2 R2 (l2.trans hl)
      rw [if_neg h6]
      by_cases h7 : gI m 3 (Int32.ofNat i).toNatClampNeg &&& 31 = 7
      · rw [if_pos h7]
        obtain ⟨v, m1, m2, e1, s1, e2, s2, l2, l1, n1, R2⟩ := P_entry R (gI m 3 (Int32.ofNat (i + 1)).toNatClampNeg) (gI m 3 (Int32.ofNat (i + 2)).toNatClampNeg) (gI m 3 (Int32.ofNat (i + 3)).toNatClampNeg)
        simp only [gn_a1, gn_a2, gn_a3, i1, i2, i3, N0, gok_8, if_true]
        rw [e1]
        simp only [Option.bind_some, gd_kI_i, l1, hl, n1, s1, i1, i2, i3, gok_698, if_true]
        rw [e2]
        simp only [Option.bind_some, gd_kI_i, gd_k0I_i, if_true, gn_a6]
        exact ih' m2 R2 (l2.trans hl)
      rw [if_neg h7]
      by_cases h8 : gI m 3 (Int32.ofNat i).toNatClampNeg &&& 31 = 8
      · rw [if_pos h8]
        obtain ⟨v, m1, m2, e1, s1, e2, s2, l2, l1, n1, R2⟩ := P_mark R (gI m 3 (Int32.ofNat (i + 1)).toNatClampNeg) (gI m 3 (Int32.ofNat (i + 2)).toNatClampNeg) (gI m 3 (Int32.ofNat (i + 3)).toNatClampNeg) (gI m 3 (Int32.ofNat (i + 4)).toNatClampNeg)
        simp only [gn_a1, gn_a2, gn_a3, gn_a4, i1, i2, i3, i4, N0, gok_8, if_true]
        rw [e1]
        simp only [Option.bind_some, gd_kI_i, l1, hl, n1, s1, i1, i2, i3, i4, gok_698, if_true]
        rw [e2]
        simp only [Option.bind_some, gd_kI_i, gd_k0I_i, if_true, gn_a6]
        exact ih' m2 R2 (l2.trans hl)
      rw [if_neg h8]
      by_cases h9 : gI m 3 (Int32.ofNat i).toNatClampNeg &&& 31 = 9
      · rw [if_pos h9]
        obtain ⟨v, m1, m2, e1, s1, e2, s2, l2, l1, n1, R2⟩ := P_asked R (gI m 3 (Int32.ofNat (i + 1)).toNatClampNeg) (gI m 3 (Int32.ofNat (i + 2)).toNatClampNeg)
        simp only [gn_a1, gn_a2, i1, i2, N0, gok_8, if_true]
        rw [e1]
        simp only [Option.bind_some, gd_kI_i, l1, hl, n1, s1, i1, i2, gok_698, if_true]
        rw [e2]
        simp only [Option.bind_some, gd_kI_i, gd_k0I_i, if_true, gn_a6]
        exact ih' m2 R2 (l2.trans hl)
      rw [if_neg h9]
      by_cases h10 : gI m 3 (Int32.ofNat i).toNatClampNeg &&& 31 = 10
      · rw [if_pos h10]
        obtain ⟨v, m1, m2, e1, s1, e2, s2, l2, l1, n1, R2⟩ := P_see R (gI m 3 (Int32.ofNat (i + 1)).toNatClampNeg) (gI m 3 (Int32.ofNat (i + 2)).toNatClampNeg) (gI m 3 (Int32.ofNat (i + 3)).toNatClampNeg) (gI m 3 (Int32.ofNat (i + 4)).toNatClampNeg) (gI m 3 (Int32.ofNat (i + 5)).toNatClampNeg)
        simp only [gn_a1, gn_a2, gn_a3, gn_a4, gn_a5, i1, i2, i3, i4, i5, N0, gok_8, if_true]
        rw [e1]
        simp only [Option.bind_some, gd_kI_i, l1, hl, n1, s1, i1, i2, i3, i4, i5, gok_698, if_true]
        rw [e2]
        simp only [Option.bind_some, gd_kI_i, gd_k0I_i, if_true, gn_a6]
        exact ih' m2 R2 (l2.trans hl)
      rw [if_neg h10]
      by_cases h11 : gI m 3 (Int32.ofNat i).toNatClampNeg &&& 31 = 11
      · rw [if_pos h11]
        obtain ⟨v, m1, m2, e1, s1, e2, s2, l2, l1, n1, R2⟩ := P_post R (gI m 3 (Int32.ofNat (i + 1)).toNatClampNeg) (gI m 3 (Int32.ofNat (i + 2)).toNatClampNeg) (gI m 3 (Int32.ofNat (i + 3)).toNatClampNeg)
        simp only [gn_a1, gn_a2, gn_a3, i1, i2, i3, N0, gok_8, if_true]
        rw [e1]
        simp only [Option.bind_some, gd_kI_i, l1, hl, n1, s1, i1, i2, i3, gok_698, if_true]
        rw [e2]
        simp only [Option.bind_some, gd_kI_i, gd_k0I_i, if_true, gn_a6]
        exact ih' m2 R2 (l2.trans hl)
      rw [if_neg h11]
      by_cases h12 : gI m 3 (Int32.ofNat i).toNatClampNeg &&& 31 = 12
      · rw [if_pos h12]
        obtain ⟨v, m1, m2, e1, s1, e2, s2, l2, l1, n1, R2⟩ := P_routine R (gI m 3 (Int32.ofNat (i + 1)).toNatClampNeg) (gI m 3 (Int32.ofNat (i + 2)).toNatClampNeg) (gI m 3 (Int32.ofNat (i + 3)).toNatClampNeg)
        simp only [gn_a1, gn_a2, gn_a3, i1, i2, i3, N0, gok_8, if_true]
        rw [e1]
        simp only [Option.bind_some, gd_kI_i, l1, hl, n1, s1, i1, i2, i3, gok_698, if_true]
        rw [e2]
        simp only [Option.bind_some, gd_kI_i, gd_k0I_i, if_true, gn_a6]
        exact ih' m2 R2 (l2.trans hl)
      rw [if_neg h12]
      by_cases h13 : gI m 3 (Int32.ofNat i).toNatClampNeg &&& 31 = 13
      · rw [if_pos h13]
        obtain ⟨v, m1, m2, e1, s1, e2, s2, l2, l1, n1, R2⟩ := P_inquire R (gI m 3 (Int32.ofNat (i + 1)).toNatClampNeg) (gI m 3 (Int32.ofNat (i + 2)).toNatClampNeg) (gI m 3 (Int32.ofNat (i + 3)).toNatClampNeg)
        simp only [gn_a1, gn_a2, gn_a3, i1, i2, i3, N0, gok_8, if_true]
        rw [e1]
        simp only [Option.bind_some, gd_kI_i, l1, hl, n1, s1, i1, i2, i3, gok_698, if_true]
        rw [e2]
        simp only [Option.bind_some, gd_kI_i, gd_k0I_i, if_true, gn_a6]
        exact ih' m2 R2 (l2.trans hl)
      rw [if_neg h13]
      by_cases h14 : gI m 3 (Int32.ofNat i).toNatClampNeg &&& 31 = 14
      · rw [if_pos h14]
        obtain ⟨v, m1, m2, e1, s1, e2, s2, l2, l1, n1, R2⟩ := P_answer R (gI m 3 (Int32.ofNat (i + 1)).toNatClampNeg) (gI m 3 (Int32.ofNat (i + 2)).toNatClampNeg) (gI m 3 (Int32.ofNat (i + 3)).toNatClampNeg) (gI m 3 (Int32.ofNat (i + 4)).toNatClampNeg)
        simp only [gn_a1, gn_a2, gn_a3, gn_a4, i1, i2, i3, i4, N0, gok_8, if_true]
        rw [e1]
        simp only [Option.bind_some, gd_kI_i, l1, hl, n1, s1, i1, i2, i3, i4, gok_698, if_true]
        rw [e2]
        simp only [Option.bind_some, gd_kI_i, gd_k0I_i, if_true, gn_a6]
        exact ih' m2 R2 (l2.trans hl)
      rw [if_neg h14]
      by_cases h15 : gI m 3 (Int32.ofNat i).toNatClampNeg &&& 31 = 15
      · rw [if_pos h15]
        obtain ⟨v, m1, m2, e1, s1, e2, s2, l2, l1, n1, R2⟩ := P_withdraw R (gI m 3 (Int32.ofNat (i + 1)).toNatClampNeg) (gI m 3 (Int32.ofNat (i + 2)).toNatClampNeg)
        simp only [gn_a1, gn_a2, i1, i2, N0, gok_8, if_true]
        rw [e1]
        simp only [Option.bind_some, gd_kI_i, l1, hl, n1, s1, i1, i2, gok_698, if_true]
        rw [e2]
        simp only [Option.bind_some, gd_kI_i, gd_k0I_i, if_true, gn_a6]
        exact ih' m2 R2 (l2.trans hl)
      rw [if_neg h15]
      by_cases h16 : gI m 3 (Int32.ofNat i).toNatClampNeg &&& 31 = 16
      · rw [if_pos h16]
        obtain ⟨v, m1, m2, e1, s1, e2, s2, l2, l1, n1, R2⟩ := P_list R (gI m 3 (Int32.ofNat (i + 1)).toNatClampNeg)
        simp only [gn_a1, i1, N0, gok_8, if_true]
        rw [e1]
        simp only [Option.bind_some, gd_kI_i, l1, hl, n1, s1, i1, gok_698, if_true]
        rw [e2]
        simp only [Option.bind_some, gd_kI_i, gd_k0I_i, if_true, gn_a6]
        exact ih' m2 R2 (l2.trans hl)
      rw [if_neg h16]
      by_cases h17 : gI m 3 (Int32.ofNat i).toNatClampNeg &&& 31 = 17
      · rw [if_pos h17]
        obtain ⟨v, m1, m2, e1, s1, e2, s2, l2, l1, n1, R2⟩ := P_place R (gI m 3 (Int32.ofNat (i + 1)).toNatClampNeg) (gI m 3 (Int32.ofNat (i + 2)).toNatClampNeg) (gI m 3 (Int32.ofNat (i + 3)).toNatClampNeg)
        simp only [gn_a1, gn_a2, gn_a3, i1, i2, i3, N0, gok_8, if_true]
        rw [e1]
        simp only [Option.bind_some, gd_kI_i, l1, hl, n1, s1, i1, i2, i3, gok_698, if_true]
        rw [e2]
        simp only [Option.bind_some, gd_kI_i, gd_k0I_i, if_true, gn_a6]
        exact ih' m2 R2 (l2.trans hl)
      rw [if_neg h17]
      by_cases h18 : gI m 3 (Int32.ofNat i).toNatClampNeg &&& 31 = 18
      · rw [if_pos h18]
        obtain ⟨v, m1, m2, e1, s1, e2, s2, l2, l1, n1, R2⟩ := P_finalist R (gI m 3 (Int32.ofNat (i + 1)).toNatClampNeg) (gI m 3 (Int32.ofNat (i + 2)).toNatClampNeg)
        simp only [gn_a1, gn_a2, i1, i2, N0, gok_8, if_true]
        rw [e1]
        simp only [Option.bind_some, gd_kI_i, l1, hl, n1, s1, i1, i2, gok_698, if_true]
        rw [e2]
        simp only [Option.bind_some, gd_kI_i, gd_k0I_i, if_true, gn_a6]
        exact ih' m2 R2 (l2.trans hl)
      rw [if_neg h18]
      by_cases h19 : gI m 3 (Int32.ofNat i).toNatClampNeg &&& 31 = 19
      · rw [if_pos h19]
        obtain ⟨v, m1, m2, e1, s1, e2, s2, l2, l1, n1, R2⟩ := P_land R (gI m 3 (Int32.ofNat (i + 1)).toNatClampNeg) (gI m 3 (Int32.ofNat (i + 2)).toNatClampNeg)
        simp only [gn_a1, gn_a2, i1, i2, N0, gok_8, if_true]
        rw [e1]
        simp only [Option.bind_some, gd_kI_i, l1, hl, n1, s1, i1, i2, gok_698, if_true]
        rw [e2]
        simp only [Option.bind_some, gd_kI_i, gd_k0I_i, if_true, gn_a6]
        exact ih' m2 R2 (l2.trans hl)
      rw [if_neg h19]
      by_cases h20 : gI m 3 (Int32.ofNat i).toNatClampNeg &&& 31 = 20
      · rw [if_pos h20]
        obtain ⟨v, m1, m2, e1, s1, e2, s2, l2, l1, n1, R2⟩ := P_standing R (gI m 3 (Int32.ofNat (i + 1)).toNatClampNeg)
        simp only [gn_a1, i1, N0, gok_8, if_true]
        rw [e1]
        simp only [Option.bind_some, gd_kI_i, l1, hl, n1, s1, i1, gok_698, if_true]
        rw [e2]
        simp only [Option.bind_some, gd_kI_i, gd_k0I_i, if_true, gn_a6]
        exact ih' m2 R2 (l2.trans hl)
      rw [if_neg h20]
      by_cases h21 : gI m 3 (Int32.ofNat i).toNatClampNeg &&& 31 = 21
      · rw [if_pos h21]
        obtain ⟨v, m1, m2, e1, s1, e2, s2, l2, l1, n1, R2⟩ := P_count R (gI m 3 (Int32.ofNat (i + 1)).toNatClampNeg)
        simp only [gn_a1, i1, N0, gok_8, if_true]
        rw [e1]
        simp only [Option.bind_some, gd_kI_i, l1, hl, n1, s1, i1, gok_698, if_true]
        rw [e2]
        simp only [Option.bind_some, gd_kI_i, gd_k0I_i, if_true, gn_a6]
        exact ih' m2 R2 (l2.trans hl)
      rw [if_neg h21]
      by_cases h22 : gI m 3 (Int32.ofNat i).toNatClampNeg &&& 31 = 22
      · rw [if_pos h22]
        obtain ⟨v, m1, m2, e1, s1, e2, s2, l2, l1, n1, R2⟩ := P_fees R (gI m 3 (Int32.ofNat (i + 1)).toNatClampNeg)
        simp only [gn_a1, i1, N0, gok_8, if_true]
        rw [e1]
        simp only [Option.bind_some, gd_kI_i, l1, hl, n1, s1, i1, gok_698, if_true]
        rw [e2]
        simp only [Option.bind_some, gd_kI_i, gd_k0I_i, if_true, gn_a6]
        exact ih' m2 R2 (l2.trans hl)
      rw [if_neg h22]
      rw [gn_a6]
      exact ih' m ⟨c, d, n, p, s, R⟩ hl
