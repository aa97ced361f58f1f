/-! ===== count, the rest ===== -/
section P76
variable {c d n p : Nat} {m : gd_M} {s : gd_C}
theorem cnt_rg {x : Int32} {a : Nat} (ha : a ≤ 40) (h0 : x ≠ Int32.ofNat a) (h1 : x ≠ Int32.ofNat (a + 1)) (h2 : x ≠ Int32.ofNat (a + 2)) (h3 : x ≠ Int32.ofNat (a + 3)) (h4 : x ≠ Int32.ofNat (a + 4)) : x < Int32.ofNat a ∨ Int32.ofNat (a + 4) < x := by
  by_cases hx : x < 0
  · left
    refine Int32.lt_iff_toInt_lt.2 ?_
    have h5 := Int32.lt_iff_toInt_lt.1 hx
    have e0 : (0 : Int32).toInt = 0 := rfl
    rw [gn_toInt (by omega)]; omega
  · obtain ⟨k, hk, rfl⟩ := gn_pos (Int32.not_lt.1 hx)
    by_cases q : k < a
    · exact .inl ((gn_lt hk (by omega)).2 q)
    · refine .inr ((gn_lt (by omega) hk).2 ?_)
      have n0 : k ≠ a := fun q => h0 (by rw [q])
      have n1 : k ≠ a + 1 := fun q => h1 (by rw [q])
      have n2 : k ≠ a + 2 := fun q => h2 (by rw [q])
      have n3 : k ≠ a + 3 := fun q => h3 (by rw [q])
      have n4 : k ≠ a + 4 := fun q => h4 (by rw [q])
      omega
theorem cnt_dm {k a : Nat} (h5 : k % 10 < 5) (h : k / 10 = a) : k = 10 * a ∨ k = 10 * a + 1 ∨ k = 10 * a + 2 ∨ k = 10 * a + 3 ∨ k = 10 * a + 4 := by omega
theorem cnt_gX (K : gK c d n p m) {x : Int32} (hx : ¬ x < 20) (h2 : x < 20 ∨ 24 < x) (h3 : x < 30 ∨ 34 < x) (h4 : x < 40 ∨ 44 < x) : gd_call 186 [.ref 8, .int x] m = some (.int (-1), m) := by
  have h0 : ¬ x < 0 := fun q => hx (Int32.lt_trans q (by decide))
  obtain ⟨k, hk, rfl⟩ := gn_pos (Int32.not_lt.1 h0)
  have hd : k / 10 ≤ k := Nat.div_le_self _ _
  have hmd : k % 10 < 10 := Nat.mod_lt _ (by decide)
  have g2 : ¬ (20 ≤ k ∧ k ≤ 24) := fun q => by
    rcases h2 with h2 | h2
    · have := (gnlb_20 hk (by decide)).1 h2; omega
    · have := (gnla_24 (by decide) hk).1 h2; omega
  have g3 : ¬ (30 ≤ k ∧ k ≤ 34) := fun q => by
    rcases h3 with h2 | h2
    · have := (gnlb_30 hk (by decide)).1 h2; omega
    · have := (gnla_34 (by decide) hk).1 h2; omega
  have g4 : ¬ (40 ≤ k ∧ k ≤ 44) := fun q => by
    rcases h4 with h2 | h2
    · have := (gnlb_40 hk (by decide)).1 h2; omega
    · have := (gnla_44 (by decide) hk).1 h2; omega
  rw [q_X_countOfGroup, show (10 : Int32) = Int32.ofNat 10 from rfl, gn_mod hk (by decide), gn_div hk (by decide)]
  by_cases h5 : k % 10 < 5
  · rw [if_pos ((gnlb_5 (by omega) (by decide)).2 h5), if_neg (fun q => by have := (gneb_2 (by omega) (by decide)).1 q; omega), if_neg (fun q => by have := (gneb_3 (by omega) (by decide)).1 q; omega), if_neg (fun q => by have := (gneb_4 (by omega) (by decide)).1 q; omega)]
  · rw [if_neg (fun q => h5 ((gnlb_5 (by omega) (by decide)).1 q))]
theorem cnt_X (K : gK c d n p m) {x : Int32} (h0 : ¬ x = 0) (h1 : ¬ x = 1) (h2 : ¬ x = 2) (h3 : ¬ x = 3) (h4 : ¬ x = 4) (h5 : ¬ x = 5) (h6 : ¬ x = 6) (h7 : ¬ x = 7) (h8 : ¬ x = 8) (h9 : ¬ x = 9) (h10 : ¬ x = 10) (h11 : ¬ x = 11) (h12 : ¬ x = 12) (h13 : ¬ x = 13) (h14 : ¬ x = 14) (h15 : ¬ x = 15) (e20 : x < 20 ∨ 24 < x) (e30 : x < 30 ∨ 34 < x) (e40 : x < 40 ∨ 44 < x) : gd_call 187 [.ref 8, .int x] m = some (.int (-1), m) := by
  rw [q_X_count]
  by_cases hx : x < 20
  · simp only [hx, h0, h1, h2, h3, h4, h5, h6, h7, h8, h9, h10, h11, h12, h13, h14, h15, if_true, if_false]
    by_cases h3' : x < 3
    · rw [if_pos h3']
    · rw [if_neg h3', if_neg (fun q => ?_)]
      have g0 : ¬ x < 0 := fun q => h3' (Int32.lt_trans q (by decide))
      obtain ⟨k, hk, rfl⟩ := gn_pos (Int32.not_lt.1 g0)
      have q1 := (gnlb_12 hk (by decide)).1 q
      have q2 : ¬ k < 3 := fun t => h3' ((gnlb_3 hk (by decide)).2 t)
      have q3 : k = 3 ∨ k = 4 ∨ k = 5 ∨ k = 6 ∨ k = 7 ∨ k = 8 ∨ k = 9 ∨ k = 10 ∨ k = 11 := by omega
      rcases q3 with e | e | e | e | e | e | e | e | e
      · exact h3 (by rw [e]; rfl)
      · exact h4 (by rw [e]; rfl)
      · exact h5 (by rw [e]; rfl)
      · exact h6 (by rw [e]; rfl)
      · exact h7 (by rw [e]; rfl)
      · exact h8 (by rw [e]; rfl)
      · exact h9 (by rw [e]; rfl)
      · exact h10 (by rw [e]; rfl)
      · exact h11 (by rw [e]; rfl)
  · have g3 : ¬ x < 3 := fun q => hx (Int32.lt_trans q (by decide))
    have g12 : ¬ x < 12 := fun q => hx (Int32.lt_trans q (by decide))
    rw [if_neg g3, if_neg g12, if_neg hx, cnt_gX K hx e20 e30 e40]
    simp only [gK_N K, gK_8_0 K, gK_8_1 K, gK_8_2 K, gK_8_3 K, gK_8_4 K, gK_8_5 K, gK_8_6 K, gK_8_7 K, gK_8_8 K, gK_10_0 K, gK_10_1 K, gK_10_2 K, gK_11_0 K, gK_15_0 K, gK_15_1 K, gK_15_2 K, gK_15_3 K, gK_20_0 K, gK_20_1 K, gK_20_2 K, gK_20_3 K, gK_20_4 K, gK_20_5 K, gK_698_0 K, gK_698_3 K, gK_698_16 K, gK_698_17 K, gK_698_20 K, gK_698_21 K, gK_698_22 K, gK_698_23 K, gK_698_24 K, gK_698_25 K, gK_698_26 K, gK_698_27 K, gK_698_28 K, gK_698_29 K, gK_698_30 K, gK_698_31 K, gK_698_32 K, gK_698_33 K, gK_698_34 K, gK_698_35 K, gK_698_36 K, gK_698_37 K, gK_698_38 K, gK_698_39 K, gK_698_41 K, gK_698_42 K, gK_698_44 K, gK_c K, gK_d K, gK_n K, gK_p K, gok_8, gok_10, gok_11, gok_15, gok_20, gok_698, gok_699, goA_9, goA_12, goA_13, goA_14, goA_16, goA_17, goA_18, goA_19, goA_21, goA_22, goA_23, goA_24, goA_25, goA_26, goA_27, goA_28, goA_29, goA_30, goA_31, goA_732, goA_733, goA_734, goA_735, goA_736, goA_737, goA_738, goA_739, goA_740, goA_741, goA_742, goA_743, goA_744, goA_745, goA_746, goA_747, goA_748, goA_749, goA_750, goA_751, goA_752, goA_753, goA_754, goA_755, goA_756, goA_757, gN_wI, gR_wI, gL_wI, if_true, eq_self, Option.bind_some, gd_kI_i]
theorem cnt_M1 (K : gK c d n p m) {x : Int32} (h0 : ¬ x = 0) (h1 : ¬ x = 1) (h2 : ¬ x = 2) (h3 : ¬ x = 3) (h4 : ¬ x = 4) (h5 : ¬ x = 5) (h6 : ¬ x = 6) (h7 : ¬ x = 7) (h8 : ¬ x = 8) (h9 : ¬ x = 9) (h10 : ¬ x = 10) (h11 : ¬ x = 11) (h12 : ¬ x = 12) (h13 : ¬ x = 13) (h14 : ¬ x = 14) (h15 : ¬ x = 15) : gd_call 188 [.ref 698, .int x] m = (gd_call 71 [.int x, .int 20, .int 24] m).bind (gd_k0I fun z62 m60 => if (z62 = 0 : Prop) then ((gd_call 71 [.int x, .int 30, .int 34] m60).bind (gd_k0I fun z67 m65 => if (z67 = 0 : Prop) then ((gd_call 71 [.int x, .int 40, .int 44] m65).bind (gd_k0I fun z72 m70 => if (z72 = 0 : Prop) then (some (.int (-1), m70)) else (if gd_ok (gN m70) 698 9 = true then (if gd_ok (gN m70) (gR m70 698 1) 7 = true then (if gd_okA (gN m70) (gR m70 (gR m70 698 1) 17) 10 (x - 40) = true then (some (.int (gI m70 (gR m70 (gR m70 698 1) 17) ((x - 40) : Int32).toNatClampNeg), m70)) else none) else none) else none))) else (if gd_ok (gN m65) 698 9 = true then (if gd_ok (gN m65) (gR m65 698 1) 7 = true then (if gd_okA (gN m65) (gR m65 (gR m65 698 1) 16) 10 (x - 30) = true then (some (.int (gI m65 (gR m65 (gR m65 698 1) 16) ((x - 30) : Int32).toNatClampNeg), m65)) else none) else none) else none))) else (if gd_ok (gN m60) 698 9 = true then (if gd_ok (gN m60) (gR m60 698 1) 7 = true then (if gd_okA (gN m60) (gR m60 (gR m60 698 1) 15) 10 (x - 20) = true then (some (.int (gI m60 (gR m60 (gR m60 698 1) 15) ((x - 20) : Int32).toNatClampNeg), m60)) else none) else none) else none)) := by
  rw [q_Mo_count, if_neg h0, if_neg h1, if_neg h2, if_neg h3, if_neg h4, if_neg h5, if_neg h6, if_neg h7, if_neg h8, if_neg h9, if_neg h10, if_neg h11, if_neg h12, if_neg h13, if_neg h14, if_neg h15]
theorem cnt_M (K : gK c d n p m) {x : Int32} (h0 : ¬ x = 0) (h1 : ¬ x = 1) (h2 : ¬ x = 2) (h3 : ¬ x = 3) (h4 : ¬ x = 4) (h5 : ¬ x = 5) (h6 : ¬ x = 6) (h7 : ¬ x = 7) (h8 : ¬ x = 8) (h9 : ¬ x = 9) (h10 : ¬ x = 10) (h11 : ¬ x = 11) (h12 : ¬ x = 12) (h13 : ¬ x = 13) (h14 : ¬ x = 14) (h15 : ¬ x = 15) (e20 : x < 20 ∨ 24 < x) (e30 : x < 30 ∨ 34 < x) (e40 : x < 40 ∨ 44 < x) : gd_call 188 [.ref 698, .int x] m = some (.int (-1), m) := by
  rw [cnt_M1 K h0 h1 h2 h3 h4 h5 h6 h7 h8 h9 h10 h11 h12 h13 h14 h15, c_inlo e20, Option.bind_some, gd_k0I_i, if_pos rfl, c_inlo e30, Option.bind_some, gd_k0I_i, if_pos rfl, c_inlo e40, Option.bind_some, gd_k0I_i, if_pos rfl]
theorem P_count (R : gRel c d n p m s) (x : Int32) : gPr 187 188 [.int x] m := by
  obtain ⟨K, I, C, S, H⟩ := id R
  by_cases h0 : x = 0
  · rw [h0]; exact P_count_0 R
  by_cases h1 : x = 1
  · rw [h1]; exact P_count_1 R
  by_cases h2 : x = 2
  · rw [h2]; exact P_count_2 R
  by_cases h3 : x = 3
  · rw [h3]; exact P_count_3 R
  by_cases h4 : x = 4
  · rw [h4]; exact P_count_4 R
  by_cases h5 : x = 5
  · rw [h5]; exact P_count_5 R
  by_cases h6 : x = 6
  · rw [h6]; exact P_count_6 R
  by_cases h7 : x = 7
  · rw [h7]; exact P_count_7 R
  by_cases h8 : x = 8
  · rw [h8]; exact P_count_8 R
  by_cases h9 : x = 9
  · rw [h9]; exact P_count_9 R
  by_cases h10 : x = 10
  · rw [h10]; exact P_count_10 R
  by_cases h11 : x = 11
  · rw [h11]; exact P_count_11 R
  by_cases h12 : x = 12
  · rw [h12]; exact P_count_12 R
  by_cases h13 : x = 13
  · rw [h13]; exact P_count_13 R
  by_cases h14 : x = 14
  · rw [h14]; exact P_count_14 R
  by_cases h15 : x = 15
  · rw [h15]; exact P_count_15 R
  by_cases h20 : x = 20
  · rw [h20]; exact P_count_20 R
  by_cases h21 : x = 21
  · rw [h21]; exact P_count_21 R
  by_cases h22 : x = 22
  · rw [h22]; exact P_count_22 R
  by_cases h23 : x = 23
  · rw [h23]; exact P_count_23 R
  by_cases h24 : x = 24
  · rw [h24]; exact P_count_24 R
  by_cases h30 : x = 30
  · rw [h30]; exact P_count_30 R
  by_cases h31 : x = 31
  · rw [h31]; exact P_count_31 R
  by_cases h32 : x = 32
  · rw [h32]; exact P_count_32 R
  by_cases h33 : x = 33
  · rw [h33]; exact P_count_33 R
  by_cases h34 : x = 34
  · rw [h34]; exact P_count_34 R
  by_cases h40 : x = 40
  · rw [h40]; exact P_count_40 R
  by_cases h41 : x = 41
  · rw [h41]; exact P_count_41 R
  by_cases h42 : x = 42
  · rw [h42]; exact P_count_42 R
  by_cases h43 : x = 43
  · rw [h43]; exact P_count_43 R
  by_cases h44 : x = 44
  · rw [h44]; exact P_count_44 R
  have e20 : x < 20 ∨ 24 < x := cnt_rg (a := 20) (by decide) h20 h21 h22 h23 h24
  have e30 : x < 30 ∨ 34 < x := cnt_rg (a := 30) (by decide) h30 h31 h32 h33 h34
  have e40 : x < 40 ∨ 44 < x := cnt_rg (a := 40) (by decide) h40 h41 h42 h43 h44
  exact gPr_of R (v := -1) (s' := s) ⟨m, cnt_X K h0 h1 h2 h3 h4 h5 h6 h7 h8 h9 h10 h11 h12 h13 h14 h15 e20 e30 e40, oX_refl, C⟩ (fun m1 K S H => ⟨m1, cnt_M K h0 h1 h2 h3 h4 h5 h6 h7 h8 h9 h10 h11 h12 h13 h14 h15 e20 e30 e40, oM_refl, S, H⟩) I
end P76
