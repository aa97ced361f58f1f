/-! ===== small helpers of both halves ===== -/
def gIs (N : Nat) (x : Int32) : Bool := !decide (x < 0) && decide (x < Int32.ofNat N)
theorem gIs_t {N : Nat} {x : Int32} (hN : N < 2147483648) (h : gIs N x = true) : ∃ k, k < N ∧ x = Int32.ofNat k := by
  unfold gIs at h
  rw [Bool.and_eq_true, Bool.not_eq_true', decide_eq_false_iff_not, decide_eq_true_eq] at h
  obtain ⟨k, hk, rfl⟩ := gn_pos (Int32.not_lt.1 h.1)
  exact ⟨k, (gn_lt hk hN).1 h.2, rfl⟩
theorem gIs_n {N k : Nat} (hN : N < 2147483648) (hk : k < 2147483648) : gIs N (Int32.ofNat k) = decide (k < N) := by
  have h0 : ¬ (Int32.ofNat k < 0) := by rw [Int32.lt_iff_toInt_lt, gn_toInt hk]; simp
  unfold gIs
  rw [decide_eq_false h0]
  by_cases h : k < N
  · rw [decide_eq_true h, decide_eq_true ((gn_lt hk hN).2 h)]; rfl
  · rw [decide_eq_false h, decide_eq_false (fun q => h ((gn_lt hk hN).1 q))]; rfl
theorem gIs_y {N k : Nat} (hN : N < 2147483648) (hk : k < N) : gIs N (Int32.ofNat k) = true := by
  rw [gIs_n hN (by omega), decide_eq_true hk]
theorem gIs_i {α : Type} {N : Nat} {x : Int32} {a b : α} : (if x < 0 then a else if x < Int32.ofNat N then b else a) = bif gIs N x then b else a := by
  unfold gIs
  by_cases h : x < 0
  · rw [if_pos h, decide_eq_true h]; rfl
  · rw [if_neg h, decide_eq_false h]
    by_cases h2 : x < Int32.ofNat N
    · rw [if_pos h2, decide_eq_true h2]; rfl
    · rw [if_neg h2, decide_eq_false h2]; rfl
theorem gB_t : gB true = 1 := rfl
theorem gB_f : gB false = 0 := rfl
theorem gB_0 {b : Bool} : (gB b = 0) ↔ b = false := by cases b <;> decide
theorem gB_bo {b : Bool} : gd_bo (gB b) = true := by cases b <;> decide
theorem gn_pred {N : Nat} (h : 0 < N) : Int32.ofNat N - 1 = Int32.ofNat (N - 1) := by
  obtain ⟨k, rfl⟩ : ∃ k, N = k + 1 := ⟨N - 1, by omega⟩
  rw [Int32.ofNat_add]
  show Int32.ofNat k + 1 - 1 = Int32.ofNat k
  rw [Int32.add_sub_cancel]
theorem gm4 {k : Nat} : 4 * Int32.ofNat k = Int32.ofNat (4 * k) := by rw [Int32.ofNat_mul]; rfl
theorem gm4' {k : Nat} : Int32.ofNat k * 4 = Int32.ofNat (4 * k) := by rw [Nat.mul_comm, Int32.ofNat_mul]; rfl
theorem gm5 {k : Nat} : 5 * Int32.ofNat k = Int32.ofNat (5 * k) := by rw [Int32.ofNat_mul]; rfl
theorem gm6 {k : Nat} : 6 * Int32.ofNat k = Int32.ofNat (6 * k) := by rw [Int32.ofNat_mul]; rfl
theorem gm16 {k : Nat} : 16 * Int32.ofNat k = Int32.ofNat (16 * k) := by rw [Int32.ofNat_mul]; rfl
theorem gm160 {k : Nat} : 160 * Int32.ofNat k = Int32.ofNat (160 * k) := by rw [Int32.ofNat_mul]; rfl
/-- in(v, 0, N - 1) -/
theorem c_in {N : Nat} (hN : N < 2147483648) (x : Int32) (m : gd_M) : gd_call 71 [.int x, .int 0, .int (Int32.ofNat N - 1)] m = some (.int (gB (gIs N x)), m) := by
  rw [q_Mo_in]
  by_cases h : x < 0
  · rw [if_pos h]; unfold gIs; rw [decide_eq_true h]; rfl
  · rw [if_neg h]
    obtain ⟨k, hk, rfl⟩ := gn_pos (Int32.not_lt.1 h)
    rw [gIs_n hN hk]
    rcases Nat.eq_zero_or_pos N with h0 | h0
    · subst h0
      rw [if_pos (by rw [Int32.lt_iff_toInt_lt, gn_toInt hk, show (Int32.ofNat 0 - 1).toInt = -1 from rfl]; omega)]
      rfl
    · rw [gn_pred h0]
      by_cases h1 : k < N
      · rw [if_neg (fun q => by have := (gn_lt (by omega) hk).1 q; omega), decide_eq_true h1]; rfl
      · rw [if_pos ((gn_lt (by omega) hk).2 (by omega)), decide_eq_false h1]; rfl
theorem c_in9 (x : Int32) (m : gd_M) : gd_call 71 [.int x, .int 0, .int 9] m = some (.int (gB (gIs 10 x)), m) := c_in (N := 10) (by decide) x m
theorem c_in4 (x : Int32) (m : gd_M) : gd_call 71 [.int x, .int 0, .int 4] m = some (.int (gB (gIs 5 x)), m) := c_in (N := 5) (by decide) x m
theorem c_in3 (x : Int32) (m : gd_M) : gd_call 71 [.int x, .int 0, .int 3] m = some (.int (gB (gIs 4 x)), m) := c_in (N := 4) (by decide) x m
theorem c_isLand (x : Int32) (m : gd_M) : gd_call 89 [.int x] m = some (.int (gB (gIs 10 x)), m) := by
  rw [q_X_isLand, show (10 : Int32) = Int32.ofNat 10 from rfl, gIs_i]; cases gIs 10 x <;> rfl
theorem c_isList (x : Int32) (m : gd_M) : gd_call 156 [.int x] m = some (.int (gB (gIs 5 x)), m) := by
  rw [q_X_isList, show (5 : Int32) = Int32.ofNat 5 from rfl, gIs_i]; cases gIs 5 x <;> rfl
section H55
variable {c d n p : Nat} {m : gd_M} {s : gd_C} {P : Nat}
theorem c_isGymnast (K : gK c d n p m) (hP : gI m 8 12 = Int32.ofNat P) (x : Int32) : gd_call 92 [.ref 8, .int x] m = some (.int (gB (gIs P x)), m) := by
  rw [q_X_isGymnast]
  simp only [gK_N K, gK_8_0 K, gK_8_1 K, gK_8_2 K, gK_8_3 K, gK_8_4 K, gK_8_5 K, gK_8_6 K, gK_8_7 K, gK_8_8 K, gK_10_0 K, gK_10_1 K, gK_10_2 K, gK_11_0 K, gK_15_0 K, gK_15_1 K, gK_15_2 K, gK_15_3 K, gK_20_0 K, gK_20_1 K, gK_20_2 K, gK_20_3 K, gK_20_4 K, gK_20_5 K, gK_698_0 K, gK_698_3 K, gK_698_16 K, gK_698_17 K, gK_698_20 K, gK_698_21 K, gK_698_22 K, gK_698_23 K, gK_698_24 K, gK_698_25 K, gK_698_26 K, gK_698_27 K, gK_698_28 K, gK_698_29 K, gK_698_30 K, gK_698_31 K, gK_698_32 K, gK_698_33 K, gK_698_34 K, gK_698_35 K, gK_698_36 K, gK_698_37 K, gK_698_38 K, gK_698_39 K, gK_698_41 K, gK_698_42 K, gK_698_44 K, gK_c K, gK_d K, gK_n K, gK_p K, gok_8, gok_10, gok_11, gok_15, gok_20, gok_698, gok_699, goA_9, goA_12, goA_13, goA_14, goA_16, goA_17, goA_18, goA_19, goA_21, goA_22, goA_23, goA_24, goA_25, goA_26, goA_27, goA_28, goA_29, goA_30, goA_31, goA_732, goA_733, goA_734, goA_735, goA_736, goA_737, goA_738, goA_739, goA_740, goA_741, goA_742, goA_743, goA_744, goA_745, goA_746, goA_747, goA_748, goA_749, goA_750, goA_751, goA_752, goA_753, goA_754, goA_755, goA_756, goA_757, gN_wI, gR_wI, gL_wI, if_true, eq_self]
  rw [hP, gIs_i]; cases gIs P x <;> rfl
theorem c_MisGymnast (K : gK c d n p m) (hP : gI m 698 18 = Int32.ofNat P) (hP2 : P ≤ 40) (x : Int32) : gd_call 97 [.ref 698, .int x] m = some (.int (gB (gIs P x)), m) := by
  rw [q_Mo_isGymnast]
  simp only [gK_N K, gK_8_0 K, gK_8_1 K, gK_8_2 K, gK_8_3 K, gK_8_4 K, gK_8_5 K, gK_8_6 K, gK_8_7 K, gK_8_8 K, gK_10_0 K, gK_10_1 K, gK_10_2 K, gK_11_0 K, gK_15_0 K, gK_15_1 K, gK_15_2 K, gK_15_3 K, gK_20_0 K, gK_20_1 K, gK_20_2 K, gK_20_3 K, gK_20_4 K, gK_20_5 K, gK_698_0 K, gK_698_3 K, gK_698_16 K, gK_698_17 K, gK_698_20 K, gK_698_21 K, gK_698_22 K, gK_698_23 K, gK_698_24 K, gK_698_25 K, gK_698_26 K, gK_698_27 K, gK_698_28 K, gK_698_29 K, gK_698_30 K, gK_698_31 K, gK_698_32 K, gK_698_33 K, gK_698_34 K, gK_698_35 K, gK_698_36 K, gK_698_37 K, gK_698_38 K, gK_698_39 K, gK_698_41 K, gK_698_42 K, gK_698_44 K, gK_c K, gK_d K, gK_n K, gK_p K, gok_8, gok_10, gok_11, gok_15, gok_20, gok_698, gok_699, goA_9, goA_12, goA_13, goA_14, goA_16, goA_17, goA_18, goA_19, goA_21, goA_22, goA_23, goA_24, goA_25, goA_26, goA_27, goA_28, goA_29, goA_30, goA_31, goA_732, goA_733, goA_734, goA_735, goA_736, goA_737, goA_738, goA_739, goA_740, goA_741, goA_742, goA_743, goA_744, goA_745, goA_746, goA_747, goA_748, goA_749, goA_750, goA_751, goA_752, goA_753, goA_754, goA_755, goA_756, goA_757, gN_wI, gR_wI, gL_wI, if_true, eq_self]
  rw [hP, c_in (by omega)]
  simp only [Option.bind_some, gd_k0I_i, gB_bo, if_true]
/-- a gymnast and an apparatus -/
def gAt (P : Nat) (g a : Int32) : Bool := gIs P g && gIs 4 a
theorem gAt_t {P : Nat} {g a : Int32} (hP : P ≤ 40) (h : gAt P g a = true) : ∃ k b, k < P ∧ b < 4 ∧ g = Int32.ofNat k ∧ a = Int32.ofNat b := by
  have q := Bool.and_eq_true_iff.1 h
  obtain ⟨k, hk, e⟩ := gIs_t (by omega) q.1
  obtain ⟨b, hb, e2⟩ := gIs_t (by decide) q.2
  exact ⟨k, b, hk, hb, e, e2⟩
theorem c_rowOf_no (K : gK c d n p m) (hP : gI m 8 12 = Int32.ofNat P) {g a : Int32} (h : gAt P g a = false) : gd_call 93 [.ref 8, .int g, .int a] m = some (.ref 0, m) := by
  rw [q_X_rowOf]
  simp only [gK_N K, gK_8_0 K, gK_8_1 K, gK_8_2 K, gK_8_3 K, gK_8_4 K, gK_8_5 K, gK_8_6 K, gK_8_7 K, gK_8_8 K, gK_10_0 K, gK_10_1 K, gK_10_2 K, gK_11_0 K, gK_15_0 K, gK_15_1 K, gK_15_2 K, gK_15_3 K, gK_20_0 K, gK_20_1 K, gK_20_2 K, gK_20_3 K, gK_20_4 K, gK_20_5 K, gK_698_0 K, gK_698_3 K, gK_698_16 K, gK_698_17 K, gK_698_20 K, gK_698_21 K, gK_698_22 K, gK_698_23 K, gK_698_24 K, gK_698_25 K, gK_698_26 K, gK_698_27 K, gK_698_28 K, gK_698_29 K, gK_698_30 K, gK_698_31 K, gK_698_32 K, gK_698_33 K, gK_698_34 K, gK_698_35 K, gK_698_36 K, gK_698_37 K, gK_698_38 K, gK_698_39 K, gK_698_41 K, gK_698_42 K, gK_698_44 K, gK_c K, gK_d K, gK_n K, gK_p K, gok_8, gok_10, gok_11, gok_15, gok_20, gok_698, gok_699, goA_9, goA_12, goA_13, goA_14, goA_16, goA_17, goA_18, goA_19, goA_21, goA_22, goA_23, goA_24, goA_25, goA_26, goA_27, goA_28, goA_29, goA_30, goA_31, goA_732, goA_733, goA_734, goA_735, goA_736, goA_737, goA_738, goA_739, goA_740, goA_741, goA_742, goA_743, goA_744, goA_745, goA_746, goA_747, goA_748, goA_749, goA_750, goA_751, goA_752, goA_753, goA_754, goA_755, goA_756, goA_757, gN_wI, gR_wI, gL_wI, if_true, eq_self, c_isGymnast K hP, Option.bind_some, gd_kI_i, gB_0]
  by_cases h1 : gIs P g = false
  · rw [if_pos h1]
  · rw [if_neg h1]
    have h2 : gIs 4 a = false := by
      unfold gAt at h; rw [Bool.not_eq_false] at h1; rw [h1] at h; exact h
    rw [show (4 : Int32) = Int32.ofNat 4 from rfl, gIs_i, h2]; rfl
theorem c_rowOf_at (K : gK c d n p m) (hP : gI m 8 12 = Int32.ofNat P) (hP2 : P ≤ 40) {k b : Nat} (hk : k < P) (hb : b < 4) : gd_call 93 [.ref 8, .int (Int32.ofNat k), .int (Int32.ofNat b)] m = some (.ref (58 + 4 * (4 * k + b)), m) := by
  rw [q_X_rowOf]
  simp only [gK_N K, gK_8_0 K, gK_8_1 K, gK_8_2 K, gK_8_3 K, gK_8_4 K, gK_8_5 K, gK_8_6 K, gK_8_7 K, gK_8_8 K, gK_10_0 K, gK_10_1 K, gK_10_2 K, gK_11_0 K, gK_15_0 K, gK_15_1 K, gK_15_2 K, gK_15_3 K, gK_20_0 K, gK_20_1 K, gK_20_2 K, gK_20_3 K, gK_20_4 K, gK_20_5 K, gK_698_0 K, gK_698_3 K, gK_698_16 K, gK_698_17 K, gK_698_20 K, gK_698_21 K, gK_698_22 K, gK_698_23 K, gK_698_24 K, gK_698_25 K, gK_698_26 K, gK_698_27 K, gK_698_28 K, gK_698_29 K, gK_698_30 K, gK_698_31 K, gK_698_32 K, gK_698_33 K, gK_698_34 K, gK_698_35 K, gK_698_36 K, gK_698_37 K, gK_698_38 K, gK_698_39 K, gK_698_41 K, gK_698_42 K, gK_698_44 K, gK_c K, gK_d K, gK_n K, gK_p K, gok_8, gok_10, gok_11, gok_15, gok_20, gok_698, gok_699, goA_9, goA_12, goA_13, goA_14, goA_16, goA_17, goA_18, goA_19, goA_21, goA_22, goA_23, goA_24, goA_25, goA_26, goA_27, goA_28, goA_29, goA_30, goA_31, goA_732, goA_733, goA_734, goA_735, goA_736, goA_737, goA_738, goA_739, goA_740, goA_741, goA_742, goA_743, goA_744, goA_745, goA_746, goA_747, goA_748, goA_749, goA_750, goA_751, goA_752, goA_753, goA_754, goA_755, goA_756, goA_757, gN_wI, gR_wI, gL_wI, if_true, eq_self, c_isGymnast K hP, Option.bind_some, gd_kI_i, gB_0]
  rw [if_neg (by rw [gIs_y (by omega) hk]; decide), show (4 : Int32) = Int32.ofNat 4 from rfl, gIs_i, gIs_y (by decide) hb]
  have hr : 4 * k + b < 160 := by omega
  rw [← show (4 : Int32) = Int32.ofNat 4 from rfl, gm4', gn_add, gn_nat (by omega), gn_in (by omega) hr]
  simp only [gK_row K hr, if_true, cond_true]
theorem c_isAt_no (K : gK c d n p m) (hP : gI m 698 18 = Int32.ofNat P) (hP2 : P ≤ 40) {g a : Int32} (h : gAt P g a = false) : gd_call 98 [.ref 698, .int g, .int a] m = some (.int 0, m) := by
  rw [q_Mo_isAt]
  simp only [gK_N K, gK_8_0 K, gK_8_1 K, gK_8_2 K, gK_8_3 K, gK_8_4 K, gK_8_5 K, gK_8_6 K, gK_8_7 K, gK_8_8 K, gK_10_0 K, gK_10_1 K, gK_10_2 K, gK_11_0 K, gK_15_0 K, gK_15_1 K, gK_15_2 K, gK_15_3 K, gK_20_0 K, gK_20_1 K, gK_20_2 K, gK_20_3 K, gK_20_4 K, gK_20_5 K, gK_698_0 K, gK_698_3 K, gK_698_16 K, gK_698_17 K, gK_698_20 K, gK_698_21 K, gK_698_22 K, gK_698_23 K, gK_698_24 K, gK_698_25 K, gK_698_26 K, gK_698_27 K, gK_698_28 K, gK_698_29 K, gK_698_30 K, gK_698_31 K, gK_698_32 K, gK_698_33 K, gK_698_34 K, gK_698_35 K, gK_698_36 K, gK_698_37 K, gK_698_38 K, gK_698_39 K, gK_698_41 K, gK_698_42 K, gK_698_44 K, gK_c K, gK_d K, gK_n K, gK_p K, gok_8, gok_10, gok_11, gok_15, gok_20, gok_698, gok_699, goA_9, goA_12, goA_13, goA_14, goA_16, goA_17, goA_18, goA_19, goA_21, goA_22, goA_23, goA_24, goA_25, goA_26, goA_27, goA_28, goA_29, goA_30, goA_31, goA_732, goA_733, goA_734, goA_735, goA_736, goA_737, goA_738, goA_739, goA_740, goA_741, goA_742, goA_743, goA_744, goA_745, goA_746, goA_747, goA_748, goA_749, goA_750, goA_751, goA_752, goA_753, goA_754, goA_755, goA_756, goA_757, gN_wI, gR_wI, gL_wI, if_true, eq_self, c_MisGymnast K hP hP2, c_in3, Option.bind_some, gd_kI_i, gd_k0I_i, gB_0]
  by_cases h1 : gIs P g = false
  · rw [if_pos h1]
  · rw [if_neg h1]
    have h2 : gIs 4 a = false := by
      unfold gAt at h; rw [Bool.not_eq_false] at h1; rw [h1] at h; exact h
    rw [if_pos h2]
theorem c_isAt_at (K : gK c d n p m) (hP : gI m 698 18 = Int32.ofNat P) (hP2 : P ≤ 40) {k b : Nat} (hk : k < P) (hb : b < 4) : gd_call 98 [.ref 698, .int (Int32.ofNat k), .int (Int32.ofNat b)] m = some (.int 1, m) := by
  rw [q_Mo_isAt]
  simp only [gK_N K, gK_8_0 K, gK_8_1 K, gK_8_2 K, gK_8_3 K, gK_8_4 K, gK_8_5 K, gK_8_6 K, gK_8_7 K, gK_8_8 K, gK_10_0 K, gK_10_1 K, gK_10_2 K, gK_11_0 K, gK_15_0 K, gK_15_1 K, gK_15_2 K, gK_15_3 K, gK_20_0 K, gK_20_1 K, gK_20_2 K, gK_20_3 K, gK_20_4 K, gK_20_5 K, gK_698_0 K, gK_698_3 K, gK_698_16 K, gK_698_17 K, gK_698_20 K, gK_698_21 K, gK_698_22 K, gK_698_23 K, gK_698_24 K, gK_698_25 K, gK_698_26 K, gK_698_27 K, gK_698_28 K, gK_698_29 K, gK_698_30 K, gK_698_31 K, gK_698_32 K, gK_698_33 K, gK_698_34 K, gK_698_35 K, gK_698_36 K, gK_698_37 K, gK_698_38 K, gK_698_39 K, gK_698_41 K, gK_698_42 K, gK_698_44 K, gK_c K, gK_d K, gK_n K, gK_p K, gok_8, gok_10, gok_11, gok_15, gok_20, gok_698, gok_699, goA_9, goA_12, goA_13, goA_14, goA_16, goA_17, goA_18, goA_19, goA_21, goA_22, goA_23, goA_24, goA_25, goA_26, goA_27, goA_28, goA_29, goA_30, goA_31, goA_732, goA_733, goA_734, goA_735, goA_736, goA_737, goA_738, goA_739, goA_740, goA_741, goA_742, goA_743, goA_744, goA_745, goA_746, goA_747, goA_748, goA_749, goA_750, goA_751, goA_752, goA_753, goA_754, goA_755, goA_756, goA_757, gN_wI, gR_wI, gL_wI, if_true, eq_self, c_MisGymnast K hP hP2, c_in3, Option.bind_some, gd_kI_i, gd_k0I_i, gB_0]
  rw [if_neg (by rw [gIs_y (by omega) hk]; decide), if_neg (by rw [gIs_y (by decide) hb]; decide)]
end H55
/-! ===== sums over a loop ===== -/
def gFs (f : Nat → Int32) : Nat → Nat → Int32
  | _, 0 => 0
  | k, j + 1 => f k + gFs f (k + 1) j
theorem gFs_0 {f : Nat → Int32} {k : Nat} {a : Int32} : a + gFs f k 0 = a := Int32.add_zero a
theorem gFs_s {f : Nat → Int32} {k j : Nat} {a : Int32} : a + gFs f k (j + 1) = a + f k + gFs f (k + 1) j := (Int32.add_assoc _ _ _).symm
theorem gFs_c {f g : Nat → Int32} {N : Nat} (h : ∀ i, i < N → f i = g i) : ∀ j k, k + j ≤ N → gFs f k j = gFs g k j := by
  intro j
  induction j with
  | zero => intro k _; rfl
  | succ j ih => intro k hk; show f k + _ = g k + _; rw [h k (by omega), ih (k + 1) (by omega)]
/-! ===== fault, end, fees, asked, part ===== -/
section P55
variable {c d n p : Nat} {m : gd_M} {s : gd_C}
theorem P_fault (R : gRel c d n p m s) (x : Int32) : gPr 83 84 [.int x] m := by
  obtain ⟨K, I, C, S, H⟩ := id R
  refine gPr_of R (v := if x = 0 then s 698 14 else if x = 1 then s 698 15 else -1) (s' := s) ⟨m, ?_, oX_refl, C⟩ (fun m1 K S H => ⟨m1, ?_, oM_refl, S, H⟩) I
  · rw [q_X_fault]
    simp only [gK_N K, gK_8_0 K, gK_8_1 K, gK_8_2 K, gK_8_3 K, gK_8_4 K, gK_8_5 K, gK_8_6 K, gK_8_7 K, gK_8_8 K, gK_10_0 K, gK_10_1 K, gK_10_2 K, gK_11_0 K, gK_15_0 K, gK_15_1 K, gK_15_2 K, gK_15_3 K, gK_20_0 K, gK_20_1 K, gK_20_2 K, gK_20_3 K, gK_20_4 K, gK_20_5 K, gK_698_0 K, gK_698_3 K, gK_698_16 K, gK_698_17 K, gK_698_20 K, gK_698_21 K, gK_698_22 K, gK_698_23 K, gK_698_24 K, gK_698_25 K, gK_698_26 K, gK_698_27 K, gK_698_28 K, gK_698_29 K, gK_698_30 K, gK_698_31 K, gK_698_32 K, gK_698_33 K, gK_698_34 K, gK_698_35 K, gK_698_36 K, gK_698_37 K, gK_698_38 K, gK_698_39 K, gK_698_41 K, gK_698_42 K, gK_698_44 K, gK_c K, gK_d K, gK_n K, gK_p K, gok_8, gok_10, gok_11, gok_15, gok_20, gok_698, gok_699, goA_9, goA_12, goA_13, goA_14, goA_16, goA_17, goA_18, goA_19, goA_21, goA_22, goA_23, goA_24, goA_25, goA_26, goA_27, goA_28, goA_29, goA_30, goA_31, goA_732, goA_733, goA_734, goA_735, goA_736, goA_737, goA_738, goA_739, goA_740, goA_741, goA_742, goA_743, goA_744, goA_745, goA_746, goA_747, goA_748, goA_749, goA_750, goA_751, goA_752, goA_753, goA_754, goA_755, goA_756, goA_757, gN_wI, gR_wI, gL_wI, if_true, eq_self, cMt_tpd (cAll_mt C), cMt_tap (cAll_mt C), cMt_fkd (cAll_mt C), cMt_fpl (cAll_mt C), cMt_ppl (cAll_mt C), cMt_lat (cAll_mt C), cMt_lan (cAll_mt C), cMt_pai (cAll_mt C), cMt_pos (cAll_mt C), cCd_pts (cAll_cd C), cCd_lks (cAll_cd C), cCd_fts (cAll_cd C), cCd_pan (cAll_cd C), cCd_spa (cAll_cd C), cCd_cnt (cAll_cd C), cCd_sho (cAll_cd C), cCd_les (cAll_cd C), cCd_tea (cAll_cd C), cCd_bst (cAll_cd C), cCd_fin (cAll_cd C), cCd_lnd (cAll_cd C)]
    by_cases h : x = 0
    · rw [if_pos h, if_pos h]
    · rw [if_neg h, if_neg h]
      by_cases h : x = 1
      · rw [if_pos h, if_pos h]
      · rw [if_neg h, if_neg h]
  · rw [q_Mo_fault]
    simp only [gK_N K, gK_8_0 K, gK_8_1 K, gK_8_2 K, gK_8_3 K, gK_8_4 K, gK_8_5 K, gK_8_6 K, gK_8_7 K, gK_8_8 K, gK_10_0 K, gK_10_1 K, gK_10_2 K, gK_11_0 K, gK_15_0 K, gK_15_1 K, gK_15_2 K, gK_15_3 K, gK_20_0 K, gK_20_1 K, gK_20_2 K, gK_20_3 K, gK_20_4 K, gK_20_5 K, gK_698_0 K, gK_698_3 K, gK_698_16 K, gK_698_17 K, gK_698_20 K, gK_698_21 K, gK_698_22 K, gK_698_23 K, gK_698_24 K, gK_698_25 K, gK_698_26 K, gK_698_27 K, gK_698_28 K, gK_698_29 K, gK_698_30 K, gK_698_31 K, gK_698_32 K, gK_698_33 K, gK_698_34 K, gK_698_35 K, gK_698_36 K, gK_698_37 K, gK_698_38 K, gK_698_39 K, gK_698_41 K, gK_698_42 K, gK_698_44 K, gK_c K, gK_d K, gK_n K, gK_p K, gok_8, gok_10, gok_11, gok_15, gok_20, gok_698, gok_699, goA_9, goA_12, goA_13, goA_14, goA_16, goA_17, goA_18, goA_19, goA_21, goA_22, goA_23, goA_24, goA_25, goA_26, goA_27, goA_28, goA_29, goA_30, goA_31, goA_732, goA_733, goA_734, goA_735, goA_736, goA_737, goA_738, goA_739, goA_740, goA_741, goA_742, goA_743, goA_744, goA_745, goA_746, goA_747, goA_748, goA_749, goA_750, goA_751, goA_752, goA_753, goA_754, goA_755, goA_756, goA_757, gN_wI, gR_wI, gL_wI, if_true, eq_self, gS_n K S, gS_n5 K S, gS_n6 K S, gS_n7 K S, gS_n8 K S, gS_n9 K S, gS_n10 K S, gS_n11 K S, gS_n12 K S, gS_n13 K S, gS_n14 K S, gS_n15 K S, gS_732 S, gS_735 S, gS_736 S, gS_737 S, gS_738 S, gS_739 S, gS_740 S, gS_741 S, gS_742 S, gS_743 S, gS_744 S, gS_745 S, gS_746 S, gS_698_4 S, gS_698_14 S, gS_698_15 S, gS_698_18 S, gS_698_19 S]
    by_cases h : x = 0
    · rw [if_pos h, if_pos h]
    · rw [if_neg h, if_neg h]
      by_cases h : x = 1
      · rw [if_pos h, if_pos h]
      · rw [if_neg h, if_neg h]
theorem P_fees (R : gRel c d n p m s) (x : Int32) : gPr 189 190 [.int x] m := by
  obtain ⟨K, I, C, S, H⟩ := id R
  refine gPr_of R (v := bif gIs 10 x then s 736 (gn x) else -2) (s' := s) ⟨m, ?_, oX_refl, C⟩ (fun m1 K S H => ⟨m1, ?_, oM_refl, S, H⟩) I
  · rw [q_X_fees, c_isLand]
    simp only [gK_N K, gK_8_0 K, gK_8_1 K, gK_8_2 K, gK_8_3 K, gK_8_4 K, gK_8_5 K, gK_8_6 K, gK_8_7 K, gK_8_8 K, gK_10_0 K, gK_10_1 K, gK_10_2 K, gK_11_0 K, gK_15_0 K, gK_15_1 K, gK_15_2 K, gK_15_3 K, gK_20_0 K, gK_20_1 K, gK_20_2 K, gK_20_3 K, gK_20_4 K, gK_20_5 K, gK_698_0 K, gK_698_3 K, gK_698_16 K, gK_698_17 K, gK_698_20 K, gK_698_21 K, gK_698_22 K, gK_698_23 K, gK_698_24 K, gK_698_25 K, gK_698_26 K, gK_698_27 K, gK_698_28 K, gK_698_29 K, gK_698_30 K, gK_698_31 K, gK_698_32 K, gK_698_33 K, gK_698_34 K, gK_698_35 K, gK_698_36 K, gK_698_37 K, gK_698_38 K, gK_698_39 K, gK_698_41 K, gK_698_42 K, gK_698_44 K, gK_c K, gK_d K, gK_n K, gK_p K, gok_8, gok_10, gok_11, gok_15, gok_20, gok_698, gok_699, goA_9, goA_12, goA_13, goA_14, goA_16, goA_17, goA_18, goA_19, goA_21, goA_22, goA_23, goA_24, goA_25, goA_26, goA_27, goA_28, goA_29, goA_30, goA_31, goA_732, goA_733, goA_734, goA_735, goA_736, goA_737, goA_738, goA_739, goA_740, goA_741, goA_742, goA_743, goA_744, goA_745, goA_746, goA_747, goA_748, goA_749, goA_750, goA_751, goA_752, goA_753, goA_754, goA_755, goA_756, goA_757, gN_wI, gR_wI, gL_wI, if_true, eq_self, cMt_tpd (cAll_mt C), cMt_tap (cAll_mt C), cMt_fkd (cAll_mt C), cMt_fpl (cAll_mt C), cMt_ppl (cAll_mt C), cMt_lat (cAll_mt C), cMt_lan (cAll_mt C), cMt_pai (cAll_mt C), cMt_pos (cAll_mt C), cCd_pts (cAll_cd C), cCd_lks (cAll_cd C), cCd_fts (cAll_cd C), cCd_pan (cAll_cd C), cCd_spa (cAll_cd C), cCd_cnt (cAll_cd C), cCd_sho (cAll_cd C), cCd_les (cAll_cd C), cCd_tea (cAll_cd C), cCd_bst (cAll_cd C), cCd_fin (cAll_cd C), cCd_lnd (cAll_cd C), Option.bind_some, gd_k0I_i, gB_0]
    by_cases h : gIs 10 x = true
    · obtain ⟨k, hk, rfl⟩ := gIs_t (by decide) h
      rw [h, if_neg (by decide), gn_in (by omega) hk]; rfl
    · rw [Bool.not_eq_true] at h; rw [h]; rfl
  · rw [q_Mo_fees, c_in9]
    simp only [gK_N K, gK_8_0 K, gK_8_1 K, gK_8_2 K, gK_8_3 K, gK_8_4 K, gK_8_5 K, gK_8_6 K, gK_8_7 K, gK_8_8 K, gK_10_0 K, gK_10_1 K, gK_10_2 K, gK_11_0 K, gK_15_0 K, gK_15_1 K, gK_15_2 K, gK_15_3 K, gK_20_0 K, gK_20_1 K, gK_20_2 K, gK_20_3 K, gK_20_4 K, gK_20_5 K, gK_698_0 K, gK_698_3 K, gK_698_16 K, gK_698_17 K, gK_698_20 K, gK_698_21 K, gK_698_22 K, gK_698_23 K, gK_698_24 K, gK_698_25 K, gK_698_26 K, gK_698_27 K, gK_698_28 K, gK_698_29 K, gK_698_30 K, gK_698_31 K, gK_698_32 K, gK_698_33 K, gK_698_34 K, gK_698_35 K, gK_698_36 K, gK_698_37 K, gK_698_38 K, gK_698_39 K, gK_698_41 K, gK_698_42 K, gK_698_44 K, gK_c K, gK_d K, gK_n K, gK_p K, gok_8, gok_10, gok_11, gok_15, gok_20, gok_698, gok_699, goA_9, goA_12, goA_13, goA_14, goA_16, goA_17, goA_18, goA_19, goA_21, goA_22, goA_23, goA_24, goA_25, goA_26, goA_27, goA_28, goA_29, goA_30, goA_31, goA_732, goA_733, goA_734, goA_735, goA_736, goA_737, goA_738, goA_739, goA_740, goA_741, goA_742, goA_743, goA_744, goA_745, goA_746, goA_747, goA_748, goA_749, goA_750, goA_751, goA_752, goA_753, goA_754, goA_755, goA_756, goA_757, gN_wI, gR_wI, gL_wI, if_true, eq_self, gS_n K S, gS_n5 K S, gS_n6 K S, gS_n7 K S, gS_n8 K S, gS_n9 K S, gS_n10 K S, gS_n11 K S, gS_n12 K S, gS_n13 K S, gS_n14 K S, gS_n15 K S, gS_732 S, gS_735 S, gS_736 S, gS_737 S, gS_738 S, gS_739 S, gS_740 S, gS_741 S, gS_742 S, gS_743 S, gS_744 S, gS_745 S, gS_746 S, gS_698_4 S, gS_698_14 S, gS_698_15 S, gS_698_18 S, gS_698_19 S, Option.bind_some, gd_k0I_i, gB_0]
    by_cases h : gIs 10 x = true
    · obtain ⟨k, hk, rfl⟩ := gIs_t (by decide) h
      rw [h, if_neg (by decide), gn_in (by omega) hk]; rfl
    · rw [Bool.not_eq_true] at h; rw [h]; rfl
theorem P_asked (R : gRel c d n p m s) (g a : Int32) : gPr 114 115 [.int g, .int a] m := by
  obtain ⟨K, I, C, S, H⟩ := id R
  obtain ⟨P, -, hP2, hP⟩ := iAll_ppl I
  cases h : gAt P g a with
  | false =>
    refine gPr_of R (v := -2) (s' := s) ⟨m, ?_, oX_refl, C⟩ (fun m1 K S H => ⟨m1, ?_, oM_refl, S, H⟩) I
    · rw [q_X_asked, c_rowOf_no K ((cMt_ppl (cAll_mt C)).trans hP) h]
      simp only [gK_N K, gK_8_0 K, gK_8_1 K, gK_8_2 K, gK_8_3 K, gK_8_4 K, gK_8_5 K, gK_8_6 K, gK_8_7 K, gK_8_8 K, gK_10_0 K, gK_10_1 K, gK_10_2 K, gK_11_0 K, gK_15_0 K, gK_15_1 K, gK_15_2 K, gK_15_3 K, gK_20_0 K, gK_20_1 K, gK_20_2 K, gK_20_3 K, gK_20_4 K, gK_20_5 K, gK_698_0 K, gK_698_3 K, gK_698_16 K, gK_698_17 K, gK_698_20 K, gK_698_21 K, gK_698_22 K, gK_698_23 K, gK_698_24 K, gK_698_25 K, gK_698_26 K, gK_698_27 K, gK_698_28 K, gK_698_29 K, gK_698_30 K, gK_698_31 K, gK_698_32 K, gK_698_33 K, gK_698_34 K, gK_698_35 K, gK_698_36 K, gK_698_37 K, gK_698_38 K, gK_698_39 K, gK_698_41 K, gK_698_42 K, gK_698_44 K, gK_c K, gK_d K, gK_n K, gK_p K, gok_8, gok_10, gok_11, gok_15, gok_20, gok_698, gok_699, goA_9, goA_12, goA_13, goA_14, goA_16, goA_17, goA_18, goA_19, goA_21, goA_22, goA_23, goA_24, goA_25, goA_26, goA_27, goA_28, goA_29, goA_30, goA_31, goA_732, goA_733, goA_734, goA_735, goA_736, goA_737, goA_738, goA_739, goA_740, goA_741, goA_742, goA_743, goA_744, goA_745, goA_746, goA_747, goA_748, goA_749, goA_750, goA_751, goA_752, goA_753, goA_754, goA_755, goA_756, goA_757, gN_wI, gR_wI, gL_wI, if_true, eq_self, Option.bind_some, gd_kR_r]
    · rw [q_Mo_asked, c_isAt_no K ((gS_698_18 S).trans hP) hP2 h]
      simp only [gK_N K, gK_8_0 K, gK_8_1 K, gK_8_2 K, gK_8_3 K, gK_8_4 K, gK_8_5 K, gK_8_6 K, gK_8_7 K, gK_8_8 K, gK_10_0 K, gK_10_1 K, gK_10_2 K, gK_11_0 K, gK_15_0 K, gK_15_1 K, gK_15_2 K, gK_15_3 K, gK_20_0 K, gK_20_1 K, gK_20_2 K, gK_20_3 K, gK_20_4 K, gK_20_5 K, gK_698_0 K, gK_698_3 K, gK_698_16 K, gK_698_17 K, gK_698_20 K, gK_698_21 K, gK_698_22 K, gK_698_23 K, gK_698_24 K, gK_698_25 K, gK_698_26 K, gK_698_27 K, gK_698_28 K, gK_698_29 K, gK_698_30 K, gK_698_31 K, gK_698_32 K, gK_698_33 K, gK_698_34 K, gK_698_35 K, gK_698_36 K, gK_698_37 K, gK_698_38 K, gK_698_39 K, gK_698_41 K, gK_698_42 K, gK_698_44 K, gK_c K, gK_d K, gK_n K, gK_p K, gok_8, gok_10, gok_11, gok_15, gok_20, gok_698, gok_699, goA_9, goA_12, goA_13, goA_14, goA_16, goA_17, goA_18, goA_19, goA_21, goA_22, goA_23, goA_24, goA_25, goA_26, goA_27, goA_28, goA_29, goA_30, goA_31, goA_732, goA_733, goA_734, goA_735, goA_736, goA_737, goA_738, goA_739, goA_740, goA_741, goA_742, goA_743, goA_744, goA_745, goA_746, goA_747, goA_748, goA_749, goA_750, goA_751, goA_752, goA_753, goA_754, goA_755, goA_756, goA_757, gN_wI, gR_wI, gL_wI, if_true, eq_self, Option.bind_some, gd_kI_i]
  | true =>
    obtain ⟨k, b, hk, hb, rfl, rfl⟩ := gAt_t hP2 h
    have hr : 4 * k + b < 160 := by omega
    refine gPr_of R (v := if s 738 (4 * k + b) = 0 then -1 else s 743 (4 * k + b)) (s' := s) ⟨m, ?_, oX_refl, C⟩ (fun m1 K S H => ⟨m1, ?_, oM_refl, S, H⟩) I
    · rw [q_X_asked, c_rowOf_at K ((cMt_ppl (cAll_mt C)).trans hP) hP2 hk hb]
      simp only [gK_N K, gK_8_0 K, gK_8_1 K, gK_8_2 K, gK_8_3 K, gK_8_4 K, gK_8_5 K, gK_8_6 K, gK_8_7 K, gK_8_8 K, gK_10_0 K, gK_10_1 K, gK_10_2 K, gK_11_0 K, gK_15_0 K, gK_15_1 K, gK_15_2 K, gK_15_3 K, gK_20_0 K, gK_20_1 K, gK_20_2 K, gK_20_3 K, gK_20_4 K, gK_20_5 K, gK_698_0 K, gK_698_3 K, gK_698_16 K, gK_698_17 K, gK_698_20 K, gK_698_21 K, gK_698_22 K, gK_698_23 K, gK_698_24 K, gK_698_25 K, gK_698_26 K, gK_698_27 K, gK_698_28 K, gK_698_29 K, gK_698_30 K, gK_698_31 K, gK_698_32 K, gK_698_33 K, gK_698_34 K, gK_698_35 K, gK_698_36 K, gK_698_37 K, gK_698_38 K, gK_698_39 K, gK_698_41 K, gK_698_42 K, gK_698_44 K, gK_c K, gK_d K, gK_n K, gK_p K, gok_8, gok_10, gok_11, gok_15, gok_20, gok_698, gok_699, goA_9, goA_12, goA_13, goA_14, goA_16, goA_17, goA_18, goA_19, goA_21, goA_22, goA_23, goA_24, goA_25, goA_26, goA_27, goA_28, goA_29, goA_30, goA_31, goA_732, goA_733, goA_734, goA_735, goA_736, goA_737, goA_738, goA_739, goA_740, goA_741, goA_742, goA_743, goA_744, goA_745, goA_746, goA_747, goA_748, goA_749, goA_750, goA_751, goA_752, goA_753, goA_754, goA_755, goA_756, goA_757, gN_wI, gR_wI, gL_wI, if_true, eq_self, gK_row K hr, gK_ent K hr, gK_mrk K hr, gK_sen K hr, gok_row hr, goA_ent hr, goA_mrk hr, goA_sen hr, gd_row0, gd_row8, if_false, cRw_bgn (cAll_rw C _ hr), cRw_len (cAll_rw C _ hr), cRw_mkd (cAll_rw C _ hr), cRw_ask (cAll_rw C _ hr), cRw_inq (cAll_rw C _ hr), Option.bind_some, gd_kR_r]
      split <;> rfl
    · rw [q_Mo_asked, c_isAt_at K ((gS_698_18 S).trans hP) hP2 hk hb]
      simp only [gK_N K, gK_8_0 K, gK_8_1 K, gK_8_2 K, gK_8_3 K, gK_8_4 K, gK_8_5 K, gK_8_6 K, gK_8_7 K, gK_8_8 K, gK_10_0 K, gK_10_1 K, gK_10_2 K, gK_11_0 K, gK_15_0 K, gK_15_1 K, gK_15_2 K, gK_15_3 K, gK_20_0 K, gK_20_1 K, gK_20_2 K, gK_20_3 K, gK_20_4 K, gK_20_5 K, gK_698_0 K, gK_698_3 K, gK_698_16 K, gK_698_17 K, gK_698_20 K, gK_698_21 K, gK_698_22 K, gK_698_23 K, gK_698_24 K, gK_698_25 K, gK_698_26 K, gK_698_27 K, gK_698_28 K, gK_698_29 K, gK_698_30 K, gK_698_31 K, gK_698_32 K, gK_698_33 K, gK_698_34 K, gK_698_35 K, gK_698_36 K, gK_698_37 K, gK_698_38 K, gK_698_39 K, gK_698_41 K, gK_698_42 K, gK_698_44 K, gK_c K, gK_d K, gK_n K, gK_p K, gok_8, gok_10, gok_11, gok_15, gok_20, gok_698, gok_699, goA_9, goA_12, goA_13, goA_14, goA_16, goA_17, goA_18, goA_19, goA_21, goA_22, goA_23, goA_24, goA_25, goA_26, goA_27, goA_28, goA_29, goA_30, goA_31, goA_732, goA_733, goA_734, goA_735, goA_736, goA_737, goA_738, goA_739, goA_740, goA_741, goA_742, goA_743, goA_744, goA_745, goA_746, goA_747, goA_748, goA_749, goA_750, goA_751, goA_752, goA_753, goA_754, goA_755, goA_756, goA_757, gN_wI, gR_wI, gL_wI, if_true, eq_self, gS_n K S, gS_n5 K S, gS_n6 K S, gS_n7 K S, gS_n8 K S, gS_n9 K S, gS_n10 K S, gS_n11 K S, gS_n12 K S, gS_n13 K S, gS_n14 K S, gS_n15 K S, gS_732 S, gS_735 S, gS_736 S, gS_737 S, gS_738 S, gS_739 S, gS_740 S, gS_741 S, gS_742 S, gS_743 S, gS_744 S, gS_745 S, gS_746 S, gS_698_4 S, gS_698_14 S, gS_698_15 S, gS_698_18 S, gS_698_19 S, Option.bind_some, gd_kI_i, gm4, gn_add, gn_nat (show 4 * k + b < 2147483648 by omega), gn_in (show 4 * k + b < 2147483648 by omega) hr]
      rw [if_neg (by decide)]
      split <;> rfl
end P55
