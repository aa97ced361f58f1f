/-! ===== the text of the quoted words ===== -/
theorem c_S_coder (m : gd_M) : gd_call 0 [.ref 1] m = some (.int 0, m) := by
  rw [q_S_coder]; exact if_pos (by decide)
theorem c_S_length (m : gd_M) : gd_call 1 [.ref 1] m = some (.int 99, m) := by
  rw [q_S_length, c_S_coder]; rfl
theorem c_Pr_checkIndex {k n : Nat} (r : Nat) (m : gd_M) (h : k < n) (hn : n < 2147483648) : gd_call 3 [.int (Int32.ofNat k), .int (Int32.ofNat n), .ref r] m = some (.int (Int32.ofNat k), m) := by
  rw [q_Pr_checkIndex, if_neg, if_pos]
  · exact (gn_lt (by omega) hn).2 h
  · rw [Int32.lt_iff_toInt_lt, gn_toInt (by omega)]; simp
theorem c_S_checkIndex {k n : Nat} (m : gd_M) (h : k < n) (hn : n < 2147483648) : gd_call 4 [.int (Int32.ofNat k), .int (Int32.ofNat n)] m = some (.null, m) := by
  rw [q_S_checkIndex, c_Pr_checkIndex 5 m h hn]; rfl
theorem c_tx_ok : ∀ k < 99, (((((gd_tx k) &&& 255) : Int32).toUInt32 % 65536).toInt32 = gd_tx k ∧ narrow .char (.int (gd_tx k)) = .int (gd_tx k)) := by decide +kernel
theorem c_S1_charAt {k : Nat} (m : gd_M) (h : k < 99) : gd_call 5 [.ref 2, .int (Int32.ofNat k)] m = some (.int (gd_tx k), m) := by
  rw [q_S1_charAt, show gd_txn = Int32.ofNat 99 from rfl, c_S_checkIndex m h (by omega)]
  simp only [Option.bind_some, gd_k0V_v]
  rw [if_pos (show gd_in (Int32.ofNat k) gd_txl = true from gn_in (by omega) h), gn_nat (by omega), (c_tx_ok k h).1]
  exact if_pos (decide_eq_true (c_tx_ok k h).2)
theorem c_S_charAt {k : Nat} (m : gd_M) (h : k < 99) : gd_call 6 [.ref 1, .int (Int32.ofNat k)] m = some (.int (gd_tx k), m) := by
  rw [q_S_charAt, q_S_isLatin1]
  simp only [Option.bind_some, gd_kI_i]
  rw [if_neg (by decide), c_S1_charAt m h]
  simp only [Option.bind_some, gd_k0I_i]
  exact if_pos (decide_eq_true (c_tx_ok k h).2)
