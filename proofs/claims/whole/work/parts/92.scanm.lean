/-! ===== scanning, the reference ===== -/
/-- only the reference's scanner has changed -/
def oZ (m m1 : gd_M) : Prop := m1.2.2 = m.2.2 ∧ (∀ a, a ≠ 698 → gI m1 a = gI m a) ∧ (∀ a, a ≠ 698 → gJ m1 a = gJ m a) ∧ ∀ j, (j < 6 ∨ 11 < j) → gI m1 698 j = gI m 698 j
theorem oZ_refl {m : gd_M} : oZ m m := ⟨rfl, fun _ _ => rfl, fun _ _ => rfl, fun _ _ => rfl⟩
theorem oZ_tr {m m1 m2 : gd_M} (h : oZ m m1) (h2 : oZ m1 m2) : oZ m m2 := ⟨h2.1.trans h.1, fun a q => (h2.2.1 a q).trans (h.2.1 a q), fun a q => (h2.2.2.1 a q).trans (h.2.2.1 a q), fun j q => (h2.2.2.2 j q).trans (h.2.2.2 j q)⟩
theorem oZ_w {m m1 : gd_M} {k : Nat} {x : Int32} (h : oZ m m1) (hk : 6 ≤ k ∧ k ≤ 11) : oZ m (wI m1 698 k x) := ⟨h.1, fun a q => by rw [gI_wI_f q]; exact h.2.1 a q, h.2.2.1, fun j q => by rw [gI_wI_k (by omega)]; exact h.2.2.2 j q⟩
theorem oZ_J {m m1 : gd_M} {k : Nat} {x : Int64} (h : oZ m m1) : oZ m (wJ m1 698 k x) := ⟨h.1, h.2.1, fun a q => by rw [gJ_wJ_f q]; exact h.2.2.1 a q, h.2.2.2⟩
theorem gK_oZ {c d n p : Nat} {m m1 : gd_M} (h : gK c d n p m) (o : oZ m m1) : gK c d n p m1 := gK_S h o.1 fun w _ => by rw [o.2.2.1 12 (by decide)]
def zT (t : Nat → Int32) (T : Nat) (m : gd_M) : Prop := (∀ i, gI m 732 i = t i) ∧ gI m 698 5 = Int32.ofNat T
theorem zT_Z {t : Nat → Int32} {T : Nat} {m m1 : gd_M} (h : zT t T m) (o : oZ m m1) : zT t T m1 := ⟨fun i => by rw [o.2.1 732 (by decide)]; exact h.1 i, (o.2.2.2 5 (by decide)).trans h.2⟩
def zTy (y : Nat) : Int32 := if y = 0 then 5 else if y = 5 then 0 else Int32.ofNat y
/-- the reference's latest token -/
def tkM (t : Nat → Int32) (T s k : Nat) (m : gd_M) : Prop := gI m 698 8 = Int32.ofNat s ∧ gI m 698 9 = Int32.ofNat (kEn t T s) ∧ gI m 698 11 = Int32.ofNat (if T ≤ s then k else k + 1) ∧ gI m 698 6 = zTy (kTy t T s) ∧ (kTy t T s = 2 → gI m 698 7 = Int32.ofNat (kWd t T s)) ∧ (kTy t T s = 3 → gI m 698 10 = kVa t T s) ∧ (kTy t T s = 1 → gJ m 698 12 = gNa (kL t T s) (kLn t T s) ∧ gJ m 698 13 = gNb (kL t T s) (kLn t T s))
theorem c_isSmall (x : Int32) (m : gd_M) : gd_call 63 [.int x] m = some (.int (gB (gSma x)), m) := by
  rw [q_Mo_isSmall, gSma_i]
  cases gSma x <;> rfl
theorem c_isDigit (x : Int32) (m : gd_M) : gd_call 66 [.int x] m = some (.int (gB (gDig x)), m) := by
  rw [q_Mo_isDigit, gDig_i]
  cases gDig x <;> rfl
def gWp (w : Nat) : Nat := if w = 19 then 99 else gWs w
section P92
variable {c d n p : Nat} {m : gd_M} {t : Nat → Int32} {T s k q N : Nat}
theorem c_see1 (K : gK c d n p m) (Z : zT t T m) (hT : T ≤ 3000) {i : Nat} (hi : i < 2147483648) : gd_call 62 [.ref 698, .int (Int32.ofNat i)] m = some (.int (gSe t T i), m) := by
  rw [q_Mo_see_1]
  simp only [gK_N K, gK_8_0 K, gK_8_1 K, gK_8_2 K, gK_8_3 K, gK_8_4 K, gK_8_5 K, gK_8_6 K, gK_8_7 K, gK_8_8 K, gK_10_0 K, gK_10_1 K, gK_10_2 K, gK_11_0 K, gK_15_0 K, gK_15_1 K, gK_15_2 K, gK_15_3 K, gK_20_0 K, gK_20_1 K, gK_20_2 K, gK_20_3 K, gK_20_4 K, gK_20_5 K, gK_698_0 K, gK_698_3 K, gK_698_16 K, gK_698_17 K, gK_698_20 K, gK_698_21 K, gK_698_22 K, gK_698_23 K, gK_698_24 K, gK_698_25 K, gK_698_26 K, gK_698_27 K, gK_698_28 K, gK_698_29 K, gK_698_30 K, gK_698_31 K, gK_698_32 K, gK_698_33 K, gK_698_34 K, gK_698_35 K, gK_698_36 K, gK_698_37 K, gK_698_38 K, gK_698_39 K, gK_698_41 K, gK_698_42 K, gK_698_44 K, gK_c K, gK_d K, gK_n K, gK_p K, gok_8, gok_10, gok_11, gok_15, gok_20, gok_698, gok_699, goA_9, goA_12, goA_13, goA_14, goA_16, goA_17, goA_18, goA_19, goA_21, goA_22, goA_23, goA_24, goA_25, goA_26, goA_27, goA_28, goA_29, goA_30, goA_31, goA_732, goA_733, goA_734, goA_735, goA_736, goA_737, goA_738, goA_739, goA_740, goA_741, goA_742, goA_743, goA_744, goA_745, goA_746, goA_747, goA_748, goA_749, goA_750, goA_751, goA_752, goA_753, goA_754, goA_755, goA_756, goA_757, gN_wI, gR_wI, gL_wI, if_true, eq_self]
  rw [Z.2]
  by_cases h : i < T
  · rw [if_pos ((gn_lt hi (by omega)).2 h), gn_in hi (show i < 3000 by omega), if_pos rfl, gn_nat hi, Z.1 i, gSe_i h]
  · rw [if_neg (fun u => h ((gn_lt hi (by omega)).1 u))]
    unfold gSe
    rw [if_neg h]
theorem c_key_w {w : Nat} (hw : w < 19) {v6 v7 : Value} {x1 x2 : Int32} : ∀ j i, i + j = gWl w → gd_Den (64, 8, [.ref 698, .int x1, .int x2, .int (Int32.ofNat w), .int (Int32.ofNat (gWs w)), .int (Int32.ofNat (gWs w + i)), v6, v7], [], m) = gd_Den (64, 8, [.ref 698, .int x1, .int x2, .int (Int32.ofNat w), .int (Int32.ofNat (gWs w)), .int (Int32.ofNat (gWs w + gWl w)), v6, v7], [], m) := by
  obtain ⟨g1, g2, g3, -, -, -⟩ := gWs_ok w hw
  intro j
  induction j with
  | zero =>
    intro i h
    rw [show i = gWl w by omega]
  | succ j ih =>
    intro i h
    have hi := ih (i + 1) (by omega)
    rw [← Nat.add_assoc] at hi
    rw [q_Mo_keyAt_8, c_S_length]
    simp only [Option.bind_some, gd_kI_i]
    rw [if_pos (show Int32.ofNat (gWs w + i) < 99 from (gnlb_99 (by omega) (by decide)).2 (by omega)), c_S_charAt m (by omega)]
    simp only [Option.bind_some, gd_kI_i]
    rw [if_neg (g3 i (by omega)).1, gn_succ]
    exact hi
theorem c_key_no {x1 x2 x3 x4 x5 x7 : Int32} : gd_Den (64, 52, [.ref 698, .int x1, .int x2, .int x3, .int x4, .int x5, .int 0, .int x7], [], m) = gd_Den (64, 8, [.ref 698, .int x1, .int x2, .int (x3 + 1), .int (x5 + 1), .int (x5 + 1), .int 0, .int x7], [], m) := by
  rw [q_Mo_keyAt_52]
  by_cases h : x7 < x2
  · rw [if_pos h, if_pos rfl, if_pos rfl]
  · rw [if_neg h, if_pos rfl]
theorem c_key_52 (K : gK c d n p m) (Z : zT t T m) (hT : T ≤ 3000) (hq : q ≤ 3000) {w : Nat} (hw : w < 19) (hn : gWl w = N) {x5 : Int32} : ∀ j i, i + j = N → (∀ i' < i, gd_tx (gWs w + i') = gSe t T (q + i')) → ∃ v6 v7, gd_Den (64, 52, [.ref 698, .int (Int32.ofNat q), .int (Int32.ofNat N), .int (Int32.ofNat w), .int (Int32.ofNat (gWs w)), .int x5, .int 1, .int (Int32.ofNat i)], [], m) = if kM (fun x => gSe t T (q + x)) N w = true then some (.int (Int32.ofNat w), m) else gd_Den (64, 8, [.ref 698, .int (Int32.ofNat q), .int (Int32.ofNat N), .int (Int32.ofNat (w + 1)), .int (x5 + 1), .int (x5 + 1), v6, v7], [], m) := by
  obtain ⟨g1, g2, g3, -, -, g4⟩ := gWs_ok w hw
  intro j
  induction j with
  | zero =>
    intro i h hm
    have : i = N := by omega
    subst this
    refine ⟨.null, .null, ?_⟩
    rw [q_Mo_keyAt_52, if_neg Int32.lt_irrefl, if_neg (by decide), if_pos (kM_t.2 ⟨hn, hm⟩)]
  | succ j ih =>
    intro i h hm
    rw [q_Mo_keyAt_52, if_pos ((gn_lt (by omega) (by omega)).2 (by omega)), if_neg (show ¬ (1 : Int32) = 0 by decide), gn_add, gn_add, c_S_charAt m (by omega)]
    simp only [gK_N K, gK_8_0 K, gK_8_1 K, gK_8_2 K, gK_8_3 K, gK_8_4 K, gK_8_5 K, gK_8_6 K, gK_8_7 K, gK_8_8 K, gK_10_0 K, gK_10_1 K, gK_10_2 K, gK_11_0 K, gK_15_0 K, gK_15_1 K, gK_15_2 K, gK_15_3 K, gK_20_0 K, gK_20_1 K, gK_20_2 K, gK_20_3 K, gK_20_4 K, gK_20_5 K, gK_698_0 K, gK_698_3 K, gK_698_16 K, gK_698_17 K, gK_698_20 K, gK_698_21 K, gK_698_22 K, gK_698_23 K, gK_698_24 K, gK_698_25 K, gK_698_26 K, gK_698_27 K, gK_698_28 K, gK_698_29 K, gK_698_30 K, gK_698_31 K, gK_698_32 K, gK_698_33 K, gK_698_34 K, gK_698_35 K, gK_698_36 K, gK_698_37 K, gK_698_38 K, gK_698_39 K, gK_698_41 K, gK_698_42 K, gK_698_44 K, gK_c K, gK_d K, gK_n K, gK_p K, gok_8, gok_10, gok_11, gok_15, gok_20, gok_698, gok_699, goA_9, goA_12, goA_13, goA_14, goA_16, goA_17, goA_18, goA_19, goA_21, goA_22, goA_23, goA_24, goA_25, goA_26, goA_27, goA_28, goA_29, goA_30, goA_31, goA_732, goA_733, goA_734, goA_735, goA_736, goA_737, goA_738, goA_739, goA_740, goA_741, goA_742, goA_743, goA_744, goA_745, goA_746, goA_747, goA_748, goA_749, goA_750, goA_751, goA_752, goA_753, goA_754, goA_755, goA_756, goA_757, gN_wI, gR_wI, gL_wI, if_true, eq_self, Option.bind_some, gd_kI_i]
    rw [c_see1 K Z hT (show q + i < 2147483648 by omega)]
    simp only [gK_N K, gK_8_0 K, gK_8_1 K, gK_8_2 K, gK_8_3 K, gK_8_4 K, gK_8_5 K, gK_8_6 K, gK_8_7 K, gK_8_8 K, gK_10_0 K, gK_10_1 K, gK_10_2 K, gK_11_0 K, gK_15_0 K, gK_15_1 K, gK_15_2 K, gK_15_3 K, gK_20_0 K, gK_20_1 K, gK_20_2 K, gK_20_3 K, gK_20_4 K, gK_20_5 K, gK_698_0 K, gK_698_3 K, gK_698_16 K, gK_698_17 K, gK_698_20 K, gK_698_21 K, gK_698_22 K, gK_698_23 K, gK_698_24 K, gK_698_25 K, gK_698_26 K, gK_698_27 K, gK_698_28 K, gK_698_29 K, gK_698_30 K, gK_698_31 K, gK_698_32 K, gK_698_33 K, gK_698_34 K, gK_698_35 K, gK_698_36 K, gK_698_37 K, gK_698_38 K, gK_698_39 K, gK_698_41 K, gK_698_42 K, gK_698_44 K, gK_c K, gK_d K, gK_n K, gK_p K, gok_8, gok_10, gok_11, gok_15, gok_20, gok_698, gok_699, goA_9, goA_12, goA_13, goA_14, goA_16, goA_17, goA_18, goA_19, goA_21, goA_22, goA_23, goA_24, goA_25, goA_26, goA_27, goA_28, goA_29, goA_30, goA_31, goA_732, goA_733, goA_734, goA_735, goA_736, goA_737, goA_738, goA_739, goA_740, goA_741, goA_742, goA_743, goA_744, goA_745, goA_746, goA_747, goA_748, goA_749, goA_750, goA_751, goA_752, goA_753, goA_754, goA_755, goA_756, goA_757, gN_wI, gR_wI, gL_wI, if_true, eq_self, Option.bind_some, gd_kI_i]
    rw [gn_succ]
    by_cases e : gd_tx (gWs w + i) = gSe t T (q + i)
    · rw [if_pos e]
      exact ih (i + 1) (by omega) fun i' hi' => by
        by_cases e2 : i' = i
        · rw [e2]; exact e
        · exact hm i' (by omega)
    · refine ⟨.int 0, .int (Int32.ofNat (i + 1)), ?_⟩
      rw [if_neg e, c_key_no, gn_succ, if_neg]
      intro u
      exact e ((kM_t.1 u).2 i (by omega))
theorem c_key_8 (K : gK c d n p m) (Z : zT t T m) (hT : T ≤ 3000) (hq : q ≤ 3000) (hN : N ≤ 3000) : ∀ j w v6 v7, w + j = 19 → gd_Den (64, 8, [.ref 698, .int (Int32.ofNat q), .int (Int32.ofNat N), .int (Int32.ofNat w), .int (Int32.ofNat (gWp w)), .int (Int32.ofNat (gWp w)), v6, v7], [], m) = some (.int (if kFi (fun x => gSe t T (q + x)) N j w < 19 then Int32.ofNat (kFi (fun x => gSe t T (q + x)) N j w) else -1), m) := by
  intro j
  induction j with
  | zero =>
    intro w v6 v7 h
    have : w = 19 := by omega
    subst this
    rw [q_Mo_keyAt_8, c_S_length]
    simp only [Option.bind_some, gd_kI_i]
    rw [show gWp 19 = 99 from rfl, if_neg (show ¬ Int32.ofNat 99 < 99 by decide)]
    rfl
  | succ j ih =>
    intro w v6 v7 h
    have hw : w < 19 := by omega
    obtain ⟨g1, g2, g3, g5, g6, g4⟩ := gWs_ok w hw
    have hp : gWp w = gWs w := if_neg (by omega)
    have hp1 : gWp (w + 1) = gWs w + gWl w + 1 := by
      unfold gWp
      by_cases e : w + 1 = 19
      · rw [if_pos e]; exact (g6 (by omega)).symm
      · rw [if_neg e]; exact g5 (by omega)
    have hw0 := c_key_w (m := m) hw (v6 := v6) (v7 := v7) (x1 := Int32.ofNat q) (x2 := Int32.ofNat N) (gWl w) 0 (by omega)
    rw [Nat.add_zero] at hw0
    rw [hp, hw0, q_Mo_keyAt_8, c_S_length]
    simp only [Option.bind_some, gd_kI_i]
    rw [if_pos (show Int32.ofNat (gWs w + gWl w) < 99 from (gnlb_99 (by omega) (by decide)).2 g1), c_S_charAt m g1]
    simp only [Option.bind_some, gd_kI_i]
    rw [if_pos g2, gn_sub (by omega), show gWs w + gWl w - gWs w = gWl w by omega]
    have eF : kFi (fun x => gSe t T (q + x)) N (j + 1) w = if kM (fun x => gSe t T (q + x)) N w = true then w else kFi (fun x => gSe t T (q + x)) N j (w + 1) := rfl
    by_cases hn : gWl w = N
    · rw [if_pos (by rw [hn])]
      obtain ⟨v6', v7', e1⟩ := c_key_52 K Z hT hq hw hn (x5 := Int32.ofNat (gWs w + gWl w)) N 0 (by omega) (fun i' hi' => absurd hi' (Nat.not_lt_zero i'))
      rw [gn_0] at e1
      rw [e1, eF]
      by_cases hm : kM (fun x => gSe t T (q + x)) N w = true
      · rw [if_pos hm, if_pos hm, if_pos hw]
      · rw [if_neg hm, if_neg hm, gn_succ, ← hp1]
        exact ih (w + 1) v6' v7' (by omega)
    · rw [if_neg (fun u => hn ((gn_eq (by omega) (by omega)).1 u)), c_key_no, gn_succ, gn_succ, ← hp1, eF, if_neg (fun u => hn (kM_t.1 u).1)]
      exact ih (w + 1) _ _ (by omega)
theorem c_keyAt (K : gK c d n p m) (Z : zT t T m) (hT : T ≤ 3000) (hq : q ≤ 3000) (hN : N ≤ 3000) : gd_call 64 [.ref 698, .int (Int32.ofNat q), .int (Int32.ofNat N)] m = some (.int (if kKey (fun x => gSe t T (q + x)) N < 19 then Int32.ofNat (kKey (fun x => gSe t T (q + x)) N) else -1), m) := by
  rw [q_Mo_keyAt]
  exact c_key_8 K Z hT hq hN 19 0 .null .null rfl
theorem c_letters_5 (K : gK c d n p m) (Z : zT t T m) (hT : T ≤ 3000) (hq : q ≤ 4000) (hN : N ≤ 3000) {x1 : Int32} : ∀ j i, i + j = N → gd_Den (65, 5, [.ref 698, .int x1, .int (Int32.ofNat (q + N)), .long (gC8 (fun x => gSe t T (q + x)) i), .null, .int (Int32.ofNat (q + i))], [], m) = some (.long (gC8 (fun x => gSe t T (q + x)) N), m) := by
  intro j
  induction j with
  | zero =>
    intro i h
    have : i = N := by omega
    subst this
    rw [q_Mo_letters_5, if_neg Int32.lt_irrefl]
  | succ j ih =>
    intro i h
    have hI := ih (i + 1) (by omega)
    rw [q_Mo_letters_5, if_pos ((gn_lt (by omega) (by omega)).2 (by omega))]
    simp only [gK_N K, gK_8_0 K, gK_8_1 K, gK_8_2 K, gK_8_3 K, gK_8_4 K, gK_8_5 K, gK_8_6 K, gK_8_7 K, gK_8_8 K, gK_10_0 K, gK_10_1 K, gK_10_2 K, gK_11_0 K, gK_15_0 K, gK_15_1 K, gK_15_2 K, gK_15_3 K, gK_20_0 K, gK_20_1 K, gK_20_2 K, gK_20_3 K, gK_20_4 K, gK_20_5 K, gK_698_0 K, gK_698_3 K, gK_698_16 K, gK_698_17 K, gK_698_20 K, gK_698_21 K, gK_698_22 K, gK_698_23 K, gK_698_24 K, gK_698_25 K, gK_698_26 K, gK_698_27 K, gK_698_28 K, gK_698_29 K, gK_698_30 K, gK_698_31 K, gK_698_32 K, gK_698_33 K, gK_698_34 K, gK_698_35 K, gK_698_36 K, gK_698_37 K, gK_698_38 K, gK_698_39 K, gK_698_41 K, gK_698_42 K, gK_698_44 K, gK_c K, gK_d K, gK_n K, gK_p K, gok_8, gok_10, gok_11, gok_15, gok_20, gok_698, gok_699, goA_9, goA_12, goA_13, goA_14, goA_16, goA_17, goA_18, goA_19, goA_21, goA_22, goA_23, goA_24, goA_25, goA_26, goA_27, goA_28, goA_29, goA_30, goA_31, goA_732, goA_733, goA_734, goA_735, goA_736, goA_737, goA_738, goA_739, goA_740, goA_741, goA_742, goA_743, goA_744, goA_745, goA_746, goA_747, goA_748, goA_749, goA_750, goA_751, goA_752, goA_753, goA_754, goA_755, goA_756, goA_757, gN_wI, gR_wI, gL_wI, if_true, eq_self]
    rw [c_see1 K Z hT (by omega)]
    simp only [Option.bind_some, gd_kI_i]
    rw [gn_succ]
    exact hI
theorem c_letters (K : gK c d n p m) (Z : zT t T m) (hT : T ≤ 3000) (hq : q ≤ 4000) (hN : N ≤ 3000) : gd_call 65 [.ref 698, .int (Int32.ofNat q), .int (Int32.ofNat (q + N))] m = some (.long (gC8 (fun x => gSe t T (q + x)) N), m) := by
  rw [q_Mo_letters]
  exact c_letters_5 K Z hT hq hN N 0 (by omega)
theorem c_scan_79w (K : gK c d n p m) (Z : zT t T m) (hT : T ≤ 3000) {x1 x2 : Int32} : ∀ j e, e + j = T → gd_Den (67, 79, [.ref 698, .int x1, .int x2, .int (Int32.ofNat e)], [], m) = gd_Den (67, 79, [.ref 698, .int x1, .int x2, .int (Int32.ofNat (gWh (fun i => gSma (gSe t T i)) j e))], [], m) := by
  intro j
  induction j with
  | zero => intro e _; rfl
  | succ j ih =>
    intro e h
    cases hs : gSma (gSe t T e) with
    | false => rw [gWh_n (P := fun i => gSma (gSe t T i)) hs]
    | true =>
      rw [gWh_y (P := fun i => gSma (gSe t T i)) hs, ← ih (e + 1) (by omega), q_Mo_scan_79]
      simp only [gK_N K, gK_8_0 K, gK_8_1 K, gK_8_2 K, gK_8_3 K, gK_8_4 K, gK_8_5 K, gK_8_6 K, gK_8_7 K, gK_8_8 K, gK_10_0 K, gK_10_1 K, gK_10_2 K, gK_11_0 K, gK_15_0 K, gK_15_1 K, gK_15_2 K, gK_15_3 K, gK_20_0 K, gK_20_1 K, gK_20_2 K, gK_20_3 K, gK_20_4 K, gK_20_5 K, gK_698_0 K, gK_698_3 K, gK_698_16 K, gK_698_17 K, gK_698_20 K, gK_698_21 K, gK_698_22 K, gK_698_23 K, gK_698_24 K, gK_698_25 K, gK_698_26 K, gK_698_27 K, gK_698_28 K, gK_698_29 K, gK_698_30 K, gK_698_31 K, gK_698_32 K, gK_698_33 K, gK_698_34 K, gK_698_35 K, gK_698_36 K, gK_698_37 K, gK_698_38 K, gK_698_39 K, gK_698_41 K, gK_698_42 K, gK_698_44 K, gK_c K, gK_d K, gK_n K, gK_p K, gok_8, gok_10, gok_11, gok_15, gok_20, gok_698, gok_699, goA_9, goA_12, goA_13, goA_14, goA_16, goA_17, goA_18, goA_19, goA_21, goA_22, goA_23, goA_24, goA_25, goA_26, goA_27, goA_28, goA_29, goA_30, goA_31, goA_732, goA_733, goA_734, goA_735, goA_736, goA_737, goA_738, goA_739, goA_740, goA_741, goA_742, goA_743, goA_744, goA_745, goA_746, goA_747, goA_748, goA_749, goA_750, goA_751, goA_752, goA_753, goA_754, goA_755, goA_756, goA_757, gN_wI, gR_wI, gL_wI, if_true, eq_self]
      rw [c_see1 K Z hT (by omega)]
      simp only [Option.bind_some, gd_kI_i]
      rw [c_isSmall, hs]
      simp only [Option.bind_some, gd_k0I_i, gB_t]
      rw [if_neg (by decide), gn_succ]
/-- nothing small stands behind the last letter -/
theorem gSma_T : gSma (gSe t T T) = false := by
  unfold gSe
  rw [if_neg (Nat.lt_irrefl T)]; rfl
theorem gDig_T : gDig (gSe t T T) = false := by
  unfold gSe
  rw [if_neg (Nat.lt_irrefl T)]; rfl
theorem gWh_end {P : Nat → Bool} {e : Nat} (h : e ≤ T) (hP : P T = false) : P (gWh P (T - e) e) = false := by
  have hb := gWh_b (P := P) (T - e) e
  by_cases q : gWh P (T - e) e < e + (T - e)
  · exact gWh_e _ _ q
  · rw [show gWh P (T - e) e = T by omega]; exact hP
theorem c_scan_134 (K : gK c d n p m) (Z : zT t T m) (hT : T ≤ 3000) (hs : s ≤ 3000) {L : Nat} (hL : L ≤ 3000) {x2 x6 : Int32} : ∃ m', gd_Den (67, 134, [.ref 698, .int (Int32.ofNat s), .int x2, .int (Int32.ofNat (s + L))], [.int x6, .ref 698], m) = some (.null, m') ∧ oZ m m' ∧ gI m' 698 6 = x6 ∧ gI m' 698 9 = Int32.ofNat (s + L) ∧ (∀ j, j ≠ 6 → j ≠ 9 → gI m' 698 j = gI m 698 j) ∧ (L ≤ 10 → gJ m' 698 12 = gNa (fun x => gSe t T (s + x)) L ∧ gJ m' 698 13 = gNb (fun x => gSe t T (s + x)) L) := by
  have o1 : oZ m (wI m 698 6 x6) := oZ_w oZ_refl (by decide)
  have K1 := gK_oZ K o1
  have Z1 := zT_Z Z o1
  have e5 : Int32.ofNat s + 5 = Int32.ofNat (s + 5) := gn_add (b := 5)
  have e10 : Int32.ofNat s + 10 = Int32.ofNat (s + 10) := gn_add (b := 10)
  have l1 := c_letters K1 Z1 hT (show s ≤ 4000 by omega) hL
  have l2 := c_letters (N := 5) K1 Z1 hT (show s ≤ 4000 by omega) (by decide)
  have fin : ∀ (A B : Int64), ∃ m', some (Value.null, wI (wJ (wJ (wI m 698 6 x6) 698 12 A) 698 13 B) 698 9 (Int32.ofNat (s + L))) = some (.null, m') ∧ oZ m m' ∧ gI m' 698 6 = x6 ∧ gI m' 698 9 = Int32.ofNat (s + L) ∧ (∀ j, j ≠ 6 → j ≠ 9 → gI m' 698 j = gI m 698 j) ∧ gJ m' 698 12 = A ∧ gJ m' 698 13 = B := fun A B => ⟨_, rfl, oZ_w (oZ_J (oZ_J o1)) (by decide), by rw [gI_wI_k (by decide)]; exact (gI_wI_s (m := m) (a := 698) (k := 6) (x := x6)), gI_wI_s, fun j h6 h9 => by rw [gI_wI_k h9]; exact (gI_wI_k (m := m) (a := 698) (b := 698) (k := 6) (x := x6) h6), by show gJ (wJ (wJ (wI m 698 6 x6) 698 12 A) 698 13 B) 698 12 = A; rw [gJ_wJ_k (by decide)]; exact gJ_wJ_s, gJ_wJ_s⟩
  rw [q_Mo_scan_134]
  simp only [gK_N K, gK_8_0 K, gK_8_1 K, gK_8_2 K, gK_8_3 K, gK_8_4 K, gK_8_5 K, gK_8_6 K, gK_8_7 K, gK_8_8 K, gK_10_0 K, gK_10_1 K, gK_10_2 K, gK_11_0 K, gK_15_0 K, gK_15_1 K, gK_15_2 K, gK_15_3 K, gK_20_0 K, gK_20_1 K, gK_20_2 K, gK_20_3 K, gK_20_4 K, gK_20_5 K, gK_698_0 K, gK_698_3 K, gK_698_16 K, gK_698_17 K, gK_698_20 K, gK_698_21 K, gK_698_22 K, gK_698_23 K, gK_698_24 K, gK_698_25 K, gK_698_26 K, gK_698_27 K, gK_698_28 K, gK_698_29 K, gK_698_30 K, gK_698_31 K, gK_698_32 K, gK_698_33 K, gK_698_34 K, gK_698_35 K, gK_698_36 K, gK_698_37 K, gK_698_38 K, gK_698_39 K, gK_698_41 K, gK_698_42 K, gK_698_44 K, gK_c K, gK_d K, gK_n K, gK_p K, gok_8, gok_10, gok_11, gok_15, gok_20, gok_698, gok_699, goA_9, goA_12, goA_13, goA_14, goA_16, goA_17, goA_18, goA_19, goA_21, goA_22, goA_23, goA_24, goA_25, goA_26, goA_27, goA_28, goA_29, goA_30, goA_31, goA_732, goA_733, goA_734, goA_735, goA_736, goA_737, goA_738, goA_739, goA_740, goA_741, goA_742, goA_743, goA_744, goA_745, goA_746, goA_747, goA_748, goA_749, goA_750, goA_751, goA_752, goA_753, goA_754, goA_755, goA_756, goA_757, gN_wI, gR_wI, gL_wI, if_true, eq_self]
  rw [e5, e10]
  by_cases h1 : L < 5
  · obtain ⟨m', a1, a2, a3, a4, a5, a6, a7⟩ := fin (gC8 (fun x => gSe t T (s + x)) L) 0
    refine ⟨m', ?_, a2, a3, a4, a5, fun _ => ⟨?_, ?_⟩⟩
    · rw [if_pos ((gn_lt (by omega) (by omega)).2 (by omega)), l1]
      simp only [gK_N K, gK_8_0 K, gK_8_1 K, gK_8_2 K, gK_8_3 K, gK_8_4 K, gK_8_5 K, gK_8_6 K, gK_8_7 K, gK_8_8 K, gK_10_0 K, gK_10_1 K, gK_10_2 K, gK_11_0 K, gK_15_0 K, gK_15_1 K, gK_15_2 K, gK_15_3 K, gK_20_0 K, gK_20_1 K, gK_20_2 K, gK_20_3 K, gK_20_4 K, gK_20_5 K, gK_698_0 K, gK_698_3 K, gK_698_16 K, gK_698_17 K, gK_698_20 K, gK_698_21 K, gK_698_22 K, gK_698_23 K, gK_698_24 K, gK_698_25 K, gK_698_26 K, gK_698_27 K, gK_698_28 K, gK_698_29 K, gK_698_30 K, gK_698_31 K, gK_698_32 K, gK_698_33 K, gK_698_34 K, gK_698_35 K, gK_698_36 K, gK_698_37 K, gK_698_38 K, gK_698_39 K, gK_698_41 K, gK_698_42 K, gK_698_44 K, gK_c K, gK_d K, gK_n K, gK_p K, gok_8, gok_10, gok_11, gok_15, gok_20, gok_698, gok_699, goA_9, goA_12, goA_13, goA_14, goA_16, goA_17, goA_18, goA_19, goA_21, goA_22, goA_23, goA_24, goA_25, goA_26, goA_27, goA_28, goA_29, goA_30, goA_31, goA_732, goA_733, goA_734, goA_735, goA_736, goA_737, goA_738, goA_739, goA_740, goA_741, goA_742, goA_743, goA_744, goA_745, goA_746, goA_747, goA_748, goA_749, goA_750, goA_751, goA_752, goA_753, goA_754, goA_755, goA_756, goA_757, gN_wI, gR_wI, gL_wI, if_true, eq_self, Option.bind_some, gd_kJ_j]
      rw [if_neg (fun u => by have := (gn_lt (by omega) (by omega)).1 u; omega)]
      exact a1
    · rw [a6]; unfold gNa; rw [Nat.min_eq_left (by omega)]
    · rw [a7]; unfold gNb; rw [show L - 5 = 0 by omega]; rfl
  · rw [if_neg (fun u => by have := (gn_lt (by omega) (by omega)).1 u; omega), l2]
    simp only [gK_N K, gK_8_0 K, gK_8_1 K, gK_8_2 K, gK_8_3 K, gK_8_4 K, gK_8_5 K, gK_8_6 K, gK_8_7 K, gK_8_8 K, gK_10_0 K, gK_10_1 K, gK_10_2 K, gK_11_0 K, gK_15_0 K, gK_15_1 K, gK_15_2 K, gK_15_3 K, gK_20_0 K, gK_20_1 K, gK_20_2 K, gK_20_3 K, gK_20_4 K, gK_20_5 K, gK_698_0 K, gK_698_3 K, gK_698_16 K, gK_698_17 K, gK_698_20 K, gK_698_21 K, gK_698_22 K, gK_698_23 K, gK_698_24 K, gK_698_25 K, gK_698_26 K, gK_698_27 K, gK_698_28 K, gK_698_29 K, gK_698_30 K, gK_698_31 K, gK_698_32 K, gK_698_33 K, gK_698_34 K, gK_698_35 K, gK_698_36 K, gK_698_37 K, gK_698_38 K, gK_698_39 K, gK_698_41 K, gK_698_42 K, gK_698_44 K, gK_c K, gK_d K, gK_n K, gK_p K, gok_8, gok_10, gok_11, gok_15, gok_20, gok_698, gok_699, goA_9, goA_12, goA_13, goA_14, goA_16, goA_17, goA_18, goA_19, goA_21, goA_22, goA_23, goA_24, goA_25, goA_26, goA_27, goA_28, goA_29, goA_30, goA_31, goA_732, goA_733, goA_734, goA_735, goA_736, goA_737, goA_738, goA_739, goA_740, goA_741, goA_742, goA_743, goA_744, goA_745, goA_746, goA_747, goA_748, goA_749, goA_750, goA_751, goA_752, goA_753, goA_754, goA_755, goA_756, goA_757, gN_wI, gR_wI, gL_wI, if_true, eq_self, Option.bind_some, gd_kJ_j]
    by_cases h2 : 5 < L
    · rw [if_pos ((gn_lt (by omega) (by omega)).2 (by omega))]
      by_cases h3 : 10 < L
      · obtain ⟨m', a1, a2, a3, a4, a5, a6, a7⟩ := fin (gC8 (fun x => gSe t T (s + x)) 5) 0
        refine ⟨m', ?_, a2, a3, a4, a5, fun h => by omega⟩
        rw [if_pos ((gn_lt (by omega) (by omega)).2 (by omega))]
        exact a1
      · have o2 : oZ m (wJ (wI m 698 6 x6) 698 12 (gC8 (fun x => gSe t T (s + x)) 5)) := oZ_J o1
        have K2 := gK_oZ K o2
        have Z2 := zT_Z Z o2
        have l3 := c_letters (q := s + 5) (N := L - 5) K2 Z2 hT (by omega) (by omega)
        rw [show s + 5 + (L - 5) = s + L by omega] at l3
        obtain ⟨m', a1, a2, a3, a4, a5, a6, a7⟩ := fin (gC8 (fun x => gSe t T (s + x)) 5) (gC8 (fun x => gSe t T (s + 5 + x)) (L - 5))
        refine ⟨m', ?_, a2, a3, a4, a5, fun _ => ⟨?_, ?_⟩⟩
        · rw [if_neg (fun u => by have := (gn_lt (by omega) (by omega)).1 u; omega), l3]
          simp only [gK_N K2, gK_8_0 K2, gK_8_1 K2, gK_8_2 K2, gK_8_3 K2, gK_8_4 K2, gK_8_5 K2, gK_8_6 K2, gK_8_7 K2, gK_8_8 K2, gK_10_0 K2, gK_10_1 K2, gK_10_2 K2, gK_11_0 K2, gK_15_0 K2, gK_15_1 K2, gK_15_2 K2, gK_15_3 K2, gK_20_0 K2, gK_20_1 K2, gK_20_2 K2, gK_20_3 K2, gK_20_4 K2, gK_20_5 K2, gK_698_0 K2, gK_698_3 K2, gK_698_16 K2, gK_698_17 K2, gK_698_20 K2, gK_698_21 K2, gK_698_22 K2, gK_698_23 K2, gK_698_24 K2, gK_698_25 K2, gK_698_26 K2, gK_698_27 K2, gK_698_28 K2, gK_698_29 K2, gK_698_30 K2, gK_698_31 K2, gK_698_32 K2, gK_698_33 K2, gK_698_34 K2, gK_698_35 K2, gK_698_36 K2, gK_698_37 K2, gK_698_38 K2, gK_698_39 K2, gK_698_41 K2, gK_698_42 K2, gK_698_44 K2, gK_c K2, gK_d K2, gK_n K2, gK_p K2, gok_8, gok_10, gok_11, gok_15, gok_20, gok_698, gok_699, goA_9, goA_12, goA_13, goA_14, goA_16, goA_17, goA_18, goA_19, goA_21, goA_22, goA_23, goA_24, goA_25, goA_26, goA_27, goA_28, goA_29, goA_30, goA_31, goA_732, goA_733, goA_734, goA_735, goA_736, goA_737, goA_738, goA_739, goA_740, goA_741, goA_742, goA_743, goA_744, goA_745, goA_746, goA_747, goA_748, goA_749, goA_750, goA_751, goA_752, goA_753, goA_754, goA_755, goA_756, goA_757, gN_wI, gR_wI, gL_wI, if_true, eq_self, Option.bind_some, gd_kJ_j]
          exact a1
        · rw [a6]; unfold gNa; rw [Nat.min_eq_right (by omega)]
        · rw [a7]; unfold gNb
          exact gC8_c _ fun i _ => by rw [Nat.add_assoc]
    · obtain ⟨m', a1, a2, a3, a4, a5, a6, a7⟩ := fin (gC8 (fun x => gSe t T (s + x)) 5) 0
      refine ⟨m', ?_, a2, a3, a4, a5, fun _ => ⟨?_, ?_⟩⟩
      · rw [if_neg (fun u => by have := (gn_lt (by omega) (by omega)).1 u; omega)]
        exact a1
      · rw [a6]; unfold gNa; rw [Nat.min_eq_right (by omega)]
      · rw [a7]; unfold gNb; rw [show L - 5 = 0 by omega]; rfl
theorem c_scan_209 (hT : T ≤ 3000) (hs : s ≤ 3000) {x2 : Int32} : ∀ j e (m : gd_M), e + j = T → s < e → gK c d n p m → zT t T m → (e - s ≤ 3 → gI m 698 10 = gNu (fun x => gSe t T (s + x)) (e - s)) → ∃ m', gd_Den (67, 209, [.ref 698, .int (Int32.ofNat s), .int x2, .int (Int32.ofNat e)], [], m) = some (.null, m') ∧ oZ m m' ∧ gI m' 698 9 = Int32.ofNat (gWh (fun i => gDig (gSe t T i)) j e) ∧ gI m' 698 6 = (if gWh (fun i => gDig (gSe t T i)) j e - s ≤ 3 then 3 else 0) ∧ (gWh (fun i => gDig (gSe t T i)) j e - s ≤ 3 → gI m' 698 10 = gNu (fun x => gSe t T (s + x)) (gWh (fun i => gDig (gSe t T i)) j e - s)) ∧ (∀ q, q ≠ 6 → q ≠ 9 → q ≠ 10 → gI m' 698 q = gI m 698 q) := by
  intro j
  have fin : ∀ e (m : gd_M), e ≤ T → s < e → gK c d n p m → zT t T m → gDig (gSe t T e) = false → (e - s ≤ 3 → gI m 698 10 = gNu (fun x => gSe t T (s + x)) (e - s)) → ∃ m', gd_Den (67, 209, [.ref 698, .int (Int32.ofNat s), .int x2, .int (Int32.ofNat e)], [], m) = some (.null, m') ∧ oZ m m' ∧ gI m' 698 9 = Int32.ofNat e ∧ gI m' 698 6 = (if e - s ≤ 3 then 3 else 0) ∧ (e - s ≤ 3 → gI m' 698 10 = gNu (fun x => gSe t T (s + x)) (e - s)) ∧ (∀ q, q ≠ 6 → q ≠ 9 → q ≠ 10 → gI m' 698 q = gI m 698 q) := fun e m h1 h2 K Z hd h10 => by
    rw [q_Mo_scan_209]
    simp only [gK_N K, gK_8_0 K, gK_8_1 K, gK_8_2 K, gK_8_3 K, gK_8_4 K, gK_8_5 K, gK_8_6 K, gK_8_7 K, gK_8_8 K, gK_10_0 K, gK_10_1 K, gK_10_2 K, gK_11_0 K, gK_15_0 K, gK_15_1 K, gK_15_2 K, gK_15_3 K, gK_20_0 K, gK_20_1 K, gK_20_2 K, gK_20_3 K, gK_20_4 K, gK_20_5 K, gK_698_0 K, gK_698_3 K, gK_698_16 K, gK_698_17 K, gK_698_20 K, gK_698_21 K, gK_698_22 K, gK_698_23 K, gK_698_24 K, gK_698_25 K, gK_698_26 K, gK_698_27 K, gK_698_28 K, gK_698_29 K, gK_698_30 K, gK_698_31 K, gK_698_32 K, gK_698_33 K, gK_698_34 K, gK_698_35 K, gK_698_36 K, gK_698_37 K, gK_698_38 K, gK_698_39 K, gK_698_41 K, gK_698_42 K, gK_698_44 K, gK_c K, gK_d K, gK_n K, gK_p K, gok_8, gok_10, gok_11, gok_15, gok_20, gok_698, gok_699, goA_9, goA_12, goA_13, goA_14, goA_16, goA_17, goA_18, goA_19, goA_21, goA_22, goA_23, goA_24, goA_25, goA_26, goA_27, goA_28, goA_29, goA_30, goA_31, goA_732, goA_733, goA_734, goA_735, goA_736, goA_737, goA_738, goA_739, goA_740, goA_741, goA_742, goA_743, goA_744, goA_745, goA_746, goA_747, goA_748, goA_749, goA_750, goA_751, goA_752, goA_753, goA_754, goA_755, goA_756, goA_757, gN_wI, gR_wI, gL_wI, if_true, eq_self]
    rw [c_see1 K Z hT (by omega)]
    simp only [Option.bind_some, gd_kI_i]
    rw [c_isDigit, hd]
    simp only [Option.bind_some, gd_k0I_i, gB_f, if_true]
    rw [gn_sub (by omega)]
    by_cases h3 : 3 < e - s
    · rw [if_pos ((gl_3 (by omega)).2 h3), if_neg (show ¬ e - s ≤ 3 by omega)]
      simp only [gK_N K, gK_8_0 K, gK_8_1 K, gK_8_2 K, gK_8_3 K, gK_8_4 K, gK_8_5 K, gK_8_6 K, gK_8_7 K, gK_8_8 K, gK_10_0 K, gK_10_1 K, gK_10_2 K, gK_11_0 K, gK_15_0 K, gK_15_1 K, gK_15_2 K, gK_15_3 K, gK_20_0 K, gK_20_1 K, gK_20_2 K, gK_20_3 K, gK_20_4 K, gK_20_5 K, gK_698_0 K, gK_698_3 K, gK_698_16 K, gK_698_17 K, gK_698_20 K, gK_698_21 K, gK_698_22 K, gK_698_23 K, gK_698_24 K, gK_698_25 K, gK_698_26 K, gK_698_27 K, gK_698_28 K, gK_698_29 K, gK_698_30 K, gK_698_31 K, gK_698_32 K, gK_698_33 K, gK_698_34 K, gK_698_35 K, gK_698_36 K, gK_698_37 K, gK_698_38 K, gK_698_39 K, gK_698_41 K, gK_698_42 K, gK_698_44 K, gK_c K, gK_d K, gK_n K, gK_p K, gok_8, gok_10, gok_11, gok_15, gok_20, gok_698, gok_699, goA_9, goA_12, goA_13, goA_14, goA_16, goA_17, goA_18, goA_19, goA_21, goA_22, goA_23, goA_24, goA_25, goA_26, goA_27, goA_28, goA_29, goA_30, goA_31, goA_732, goA_733, goA_734, goA_735, goA_736, goA_737, goA_738, goA_739, goA_740, goA_741, goA_742, goA_743, goA_744, goA_745, goA_746, goA_747, goA_748, goA_749, goA_750, goA_751, goA_752, goA_753, goA_754, goA_755, goA_756, goA_757, gN_wI, gR_wI, gL_wI, if_true, eq_self]
      exact ⟨_, rfl, oZ_w (oZ_w oZ_refl (by decide)) (by decide), gI_wI_s, by rw [gI_wI_k (by decide)]; exact gI_wI_s, fun u => by omega, fun q q6 q9 _ => (gI_wI_k q9).trans (gI_wI_k q6)⟩
    · rw [if_neg (fun u => h3 ((gl_3 (by omega)).1 u)), if_pos (show e - s ≤ 3 by omega)]
      simp only [gK_N K, gK_8_0 K, gK_8_1 K, gK_8_2 K, gK_8_3 K, gK_8_4 K, gK_8_5 K, gK_8_6 K, gK_8_7 K, gK_8_8 K, gK_10_0 K, gK_10_1 K, gK_10_2 K, gK_11_0 K, gK_15_0 K, gK_15_1 K, gK_15_2 K, gK_15_3 K, gK_20_0 K, gK_20_1 K, gK_20_2 K, gK_20_3 K, gK_20_4 K, gK_20_5 K, gK_698_0 K, gK_698_3 K, gK_698_16 K, gK_698_17 K, gK_698_20 K, gK_698_21 K, gK_698_22 K, gK_698_23 K, gK_698_24 K, gK_698_25 K, gK_698_26 K, gK_698_27 K, gK_698_28 K, gK_698_29 K, gK_698_30 K, gK_698_31 K, gK_698_32 K, gK_698_33 K, gK_698_34 K, gK_698_35 K, gK_698_36 K, gK_698_37 K, gK_698_38 K, gK_698_39 K, gK_698_41 K, gK_698_42 K, gK_698_44 K, gK_c K, gK_d K, gK_n K, gK_p K, gok_8, gok_10, gok_11, gok_15, gok_20, gok_698, gok_699, goA_9, goA_12, goA_13, goA_14, goA_16, goA_17, goA_18, goA_19, goA_21, goA_22, goA_23, goA_24, goA_25, goA_26, goA_27, goA_28, goA_29, goA_30, goA_31, goA_732, goA_733, goA_734, goA_735, goA_736, goA_737, goA_738, goA_739, goA_740, goA_741, goA_742, goA_743, goA_744, goA_745, goA_746, goA_747, goA_748, goA_749, goA_750, goA_751, goA_752, goA_753, goA_754, goA_755, goA_756, goA_757, gN_wI, gR_wI, gL_wI, if_true, eq_self]
      exact ⟨_, rfl, oZ_w (oZ_w oZ_refl (by decide)) (by decide), gI_wI_s, by rw [gI_wI_k (by decide)]; exact gI_wI_s, fun u => by rw [gI_wI_k (by decide), gI_wI_k (by decide)]; exact h10 u, fun q q6 q9 _ => (gI_wI_k q9).trans (gI_wI_k q6)⟩
  induction j with
  | zero =>
    intro e m h hse K Z h10
    have : e = T := by omega
    subst this
    exact fin e m (Nat.le_refl e) hse K Z gDig_T h10
  | succ j ih =>
    intro e m h hse K Z h10
    cases hd : gDig (gSe t T e) with
    | false =>
      rw [gWh_n (P := fun i => gDig (gSe t T i)) hd]
      exact fin e m (by omega) hse K Z hd h10
    | true =>
      rw [gWh_y (P := fun i => gDig (gSe t T i)) hd, q_Mo_scan_209]
      simp only [gK_N K, gK_8_0 K, gK_8_1 K, gK_8_2 K, gK_8_3 K, gK_8_4 K, gK_8_5 K, gK_8_6 K, gK_8_7 K, gK_8_8 K, gK_10_0 K, gK_10_1 K, gK_10_2 K, gK_11_0 K, gK_15_0 K, gK_15_1 K, gK_15_2 K, gK_15_3 K, gK_20_0 K, gK_20_1 K, gK_20_2 K, gK_20_3 K, gK_20_4 K, gK_20_5 K, gK_698_0 K, gK_698_3 K, gK_698_16 K, gK_698_17 K, gK_698_20 K, gK_698_21 K, gK_698_22 K, gK_698_23 K, gK_698_24 K, gK_698_25 K, gK_698_26 K, gK_698_27 K, gK_698_28 K, gK_698_29 K, gK_698_30 K, gK_698_31 K, gK_698_32 K, gK_698_33 K, gK_698_34 K, gK_698_35 K, gK_698_36 K, gK_698_37 K, gK_698_38 K, gK_698_39 K, gK_698_41 K, gK_698_42 K, gK_698_44 K, gK_c K, gK_d K, gK_n K, gK_p K, gok_8, gok_10, gok_11, gok_15, gok_20, gok_698, gok_699, goA_9, goA_12, goA_13, goA_14, goA_16, goA_17, goA_18, goA_19, goA_21, goA_22, goA_23, goA_24, goA_25, goA_26, goA_27, goA_28, goA_29, goA_30, goA_31, goA_732, goA_733, goA_734, goA_735, goA_736, goA_737, goA_738, goA_739, goA_740, goA_741, goA_742, goA_743, goA_744, goA_745, goA_746, goA_747, goA_748, goA_749, goA_750, goA_751, goA_752, goA_753, goA_754, goA_755, goA_756, goA_757, gN_wI, gR_wI, gL_wI, if_true, eq_self]
      rw [c_see1 K Z hT (by omega)]
      simp only [Option.bind_some, gd_kI_i]
      rw [c_isDigit, hd]
      simp only [Option.bind_some, gd_k0I_i, gB_t]
      rw [if_neg (by decide), gn_sub (by omega), gn_succ]
      have hlt3 : (Int32.ofNat (e - s) < 3) ↔ e - s < 3 := gnlb_3 (by omega) (by decide)
      by_cases h3 : e - s < 3
      · rw [if_pos (hlt3.2 h3)]
        simp only [gK_N K, gK_8_0 K, gK_8_1 K, gK_8_2 K, gK_8_3 K, gK_8_4 K, gK_8_5 K, gK_8_6 K, gK_8_7 K, gK_8_8 K, gK_10_0 K, gK_10_1 K, gK_10_2 K, gK_11_0 K, gK_15_0 K, gK_15_1 K, gK_15_2 K, gK_15_3 K, gK_20_0 K, gK_20_1 K, gK_20_2 K, gK_20_3 K, gK_20_4 K, gK_20_5 K, gK_698_0 K, gK_698_3 K, gK_698_16 K, gK_698_17 K, gK_698_20 K, gK_698_21 K, gK_698_22 K, gK_698_23 K, gK_698_24 K, gK_698_25 K, gK_698_26 K, gK_698_27 K, gK_698_28 K, gK_698_29 K, gK_698_30 K, gK_698_31 K, gK_698_32 K, gK_698_33 K, gK_698_34 K, gK_698_35 K, gK_698_36 K, gK_698_37 K, gK_698_38 K, gK_698_39 K, gK_698_41 K, gK_698_42 K, gK_698_44 K, gK_c K, gK_d K, gK_n K, gK_p K, gok_8, gok_10, gok_11, gok_15, gok_20, gok_698, gok_699, goA_9, goA_12, goA_13, goA_14, goA_16, goA_17, goA_18, goA_19, goA_21, goA_22, goA_23, goA_24, goA_25, goA_26, goA_27, goA_28, goA_29, goA_30, goA_31, goA_732, goA_733, goA_734, goA_735, goA_736, goA_737, goA_738, goA_739, goA_740, goA_741, goA_742, goA_743, goA_744, goA_745, goA_746, goA_747, goA_748, goA_749, goA_750, goA_751, goA_752, goA_753, goA_754, goA_755, goA_756, goA_757, gN_wI, gR_wI, gL_wI, if_true, eq_self]
        rw [c_see1 K Z hT (by omega)]
        simp only [gK_N K, gK_8_0 K, gK_8_1 K, gK_8_2 K, gK_8_3 K, gK_8_4 K, gK_8_5 K, gK_8_6 K, gK_8_7 K, gK_8_8 K, gK_10_0 K, gK_10_1 K, gK_10_2 K, gK_11_0 K, gK_15_0 K, gK_15_1 K, gK_15_2 K, gK_15_3 K, gK_20_0 K, gK_20_1 K, gK_20_2 K, gK_20_3 K, gK_20_4 K, gK_20_5 K, gK_698_0 K, gK_698_3 K, gK_698_16 K, gK_698_17 K, gK_698_20 K, gK_698_21 K, gK_698_22 K, gK_698_23 K, gK_698_24 K, gK_698_25 K, gK_698_26 K, gK_698_27 K, gK_698_28 K, gK_698_29 K, gK_698_30 K, gK_698_31 K, gK_698_32 K, gK_698_33 K, gK_698_34 K, gK_698_35 K, gK_698_36 K, gK_698_37 K, gK_698_38 K, gK_698_39 K, gK_698_41 K, gK_698_42 K, gK_698_44 K, gK_c K, gK_d K, gK_n K, gK_p K, gok_8, gok_10, gok_11, gok_15, gok_20, gok_698, gok_699, goA_9, goA_12, goA_13, goA_14, goA_16, goA_17, goA_18, goA_19, goA_21, goA_22, goA_23, goA_24, goA_25, goA_26, goA_27, goA_28, goA_29, goA_30, goA_31, goA_732, goA_733, goA_734, goA_735, goA_736, goA_737, goA_738, goA_739, goA_740, goA_741, goA_742, goA_743, goA_744, goA_745, goA_746, goA_747, goA_748, goA_749, goA_750, goA_751, goA_752, goA_753, goA_754, goA_755, goA_756, goA_757, gN_wI, gR_wI, gL_wI, if_true, eq_self, Option.bind_some, gd_kI_i]
        rw [h10 (by omega)]
        have e1 : gNu (fun x => gSe t T (s + x)) (e + 1 - s) = 10 * gNu (fun x => gSe t T (s + x)) (e - s) + gSe t T e - 48 := by
          rw [show e + 1 - s = e - s + 1 by omega]
          show gNu (fun x => gSe t T (s + x)) (e - s) * 10 + (gSe t T (s + (e - s)) - 48) = _
          rw [show s + (e - s) = e by omega, Int32.mul_comm 10, Int32.sub_eq_add_neg, Int32.sub_eq_add_neg, Int32.add_assoc]
        rw [← e1]
        have o1 : oZ m (wI m 698 10 (gNu (fun x => gSe t T (s + x)) (e + 1 - s))) := oZ_w oZ_refl (by decide)
        obtain ⟨m', a1, a2, a3, a4, a5, a6⟩ := ih (e + 1) _ (by omega) (by omega) (gK_oZ K o1) (zT_Z Z o1) (fun _ => gI_wI_s)
        exact ⟨m', a1, oZ_tr o1 a2, a3, a4, a5, fun q q6 q9 q10 => (a6 q q6 q9 q10).trans (gI_wI_k q10)⟩
      · rw [if_neg (fun u => h3 (hlt3.1 u))]
        simp only [gK_N K, gK_8_0 K, gK_8_1 K, gK_8_2 K, gK_8_3 K, gK_8_4 K, gK_8_5 K, gK_8_6 K, gK_8_7 K, gK_8_8 K, gK_10_0 K, gK_10_1 K, gK_10_2 K, gK_11_0 K, gK_15_0 K, gK_15_1 K, gK_15_2 K, gK_15_3 K, gK_20_0 K, gK_20_1 K, gK_20_2 K, gK_20_3 K, gK_20_4 K, gK_20_5 K, gK_698_0 K, gK_698_3 K, gK_698_16 K, gK_698_17 K, gK_698_20 K, gK_698_21 K, gK_698_22 K, gK_698_23 K, gK_698_24 K, gK_698_25 K, gK_698_26 K, gK_698_27 K, gK_698_28 K, gK_698_29 K, gK_698_30 K, gK_698_31 K, gK_698_32 K, gK_698_33 K, gK_698_34 K, gK_698_35 K, gK_698_36 K, gK_698_37 K, gK_698_38 K, gK_698_39 K, gK_698_41 K, gK_698_42 K, gK_698_44 K, gK_c K, gK_d K, gK_n K, gK_p K, gok_8, gok_10, gok_11, gok_15, gok_20, gok_698, gok_699, goA_9, goA_12, goA_13, goA_14, goA_16, goA_17, goA_18, goA_19, goA_21, goA_22, goA_23, goA_24, goA_25, goA_26, goA_27, goA_28, goA_29, goA_30, goA_31, goA_732, goA_733, goA_734, goA_735, goA_736, goA_737, goA_738, goA_739, goA_740, goA_741, goA_742, goA_743, goA_744, goA_745, goA_746, goA_747, goA_748, goA_749, goA_750, goA_751, goA_752, goA_753, goA_754, goA_755, goA_756, goA_757, gN_wI, gR_wI, gL_wI, if_true, eq_self]
        rw [wI_id]
        exact ih (e + 1) m (by omega) (by omega) K Z (fun u => by omega)
theorem c_scan_5 (hB : ∀ i, isB (t i)) (hT : T ≤ 3000) : ∀ j e (m : gd_M), e + j = T → gK c d n p m → zT t T m → gI m 698 11 = Int32.ofNat k → ∃ m', gd_Den (67, 5, [.ref 698, .int (Int32.ofNat e), .null, .null], [], m) = some (.null, m') ∧ oZ m m' ∧ tkM t T (kSt t T e) k m' := by
  intro j
  induction j with
  | zero =>
    intro e m h K Z h11
    have : e = T := by omega
    subst this
    have o1 : oZ m (wI m 698 8 (Int32.ofNat e)) := oZ_w oZ_refl (by decide)
    have K1 := gK_oZ K o1
    have Z1 := zT_Z Z o1
    have hse : gSe t e e = -1 := if_neg (Nat.lt_irrefl e)
    refine ⟨wI (wI (wI m 698 8 (Int32.ofNat e)) 698 6 5) 698 9 (Int32.ofNat e), ?_, oZ_w (oZ_w o1 (by decide)) (by decide), ?_⟩
    · rw [q_Mo_scan_5]
      simp only [gK_N K, gK_8_0 K, gK_8_1 K, gK_8_2 K, gK_8_3 K, gK_8_4 K, gK_8_5 K, gK_8_6 K, gK_8_7 K, gK_8_8 K, gK_10_0 K, gK_10_1 K, gK_10_2 K, gK_11_0 K, gK_15_0 K, gK_15_1 K, gK_15_2 K, gK_15_3 K, gK_20_0 K, gK_20_1 K, gK_20_2 K, gK_20_3 K, gK_20_4 K, gK_20_5 K, gK_698_0 K, gK_698_3 K, gK_698_16 K, gK_698_17 K, gK_698_20 K, gK_698_21 K, gK_698_22 K, gK_698_23 K, gK_698_24 K, gK_698_25 K, gK_698_26 K, gK_698_27 K, gK_698_28 K, gK_698_29 K, gK_698_30 K, gK_698_31 K, gK_698_32 K, gK_698_33 K, gK_698_34 K, gK_698_35 K, gK_698_36 K, gK_698_37 K, gK_698_38 K, gK_698_39 K, gK_698_41 K, gK_698_42 K, gK_698_44 K, gK_c K, gK_d K, gK_n K, gK_p K, gok_8, gok_10, gok_11, gok_15, gok_20, gok_698, gok_699, goA_9, goA_12, goA_13, goA_14, goA_16, goA_17, goA_18, goA_19, goA_21, goA_22, goA_23, goA_24, goA_25, goA_26, goA_27, goA_28, goA_29, goA_30, goA_31, goA_732, goA_733, goA_734, goA_735, goA_736, goA_737, goA_738, goA_739, goA_740, goA_741, goA_742, goA_743, goA_744, goA_745, goA_746, goA_747, goA_748, goA_749, goA_750, goA_751, goA_752, goA_753, goA_754, goA_755, goA_756, goA_757, gN_wI, gR_wI, gL_wI, if_true, eq_self]
      rw [c_see1 K Z hT (by omega), hse]
      simp only [gK_N K, gK_8_0 K, gK_8_1 K, gK_8_2 K, gK_8_3 K, gK_8_4 K, gK_8_5 K, gK_8_6 K, gK_8_7 K, gK_8_8 K, gK_10_0 K, gK_10_1 K, gK_10_2 K, gK_11_0 K, gK_15_0 K, gK_15_1 K, gK_15_2 K, gK_15_3 K, gK_20_0 K, gK_20_1 K, gK_20_2 K, gK_20_3 K, gK_20_4 K, gK_20_5 K, gK_698_0 K, gK_698_3 K, gK_698_16 K, gK_698_17 K, gK_698_20 K, gK_698_21 K, gK_698_22 K, gK_698_23 K, gK_698_24 K, gK_698_25 K, gK_698_26 K, gK_698_27 K, gK_698_28 K, gK_698_29 K, gK_698_30 K, gK_698_31 K, gK_698_32 K, gK_698_33 K, gK_698_34 K, gK_698_35 K, gK_698_36 K, gK_698_37 K, gK_698_38 K, gK_698_39 K, gK_698_41 K, gK_698_42 K, gK_698_44 K, gK_c K, gK_d K, gK_n K, gK_p K, gok_8, gok_10, gok_11, gok_15, gok_20, gok_698, gok_699, goA_9, goA_12, goA_13, goA_14, goA_16, goA_17, goA_18, goA_19, goA_21, goA_22, goA_23, goA_24, goA_25, goA_26, goA_27, goA_28, goA_29, goA_30, goA_31, goA_732, goA_733, goA_734, goA_735, goA_736, goA_737, goA_738, goA_739, goA_740, goA_741, goA_742, goA_743, goA_744, goA_745, goA_746, goA_747, goA_748, goA_749, goA_750, goA_751, goA_752, goA_753, goA_754, goA_755, goA_756, goA_757, gN_wI, gR_wI, gL_wI, if_true, eq_self, Option.bind_some, gd_kI_i]
      rw [if_neg (show ¬ (-1 : Int32) = 32 by decide), c_see1 K Z hT (by omega), hse]
      simp only [gK_N K, gK_8_0 K, gK_8_1 K, gK_8_2 K, gK_8_3 K, gK_8_4 K, gK_8_5 K, gK_8_6 K, gK_8_7 K, gK_8_8 K, gK_10_0 K, gK_10_1 K, gK_10_2 K, gK_11_0 K, gK_15_0 K, gK_15_1 K, gK_15_2 K, gK_15_3 K, gK_20_0 K, gK_20_1 K, gK_20_2 K, gK_20_3 K, gK_20_4 K, gK_20_5 K, gK_698_0 K, gK_698_3 K, gK_698_16 K, gK_698_17 K, gK_698_20 K, gK_698_21 K, gK_698_22 K, gK_698_23 K, gK_698_24 K, gK_698_25 K, gK_698_26 K, gK_698_27 K, gK_698_28 K, gK_698_29 K, gK_698_30 K, gK_698_31 K, gK_698_32 K, gK_698_33 K, gK_698_34 K, gK_698_35 K, gK_698_36 K, gK_698_37 K, gK_698_38 K, gK_698_39 K, gK_698_41 K, gK_698_42 K, gK_698_44 K, gK_c K, gK_d K, gK_n K, gK_p K, gok_8, gok_10, gok_11, gok_15, gok_20, gok_698, gok_699, goA_9, goA_12, goA_13, goA_14, goA_16, goA_17, goA_18, goA_19, goA_21, goA_22, goA_23, goA_24, goA_25, goA_26, goA_27, goA_28, goA_29, goA_30, goA_31, goA_732, goA_733, goA_734, goA_735, goA_736, goA_737, goA_738, goA_739, goA_740, goA_741, goA_742, goA_743, goA_744, goA_745, goA_746, goA_747, goA_748, goA_749, goA_750, goA_751, goA_752, goA_753, goA_754, goA_755, goA_756, goA_757, gN_wI, gR_wI, gL_wI, if_true, eq_self, Option.bind_some, gd_kI_i]
      rw [if_neg (show ¬ (-1 : Int32) = 10 by decide), c_see1 K1 Z1 hT (by omega), hse]
      simp only [gK_N K1, gK_8_0 K1, gK_8_1 K1, gK_8_2 K1, gK_8_3 K1, gK_8_4 K1, gK_8_5 K1, gK_8_6 K1, gK_8_7 K1, gK_8_8 K1, gK_10_0 K1, gK_10_1 K1, gK_10_2 K1, gK_11_0 K1, gK_15_0 K1, gK_15_1 K1, gK_15_2 K1, gK_15_3 K1, gK_20_0 K1, gK_20_1 K1, gK_20_2 K1, gK_20_3 K1, gK_20_4 K1, gK_20_5 K1, gK_698_0 K1, gK_698_3 K1, gK_698_16 K1, gK_698_17 K1, gK_698_20 K1, gK_698_21 K1, gK_698_22 K1, gK_698_23 K1, gK_698_24 K1, gK_698_25 K1, gK_698_26 K1, gK_698_27 K1, gK_698_28 K1, gK_698_29 K1, gK_698_30 K1, gK_698_31 K1, gK_698_32 K1, gK_698_33 K1, gK_698_34 K1, gK_698_35 K1, gK_698_36 K1, gK_698_37 K1, gK_698_38 K1, gK_698_39 K1, gK_698_41 K1, gK_698_42 K1, gK_698_44 K1, gK_c K1, gK_d K1, gK_n K1, gK_p K1, gok_8, gok_10, gok_11, gok_15, gok_20, gok_698, gok_699, goA_9, goA_12, goA_13, goA_14, goA_16, goA_17, goA_18, goA_19, goA_21, goA_22, goA_23, goA_24, goA_25, goA_26, goA_27, goA_28, goA_29, goA_30, goA_31, goA_732, goA_733, goA_734, goA_735, goA_736, goA_737, goA_738, goA_739, goA_740, goA_741, goA_742, goA_743, goA_744, goA_745, goA_746, goA_747, goA_748, goA_749, goA_750, goA_751, goA_752, goA_753, goA_754, goA_755, goA_756, goA_757, gN_wI, gR_wI, gL_wI, if_true, eq_self, Option.bind_some, gd_kI_i]
    · rw [kSt_T]
      have e1 : kEn t e e = e := if_pos (Nat.le_refl e)
      have e2 : kTy t e e = 0 := if_pos (Nat.le_refl e)
      refine ⟨?_, ?_, ?_, ?_, fun q => ?_, fun q => ?_, fun q => ?_⟩
      · rw [gI_wI_k (by decide), gI_wI_k (by decide)]; exact gI_wI_s
      · rw [e1]; exact gI_wI_s
      · rw [if_pos (Nat.le_refl e), gI_wI_k (by decide), gI_wI_k (by decide), gI_wI_k (by decide)]; exact h11
      · rw [e2, gI_wI_k (by decide)]; exact gI_wI_s
      · rw [e2] at q; exact absurd q (by decide)
      · rw [e2] at q; exact absurd q (by decide)
      · rw [e2] at q; exact absurd q (by decide)
  | succ j ih =>
    intro e m h K Z h11
    have he : e < T := by omega
    obtain ⟨b1, b2, b3, b4, b5, b6, b7⟩ := isB_ok (hB e)
    have hs : gSe t T e = t e &&& 255 := gSe_i he
    have hne : ¬ gSe t T e = -1 := by rw [hs]; exact b7
    rw [q_Mo_scan_5]
    simp only [gK_N K, gK_8_0 K, gK_8_1 K, gK_8_2 K, gK_8_3 K, gK_8_4 K, gK_8_5 K, gK_8_6 K, gK_8_7 K, gK_8_8 K, gK_10_0 K, gK_10_1 K, gK_10_2 K, gK_11_0 K, gK_15_0 K, gK_15_1 K, gK_15_2 K, gK_15_3 K, gK_20_0 K, gK_20_1 K, gK_20_2 K, gK_20_3 K, gK_20_4 K, gK_20_5 K, gK_698_0 K, gK_698_3 K, gK_698_16 K, gK_698_17 K, gK_698_20 K, gK_698_21 K, gK_698_22 K, gK_698_23 K, gK_698_24 K, gK_698_25 K, gK_698_26 K, gK_698_27 K, gK_698_28 K, gK_698_29 K, gK_698_30 K, gK_698_31 K, gK_698_32 K, gK_698_33 K, gK_698_34 K, gK_698_35 K, gK_698_36 K, gK_698_37 K, gK_698_38 K, gK_698_39 K, gK_698_41 K, gK_698_42 K, gK_698_44 K, gK_c K, gK_d K, gK_n K, gK_p K, gok_8, gok_10, gok_11, gok_15, gok_20, gok_698, gok_699, goA_9, goA_12, goA_13, goA_14, goA_16, goA_17, goA_18, goA_19, goA_21, goA_22, goA_23, goA_24, goA_25, goA_26, goA_27, goA_28, goA_29, goA_30, goA_31, goA_732, goA_733, goA_734, goA_735, goA_736, goA_737, goA_738, goA_739, goA_740, goA_741, goA_742, goA_743, goA_744, goA_745, goA_746, goA_747, goA_748, goA_749, goA_750, goA_751, goA_752, goA_753, goA_754, goA_755, goA_756, goA_757, gN_wI, gR_wI, gL_wI, if_true, eq_self]
    rw [c_see1 K Z hT (by omega)]
    simp only [gK_N K, gK_8_0 K, gK_8_1 K, gK_8_2 K, gK_8_3 K, gK_8_4 K, gK_8_5 K, gK_8_6 K, gK_8_7 K, gK_8_8 K, gK_10_0 K, gK_10_1 K, gK_10_2 K, gK_11_0 K, gK_15_0 K, gK_15_1 K, gK_15_2 K, gK_15_3 K, gK_20_0 K, gK_20_1 K, gK_20_2 K, gK_20_3 K, gK_20_4 K, gK_20_5 K, gK_698_0 K, gK_698_3 K, gK_698_16 K, gK_698_17 K, gK_698_20 K, gK_698_21 K, gK_698_22 K, gK_698_23 K, gK_698_24 K, gK_698_25 K, gK_698_26 K, gK_698_27 K, gK_698_28 K, gK_698_29 K, gK_698_30 K, gK_698_31 K, gK_698_32 K, gK_698_33 K, gK_698_34 K, gK_698_35 K, gK_698_36 K, gK_698_37 K, gK_698_38 K, gK_698_39 K, gK_698_41 K, gK_698_42 K, gK_698_44 K, gK_c K, gK_d K, gK_n K, gK_p K, gok_8, gok_10, gok_11, gok_15, gok_20, gok_698, gok_699, goA_9, goA_12, goA_13, goA_14, goA_16, goA_17, goA_18, goA_19, goA_21, goA_22, goA_23, goA_24, goA_25, goA_26, goA_27, goA_28, goA_29, goA_30, goA_31, goA_732, goA_733, goA_734, goA_735, goA_736, goA_737, goA_738, goA_739, goA_740, goA_741, goA_742, goA_743, goA_744, goA_745, goA_746, goA_747, goA_748, goA_749, goA_750, goA_751, goA_752, goA_753, goA_754, goA_755, goA_756, goA_757, gN_wI, gR_wI, gL_wI, if_true, eq_self, Option.bind_some, gd_kI_i]
    rw [gn_succ]
    by_cases q1 : gSe t T e = 32
    · rw [if_pos q1, kSt_y he (by unfold gBla; rw [decide_eq_true q1]; rfl)]
      exact ih (e + 1) m (by omega) K Z h11
    · rw [if_neg q1, c_see1 K Z hT (by omega)]
      simp only [gK_N K, gK_8_0 K, gK_8_1 K, gK_8_2 K, gK_8_3 K, gK_8_4 K, gK_8_5 K, gK_8_6 K, gK_8_7 K, gK_8_8 K, gK_10_0 K, gK_10_1 K, gK_10_2 K, gK_11_0 K, gK_15_0 K, gK_15_1 K, gK_15_2 K, gK_15_3 K, gK_20_0 K, gK_20_1 K, gK_20_2 K, gK_20_3 K, gK_20_4 K, gK_20_5 K, gK_698_0 K, gK_698_3 K, gK_698_16 K, gK_698_17 K, gK_698_20 K, gK_698_21 K, gK_698_22 K, gK_698_23 K, gK_698_24 K, gK_698_25 K, gK_698_26 K, gK_698_27 K, gK_698_28 K, gK_698_29 K, gK_698_30 K, gK_698_31 K, gK_698_32 K, gK_698_33 K, gK_698_34 K, gK_698_35 K, gK_698_36 K, gK_698_37 K, gK_698_38 K, gK_698_39 K, gK_698_41 K, gK_698_42 K, gK_698_44 K, gK_c K, gK_d K, gK_n K, gK_p K, gok_8, gok_10, gok_11, gok_15, gok_20, gok_698, gok_699, goA_9, goA_12, goA_13, goA_14, goA_16, goA_17, goA_18, goA_19, goA_21, goA_22, goA_23, goA_24, goA_25, goA_26, goA_27, goA_28, goA_29, goA_30, goA_31, goA_732, goA_733, goA_734, goA_735, goA_736, goA_737, goA_738, goA_739, goA_740, goA_741, goA_742, goA_743, goA_744, goA_745, goA_746, goA_747, goA_748, goA_749, goA_750, goA_751, goA_752, goA_753, goA_754, goA_755, goA_756, goA_757, gN_wI, gR_wI, gL_wI, if_true, eq_self, Option.bind_some, gd_kI_i]
      by_cases q2 : gSe t T e = 10
      · rw [if_pos q2, kSt_y he (by unfold gBla; rw [decide_eq_true q2, Bool.or_true])]
        exact ih (e + 1) m (by omega) K Z h11
      · have o1 : oZ m (wI m 698 8 (Int32.ofNat e)) := oZ_w oZ_refl (by decide)
        have K1 := gK_oZ K o1
        have Z1 := zT_Z Z o1
        rw [if_neg q2, c_see1 K1 Z1 hT (by omega), kSt_n he (by unfold gBla; rw [decide_eq_false q1, decide_eq_false q2]; rfl)]
        simp only [gK_N K1, gK_8_0 K1, gK_8_1 K1, gK_8_2 K1, gK_8_3 K1, gK_8_4 K1, gK_8_5 K1, gK_8_6 K1, gK_8_7 K1, gK_8_8 K1, gK_10_0 K1, gK_10_1 K1, gK_10_2 K1, gK_11_0 K1, gK_15_0 K1, gK_15_1 K1, gK_15_2 K1, gK_15_3 K1, gK_20_0 K1, gK_20_1 K1, gK_20_2 K1, gK_20_3 K1, gK_20_4 K1, gK_20_5 K1, gK_698_0 K1, gK_698_3 K1, gK_698_16 K1, gK_698_17 K1, gK_698_20 K1, gK_698_21 K1, gK_698_22 K1, gK_698_23 K1, gK_698_24 K1, gK_698_25 K1, gK_698_26 K1, gK_698_27 K1, gK_698_28 K1, gK_698_29 K1, gK_698_30 K1, gK_698_31 K1, gK_698_32 K1, gK_698_33 K1, gK_698_34 K1, gK_698_35 K1, gK_698_36 K1, gK_698_37 K1, gK_698_38 K1, gK_698_39 K1, gK_698_41 K1, gK_698_42 K1, gK_698_44 K1, gK_c K1, gK_d K1, gK_n K1, gK_p K1, gok_8, gok_10, gok_11, gok_15, gok_20, gok_698, gok_699, goA_9, goA_12, goA_13, goA_14, goA_16, goA_17, goA_18, goA_19, goA_21, goA_22, goA_23, goA_24, goA_25, goA_26, goA_27, goA_28, goA_29, goA_30, goA_31, goA_732, goA_733, goA_734, goA_735, goA_736, goA_737, goA_738, goA_739, goA_740, goA_741, goA_742, goA_743, goA_744, goA_745, goA_746, goA_747, goA_748, goA_749, goA_750, goA_751, goA_752, goA_753, goA_754, goA_755, goA_756, goA_757, gN_wI, gR_wI, gL_wI, if_true, eq_self, Option.bind_some, gd_kI_i]
        rw [if_neg hne, show gI (wI m 698 8 (Int32.ofNat e)) 698 11 = Int32.ofNat k from (gI_wI_k (by decide)).trans h11, gn_succ]
        have o2 : oZ m (wI (wI m 698 8 (Int32.ofNat e)) 698 11 (Int32.ofNat (k + 1))) := oZ_w o1 (by decide)
        have K2 := gK_oZ K o2
        have Z2 := zT_Z Z o2
        have z8 : gI (wI (wI m 698 8 (Int32.ofNat e)) 698 11 (Int32.ofNat (k + 1))) 698 8 = Int32.ofNat e := by rw [gI_wI_k (by decide)]; exact gI_wI_s
        have z11 : gI (wI (wI m 698 8 (Int32.ofNat e)) 698 11 (Int32.ofNat (k + 1))) 698 11 = Int32.ofNat (k + 1) := gI_wI_s
        generalize wI (wI m 698 8 (Int32.ofNat e)) 698 11 (Int32.ofNat (k + 1)) = mz at *
        have hTs : ¬ T ≤ e := by omega
        rw [c_isSmall]
        simp only [gK_N K2, gK_8_0 K2, gK_8_1 K2, gK_8_2 K2, gK_8_3 K2, gK_8_4 K2, gK_8_5 K2, gK_8_6 K2, gK_8_7 K2, gK_8_8 K2, gK_10_0 K2, gK_10_1 K2, gK_10_2 K2, gK_11_0 K2, gK_15_0 K2, gK_15_1 K2, gK_15_2 K2, gK_15_3 K2, gK_20_0 K2, gK_20_1 K2, gK_20_2 K2, gK_20_3 K2, gK_20_4 K2, gK_20_5 K2, gK_698_0 K2, gK_698_3 K2, gK_698_16 K2, gK_698_17 K2, gK_698_20 K2, gK_698_21 K2, gK_698_22 K2, gK_698_23 K2, gK_698_24 K2, gK_698_25 K2, gK_698_26 K2, gK_698_27 K2, gK_698_28 K2, gK_698_29 K2, gK_698_30 K2, gK_698_31 K2, gK_698_32 K2, gK_698_33 K2, gK_698_34 K2, gK_698_35 K2, gK_698_36 K2, gK_698_37 K2, gK_698_38 K2, gK_698_39 K2, gK_698_41 K2, gK_698_42 K2, gK_698_44 K2, gK_c K2, gK_d K2, gK_n K2, gK_p K2, gok_8, gok_10, gok_11, gok_15, gok_20, gok_698, gok_699, goA_9, goA_12, goA_13, goA_14, goA_16, goA_17, goA_18, goA_19, goA_21, goA_22, goA_23, goA_24, goA_25, goA_26, goA_27, goA_28, goA_29, goA_30, goA_31, goA_732, goA_733, goA_734, goA_735, goA_736, goA_737, goA_738, goA_739, goA_740, goA_741, goA_742, goA_743, goA_744, goA_745, goA_746, goA_747, goA_748, goA_749, goA_750, goA_751, goA_752, goA_753, goA_754, goA_755, goA_756, goA_757, gN_wI, gR_wI, gL_wI, if_true, eq_self, Option.bind_some, gd_k0I_i, gB_0]
        cases qs : gSma (gSe t T e) with
        | true =>
          have eE : kEn t T e = gWh (fun i => gSma (gSe t T i)) (T - (e + 1)) (e + 1) := by
            unfold kEn
            rw [if_neg hTs, if_pos qs, show T - e = T - (e + 1) + 1 by omega]
            exact gWh_y (P := fun i => gSma (gSe t T i)) qs
          have hb := gWh_b (P := fun i => gSma (gSe t T i)) (T - (e + 1)) (e + 1)
          have hend : gSma (gSe t T (kEn t T e)) = false := by
            rw [eE]; exact gWh_end (P := fun i => gSma (gSe t T i)) (by omega) gSma_T
          rw [← eE] at hb
          have hsum : e + kLn t T e = kEn t T e := by unfold kLn; omega
          have hsub : kEn t T e - e = kLn t T e := rfl
          rw [if_neg (by decide), c_scan_79w K2 Z2 hT (T - (e + 1)) (e + 1) (by omega), ← eE, q_Mo_scan_79]
          simp only [gK_N K2, gK_8_0 K2, gK_8_1 K2, gK_8_2 K2, gK_8_3 K2, gK_8_4 K2, gK_8_5 K2, gK_8_6 K2, gK_8_7 K2, gK_8_8 K2, gK_10_0 K2, gK_10_1 K2, gK_10_2 K2, gK_11_0 K2, gK_15_0 K2, gK_15_1 K2, gK_15_2 K2, gK_15_3 K2, gK_20_0 K2, gK_20_1 K2, gK_20_2 K2, gK_20_3 K2, gK_20_4 K2, gK_20_5 K2, gK_698_0 K2, gK_698_3 K2, gK_698_16 K2, gK_698_17 K2, gK_698_20 K2, gK_698_21 K2, gK_698_22 K2, gK_698_23 K2, gK_698_24 K2, gK_698_25 K2, gK_698_26 K2, gK_698_27 K2, gK_698_28 K2, gK_698_29 K2, gK_698_30 K2, gK_698_31 K2, gK_698_32 K2, gK_698_33 K2, gK_698_34 K2, gK_698_35 K2, gK_698_36 K2, gK_698_37 K2, gK_698_38 K2, gK_698_39 K2, gK_698_41 K2, gK_698_42 K2, gK_698_44 K2, gK_c K2, gK_d K2, gK_n K2, gK_p K2, gok_8, gok_10, gok_11, gok_15, gok_20, gok_698, gok_699, goA_9, goA_12, goA_13, goA_14, goA_16, goA_17, goA_18, goA_19, goA_21, goA_22, goA_23, goA_24, goA_25, goA_26, goA_27, goA_28, goA_29, goA_30, goA_31, goA_732, goA_733, goA_734, goA_735, goA_736, goA_737, goA_738, goA_739, goA_740, goA_741, goA_742, goA_743, goA_744, goA_745, goA_746, goA_747, goA_748, goA_749, goA_750, goA_751, goA_752, goA_753, goA_754, goA_755, goA_756, goA_757, gN_wI, gR_wI, gL_wI, if_true, eq_self]
          rw [c_see1 K2 Z2 hT (by omega)]
          simp only [Option.bind_some, gd_kI_i]
          rw [c_isSmall, hend]
          simp only [gK_N K2, gK_8_0 K2, gK_8_1 K2, gK_8_2 K2, gK_8_3 K2, gK_8_4 K2, gK_8_5 K2, gK_8_6 K2, gK_8_7 K2, gK_8_8 K2, gK_10_0 K2, gK_10_1 K2, gK_10_2 K2, gK_11_0 K2, gK_15_0 K2, gK_15_1 K2, gK_15_2 K2, gK_15_3 K2, gK_20_0 K2, gK_20_1 K2, gK_20_2 K2, gK_20_3 K2, gK_20_4 K2, gK_20_5 K2, gK_698_0 K2, gK_698_3 K2, gK_698_16 K2, gK_698_17 K2, gK_698_20 K2, gK_698_21 K2, gK_698_22 K2, gK_698_23 K2, gK_698_24 K2, gK_698_25 K2, gK_698_26 K2, gK_698_27 K2, gK_698_28 K2, gK_698_29 K2, gK_698_30 K2, gK_698_31 K2, gK_698_32 K2, gK_698_33 K2, gK_698_34 K2, gK_698_35 K2, gK_698_36 K2, gK_698_37 K2, gK_698_38 K2, gK_698_39 K2, gK_698_41 K2, gK_698_42 K2, gK_698_44 K2, gK_c K2, gK_d K2, gK_n K2, gK_p K2, gok_8, gok_10, gok_11, gok_15, gok_20, gok_698, gok_699, goA_9, goA_12, goA_13, goA_14, goA_16, goA_17, goA_18, goA_19, goA_21, goA_22, goA_23, goA_24, goA_25, goA_26, goA_27, goA_28, goA_29, goA_30, goA_31, goA_732, goA_733, goA_734, goA_735, goA_736, goA_737, goA_738, goA_739, goA_740, goA_741, goA_742, goA_743, goA_744, goA_745, goA_746, goA_747, goA_748, goA_749, goA_750, goA_751, goA_752, goA_753, goA_754, goA_755, goA_756, goA_757, gN_wI, gR_wI, gL_wI, if_true, eq_self, Option.bind_some, gd_k0I_i, gB_f]
          rw [gn_sub (by omega), hsub, c_keyAt K2 Z2 hT (by omega) (by omega)]
          simp only [gK_N K2, gK_8_0 K2, gK_8_1 K2, gK_8_2 K2, gK_8_3 K2, gK_8_4 K2, gK_8_5 K2, gK_8_6 K2, gK_8_7 K2, gK_8_8 K2, gK_10_0 K2, gK_10_1 K2, gK_10_2 K2, gK_11_0 K2, gK_15_0 K2, gK_15_1 K2, gK_15_2 K2, gK_15_3 K2, gK_20_0 K2, gK_20_1 K2, gK_20_2 K2, gK_20_3 K2, gK_20_4 K2, gK_20_5 K2, gK_698_0 K2, gK_698_3 K2, gK_698_16 K2, gK_698_17 K2, gK_698_20 K2, gK_698_21 K2, gK_698_22 K2, gK_698_23 K2, gK_698_24 K2, gK_698_25 K2, gK_698_26 K2, gK_698_27 K2, gK_698_28 K2, gK_698_29 K2, gK_698_30 K2, gK_698_31 K2, gK_698_32 K2, gK_698_33 K2, gK_698_34 K2, gK_698_35 K2, gK_698_36 K2, gK_698_37 K2, gK_698_38 K2, gK_698_39 K2, gK_698_41 K2, gK_698_42 K2, gK_698_44 K2, gK_c K2, gK_d K2, gK_n K2, gK_p K2, gok_8, gok_10, gok_11, gok_15, gok_20, gok_698, gok_699, goA_9, goA_12, goA_13, goA_14, goA_16, goA_17, goA_18, goA_19, goA_21, goA_22, goA_23, goA_24, goA_25, goA_26, goA_27, goA_28, goA_29, goA_30, goA_31, goA_732, goA_733, goA_734, goA_735, goA_736, goA_737, goA_738, goA_739, goA_740, goA_741, goA_742, goA_743, goA_744, goA_745, goA_746, goA_747, goA_748, goA_749, goA_750, goA_751, goA_752, goA_753, goA_754, goA_755, goA_756, goA_757, gN_wI, gR_wI, gL_wI, if_true, eq_self, Option.bind_some, gd_kI_i]
          rw [gI_wI_s, ← hsum]
          have hkw : kKey (fun x => gSe t T (e + x)) (kLn t T e) = kWd t T e := rfl
          rw [hkw]
          have hl10 : (10 < Int32.ofNat (kLn t T e)) ↔ 10 < kLn t T e := gl_10 (by omega)
          by_cases hw : kWd t T e < 19
          · have eT : kTy t T e = 2 := by unfold kTy; rw [if_neg hTs, if_pos qs, if_pos hw]
            have o3 : oZ mz (wI mz 698 7 (Int32.ofNat (kWd t T e))) := oZ_w oZ_refl (by decide)
            obtain ⟨m', a1, a2, a3, a4, a5, a6⟩ := c_scan_134 (x2 := gSe t T e) (x6 := 2) (gK_oZ K2 o3) (zT_Z Z2 o3) hT (show e ≤ 3000 by omega) (show kLn t T e ≤ 3000 by omega)
            refine ⟨m', ?_, oZ_tr o2 (oZ_tr o3 a2), ?_, ?_, ?_, ?_, fun _ => ?_, fun u => ?_, fun u => ?_⟩
            · rw [if_pos hw, if_neg (fun u : Int32.ofNat (kWd t T e) = -1 => by
                have := congrArg Int32.toInt u
                rw [gn_toInt (by omega)] at this
                have e1 : ((-1 : Int32)).toInt = -1 := rfl
                omega)]
              exact a1
            · rw [a5 8 (by decide) (by decide), gI_wI_k (by decide)]; exact z8
            · rw [a4, hsum]
            · rw [if_neg hTs, a5 11 (by decide) (by decide), gI_wI_k (by decide)]; exact z11
            · rw [a3, eT]; rfl
            · rw [a5 7 (by decide) (by decide)]; exact gI_wI_s
            · rw [eT] at u; omega
            · rw [eT] at u; omega
          · have o3 : oZ mz (wI mz 698 7 (-1)) := oZ_w oZ_refl (by decide)
            rw [if_neg hw, if_pos rfl]
            by_cases h10 : 10 < kLn t T e
            · have eT : kTy t T e = 5 := by unfold kTy; rw [if_neg hTs, if_pos qs, if_neg hw, if_neg (by omega)]
              obtain ⟨m', a1, a2, a3, a4, a5, a6⟩ := c_scan_134 (x2 := gSe t T e) (x6 := 0) (gK_oZ K2 o3) (zT_Z Z2 o3) hT (show e ≤ 3000 by omega) (show kLn t T e ≤ 3000 by omega)
              refine ⟨m', ?_, oZ_tr o2 (oZ_tr o3 a2), ?_, ?_, ?_, ?_, fun u => ?_, fun u => ?_, fun u => ?_⟩
              · rw [if_pos (hl10.2 h10)]; exact a1
              · rw [a5 8 (by decide) (by decide), gI_wI_k (by decide)]; exact z8
              · rw [a4, hsum]
              · rw [if_neg hTs, a5 11 (by decide) (by decide), gI_wI_k (by decide)]; exact z11
              · rw [a3, eT]; rfl
              · rw [eT] at u; omega
              · rw [eT] at u; omega
              · rw [eT] at u; omega
            · have eT : kTy t T e = 1 := by unfold kTy; rw [if_neg hTs, if_pos qs, if_neg hw, if_pos (by omega)]
              obtain ⟨m', a1, a2, a3, a4, a5, a6⟩ := c_scan_134 (x2 := gSe t T e) (x6 := 1) (gK_oZ K2 o3) (zT_Z Z2 o3) hT (show e ≤ 3000 by omega) (show kLn t T e ≤ 3000 by omega)
              refine ⟨m', ?_, oZ_tr o2 (oZ_tr o3 a2), ?_, ?_, ?_, ?_, fun u => ?_, fun u => ?_, fun _ => a6 (by omega)⟩
              · rw [if_neg (fun u => h10 (hl10.1 u))]; exact a1
              · rw [a5 8 (by decide) (by decide), gI_wI_k (by decide)]; exact z8
              · rw [a4, hsum]
              · rw [if_neg hTs, a5 11 (by decide) (by decide), gI_wI_k (by decide)]; exact z11
              · rw [a3, eT]; rfl
              · rw [eT] at u; omega
              · rw [eT] at u; omega
        | false =>
          have hsm : ¬ gSma (gSe t T e) = true := by rw [qs]; decide
          rw [if_pos rfl, c_isDigit]
          simp only [gK_N K2, gK_8_0 K2, gK_8_1 K2, gK_8_2 K2, gK_8_3 K2, gK_8_4 K2, gK_8_5 K2, gK_8_6 K2, gK_8_7 K2, gK_8_8 K2, gK_10_0 K2, gK_10_1 K2, gK_10_2 K2, gK_11_0 K2, gK_15_0 K2, gK_15_1 K2, gK_15_2 K2, gK_15_3 K2, gK_20_0 K2, gK_20_1 K2, gK_20_2 K2, gK_20_3 K2, gK_20_4 K2, gK_20_5 K2, gK_698_0 K2, gK_698_3 K2, gK_698_16 K2, gK_698_17 K2, gK_698_20 K2, gK_698_21 K2, gK_698_22 K2, gK_698_23 K2, gK_698_24 K2, gK_698_25 K2, gK_698_26 K2, gK_698_27 K2, gK_698_28 K2, gK_698_29 K2, gK_698_30 K2, gK_698_31 K2, gK_698_32 K2, gK_698_33 K2, gK_698_34 K2, gK_698_35 K2, gK_698_36 K2, gK_698_37 K2, gK_698_38 K2, gK_698_39 K2, gK_698_41 K2, gK_698_42 K2, gK_698_44 K2, gK_c K2, gK_d K2, gK_n K2, gK_p K2, gok_8, gok_10, gok_11, gok_15, gok_20, gok_698, gok_699, goA_9, goA_12, goA_13, goA_14, goA_16, goA_17, goA_18, goA_19, goA_21, goA_22, goA_23, goA_24, goA_25, goA_26, goA_27, goA_28, goA_29, goA_30, goA_31, goA_732, goA_733, goA_734, goA_735, goA_736, goA_737, goA_738, goA_739, goA_740, goA_741, goA_742, goA_743, goA_744, goA_745, goA_746, goA_747, goA_748, goA_749, goA_750, goA_751, goA_752, goA_753, goA_754, goA_755, goA_756, goA_757, gN_wI, gR_wI, gL_wI, if_true, eq_self, Option.bind_some, gd_k0I_i, gB_0]
          cases qd : gDig (gSe t T e) with
          | true =>
            have eE : kEn t T e = gWh (fun i => gDig (gSe t T i)) (T - (e + 1)) (e + 1) := by
              unfold kEn
              rw [if_neg hTs, if_neg hsm, if_pos qd, show T - e = T - (e + 1) + 1 by omega]
              exact gWh_y (P := fun i => gDig (gSe t T i)) qd
            have o3 : oZ mz (wI mz 698 10 (gSe t T e - 48)) := oZ_w oZ_refl (by decide)
            obtain ⟨m', a1, a2, a3, a4, a5, a6⟩ := c_scan_209 (c := c) (d := d) (n := n) (p := p) (x2 := gSe t T e) hT (show e ≤ 3000 by omega) (T - (e + 1)) (e + 1) (wI mz 698 10 (gSe t T e - 48)) (by omega) (by omega) (gK_oZ K2 o3) (zT_Z Z2 o3) (fun _ => by
              rw [show e + 1 - e = 1 by omega, gI_wI_s]
              show gSe t T e - 48 = 0 * 10 + (gSe t T (e + 0) - 48)
              rw [Int32.zero_mul, Int32.zero_add, Nat.add_zero])
            have hln : gWh (fun i => gDig (gSe t T i)) (T - (e + 1)) (e + 1) - e = kLn t T e := by unfold kLn; rw [eE]
            rw [← eE] at a3
            rw [hln] at a4 a5
            have eT : kTy t T e = if kLn t T e ≤ 3 then 3 else 5 := by unfold kTy; rw [if_neg hTs, if_neg hsm, if_pos qd]
            refine ⟨m', ?_, oZ_tr o2 (oZ_tr o3 a2), ?_, a3, ?_, ?_, fun u => ?_, fun u => ?_, fun u => ?_⟩
            · rw [if_neg (by decide)]; exact a1
            · rw [a6 8 (by decide) (by decide) (by decide), gI_wI_k (by decide)]; exact z8
            · rw [if_neg hTs, a6 11 (by decide) (by decide) (by decide), gI_wI_k (by decide)]; exact z11
            · rw [a4, eT]
              by_cases h3 : kLn t T e ≤ 3
              · rw [if_pos h3, if_pos h3]; rfl
              · rw [if_neg h3, if_neg h3]; rfl
            · rw [eT] at u
              by_cases h3 : kLn t T e ≤ 3
              · rw [if_pos h3] at u; omega
              · rw [if_neg h3] at u; omega
            · rw [eT] at u
              by_cases h3 : kLn t T e ≤ 3
              · exact a5 h3
              · rw [if_neg h3] at u; omega
            · rw [eT] at u
              by_cases h3 : kLn t T e ≤ 3
              · rw [if_pos h3] at u; omega
              · rw [if_neg h3] at u; omega
          | false =>
            have hdg : ¬ gDig (gSe t T e) = true := by rw [qd]; decide
            have eE : kEn t T e = e + 1 := by unfold kEn; rw [if_neg hTs, if_neg hsm, if_neg hdg]
            rw [if_pos rfl]
            by_cases h59 : gSe t T e = 59
            · have eT : kTy t T e = 4 := by unfold kTy; rw [if_neg hTs, if_neg hsm, if_neg hdg, if_pos h59]
              rw [if_pos h59]
              refine ⟨_, rfl, oZ_tr o2 (oZ_w (oZ_w oZ_refl (by decide)) (by decide)), ?_, ?_, ?_, ?_, fun u => ?_, fun u => ?_, fun u => ?_⟩
              · rw [gI_wI_k (by decide), gI_wI_k (by decide)]; exact z8
              · rw [gI_wI_s, eE]
              · rw [if_neg hTs, gI_wI_k (by decide), gI_wI_k (by decide)]; exact z11
              · rw [gI_wI_k (by decide), gI_wI_s, eT]; rfl
              · rw [eT] at u; omega
              · rw [eT] at u; omega
              · rw [eT] at u; omega
            · have eT : kTy t T e = 5 := by unfold kTy; rw [if_neg hTs, if_neg hsm, if_neg hdg, if_neg h59]
              rw [if_neg h59]
              refine ⟨_, rfl, oZ_tr o2 (oZ_w (oZ_w oZ_refl (by decide)) (by decide)), ?_, ?_, ?_, ?_, fun u => ?_, fun u => ?_, fun u => ?_⟩
              · rw [gI_wI_k (by decide), gI_wI_k (by decide)]; exact z8
              · rw [gI_wI_s, eE]
              · rw [if_neg hTs, gI_wI_k (by decide), gI_wI_k (by decide)]; exact z11
              · rw [gI_wI_k (by decide), gI_wI_s, eT]; rfl
              · rw [eT] at u; omega
              · rw [eT] at u; omega
              · rw [eT] at u; omega
theorem c_scan (hB : ∀ i, isB (t i)) (hT : T ≤ 3000) {e : Nat} (he : e ≤ T) (K : gK c d n p m) (Z : zT t T m) (h9 : gI m 698 9 = Int32.ofNat e) (h11 : gI m 698 11 = Int32.ofNat k) : ∃ m', gd_call 67 [.ref 698] m = some (.null, m') ∧ oZ m m' ∧ tkM t T (kSt t T e) k m' := by
  rw [q_Mo_scan]
  simp only [gK_N K, gK_8_0 K, gK_8_1 K, gK_8_2 K, gK_8_3 K, gK_8_4 K, gK_8_5 K, gK_8_6 K, gK_8_7 K, gK_8_8 K, gK_10_0 K, gK_10_1 K, gK_10_2 K, gK_11_0 K, gK_15_0 K, gK_15_1 K, gK_15_2 K, gK_15_3 K, gK_20_0 K, gK_20_1 K, gK_20_2 K, gK_20_3 K, gK_20_4 K, gK_20_5 K, gK_698_0 K, gK_698_3 K, gK_698_16 K, gK_698_17 K, gK_698_20 K, gK_698_21 K, gK_698_22 K, gK_698_23 K, gK_698_24 K, gK_698_25 K, gK_698_26 K, gK_698_27 K, gK_698_28 K, gK_698_29 K, gK_698_30 K, gK_698_31 K, gK_698_32 K, gK_698_33 K, gK_698_34 K, gK_698_35 K, gK_698_36 K, gK_698_37 K, gK_698_38 K, gK_698_39 K, gK_698_41 K, gK_698_42 K, gK_698_44 K, gK_c K, gK_d K, gK_n K, gK_p K, gok_8, gok_10, gok_11, gok_15, gok_20, gok_698, gok_699, goA_9, goA_12, goA_13, goA_14, goA_16, goA_17, goA_18, goA_19, goA_21, goA_22, goA_23, goA_24, goA_25, goA_26, goA_27, goA_28, goA_29, goA_30, goA_31, goA_732, goA_733, goA_734, goA_735, goA_736, goA_737, goA_738, goA_739, goA_740, goA_741, goA_742, goA_743, goA_744, goA_745, goA_746, goA_747, goA_748, goA_749, goA_750, goA_751, goA_752, goA_753, goA_754, goA_755, goA_756, goA_757, gN_wI, gR_wI, gL_wI, if_true, eq_self]
  rw [h9]
  exact c_scan_5 hB hT (T - e) e m (by omega) K Z h11
end P92
