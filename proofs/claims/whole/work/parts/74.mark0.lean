/-! ===== mark ===== -/
theorem wI_wI {m : gd_M} {a k : Nat} {x y : Int32} : wI (wI m a k x) a k y = wI m a k y := by
  unfold wI
  congr 1
  funext b i
  show (if b = a ∧ i = k then y else if b = a ∧ i = k then x else m.1 b i) = if b = a ∧ i = k then y else m.1 b i
  by_cases h : b = a ∧ i = k
  · rw [if_pos h, if_pos h]
  · rw [if_neg h, if_neg h, if_neg h]
theorem wI_id {m : gd_M} {a k : Nat} : wI m a k (gI m a k) = m := by
  obtain ⟨I, t⟩ := m
  unfold wI
  congr 1
  funext b i
  show (if b = a ∧ i = k then I a k else I b i) = I b i
  by_cases h : b = a ∧ i = k
  · rw [if_pos h, h.1, h.2]
  · rw [if_neg h]
def gLs (mk : Nat → Int32) (v : Int32) : Nat → Nat
  | 0 => 0
  | k + 1 => gLs mk v k + if mk k < v then 1 else 0
def gEq (mk : Nat → Int32) (v : Int32) : Nat → Nat
  | 0 => 0
  | k + 1 => gEq mk v k + if mk k = v then 1 else 0
def gGd (mk : Nat → Int32) (N j : Nat) : Bool := decide (gLs mk (mk j) N ≤ (N - 1) / 2) && decide ((N - 1) / 2 < gLs mk (mk j) N + gEq mk (mk j) N)
def gMi (mk : Nat → Int32) (N : Nat) : Nat → Int32
  | 0 => 0
  | k + 1 => if gGd mk N k = true then mk k else gMi mk N k
theorem gLs_b {mk : Nat → Int32} {v : Int32} : ∀ k, gLs mk v k + gEq mk v k ≤ k := by
  intro k
  induction k with
  | zero => exact Nat.le_refl 0
  | succ k ih =>
    show gLs mk v k + _ + (gEq mk v k + _) ≤ k + 1
    by_cases h1 : mk k < v
    · rw [if_pos h1, if_neg (fun q => by rw [q] at h1; exact Int32.lt_irrefl h1)]; omega
    · rw [if_neg h1]
      by_cases h2 : mk k = v
      · rw [if_pos h2]; omega
      · rw [if_neg h2]; omega
theorem gLs_lt {mk : Nat → Int32} {v w : Int32} (h : v < w) : ∀ k, gLs mk v k + gEq mk v k ≤ gLs mk w k := by
  intro k
  induction k with
  | zero => exact Nat.le_refl 0
  | succ k ih =>
    show gLs mk v k + _ + (gEq mk v k + _) ≤ gLs mk w k + _
    by_cases h1 : mk k < v
    · rw [if_pos h1, if_neg (fun q => by rw [q] at h1; exact Int32.lt_irrefl h1), if_pos (Int32.lt_trans h1 h)]; omega
    · rw [if_neg h1]
      by_cases h2 : mk k = v
      · rw [if_pos h2, if_pos (by rw [h2]; exact h)]; omega
      · rw [if_neg h2]; omega
theorem gGd_u {mk : Nat → Int32} {N i j : Nat} (hi : gGd mk N i = true) (hj : gGd mk N j = true) : mk i = mk j := by
  have h1 := Bool.and_eq_true_iff.1 hi
  have h2 := Bool.and_eq_true_iff.1 hj
  have a1 := of_decide_eq_true h1.1
  have a2 := of_decide_eq_true h1.2
  have b1 := of_decide_eq_true h2.1
  have b2 := of_decide_eq_true h2.2
  by_cases q : mk i < mk j
  · have := gLs_lt (mk := mk) q N; omega
  · by_cases q2 : mk j < mk i
    · have := gLs_lt (mk := mk) q2 N; omega
    · exact Int32.le_antisymm (Int32.not_lt.1 q2) (Int32.not_lt.1 q)
theorem gMi_g {mk : Nat → Int32} {N j : Nat} (hj : gGd mk N j = true) : ∀ k, j < k → gMi mk N k = mk j := by
  intro k
  induction k with
  | zero => intro h; omega
  | succ k ih =>
    intro h
    show (if gGd mk N k = true then mk k else gMi mk N k) = mk j
    by_cases q : gGd mk N k = true
    · rw [if_pos q]; exact gGd_u q hj
    · rw [if_neg q]
      by_cases e : j = k
      · rw [e] at hj; exact absurd hj q
      · exact ih (by omega)
theorem gMi_n {mk : Nat → Int32} {N : Nat} : ∀ k, (∀ i < k, gGd mk N i = false) → gMi mk N k = 0 := by
  intro k
  induction k with
  | zero => intro _; rfl
  | succ k ih =>
    intro h
    show (if gGd mk N k = true then mk k else gMi mk N k) = 0
    rw [h k (Nat.lt_succ_self k), if_neg Bool.false_ne_true]
    exact ih fun i hi => h i (by omega)
def gSy (mk : Nat → Int32) (mid sp : Int32) (j : Nat) : Bool := decide (sp < mk j - mid) || decide (sp < mid - mk j)
def gAk (mk : Nat → Int32) (mid sp a : Int32) : Nat → Int32
  | 0 => a
  | k + 1 => if gSy mk mid sp k = true then gAk mk mid sp a k ||| ((1 : Int32) <<< (Int32.ofNat k &&& 31)) else gAk mk mid sp a k
/-- a mark, or none -/
def gMkOk (x : Int32) : Prop := x = -1 ∨ isN x 0 100
theorem gMkOk_b {x : Int32} (h : gMkOk x) : -1 ≤ x.toInt ∧ x.toInt ≤ 100 := by
  rcases h with rfl | ⟨k, -, hk, rfl⟩
  · exact ⟨by decide, by decide⟩
  · rw [gn_toInt (by omega)]; omega
theorem gSy_abs {mk : Nat → Int32} {mid sp : Int32} {j : Nat} (h1 : gMkOk (mk j)) (h2 : gMkOk mid) : (sp < (if mk j - mid < 0 then -(mk j - mid) else mk j - mid)) ↔ gSy mk mid sp j = true := by
  have b1 := gMkOk_b h1
  have b2 := gMkOk_b h2
  have e0 : (0 : Int32).toInt = 0 := rfl
  have d1 : (mk j - mid).toInt = (mk j).toInt - mid.toInt := gt_sub (by omega)
  have d2 : (mid - mk j).toInt = mid.toInt - (mk j).toInt := gt_sub (by omega)
  have d3 : (-(mk j - mid)).toInt = mid.toInt - (mk j).toInt := by
    rw [Int32.toInt_neg, d1, gt_bm (by omega)]; omega
  unfold gSy
  rw [Bool.or_eq_true, decide_eq_true_iff, decide_eq_true_iff]
  by_cases q : mk j - mid < 0
  · rw [if_pos q]
    have q1 := Int32.lt_iff_toInt_lt.1 q
    rw [Int32.lt_iff_toInt_lt, Int32.lt_iff_toInt_lt, Int32.lt_iff_toInt_lt, d3, d1, d2]
    omega
  · rw [if_neg q]
    have q1 : ¬ (mk j - mid).toInt < (0 : Int32).toInt := fun t => q (Int32.lt_iff_toInt_lt.2 t)
    rw [Int32.lt_iff_toInt_lt, Int32.lt_iff_toInt_lt, d1, d2]
    omega
theorem gMi_ok {mk : Nat → Int32} {N : Nat} (h : ∀ j < N, gMkOk (mk j)) : ∀ k, k ≤ N → gMkOk (gMi mk N k) := by
  intro k
  induction k with
  | zero => intro _; exact .inr ⟨0, Nat.le_refl 0, by decide, rfl⟩
  | succ k ih =>
    intro hk
    show gMkOk (if gGd mk N k = true then mk k else gMi mk N k)
    by_cases q : gGd mk N k = true
    · rw [if_pos q]; exact h k (by omega)
    · rw [if_neg q]; exact ih (by omega)
section P74
variable {c d n p : Nat} {m : gd_M} {s : gd_C} {r N : Nat} {mk : Nat → Int32}
theorem gn_mid (hN : 1 ≤ N) (hN6 : N ≤ 6) : (Int32.ofNat N - 1) / 2 = Int32.ofNat ((N - 1) / 2) := by
  rw [gn_pred (by omega), show (2 : Int32) = Int32.ofNat 2 from rfl, gn_div (by omega) (by decide)]
theorem c_mid_22 (K : gK c d n p m) (hr : r < 160) (hN : 1 ≤ N) (hN6 : N ≤ 6) (hm : ∀ j < 6, gI m (60 + 4 * r) j = mk j) {j : Nat} (hj : j < N) : ∀ q i, i + q = N → gd_Den (107, 22, [.ref (58 + 4 * r), .int (Int32.ofNat N), .int (Int32.ofNat ((N - 1) / 2)), .int (Int32.ofNat j), .int (Int32.ofNat (gLs mk (mk j) i)), .int (Int32.ofNat (gEq mk (mk j) i)), .int (Int32.ofNat i)], [], m) = if gGd mk N j = true then some (.int (mk j), m) else gd_Den (107, 8, [.ref (58 + 4 * r), .int (Int32.ofNat N), .int (Int32.ofNat ((N - 1) / 2)), .int (Int32.ofNat (j + 1)), .int (Int32.ofNat (gLs mk (mk j) N)), .int (Int32.ofNat (gEq mk (mk j) N)), .int (Int32.ofNat N)], [], m) := by
  intro q
  induction q with
  | zero =>
    intro i h
    have : i = N := by omega
    subst this
    have hb := gLs_b (mk := mk) (v := mk j) i
    rw [q_Ro_middleMark_22, if_neg (fun t => by have := (gn_lt (by omega) (by omega)).1 t; omega)]
    simp only [gK_N K, gK_8_0 K, gK_8_1 K, gK_8_2 K, gK_8_3 K, gK_8_4 K, gK_8_5 K, gK_8_6 K, gK_8_7 K, gK_8_8 K, gK_10_0 K, gK_10_1 K, gK_10_2 K, gK_11_0 K, gK_15_0 K, gK_15_1 K, gK_15_2 K, gK_15_3 K, gK_20_0 K, gK_20_1 K, gK_20_2 K, gK_20_3 K, gK_20_4 K, gK_20_5 K, gK_698_0 K, gK_698_3 K, gK_698_16 K, gK_698_17 K, gK_698_20 K, gK_698_21 K, gK_698_22 K, gK_698_23 K, gK_698_24 K, gK_698_25 K, gK_698_26 K, gK_698_27 K, gK_698_28 K, gK_698_29 K, gK_698_30 K, gK_698_31 K, gK_698_32 K, gK_698_33 K, gK_698_34 K, gK_698_35 K, gK_698_36 K, gK_698_37 K, gK_698_38 K, gK_698_39 K, gK_698_41 K, gK_698_42 K, gK_698_44 K, gK_c K, gK_d K, gK_n K, gK_p K, gok_8, gok_10, gok_11, gok_15, gok_20, gok_698, gok_699, goA_9, goA_12, goA_13, goA_14, goA_16, goA_17, goA_18, goA_19, goA_21, goA_22, goA_23, goA_24, goA_25, goA_26, goA_27, goA_28, goA_29, goA_30, goA_31, goA_732, goA_733, goA_734, goA_735, goA_736, goA_737, goA_738, goA_739, goA_740, goA_741, goA_742, goA_743, goA_744, goA_745, goA_746, goA_747, goA_748, goA_749, goA_750, goA_751, goA_752, goA_753, goA_754, goA_755, goA_756, goA_757, gN_wI, gR_wI, gL_wI, if_true, eq_self, gK_row K hr, gK_ent K hr, gK_mrk K hr, gK_sen K hr, gok_row hr, goA_ent hr, goA_mrk hr, goA_sen hr, gd_row0, gd_row8, if_false]
    rw [gn_add, gn_in (by omega) (show j < 6 by omega), if_pos rfl, gn_nat (by omega), hm j (by omega), gn_succ]
    unfold gGd
    by_cases h1 : (i - 1) / 2 < gLs mk (mk j) i
    · rw [if_pos ((gn_lt (by omega) (by omega)).2 h1), decide_eq_false (by omega), if_neg (by simp)]
    · rw [if_neg (fun t => h1 ((gn_lt (by omega) (by omega)).1 t)), decide_eq_true (by omega)]
      by_cases h2 : (i - 1) / 2 < gLs mk (mk j) i + gEq mk (mk j) i
      · rw [if_pos ((gn_lt (by omega) (by omega)).2 h2), decide_eq_true h2]; rfl
      · rw [if_neg (fun t => h2 ((gn_lt (by omega) (by omega)).1 t)), decide_eq_false h2]; rfl
  | succ q ih =>
    intro i h
    have e1 : gLs mk (mk j) (i + 1) = gLs mk (mk j) i + if mk i < mk j then 1 else 0 := rfl
    have e2 : gEq mk (mk j) (i + 1) = gEq mk (mk j) i + if mk i = mk j then 1 else 0 := rfl
    have hI := ih (i + 1) (by omega)
    rw [e1, e2] at hI
    rw [q_Ro_middleMark_22, if_pos ((gn_lt (by omega) (by omega)).2 (by omega))]
    simp only [gK_N K, gK_8_0 K, gK_8_1 K, gK_8_2 K, gK_8_3 K, gK_8_4 K, gK_8_5 K, gK_8_6 K, gK_8_7 K, gK_8_8 K, gK_10_0 K, gK_10_1 K, gK_10_2 K, gK_11_0 K, gK_15_0 K, gK_15_1 K, gK_15_2 K, gK_15_3 K, gK_20_0 K, gK_20_1 K, gK_20_2 K, gK_20_3 K, gK_20_4 K, gK_20_5 K, gK_698_0 K, gK_698_3 K, gK_698_16 K, gK_698_17 K, gK_698_20 K, gK_698_21 K, gK_698_22 K, gK_698_23 K, gK_698_24 K, gK_698_25 K, gK_698_26 K, gK_698_27 K, gK_698_28 K, gK_698_29 K, gK_698_30 K, gK_698_31 K, gK_698_32 K, gK_698_33 K, gK_698_34 K, gK_698_35 K, gK_698_36 K, gK_698_37 K, gK_698_38 K, gK_698_39 K, gK_698_41 K, gK_698_42 K, gK_698_44 K, gK_c K, gK_d K, gK_n K, gK_p K, gok_8, gok_10, gok_11, gok_15, gok_20, gok_698, gok_699, goA_9, goA_12, goA_13, goA_14, goA_16, goA_17, goA_18, goA_19, goA_21, goA_22, goA_23, goA_24, goA_25, goA_26, goA_27, goA_28, goA_29, goA_30, goA_31, goA_732, goA_733, goA_734, goA_735, goA_736, goA_737, goA_738, goA_739, goA_740, goA_741, goA_742, goA_743, goA_744, goA_745, goA_746, goA_747, goA_748, goA_749, goA_750, goA_751, goA_752, goA_753, goA_754, goA_755, goA_756, goA_757, gN_wI, gR_wI, gL_wI, if_true, eq_self, gK_row K hr, gK_ent K hr, gK_mrk K hr, gK_sen K hr, gok_row hr, goA_ent hr, goA_mrk hr, goA_sen hr, gd_row0, gd_row8, if_false]
    rw [gn_in (by omega) (show i < 6 by omega), if_pos rfl, gn_in (by omega) (show j < 6 by omega), if_pos rfl, gn_nat (show i < 2147483648 by omega), gn_nat (show j < 2147483648 by omega), hm j (by omega), hm i (by omega)]
    simp only [gn_succ, Int32.add_zero]
    by_cases h1 : mk i < mk j
    · rw [if_pos h1]; rw [if_pos h1] at hI
      by_cases h2 : mk i = mk j
      · rw [if_pos h2]; rw [if_pos h2] at hI; exact hI
      · rw [if_neg h2]; rw [if_neg h2] at hI; exact hI
    · rw [if_neg h1]; rw [if_neg h1] at hI
      by_cases h2 : mk i = mk j
      · rw [if_pos h2]; rw [if_pos h2] at hI; exact hI
      · rw [if_neg h2]; rw [if_neg h2] at hI; exact hI
theorem c_mid_8 (K : gK c d n p m) (hr : r < 160) (hN : 1 ≤ N) (hN6 : N ≤ 6) (hm : ∀ j < 6, gI m (60 + 4 * r) j = mk j) : ∀ q j v4 v5 v6, j + q = N → (∀ i < j, gGd mk N i = false) → gd_Den (107, 8, [.ref (58 + 4 * r), .int (Int32.ofNat N), .int (Int32.ofNat ((N - 1) / 2)), .int (Int32.ofNat j), v4, v5, v6], [], m) = some (.int (gMi mk N N), m) := by
  intro q
  induction q with
  | zero =>
    intro j v4 v5 v6 h hg
    have : j = N := by omega
    subst this
    rw [q_Ro_middleMark_8, if_neg (fun t => by have := (gn_lt (by omega) (by omega)).1 t; omega), gMi_n j hg]
  | succ q ih =>
    intro j v4 v5 v6 h hg
    rw [q_Ro_middleMark_8, if_pos ((gn_lt (by omega) (by omega)).2 (by omega))]
    have e1 := c_mid_22 K hr hN hN6 hm (show j < N by omega) N 0 (by omega)
    rw [show gLs mk (mk j) 0 = 0 from rfl, show gEq mk (mk j) 0 = 0 from rfl, gn_0] at e1
    rw [e1]
    by_cases h1 : gGd mk N j = true
    · rw [if_pos h1, gMi_g h1 N (by omega)]
    · rw [if_neg h1]
      refine ih (j + 1) _ _ _ (by omega) fun i hi => ?_
      by_cases e : i = j
      · rw [e]; exact Bool.not_eq_true _ ▸ h1
      · exact hg i (by omega)
theorem c_mid (K : gK c d n p m) (hr : r < 160) (hN : 1 ≤ N) (hN6 : N ≤ 6) (hm : ∀ j < 6, gI m (60 + 4 * r) j = mk j) : gd_call 107 [.ref (58 + 4 * r), .int (Int32.ofNat N)] m = some (.int (gMi mk N N), m) := by
  rw [q_Ro_middleMark, gn_mid hN hN6]
  exact c_mid_8 K hr hN hN6 hm N 0 .null .null .null (by omega) fun i hi => absurd hi (Nat.not_lt_zero i)
theorem c_askStrays_9 (hr : r < 160) (hN6 : N ≤ 6) (hmk : ∀ j < N, gMkOk (mk j)) {mid sp a : Int32} (hmid : gMkOk mid) : ∀ q j (m : gd_M), j + q = N → gK c d n p m → (∀ j < 6, gI m (60 + 4 * r) j = mk j) → gd_Den (109, 9, [.ref (58 + 4 * r), .int (Int32.ofNat N), .int sp, .int mid, .int (Int32.ofNat j)], [], wI m (58 + 4 * r) 8 (gAk mk mid sp a j)) = some (.null, wI m (58 + 4 * r) 8 (gAk mk mid sp a N)) := by
  intro q
  induction q with
  | zero =>
    intro j m h K hm
    have : j = N := by omega
    subst this
    rw [q_Ro_askStrays_9, if_neg (fun t => by have := (gn_lt (by omega) (by omega)).1 t; omega)]
  | succ q ih =>
    intro j m h K hm
    have hI := ih (j + 1) m (by omega) K hm
    have e1 : gAk mk mid sp a (j + 1) = if gSy mk mid sp j = true then gAk mk mid sp a j ||| ((1 : Int32) <<< (Int32.ofNat j &&& 31)) else gAk mk mid sp a j := rfl
    rw [q_Ro_askStrays_9, if_pos ((gn_lt (by omega) (by omega)).2 (by omega))]
    simp only [gK_N K, gK_8_0 K, gK_8_1 K, gK_8_2 K, gK_8_3 K, gK_8_4 K, gK_8_5 K, gK_8_6 K, gK_8_7 K, gK_8_8 K, gK_10_0 K, gK_10_1 K, gK_10_2 K, gK_11_0 K, gK_15_0 K, gK_15_1 K, gK_15_2 K, gK_15_3 K, gK_20_0 K, gK_20_1 K, gK_20_2 K, gK_20_3 K, gK_20_4 K, gK_20_5 K, gK_698_0 K, gK_698_3 K, gK_698_16 K, gK_698_17 K, gK_698_20 K, gK_698_21 K, gK_698_22 K, gK_698_23 K, gK_698_24 K, gK_698_25 K, gK_698_26 K, gK_698_27 K, gK_698_28 K, gK_698_29 K, gK_698_30 K, gK_698_31 K, gK_698_32 K, gK_698_33 K, gK_698_34 K, gK_698_35 K, gK_698_36 K, gK_698_37 K, gK_698_38 K, gK_698_39 K, gK_698_41 K, gK_698_42 K, gK_698_44 K, gK_c K, gK_d K, gK_n K, gK_p K, gok_8, gok_10, gok_11, gok_15, gok_20, gok_698, gok_699, goA_9, goA_12, goA_13, goA_14, goA_16, goA_17, goA_18, goA_19, goA_21, goA_22, goA_23, goA_24, goA_25, goA_26, goA_27, goA_28, goA_29, goA_30, goA_31, goA_732, goA_733, goA_734, goA_735, goA_736, goA_737, goA_738, goA_739, goA_740, goA_741, goA_742, goA_743, goA_744, goA_745, goA_746, goA_747, goA_748, goA_749, goA_750, goA_751, goA_752, goA_753, goA_754, goA_755, goA_756, goA_757, gN_wI, gR_wI, gL_wI, if_true, eq_self, gK_row K hr, gK_ent K hr, gK_mrk K hr, gK_sen K hr, gok_row hr, goA_ent hr, goA_mrk hr, goA_sen hr, gd_row0, gd_row8, if_false]
    rw [gn_in (by omega) (show j < 6 by omega), if_pos rfl, gn_nat (by omega), gI_wI_a (by omega), hm j (by omega), q_Ma_abs]
    have hs := gSy_abs (sp := sp) (hmk j (by omega)) hmid
    have e2 : (if mk j - mid < 0 then some (Value.int (-(mk j - mid)), wI m (58 + 4 * r) 8 (gAk mk mid sp a j)) else some (Value.int (mk j - mid), wI m (58 + 4 * r) 8 (gAk mk mid sp a j))) = some (Value.int (if mk j - mid < 0 then -(mk j - mid) else mk j - mid), wI m (58 + 4 * r) 8 (gAk mk mid sp a j)) := by
      by_cases t : mk j - mid < 0
      · rw [if_pos t, if_pos t]
      · rw [if_neg t, if_neg t]
    rw [e2]
    simp only [gK_N K, gK_8_0 K, gK_8_1 K, gK_8_2 K, gK_8_3 K, gK_8_4 K, gK_8_5 K, gK_8_6 K, gK_8_7 K, gK_8_8 K, gK_10_0 K, gK_10_1 K, gK_10_2 K, gK_11_0 K, gK_15_0 K, gK_15_1 K, gK_15_2 K, gK_15_3 K, gK_20_0 K, gK_20_1 K, gK_20_2 K, gK_20_3 K, gK_20_4 K, gK_20_5 K, gK_698_0 K, gK_698_3 K, gK_698_16 K, gK_698_17 K, gK_698_20 K, gK_698_21 K, gK_698_22 K, gK_698_23 K, gK_698_24 K, gK_698_25 K, gK_698_26 K, gK_698_27 K, gK_698_28 K, gK_698_29 K, gK_698_30 K, gK_698_31 K, gK_698_32 K, gK_698_33 K, gK_698_34 K, gK_698_35 K, gK_698_36 K, gK_698_37 K, gK_698_38 K, gK_698_39 K, gK_698_41 K, gK_698_42 K, gK_698_44 K, gK_c K, gK_d K, gK_n K, gK_p K, gok_8, gok_10, gok_11, gok_15, gok_20, gok_698, gok_699, goA_9, goA_12, goA_13, goA_14, goA_16, goA_17, goA_18, goA_19, goA_21, goA_22, goA_23, goA_24, goA_25, goA_26, goA_27, goA_28, goA_29, goA_30, goA_31, goA_732, goA_733, goA_734, goA_735, goA_736, goA_737, goA_738, goA_739, goA_740, goA_741, goA_742, goA_743, goA_744, goA_745, goA_746, goA_747, goA_748, goA_749, goA_750, goA_751, goA_752, goA_753, goA_754, goA_755, goA_756, goA_757, gN_wI, gR_wI, gL_wI, if_true, eq_self, gK_row K hr, gK_ent K hr, gK_mrk K hr, gK_sen K hr, gok_row hr, goA_ent hr, goA_mrk hr, goA_sen hr, gd_row0, gd_row8, if_false, Option.bind_some, gd_k0I_i]
    rw [gn_succ]
    by_cases h1 : gSy mk mid sp j = true
    · rw [if_pos h1] at e1
      rw [if_pos (hs.2 h1), gI_wI_s, wI_wI, ← e1]
      exact hI
    · rw [if_neg h1] at e1
      rw [if_neg (fun t => h1 (hs.1 t)), ← e1]
      exact hI
theorem c_askStrays (K : gK c d n p m) (hr : r < 160) (hN : 1 ≤ N) (hN6 : N ≤ 6) (hm : ∀ j < 6, gI m (60 + 4 * r) j = mk j) (hmk : ∀ j < N, gMkOk (mk j)) {sp : Int32} : gd_call 109 [.ref (58 + 4 * r), .int (Int32.ofNat N), .int sp] m = some (.null, wI m (58 + 4 * r) 8 (gAk mk (gMi mk N N) sp (gI m (58 + 4 * r) 8) N)) := by
  rw [q_Ro_askStrays]
  simp only [gK_N K, gK_8_0 K, gK_8_1 K, gK_8_2 K, gK_8_3 K, gK_8_4 K, gK_8_5 K, gK_8_6 K, gK_8_7 K, gK_8_8 K, gK_10_0 K, gK_10_1 K, gK_10_2 K, gK_11_0 K, gK_15_0 K, gK_15_1 K, gK_15_2 K, gK_15_3 K, gK_20_0 K, gK_20_1 K, gK_20_2 K, gK_20_3 K, gK_20_4 K, gK_20_5 K, gK_698_0 K, gK_698_3 K, gK_698_16 K, gK_698_17 K, gK_698_20 K, gK_698_21 K, gK_698_22 K, gK_698_23 K, gK_698_24 K, gK_698_25 K, gK_698_26 K, gK_698_27 K, gK_698_28 K, gK_698_29 K, gK_698_30 K, gK_698_31 K, gK_698_32 K, gK_698_33 K, gK_698_34 K, gK_698_35 K, gK_698_36 K, gK_698_37 K, gK_698_38 K, gK_698_39 K, gK_698_41 K, gK_698_42 K, gK_698_44 K, gK_c K, gK_d K, gK_n K, gK_p K, gok_8, gok_10, gok_11, gok_15, gok_20, gok_698, gok_699, goA_9, goA_12, goA_13, goA_14, goA_16, goA_17, goA_18, goA_19, goA_21, goA_22, goA_23, goA_24, goA_25, goA_26, goA_27, goA_28, goA_29, goA_30, goA_31, goA_732, goA_733, goA_734, goA_735, goA_736, goA_737, goA_738, goA_739, goA_740, goA_741, goA_742, goA_743, goA_744, goA_745, goA_746, goA_747, goA_748, goA_749, goA_750, goA_751, goA_752, goA_753, goA_754, goA_755, goA_756, goA_757, gN_wI, gR_wI, gL_wI, if_true, eq_self, gK_row K hr, gK_ent K hr, gK_mrk K hr, gK_sen K hr, gok_row hr, goA_ent hr, goA_mrk hr, goA_sen hr, gd_row0, gd_row8, if_false]
  rw [c_mid K hr hN hN6 hm]
  simp only [Option.bind_some, gd_kI_i]
  have := c_askStrays_9 (c := c) (d := d) (n := n) (p := p) hr hN6 hmk (sp := sp) (a := gI m (58 + 4 * r) 8) (gMi_ok hmk N (Nat.le_refl N)) N 0 m (by omega) K hm
  rw [show gAk mk (gMi mk N N) sp (gI m (58 + 4 * r) 8) 0 = gI m (58 + 4 * r) 8 from rfl, wI_id] at this
  exact this
theorem c_ask_37 (K : gK c d n p m) (S : gSm n (gI m) s) (hr : r < 160) (hN : 1 ≤ N) (hN6 : N ≤ 6) (hNe : gCd n s 0 21 = Int32.ofNat N) (hm : ∀ j < 6, s 741 (6 * r + j) = mk j) {j : Nat} (hj : j < N) {x2 : Int32} : ∀ q i, i + q = N → gd_Den (112, 37, [.ref 698, .int (Int32.ofNat r), .int x2, .int (Int32.ofNat j), .int (mk j), .int (Int32.ofNat (gLs mk (mk j) i)), .int (Int32.ofNat (gEq mk (mk j) i)), .int (Int32.ofNat i)], [], m) = gd_Den (112, 4, [.ref 698, .int (Int32.ofNat r), .int (if gGd mk N j = true then mk j else x2), .int (Int32.ofNat (j + 1)), .int (mk j), .int (Int32.ofNat (gLs mk (mk j) N)), .int (Int32.ofNat (gEq mk (mk j) N)), .int (Int32.ofNat N)], [], m) := by
  intro q
  induction q with
  | zero =>
    intro i h
    have : i = N := by omega
    subst this
    have hb := gLs_b (mk := mk) (v := mk j) i
    rw [q_Mo_ask_37]
    simp only [gK_N K, gK_8_0 K, gK_8_1 K, gK_8_2 K, gK_8_3 K, gK_8_4 K, gK_8_5 K, gK_8_6 K, gK_8_7 K, gK_8_8 K, gK_10_0 K, gK_10_1 K, gK_10_2 K, gK_11_0 K, gK_15_0 K, gK_15_1 K, gK_15_2 K, gK_15_3 K, gK_20_0 K, gK_20_1 K, gK_20_2 K, gK_20_3 K, gK_20_4 K, gK_20_5 K, gK_698_0 K, gK_698_3 K, gK_698_16 K, gK_698_17 K, gK_698_20 K, gK_698_21 K, gK_698_22 K, gK_698_23 K, gK_698_24 K, gK_698_25 K, gK_698_26 K, gK_698_27 K, gK_698_28 K, gK_698_29 K, gK_698_30 K, gK_698_31 K, gK_698_32 K, gK_698_33 K, gK_698_34 K, gK_698_35 K, gK_698_36 K, gK_698_37 K, gK_698_38 K, gK_698_39 K, gK_698_41 K, gK_698_42 K, gK_698_44 K, gK_c K, gK_d K, gK_n K, gK_p K, gok_8, gok_10, gok_11, gok_15, gok_20, gok_698, gok_699, goA_9, goA_12, goA_13, goA_14, goA_16, goA_17, goA_18, goA_19, goA_21, goA_22, goA_23, goA_24, goA_25, goA_26, goA_27, goA_28, goA_29, goA_30, goA_31, goA_732, goA_733, goA_734, goA_735, goA_736, goA_737, goA_738, goA_739, goA_740, goA_741, goA_742, goA_743, goA_744, goA_745, goA_746, goA_747, goA_748, goA_749, goA_750, goA_751, goA_752, goA_753, goA_754, goA_755, goA_756, goA_757, gN_wI, gR_wI, gL_wI, if_true, eq_self, gok_c K, gok_d K, gok_n K, gok_p K, gK_c_0 K, gK_c_1 K, gK_c_2 K, gK_c_3 K, gK_c_4 K, gK_c_5 K, gK_c_6 K, gK_c_7 K, gK_c_8 K, gK_c_9 K, gK_c_10 K, gK_c_11 K, gK_n_3 K, gK_n_4 K, gK_n_5 K, gK_n_6 K, gK_n_7 K, gK_n_8 K, gK_n_9 K, gK_n_10 K, gK_n_11 K, gK_n_12 K, gK_n_13 K, gK_n_14 K, gK_n_15 K, gK_n_16 K, gK_n_17 K, goA_c1 K, goA_c2 K, goA_c3 K, goA_c4 K, goA_c5 K, goA_c6 K, goA_c7 K, goA_c8 K, goA_c9 K, goA_c10 K, goA_c11 K, goA_c12 K, goA_n1 K, goA_n2 K, goA_n3 K, goA_n4 K, goA_n5 K, goA_n6 K, goA_n7 K, goA_n8 K, goA_n9 K, goA_n10 K, goA_n11 K, goA_n12 K, goA_n13 K, goA_n14 K, goA_n15 K, gS_n K S, gS_n5 K S, gS_n6 K S, gS_n7 K S, gS_n8 K S, gS_n9 K S, gS_n10 K S, gS_n11 K S, gS_n12 K S, gS_n13 K S, gS_n14 K S, gS_n15 K S, gS_732 S, gS_735 S, gS_736 S, gS_737 S, gS_738 S, gS_739 S, gS_740 S, gS_741 S, gS_742 S, gS_743 S, gS_744 S, gS_745 S, gS_746 S, gS_698_4 S, gS_698_14 S, gS_698_15 S, gS_698_18 S, gS_698_19 S]
    rw [hNe, if_neg (fun t => by have := (gn_lt (by omega) (by omega)).1 t; omega), gn_mid hN hN6, gn_add, gn_succ]
    unfold gGd
    by_cases h1 : (i - 1) / 2 < gLs mk (mk j) i
    · rw [if_pos ((gn_lt (by omega) (by omega)).2 h1), decide_eq_false (show ¬ gLs mk (mk j) i ≤ (i - 1) / 2 by omega), if_neg (by simp)]
    · rw [if_neg (fun t => h1 ((gn_lt (by omega) (by omega)).1 t)), decide_eq_true (show gLs mk (mk j) i ≤ (i - 1) / 2 by omega)]
      by_cases h2 : (i - 1) / 2 < gLs mk (mk j) i + gEq mk (mk j) i
      · rw [if_pos ((gn_lt (by omega) (by omega)).2 h2), decide_eq_true h2]; rfl
      · rw [if_neg (fun t => h2 ((gn_lt (by omega) (by omega)).1 t)), decide_eq_false h2]; rfl
  | succ q ih =>
    intro i h
    have e1 : gLs mk (mk j) (i + 1) = gLs mk (mk j) i + if mk i < mk j then 1 else 0 := rfl
    have e2 : gEq mk (mk j) (i + 1) = gEq mk (mk j) i + if mk i = mk j then 1 else 0 := rfl
    have hI := ih (i + 1) (by omega)
    rw [e1, e2] at hI
    rw [q_Mo_ask_37]
    simp only [gK_N K, gK_8_0 K, gK_8_1 K, gK_8_2 K, gK_8_3 K, gK_8_4 K, gK_8_5 K, gK_8_6 K, gK_8_7 K, gK_8_8 K, gK_10_0 K, gK_10_1 K, gK_10_2 K, gK_11_0 K, gK_15_0 K, gK_15_1 K, gK_15_2 K, gK_15_3 K, gK_20_0 K, gK_20_1 K, gK_20_2 K, gK_20_3 K, gK_20_4 K, gK_20_5 K, gK_698_0 K, gK_698_3 K, gK_698_16 K, gK_698_17 K, gK_698_20 K, gK_698_21 K, gK_698_22 K, gK_698_23 K, gK_698_24 K, gK_698_25 K, gK_698_26 K, gK_698_27 K, gK_698_28 K, gK_698_29 K, gK_698_30 K, gK_698_31 K, gK_698_32 K, gK_698_33 K, gK_698_34 K, gK_698_35 K, gK_698_36 K, gK_698_37 K, gK_698_38 K, gK_698_39 K, gK_698_41 K, gK_698_42 K, gK_698_44 K, gK_c K, gK_d K, gK_n K, gK_p K, gok_8, gok_10, gok_11, gok_15, gok_20, gok_698, gok_699, goA_9, goA_12, goA_13, goA_14, goA_16, goA_17, goA_18, goA_19, goA_21, goA_22, goA_23, goA_24, goA_25, goA_26, goA_27, goA_28, goA_29, goA_30, goA_31, goA_732, goA_733, goA_734, goA_735, goA_736, goA_737, goA_738, goA_739, goA_740, goA_741, goA_742, goA_743, goA_744, goA_745, goA_746, goA_747, goA_748, goA_749, goA_750, goA_751, goA_752, goA_753, goA_754, goA_755, goA_756, goA_757, gN_wI, gR_wI, gL_wI, if_true, eq_self, gok_c K, gok_d K, gok_n K, gok_p K, gK_c_0 K, gK_c_1 K, gK_c_2 K, gK_c_3 K, gK_c_4 K, gK_c_5 K, gK_c_6 K, gK_c_7 K, gK_c_8 K, gK_c_9 K, gK_c_10 K, gK_c_11 K, gK_n_3 K, gK_n_4 K, gK_n_5 K, gK_n_6 K, gK_n_7 K, gK_n_8 K, gK_n_9 K, gK_n_10 K, gK_n_11 K, gK_n_12 K, gK_n_13 K, gK_n_14 K, gK_n_15 K, gK_n_16 K, gK_n_17 K, goA_c1 K, goA_c2 K, goA_c3 K, goA_c4 K, goA_c5 K, goA_c6 K, goA_c7 K, goA_c8 K, goA_c9 K, goA_c10 K, goA_c11 K, goA_c12 K, goA_n1 K, goA_n2 K, goA_n3 K, goA_n4 K, goA_n5 K, goA_n6 K, goA_n7 K, goA_n8 K, goA_n9 K, goA_n10 K, goA_n11 K, goA_n12 K, goA_n13 K, goA_n14 K, goA_n15 K, gS_n K S, gS_n5 K S, gS_n6 K S, gS_n7 K S, gS_n8 K S, gS_n9 K S, gS_n10 K S, gS_n11 K S, gS_n12 K S, gS_n13 K S, gS_n14 K S, gS_n15 K S, gS_732 S, gS_735 S, gS_736 S, gS_737 S, gS_738 S, gS_739 S, gS_740 S, gS_741 S, gS_742 S, gS_743 S, gS_744 S, gS_745 S, gS_746 S, gS_698_4 S, gS_698_14 S, gS_698_15 S, gS_698_18 S, gS_698_19 S]
    rw [hNe, if_pos ((gn_lt (by omega) (by omega)).2 (by omega)), gm6, gn_add, gn_in (by omega) (show 6 * r + i < 960 by omega), if_pos rfl, gn_nat (by omega), hm i (by omega)]
    simp only [gn_succ, Int32.add_zero]
    by_cases h1 : mk i < mk j
    · rw [if_pos h1]; rw [if_pos h1] at hI
      by_cases h2 : mk i = mk j
      · rw [if_pos h2]; rw [if_pos h2] at hI; exact hI
      · rw [if_neg h2]; rw [if_neg h2] at hI; exact hI
    · rw [if_neg h1]; rw [if_neg h1] at hI
      by_cases h2 : mk i = mk j
      · rw [if_pos h2]; rw [if_pos h2] at hI; exact hI
      · rw [if_neg h2]; rw [if_neg h2] at hI; exact hI
theorem c_ask_4 (K : gK c d n p m) (S : gSm n (gI m) s) (hr : r < 160) (hN : 1 ≤ N) (hN6 : N ≤ 6) (hNe : gCd n s 0 21 = Int32.ofNat N) (hm : ∀ j < 6, s 741 (6 * r + j) = mk j) : ∀ q j v4 v5 v6 v7, j + q = N → ∃ w4 w5 w6 w7, gd_Den (112, 4, [.ref 698, .int (Int32.ofNat r), .int (gMi mk N j), .int (Int32.ofNat j), v4, v5, v6, v7], [], m) = gd_Den (112, 155, [.ref 698, .int (Int32.ofNat r), .int (gMi mk N N), .int 0, w4, w5, w6, w7], [], m) := by
  intro q
  induction q with
  | zero =>
    intro j v4 v5 v6 v7 h
    have : j = N := by omega
    subst this
    refine ⟨v4, v5, v6, v7, ?_⟩
    rw [q_Mo_ask_4]
    simp only [gK_N K, gK_8_0 K, gK_8_1 K, gK_8_2 K, gK_8_3 K, gK_8_4 K, gK_8_5 K, gK_8_6 K, gK_8_7 K, gK_8_8 K, gK_10_0 K, gK_10_1 K, gK_10_2 K, gK_11_0 K, gK_15_0 K, gK_15_1 K, gK_15_2 K, gK_15_3 K, gK_20_0 K, gK_20_1 K, gK_20_2 K, gK_20_3 K, gK_20_4 K, gK_20_5 K, gK_698_0 K, gK_698_3 K, gK_698_16 K, gK_698_17 K, gK_698_20 K, gK_698_21 K, gK_698_22 K, gK_698_23 K, gK_698_24 K, gK_698_25 K, gK_698_26 K, gK_698_27 K, gK_698_28 K, gK_698_29 K, gK_698_30 K, gK_698_31 K, gK_698_32 K, gK_698_33 K, gK_698_34 K, gK_698_35 K, gK_698_36 K, gK_698_37 K, gK_698_38 K, gK_698_39 K, gK_698_41 K, gK_698_42 K, gK_698_44 K, gK_c K, gK_d K, gK_n K, gK_p K, gok_8, gok_10, gok_11, gok_15, gok_20, gok_698, gok_699, goA_9, goA_12, goA_13, goA_14, goA_16, goA_17, goA_18, goA_19, goA_21, goA_22, goA_23, goA_24, goA_25, goA_26, goA_27, goA_28, goA_29, goA_30, goA_31, goA_732, goA_733, goA_734, goA_735, goA_736, goA_737, goA_738, goA_739, goA_740, goA_741, goA_742, goA_743, goA_744, goA_745, goA_746, goA_747, goA_748, goA_749, goA_750, goA_751, goA_752, goA_753, goA_754, goA_755, goA_756, goA_757, gN_wI, gR_wI, gL_wI, if_true, eq_self, gok_c K, gok_d K, gok_n K, gok_p K, gK_c_0 K, gK_c_1 K, gK_c_2 K, gK_c_3 K, gK_c_4 K, gK_c_5 K, gK_c_6 K, gK_c_7 K, gK_c_8 K, gK_c_9 K, gK_c_10 K, gK_c_11 K, gK_n_3 K, gK_n_4 K, gK_n_5 K, gK_n_6 K, gK_n_7 K, gK_n_8 K, gK_n_9 K, gK_n_10 K, gK_n_11 K, gK_n_12 K, gK_n_13 K, gK_n_14 K, gK_n_15 K, gK_n_16 K, gK_n_17 K, goA_c1 K, goA_c2 K, goA_c3 K, goA_c4 K, goA_c5 K, goA_c6 K, goA_c7 K, goA_c8 K, goA_c9 K, goA_c10 K, goA_c11 K, goA_c12 K, goA_n1 K, goA_n2 K, goA_n3 K, goA_n4 K, goA_n5 K, goA_n6 K, goA_n7 K, goA_n8 K, goA_n9 K, goA_n10 K, goA_n11 K, goA_n12 K, goA_n13 K, goA_n14 K, goA_n15 K, gS_n K S, gS_n5 K S, gS_n6 K S, gS_n7 K S, gS_n8 K S, gS_n9 K S, gS_n10 K S, gS_n11 K S, gS_n12 K S, gS_n13 K S, gS_n14 K S, gS_n15 K S, gS_732 S, gS_735 S, gS_736 S, gS_737 S, gS_738 S, gS_739 S, gS_740 S, gS_741 S, gS_742 S, gS_743 S, gS_744 S, gS_745 S, gS_746 S, gS_698_4 S, gS_698_14 S, gS_698_15 S, gS_698_18 S, gS_698_19 S]
    rw [hNe, if_neg (fun t => by have := (gn_lt (by omega) (by omega)).1 t; omega)]
  | succ q ih =>
    intro j v4 v5 v6 v7 h
    obtain ⟨w4, w5, w6, w7, hw⟩ := ih (j + 1) (.int (mk j)) (.int (Int32.ofNat (gLs mk (mk j) N))) (.int (Int32.ofNat (gEq mk (mk j) N))) (.int (Int32.ofNat N)) (by omega)
    refine ⟨w4, w5, w6, w7, ?_⟩
    rw [q_Mo_ask_4]
    simp only [gK_N K, gK_8_0 K, gK_8_1 K, gK_8_2 K, gK_8_3 K, gK_8_4 K, gK_8_5 K, gK_8_6 K, gK_8_7 K, gK_8_8 K, gK_10_0 K, gK_10_1 K, gK_10_2 K, gK_11_0 K, gK_15_0 K, gK_15_1 K, gK_15_2 K, gK_15_3 K, gK_20_0 K, gK_20_1 K, gK_20_2 K, gK_20_3 K, gK_20_4 K, gK_20_5 K, gK_698_0 K, gK_698_3 K, gK_698_16 K, gK_698_17 K, gK_698_20 K, gK_698_21 K, gK_698_22 K, gK_698_23 K, gK_698_24 K, gK_698_25 K, gK_698_26 K, gK_698_27 K, gK_698_28 K, gK_698_29 K, gK_698_30 K, gK_698_31 K, gK_698_32 K, gK_698_33 K, gK_698_34 K, gK_698_35 K, gK_698_36 K, gK_698_37 K, gK_698_38 K, gK_698_39 K, gK_698_41 K, gK_698_42 K, gK_698_44 K, gK_c K, gK_d K, gK_n K, gK_p K, gok_8, gok_10, gok_11, gok_15, gok_20, gok_698, gok_699, goA_9, goA_12, goA_13, goA_14, goA_16, goA_17, goA_18, goA_19, goA_21, goA_22, goA_23, goA_24, goA_25, goA_26, goA_27, goA_28, goA_29, goA_30, goA_31, goA_732, goA_733, goA_734, goA_735, goA_736, goA_737, goA_738, goA_739, goA_740, goA_741, goA_742, goA_743, goA_744, goA_745, goA_746, goA_747, goA_748, goA_749, goA_750, goA_751, goA_752, goA_753, goA_754, goA_755, goA_756, goA_757, gN_wI, gR_wI, gL_wI, if_true, eq_self, gok_c K, gok_d K, gok_n K, gok_p K, gK_c_0 K, gK_c_1 K, gK_c_2 K, gK_c_3 K, gK_c_4 K, gK_c_5 K, gK_c_6 K, gK_c_7 K, gK_c_8 K, gK_c_9 K, gK_c_10 K, gK_c_11 K, gK_n_3 K, gK_n_4 K, gK_n_5 K, gK_n_6 K, gK_n_7 K, gK_n_8 K, gK_n_9 K, gK_n_10 K, gK_n_11 K, gK_n_12 K, gK_n_13 K, gK_n_14 K, gK_n_15 K, gK_n_16 K, gK_n_17 K, goA_c1 K, goA_c2 K, goA_c3 K, goA_c4 K, goA_c5 K, goA_c6 K, goA_c7 K, goA_c8 K, goA_c9 K, goA_c10 K, goA_c11 K, goA_c12 K, goA_n1 K, goA_n2 K, goA_n3 K, goA_n4 K, goA_n5 K, goA_n6 K, goA_n7 K, goA_n8 K, goA_n9 K, goA_n10 K, goA_n11 K, goA_n12 K, goA_n13 K, goA_n14 K, goA_n15 K, gS_n K S, gS_n5 K S, gS_n6 K S, gS_n7 K S, gS_n8 K S, gS_n9 K S, gS_n10 K S, gS_n11 K S, gS_n12 K S, gS_n13 K S, gS_n14 K S, gS_n15 K S, gS_732 S, gS_735 S, gS_736 S, gS_737 S, gS_738 S, gS_739 S, gS_740 S, gS_741 S, gS_742 S, gS_743 S, gS_744 S, gS_745 S, gS_746 S, gS_698_4 S, gS_698_14 S, gS_698_15 S, gS_698_18 S, gS_698_19 S]
    rw [hNe, if_pos ((gn_lt (by omega) (by omega)).2 (by omega)), gm6, gn_add, gn_in (by omega) (show 6 * r + j < 960 by omega), if_pos rfl, gn_nat (by omega), hm j (by omega)]
    have e1 := c_ask_37 K S hr hN hN6 hNe hm (show j < N by omega) (x2 := gMi mk N j) N 0 (by omega)
    rw [show gLs mk (mk j) 0 = 0 from rfl, show gEq mk (mk j) 0 = 0 from rfl, gn_0] at e1
    rw [e1]
    exact hw
theorem c_ask_155 (hr : r < 160) (hN6 : N ≤ 6) (hNe : gCd n s 0 21 = Int32.ofNat N) (hm : ∀ j < 6, s 741 (6 * r + j) = mk j) {mid a : Int32} : ∀ q j (m : gd_M) v4 v5 v6 v7, j + q = N → gK c d n p m → gSm n (gI m) s → gd_Den (112, 155, [.ref 698, .int (Int32.ofNat r), .int mid, .int (Int32.ofNat j), v4, v5, v6, v7], [], wI m 743 r (gAk mk mid (gCd n s 0 22) a j)) = some (.null, wI m 743 r (gAk mk mid (gCd n s 0 22) a N)) := by
  intro q
  induction q with
  | zero =>
    intro j m v4 v5 v6 v7 h K S
    have : j = N := by omega
    subst this
    have hn := gK_n1 K
    rw [q_Mo_ask_155]
    simp only [gK_N K, gK_8_0 K, gK_8_1 K, gK_8_2 K, gK_8_3 K, gK_8_4 K, gK_8_5 K, gK_8_6 K, gK_8_7 K, gK_8_8 K, gK_10_0 K, gK_10_1 K, gK_10_2 K, gK_11_0 K, gK_15_0 K, gK_15_1 K, gK_15_2 K, gK_15_3 K, gK_20_0 K, gK_20_1 K, gK_20_2 K, gK_20_3 K, gK_20_4 K, gK_20_5 K, gK_698_0 K, gK_698_3 K, gK_698_16 K, gK_698_17 K, gK_698_20 K, gK_698_21 K, gK_698_22 K, gK_698_23 K, gK_698_24 K, gK_698_25 K, gK_698_26 K, gK_698_27 K, gK_698_28 K, gK_698_29 K, gK_698_30 K, gK_698_31 K, gK_698_32 K, gK_698_33 K, gK_698_34 K, gK_698_35 K, gK_698_36 K, gK_698_37 K, gK_698_38 K, gK_698_39 K, gK_698_41 K, gK_698_42 K, gK_698_44 K, gK_c K, gK_d K, gK_n K, gK_p K, gok_8, gok_10, gok_11, gok_15, gok_20, gok_698, gok_699, goA_9, goA_12, goA_13, goA_14, goA_16, goA_17, goA_18, goA_19, goA_21, goA_22, goA_23, goA_24, goA_25, goA_26, goA_27, goA_28, goA_29, goA_30, goA_31, goA_732, goA_733, goA_734, goA_735, goA_736, goA_737, goA_738, goA_739, goA_740, goA_741, goA_742, goA_743, goA_744, goA_745, goA_746, goA_747, goA_748, goA_749, goA_750, goA_751, goA_752, goA_753, goA_754, goA_755, goA_756, goA_757, gN_wI, gR_wI, gL_wI, if_true, eq_self]
    rw [gI_wI_a (show n ≠ 743 by omega), gS_n K S, hNe, gok_n K, if_pos rfl, if_neg (fun t => by have := (gn_lt (by omega) (by omega)).1 t; omega)]
  | succ q ih =>
    intro j m v4 v5 v6 v7 h K S
    have hn := gK_n1 K
    have hI := ih (j + 1) m (.int (mk j)) v5 v6 v7 (by omega) K S
    have e1 : gAk mk mid (gCd n s 0 22) a (j + 1) = if gSy mk mid (gCd n s 0 22) j = true then gAk mk mid (gCd n s 0 22) a j ||| ((1 : Int32) <<< (Int32.ofNat j &&& 31)) else gAk mk mid (gCd n s 0 22) a j := rfl
    rw [q_Mo_ask_155]
    simp only [gK_N K, gK_8_0 K, gK_8_1 K, gK_8_2 K, gK_8_3 K, gK_8_4 K, gK_8_5 K, gK_8_6 K, gK_8_7 K, gK_8_8 K, gK_10_0 K, gK_10_1 K, gK_10_2 K, gK_11_0 K, gK_15_0 K, gK_15_1 K, gK_15_2 K, gK_15_3 K, gK_20_0 K, gK_20_1 K, gK_20_2 K, gK_20_3 K, gK_20_4 K, gK_20_5 K, gK_698_0 K, gK_698_3 K, gK_698_16 K, gK_698_17 K, gK_698_20 K, gK_698_21 K, gK_698_22 K, gK_698_23 K, gK_698_24 K, gK_698_25 K, gK_698_26 K, gK_698_27 K, gK_698_28 K, gK_698_29 K, gK_698_30 K, gK_698_31 K, gK_698_32 K, gK_698_33 K, gK_698_34 K, gK_698_35 K, gK_698_36 K, gK_698_37 K, gK_698_38 K, gK_698_39 K, gK_698_41 K, gK_698_42 K, gK_698_44 K, gK_c K, gK_d K, gK_n K, gK_p K, gok_8, gok_10, gok_11, gok_15, gok_20, gok_698, gok_699, goA_9, goA_12, goA_13, goA_14, goA_16, goA_17, goA_18, goA_19, goA_21, goA_22, goA_23, goA_24, goA_25, goA_26, goA_27, goA_28, goA_29, goA_30, goA_31, goA_732, goA_733, goA_734, goA_735, goA_736, goA_737, goA_738, goA_739, goA_740, goA_741, goA_742, goA_743, goA_744, goA_745, goA_746, goA_747, goA_748, goA_749, goA_750, goA_751, goA_752, goA_753, goA_754, goA_755, goA_756, goA_757, gN_wI, gR_wI, gL_wI, if_true, eq_self]
    rw [gI_wI_a (show n ≠ 743 by omega), gI_wI_a (show n ≠ 743 by omega), gS_n K S, gS_n K S, hNe, gok_n K, if_pos rfl, if_pos ((gn_lt (by omega) (by omega)).2 (by omega)), gm6, gn_add, gn_in (by omega) (show 6 * r + j < 960 by omega), if_pos rfl, gn_nat (show 6 * r + j < 2147483648 by omega), gI_wI_a (by decide), gS_741 S, hm j (by omega), gn_in (by omega) hr, if_pos rfl, gn_nat (show r < 2147483648 by omega), gI_wI_s, wI_wI, gn_succ]
    unfold gSy at e1
    by_cases h1 : gCd n s 0 22 < mk j - mid
    · rw [decide_eq_true h1, Bool.true_or, if_pos rfl] at e1
      rw [if_pos h1, ← e1]; exact hI
    · rw [if_neg h1]
      rw [decide_eq_false h1, Bool.false_or] at e1
      by_cases h2 : gCd n s 0 22 < mid - mk j
      · rw [decide_eq_true h2, if_pos rfl] at e1
        rw [if_pos h2, ← e1]; exact hI
      · rw [decide_eq_false h2, if_neg Bool.false_ne_true] at e1
        rw [if_neg h2, ← e1]; exact hI
theorem c_ask (K : gK c d n p m) (S : gSm n (gI m) s) (hr : r < 160) (hN : 1 ≤ N) (hN6 : N ≤ 6) (hNe : gCd n s 0 21 = Int32.ofNat N) (hm : ∀ j < 6, s 741 (6 * r + j) = mk j) : gd_call 112 [.ref 698, .int (Int32.ofNat r)] m = some (.null, wI m 743 r (gAk mk (gMi mk N N) (gCd n s 0 22) (gI m 743 r) N)) := by
  obtain ⟨w4, w5, w6, w7, hw⟩ := c_ask_4 K S hr hN hN6 hNe hm N 0 .null .null .null .null (by omega)
  have := c_ask_155 (c := c) (d := d) (p := p) hr hN6 hNe hm (mid := gMi mk N N) (a := gI m 743 r) N 0 m w4 w5 w6 w7 (by omega) K S
  rw [show gAk mk (gMi mk N N) (gCd n s 0 22) (gI m 743 r) 0 = gI m 743 r from rfl, wI_id] at this
  rw [q_Mo_ask]
  exact hw.trans this
end P74
