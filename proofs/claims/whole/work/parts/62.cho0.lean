/-! ===== counting and repeats, class ===== -/
theorem bC_le {e : Nat → Int32} : ∀ k, bC e k ≤ k := by
  intro k
  induction k with
  | zero => exact Nat.le_refl 0
  | succ k ih =>
    show (if bC e k = k ∧ e k ≠ -1 then k + 1 else bC e k) ≤ k + 1
    by_cases h : bC e k = k ∧ e k ≠ -1
    · rw [if_pos h]; exact Nat.le_refl _
    · rw [if_neg h]; omega
theorem bC_stop {e : Nat → Int32} {i : Nat} (h : bC e i = i) (h2 : e i = -1) : ∀ j, bC e (i + j) = i := by
  intro j
  induction j with
  | zero => exact h
  | succ j ih =>
    show (if bC e (i + j) = i + j ∧ e (i + j) ≠ -1 then i + j + 1 else bC e (i + j)) = i
    rw [if_neg, ih]
    intro q
    have q1 := q.1
    rw [ih] at q1
    have : j = 0 := by omega
    subst this
    exact q.2 h2
theorem bC_ne {e : Nat → Int32} : ∀ k i, i < bC e k → e i ≠ -1 := by
  intro k
  induction k with
  | zero => intro i h; exact absurd h (Nat.not_lt_zero i)
  | succ k ih =>
    intro i h
    have h : i < (if bC e k = k ∧ e k ≠ -1 then k + 1 else bC e k) := h
    by_cases q : bC e k = k ∧ e k ≠ -1
    · rw [if_pos q] at h
      by_cases e1 : i = k
      · rw [e1]; exact q.2
      · exact ih i (by rw [q.1]; omega)
    · rw [if_neg q] at h
      exact ih i h
/-- an entry that stands ahead of every torn one is a part -/
def eOk (A : gd_C) (e : Nat → Int32) (l : Nat) : Prop := l ≤ 16 ∧ ∀ i < l, e i = -1 ∨ ∃ k < gn (A 0 0), e i = Int32.ofNat k
theorem eOk_p {A : gd_C} {e : Nat → Int32} {l : Nat} (h : eOk A e l) {i : Nat} (hi : i < bC e l) : i < l ∧ i < 16 ∧ ∃ k < gn (A 0 0), e i = Int32.ofNat k := by
  have h1 := bC_le (e := e) l
  have h2 := h.1
  refine ⟨by omega, by omega, ?_⟩
  rcases h.2 i (by omega) with q | q
  · exact absurd q (bC_ne l i hi)
  · exact q
theorem gb_tst2 {x : Int32} {a : Nat} (h : a < 32) : (x &&& ((1 : Int32) <<< (Int32.ofNat a &&& 31)) = 0) ↔ gb x a = false := by
  constructor
  · intro q
    have := congrArg (fun y => gb y a) q
    simp only [gb_and, gb_bit h, gb_zero, decide_true, Bool.and_true] at this
    exact this
  · intro q
    refine gb_ext fun i hi => ?_
    rw [gb_and, gb_bit h, gb_zero]
    by_cases e : i = a
    · rw [e, q]; rfl
    · rw [decide_eq_false e, Bool.and_false]
theorem gOr0 {x : Int32} : x ||| 0 = x := gb_ext fun i _ => by rw [gb_or', gb_zero, Bool.or_false]
theorem any_range {f : Nat → Bool} {i : Nat} : (List.range (i + 1)).any f = ((List.range i).any f || f i) := by
  rw [List.range_succ, List.any_append]; simp
section P62
variable {c d n p : Nat} {m : gd_M} {A : gd_C} {r l : Nat} {e : Nat → Int32}
theorem c_counting_2 (K : gK c d n p m) (hr : r < 160) (hl : gI m (58 + 4 * r) 6 = Int32.ofNat l) (he : ∀ i < 16, gI m (59 + 4 * r) i = e i) (hE : eOk A e l) : ∀ j i, i + j = l → bC e i = i → gd_Den (122, 2, [.ref (58 + 4 * r), .int (Int32.ofNat i)], [], m) = some (.int (Int32.ofNat (bC e l)), m) := by
  have h16 := hE.1
  intro j
  induction j with
  | zero =>
    intro i h hi
    have : i = l := by omega
    subst this
    rw [q_Ro_counting_2]
    simp only [gK_N K, gK_8_0 K, gK_8_1 K, gK_8_2 K, gK_8_3 K, gK_8_4 K, gK_8_5 K, gK_8_6 K, gK_8_7 K, gK_8_8 K, gK_10_0 K, gK_10_1 K, gK_10_2 K, gK_11_0 K, gK_15_0 K, gK_15_1 K, gK_15_2 K, gK_15_3 K, gK_20_0 K, gK_20_1 K, gK_20_2 K, gK_20_3 K, gK_20_4 K, gK_20_5 K, gK_698_0 K, gK_698_3 K, gK_698_16 K, gK_698_17 K, gK_698_20 K, gK_698_21 K, gK_698_22 K, gK_698_23 K, gK_698_24 K, gK_698_25 K, gK_698_26 K, gK_698_27 K, gK_698_28 K, gK_698_29 K, gK_698_30 K, gK_698_31 K, gK_698_32 K, gK_698_33 K, gK_698_34 K, gK_698_35 K, gK_698_36 K, gK_698_37 K, gK_698_38 K, gK_698_39 K, gK_698_41 K, gK_698_42 K, gK_698_44 K, gK_c K, gK_d K, gK_n K, gK_p K, gok_8, gok_10, gok_11, gok_15, gok_20, gok_698, gok_699, goA_9, goA_12, goA_13, goA_14, goA_16, goA_17, goA_18, goA_19, goA_21, goA_22, goA_23, goA_24, goA_25, goA_26, goA_27, goA_28, goA_29, goA_30, goA_31, goA_732, goA_733, goA_734, goA_735, goA_736, goA_737, goA_738, goA_739, goA_740, goA_741, goA_742, goA_743, goA_744, goA_745, goA_746, goA_747, goA_748, goA_749, goA_750, goA_751, goA_752, goA_753, goA_754, goA_755, goA_756, goA_757, gN_wI, gR_wI, gL_wI, if_true, eq_self, gK_row K hr, gK_ent K hr, gK_mrk K hr, gK_sen K hr, gok_row hr, goA_ent hr, goA_mrk hr, goA_sen hr, gd_row0, gd_row8, if_false, hl]
    rw [if_neg (fun q => by have := (gn_lt (by omega) (by omega)).1 q; omega), hi]
  | succ j ih =>
    intro i h hi
    rw [q_Ro_counting_2]
    simp only [gK_N K, gK_8_0 K, gK_8_1 K, gK_8_2 K, gK_8_3 K, gK_8_4 K, gK_8_5 K, gK_8_6 K, gK_8_7 K, gK_8_8 K, gK_10_0 K, gK_10_1 K, gK_10_2 K, gK_11_0 K, gK_15_0 K, gK_15_1 K, gK_15_2 K, gK_15_3 K, gK_20_0 K, gK_20_1 K, gK_20_2 K, gK_20_3 K, gK_20_4 K, gK_20_5 K, gK_698_0 K, gK_698_3 K, gK_698_16 K, gK_698_17 K, gK_698_20 K, gK_698_21 K, gK_698_22 K, gK_698_23 K, gK_698_24 K, gK_698_25 K, gK_698_26 K, gK_698_27 K, gK_698_28 K, gK_698_29 K, gK_698_30 K, gK_698_31 K, gK_698_32 K, gK_698_33 K, gK_698_34 K, gK_698_35 K, gK_698_36 K, gK_698_37 K, gK_698_38 K, gK_698_39 K, gK_698_41 K, gK_698_42 K, gK_698_44 K, gK_c K, gK_d K, gK_n K, gK_p K, gok_8, gok_10, gok_11, gok_15, gok_20, gok_698, gok_699, goA_9, goA_12, goA_13, goA_14, goA_16, goA_17, goA_18, goA_19, goA_21, goA_22, goA_23, goA_24, goA_25, goA_26, goA_27, goA_28, goA_29, goA_30, goA_31, goA_732, goA_733, goA_734, goA_735, goA_736, goA_737, goA_738, goA_739, goA_740, goA_741, goA_742, goA_743, goA_744, goA_745, goA_746, goA_747, goA_748, goA_749, goA_750, goA_751, goA_752, goA_753, goA_754, goA_755, goA_756, goA_757, gN_wI, gR_wI, gL_wI, if_true, eq_self, gK_row K hr, gK_ent K hr, gK_mrk K hr, gK_sen K hr, gok_row hr, goA_ent hr, goA_mrk hr, goA_sen hr, gd_row0, gd_row8, if_false, hl]
    rw [if_pos ((gn_lt (by omega) (by omega)).2 (by omega)), gn_in (by omega) (by omega), if_pos rfl, gn_nat (by omega), he i (by omega), gn_succ]
    by_cases h1 : e i = -1
    · rw [if_pos h1]
      have := bC_stop hi h1 (j + 1)
      rw [h] at this
      rw [this]
    · rw [if_neg h1]
      refine ih (i + 1) (by omega) ?_
      show (if bC e i = i ∧ e i ≠ -1 then i + 1 else bC e i) = i + 1
      rw [if_pos ⟨hi, h1⟩]
theorem c_counting (K : gK c d n p m) (hr : r < 160) (hl : gI m (58 + 4 * r) 6 = Int32.ofNat l) (he : ∀ i < 16, gI m (59 + 4 * r) i = e i) (hE : eOk A e l) : gd_call 122 [.ref (58 + 4 * r)] m = some (.int (Int32.ofNat (bC e l)), m) := by
  rw [q_Ro_counting]
  exact c_counting_2 K hr hl he hE l 0 (by omega) rfl
theorem c_hasPart (K : gK c d n p m) {N : Nat} (hp : gI m c 12 = Int32.ofNat N) (x : Int32) : gd_call 85 [.ref c, .int x] m = some (.int (gB (gIs N x)), m) := by
  rw [q_Co_hasPart]
  simp only [gK_N K, gK_8_0 K, gK_8_1 K, gK_8_2 K, gK_8_3 K, gK_8_4 K, gK_8_5 K, gK_8_6 K, gK_8_7 K, gK_8_8 K, gK_10_0 K, gK_10_1 K, gK_10_2 K, gK_11_0 K, gK_15_0 K, gK_15_1 K, gK_15_2 K, gK_15_3 K, gK_20_0 K, gK_20_1 K, gK_20_2 K, gK_20_3 K, gK_20_4 K, gK_20_5 K, gK_698_0 K, gK_698_3 K, gK_698_16 K, gK_698_17 K, gK_698_20 K, gK_698_21 K, gK_698_22 K, gK_698_23 K, gK_698_24 K, gK_698_25 K, gK_698_26 K, gK_698_27 K, gK_698_28 K, gK_698_29 K, gK_698_30 K, gK_698_31 K, gK_698_32 K, gK_698_33 K, gK_698_34 K, gK_698_35 K, gK_698_36 K, gK_698_37 K, gK_698_38 K, gK_698_39 K, gK_698_41 K, gK_698_42 K, gK_698_44 K, gK_c K, gK_d K, gK_n K, gK_p K, gok_8, gok_10, gok_11, gok_15, gok_20, gok_698, gok_699, goA_9, goA_12, goA_13, goA_14, goA_16, goA_17, goA_18, goA_19, goA_21, goA_22, goA_23, goA_24, goA_25, goA_26, goA_27, goA_28, goA_29, goA_30, goA_31, goA_732, goA_733, goA_734, goA_735, goA_736, goA_737, goA_738, goA_739, goA_740, goA_741, goA_742, goA_743, goA_744, goA_745, goA_746, goA_747, goA_748, goA_749, goA_750, goA_751, goA_752, goA_753, goA_754, goA_755, goA_756, goA_757, gN_wI, gR_wI, gL_wI, if_true, eq_self, gok_c K, gok_d K, gok_n K, gok_p K, gK_c_0 K, gK_c_1 K, gK_c_2 K, gK_c_3 K, gK_c_4 K, gK_c_5 K, gK_c_6 K, gK_c_7 K, gK_c_8 K, gK_c_9 K, gK_c_10 K, gK_c_11 K, gK_n_3 K, gK_n_4 K, gK_n_5 K, gK_n_6 K, gK_n_7 K, gK_n_8 K, gK_n_9 K, gK_n_10 K, gK_n_11 K, gK_n_12 K, gK_n_13 K, gK_n_14 K, gK_n_15 K, gK_n_16 K, gK_n_17 K, goA_c1 K, goA_c2 K, goA_c3 K, goA_c4 K, goA_c5 K, goA_c6 K, goA_c7 K, goA_c8 K, goA_c9 K, goA_c10 K, goA_c11 K, goA_c12 K, goA_n1 K, goA_n2 K, goA_n3 K, goA_n4 K, goA_n5 K, goA_n6 K, goA_n7 K, goA_n8 K, goA_n9 K, goA_n10 K, goA_n11 K, goA_n12 K, goA_n13 K, goA_n14 K, goA_n15 K, hp]
  rw [gIs_i]; cases gIs N x <;> rfl
theorem c_repeats_13 (K : gK c d n p m) (hr : r < 160) (Cd : cCd c (gI m) A) (Id : iCd A) (he : ∀ i < 16, gI m (59 + 4 * r) i = e i) (hE : eOk A e l) : ∀ j i x y v6 v7, i + j = bC e l → (∀ k < 32, gb x k = (List.range i).any fun q => decide (A 7 (gn (e q)) = Int32.ofNat k)) → (∀ k, gb y k = (decide (k < i) && bRep A e k)) → ∃ z, gd_Den (123, 13, [.ref (58 + 4 * r), .ref c, .int (Int32.ofNat (bC e l)), .int x, .int y, .int (Int32.ofNat i), v6, v7], [], m) = some (.int z, m) ∧ ∀ k, gb z k = (decide (k < bC e l) && bRep A e k) := by
  have h16 := hE.1
  have hCl := bC_le (e := e) l
  obtain ⟨N, -, hN, hNe⟩ := iCd_pts Id
  have hgN : gn (A 0 0) = N := by rw [hNe, gn_of (by omega)]
  intro j
  induction j with
  | zero =>
    intro i x y v6 v7 h hx hy
    have : i = bC e l := by omega
    subst this
    refine ⟨y, ?_, hy⟩
    rw [q_Ro_repeats_13, if_neg (fun q => by have := (gn_lt (by omega) (by omega)).1 q; omega)]
  | succ j ih =>
    intro i x y v6 v7 h hx hy
    obtain ⟨-, hi, k, hk, hek⟩ := eOk_p hE (show i < bC e l by omega)
    rw [hgN] at hk
    obtain ⟨κ, hκ, hκe⟩ := iCd_knd Id k (by omega)
    rw [hgN] at hκ
    have hkd : gI m (c + 3) k = Int32.ofNat κ := by rw [cCd_knd Cd k (by omega), hκe]
    have hgk : gn (e i) = k := by rw [hek, gn_of (by omega)]
    rw [q_Ro_repeats_13, if_pos ((gn_lt (by omega) (by omega)).2 (by omega))]
    simp only [gK_N K, gK_8_0 K, gK_8_1 K, gK_8_2 K, gK_8_3 K, gK_8_4 K, gK_8_5 K, gK_8_6 K, gK_8_7 K, gK_8_8 K, gK_10_0 K, gK_10_1 K, gK_10_2 K, gK_11_0 K, gK_15_0 K, gK_15_1 K, gK_15_2 K, gK_15_3 K, gK_20_0 K, gK_20_1 K, gK_20_2 K, gK_20_3 K, gK_20_4 K, gK_20_5 K, gK_698_0 K, gK_698_3 K, gK_698_16 K, gK_698_17 K, gK_698_20 K, gK_698_21 K, gK_698_22 K, gK_698_23 K, gK_698_24 K, gK_698_25 K, gK_698_26 K, gK_698_27 K, gK_698_28 K, gK_698_29 K, gK_698_30 K, gK_698_31 K, gK_698_32 K, gK_698_33 K, gK_698_34 K, gK_698_35 K, gK_698_36 K, gK_698_37 K, gK_698_38 K, gK_698_39 K, gK_698_41 K, gK_698_42 K, gK_698_44 K, gK_c K, gK_d K, gK_n K, gK_p K, gok_8, gok_10, gok_11, gok_15, gok_20, gok_698, gok_699, goA_9, goA_12, goA_13, goA_14, goA_16, goA_17, goA_18, goA_19, goA_21, goA_22, goA_23, goA_24, goA_25, goA_26, goA_27, goA_28, goA_29, goA_30, goA_31, goA_732, goA_733, goA_734, goA_735, goA_736, goA_737, goA_738, goA_739, goA_740, goA_741, goA_742, goA_743, goA_744, goA_745, goA_746, goA_747, goA_748, goA_749, goA_750, goA_751, goA_752, goA_753, goA_754, goA_755, goA_756, goA_757, gN_wI, gR_wI, gL_wI, if_true, eq_self, gok_c K, gok_d K, gok_n K, gok_p K, gK_c_0 K, gK_c_1 K, gK_c_2 K, gK_c_3 K, gK_c_4 K, gK_c_5 K, gK_c_6 K, gK_c_7 K, gK_c_8 K, gK_c_9 K, gK_c_10 K, gK_c_11 K, gK_n_3 K, gK_n_4 K, gK_n_5 K, gK_n_6 K, gK_n_7 K, gK_n_8 K, gK_n_9 K, gK_n_10 K, gK_n_11 K, gK_n_12 K, gK_n_13 K, gK_n_14 K, gK_n_15 K, gK_n_16 K, gK_n_17 K, goA_c1 K, goA_c2 K, goA_c3 K, goA_c4 K, goA_c5 K, goA_c6 K, goA_c7 K, goA_c8 K, goA_c9 K, goA_c10 K, goA_c11 K, goA_c12 K, goA_n1 K, goA_n2 K, goA_n3 K, goA_n4 K, goA_n5 K, goA_n6 K, goA_n7 K, goA_n8 K, goA_n9 K, goA_n10 K, goA_n11 K, goA_n12 K, goA_n13 K, goA_n14 K, goA_n15 K, gK_row K hr, gK_ent K hr, gK_mrk K hr, gK_sen K hr, gok_row hr, goA_ent hr, goA_mrk hr, goA_sen hr, gd_row0, gd_row8, if_false]
    rw [gn_in (by omega) hi, if_pos rfl, gn_nat (by omega), he i hi, hek, c_hasPart K (cCd_pts Cd |>.trans hNe)]
    simp only [gK_N K, gK_8_0 K, gK_8_1 K, gK_8_2 K, gK_8_3 K, gK_8_4 K, gK_8_5 K, gK_8_6 K, gK_8_7 K, gK_8_8 K, gK_10_0 K, gK_10_1 K, gK_10_2 K, gK_11_0 K, gK_15_0 K, gK_15_1 K, gK_15_2 K, gK_15_3 K, gK_20_0 K, gK_20_1 K, gK_20_2 K, gK_20_3 K, gK_20_4 K, gK_20_5 K, gK_698_0 K, gK_698_3 K, gK_698_16 K, gK_698_17 K, gK_698_20 K, gK_698_21 K, gK_698_22 K, gK_698_23 K, gK_698_24 K, gK_698_25 K, gK_698_26 K, gK_698_27 K, gK_698_28 K, gK_698_29 K, gK_698_30 K, gK_698_31 K, gK_698_32 K, gK_698_33 K, gK_698_34 K, gK_698_35 K, gK_698_36 K, gK_698_37 K, gK_698_38 K, gK_698_39 K, gK_698_41 K, gK_698_42 K, gK_698_44 K, gK_c K, gK_d K, gK_n K, gK_p K, gok_8, gok_10, gok_11, gok_15, gok_20, gok_698, gok_699, goA_9, goA_12, goA_13, goA_14, goA_16, goA_17, goA_18, goA_19, goA_21, goA_22, goA_23, goA_24, goA_25, goA_26, goA_27, goA_28, goA_29, goA_30, goA_31, goA_732, goA_733, goA_734, goA_735, goA_736, goA_737, goA_738, goA_739, goA_740, goA_741, goA_742, goA_743, goA_744, goA_745, goA_746, goA_747, goA_748, goA_749, goA_750, goA_751, goA_752, goA_753, goA_754, goA_755, goA_756, goA_757, gN_wI, gR_wI, gL_wI, if_true, eq_self, gok_c K, gok_d K, gok_n K, gok_p K, gK_c_0 K, gK_c_1 K, gK_c_2 K, gK_c_3 K, gK_c_4 K, gK_c_5 K, gK_c_6 K, gK_c_7 K, gK_c_8 K, gK_c_9 K, gK_c_10 K, gK_c_11 K, gK_n_3 K, gK_n_4 K, gK_n_5 K, gK_n_6 K, gK_n_7 K, gK_n_8 K, gK_n_9 K, gK_n_10 K, gK_n_11 K, gK_n_12 K, gK_n_13 K, gK_n_14 K, gK_n_15 K, gK_n_16 K, gK_n_17 K, goA_c1 K, goA_c2 K, goA_c3 K, goA_c4 K, goA_c5 K, goA_c6 K, goA_c7 K, goA_c8 K, goA_c9 K, goA_c10 K, goA_c11 K, goA_c12 K, goA_n1 K, goA_n2 K, goA_n3 K, goA_n4 K, goA_n5 K, goA_n6 K, goA_n7 K, goA_n8 K, goA_n9 K, goA_n10 K, goA_n11 K, goA_n12 K, goA_n13 K, goA_n14 K, goA_n15 K, Option.bind_some, gd_kI_i]
    rw [gIs_y (by omega) hk, if_neg (by decide), gn_in (by omega) (show k < 30 by omega), if_pos rfl, gn_nat (by omega), hkd, gn_succ]
    have hrep : bRep A e i = gb x κ := by
      rw [hx κ (by omega)]
      unfold bRep
      rw [hgk, hκe]
    have hx' : ∀ q < 32, gb (x ||| ((1 : Int32) <<< (Int32.ofNat κ &&& 31))) q = (List.range (i + 1)).any fun t => decide (A 7 (gn (e t)) = Int32.ofNat q) := fun q hq32 => by
      rw [any_range, gb_or (by omega), hx q hq32, hgk, hκe]
      congr 1
      by_cases hq : q = κ
      · rw [hq, decide_eq_true rfl, decide_eq_true rfl]
      · rw [decide_eq_false hq, decide_eq_false (fun t => hq ((gn_eq (by omega) (by omega)).1 t).symm)]
    by_cases hb : gb x κ = false
    · rw [if_pos ((gb_tst2 (by omega)).2 hb)]
      refine ih (i + 1) _ y _ _ (by omega) hx' fun q => ?_
      rw [hy q]
      by_cases hq : q = i
      · rw [hq, hrep, hb, Bool.and_false, Bool.and_false]
      · rw [show decide (q < i + 1) = decide (q < i) from by by_cases h1 : q < i <;> simp <;> omega]
    · rw [if_neg (fun t => hb ((gb_tst2 (by omega)).1 t))]
      refine ih (i + 1) _ _ _ _ (by omega) hx' fun q => ?_
      rw [gb_or (by omega), hy q]
      by_cases hq : q = i
      · rw [hq, hrep, decide_eq_true rfl, Bool.or_true, decide_eq_true (Nat.lt_succ_self i)]
        rw [Bool.not_eq_false] at hb
        rw [hb]; rfl
      · rw [decide_eq_false hq, Bool.or_false, show decide (q < i + 1) = decide (q < i) from by by_cases h1 : q < i <;> simp <;> omega]
theorem c_repeats (K : gK c d n p m) (hr : r < 160) (Cd : cCd c (gI m) A) (Id : iCd A) (hl : gI m (58 + 4 * r) 6 = Int32.ofNat l) (he : ∀ i < 16, gI m (59 + 4 * r) i = e i) (hE : eOk A e l) : ∃ z, gd_call 123 [.ref (58 + 4 * r), .ref c] m = some (.int z, m) ∧ ∀ k, gb z k = (decide (k < bC e l) && bRep A e k) := by
  rw [q_Ro_repeats, c_counting K hr hl he hE]
  simp only [gK_N K, gK_8_0 K, gK_8_1 K, gK_8_2 K, gK_8_3 K, gK_8_4 K, gK_8_5 K, gK_8_6 K, gK_8_7 K, gK_8_8 K, gK_10_0 K, gK_10_1 K, gK_10_2 K, gK_11_0 K, gK_15_0 K, gK_15_1 K, gK_15_2 K, gK_15_3 K, gK_20_0 K, gK_20_1 K, gK_20_2 K, gK_20_3 K, gK_20_4 K, gK_20_5 K, gK_698_0 K, gK_698_3 K, gK_698_16 K, gK_698_17 K, gK_698_20 K, gK_698_21 K, gK_698_22 K, gK_698_23 K, gK_698_24 K, gK_698_25 K, gK_698_26 K, gK_698_27 K, gK_698_28 K, gK_698_29 K, gK_698_30 K, gK_698_31 K, gK_698_32 K, gK_698_33 K, gK_698_34 K, gK_698_35 K, gK_698_36 K, gK_698_37 K, gK_698_38 K, gK_698_39 K, gK_698_41 K, gK_698_42 K, gK_698_44 K, gK_c K, gK_d K, gK_n K, gK_p K, gok_8, gok_10, gok_11, gok_15, gok_20, gok_698, gok_699, goA_9, goA_12, goA_13, goA_14, goA_16, goA_17, goA_18, goA_19, goA_21, goA_22, goA_23, goA_24, goA_25, goA_26, goA_27, goA_28, goA_29, goA_30, goA_31, goA_732, goA_733, goA_734, goA_735, goA_736, goA_737, goA_738, goA_739, goA_740, goA_741, goA_742, goA_743, goA_744, goA_745, goA_746, goA_747, goA_748, goA_749, goA_750, goA_751, goA_752, goA_753, goA_754, goA_755, goA_756, goA_757, gN_wI, gR_wI, gL_wI, if_true, eq_self, gK_row K hr, gK_ent K hr, gK_mrk K hr, gK_sen K hr, gok_row hr, goA_ent hr, goA_mrk hr, goA_sen hr, gd_row0, gd_row8, if_false, Option.bind_some, gd_kI_i]
  exact c_repeats_13 K hr Cd Id he hE (bC e l) 0 0 0 _ _ (by omega) (fun k _ => gb_zero) (fun k => by rw [gb_zero, decide_eq_false (Nat.not_lt_zero k)]; rfl)
theorem bLk_zero {a b : Int32} : ∀ k, (∀ i < k, ¬ (A 8 i = a ∧ A 9 i = b)) → bLk A a b k = 0 := by
  intro k
  induction k with
  | zero => intro _; rfl
  | succ k ih =>
    intro h
    show bLk A a b k + _ = 0
    rw [ih fun i hi => h i (by omega), if_neg (h k (by omega))]; rfl
theorem bLk_one {a b : Int32} {i : Nat} (hi : A 8 i = a ∧ A 9 i = b) : ∀ k, i < k → (∀ j < k, A 8 j = a ∧ A 9 j = b → j = i) → bLk A a b k = (A 10 i).toInt := by
  intro k
  induction k with
  | zero => intro h; omega
  | succ k ih =>
    intro h hu
    show bLk A a b k + _ = _
    by_cases e1 : i = k
    · subst e1
      rw [bLk_zero i fun j hj q => by have := hu j (by omega) q; omega, if_pos hi]; omega
    · rw [ih (by omega) fun j hj q => hu j (by omega) q, if_neg (fun q => e1 (hu k (by omega) q).symm)]; omega
theorem bLk_b (Id : iCd A) (a b : Int32) : 0 ≤ bLk A a b (gn (A 0 1)) ∧ bLk A a b (gn (A 0 1)) ≤ 9 := by
  by_cases h : ∃ i, i < gn (A 0 1) ∧ A 8 i = a ∧ A 9 i = b
  · obtain ⟨i, hi, h8, h9⟩ := h
    rw [bLk_one ⟨h8, h9⟩ _ hi fun j hj q => iCd_lon Id j hj i hi (q.1.trans h8.symm) (q.2.trans h9.symm)]
    obtain ⟨w, hw1, hw2, hw⟩ := iCd_lwo Id i hi
    rw [hw, gn_toInt (by omega)]; omega
  · rw [bLk_zero _ fun i hi q => h ⟨i, hi, q⟩]; omega
theorem c_linkWorth_2 (K : gK c d n p m) (Cd : cCd c (gI m) A) (Id : iCd A) (a b : Int32) : ∀ j i, i + j = gn (A 0 1) → (∀ q < i, ¬ (A 8 q = a ∧ A 9 q = b)) → ∃ w, gd_Den (47, 2, [.ref c, .int a, .int b, .int (Int32.ofNat i)], [], m) = some (.int w, m) ∧ w.toInt = bLk A a b (gn (A 0 1)) := by
  obtain ⟨N, -, hN, hNe⟩ := iCd_lks Id
  have hgN : gn (A 0 1) = N := by rw [hNe, gn_of (by omega)]
  rw [hgN]
  intro j
  induction j with
  | zero =>
    intro i h hq
    have : i = N := by omega
    subst this
    refine ⟨0, ?_, ?_⟩
    · rw [q_Co_linkWorth_2]
      simp only [gK_N K, gK_8_0 K, gK_8_1 K, gK_8_2 K, gK_8_3 K, gK_8_4 K, gK_8_5 K, gK_8_6 K, gK_8_7 K, gK_8_8 K, gK_10_0 K, gK_10_1 K, gK_10_2 K, gK_11_0 K, gK_15_0 K, gK_15_1 K, gK_15_2 K, gK_15_3 K, gK_20_0 K, gK_20_1 K, gK_20_2 K, gK_20_3 K, gK_20_4 K, gK_20_5 K, gK_698_0 K, gK_698_3 K, gK_698_16 K, gK_698_17 K, gK_698_20 K, gK_698_21 K, gK_698_22 K, gK_698_23 K, gK_698_24 K, gK_698_25 K, gK_698_26 K, gK_698_27 K, gK_698_28 K, gK_698_29 K, gK_698_30 K, gK_698_31 K, gK_698_32 K, gK_698_33 K, gK_698_34 K, gK_698_35 K, gK_698_36 K, gK_698_37 K, gK_698_38 K, gK_698_39 K, gK_698_41 K, gK_698_42 K, gK_698_44 K, gK_c K, gK_d K, gK_n K, gK_p K, gok_8, gok_10, gok_11, gok_15, gok_20, gok_698, gok_699, goA_9, goA_12, goA_13, goA_14, goA_16, goA_17, goA_18, goA_19, goA_21, goA_22, goA_23, goA_24, goA_25, goA_26, goA_27, goA_28, goA_29, goA_30, goA_31, goA_732, goA_733, goA_734, goA_735, goA_736, goA_737, goA_738, goA_739, goA_740, goA_741, goA_742, goA_743, goA_744, goA_745, goA_746, goA_747, goA_748, goA_749, goA_750, goA_751, goA_752, goA_753, goA_754, goA_755, goA_756, goA_757, gN_wI, gR_wI, gL_wI, if_true, eq_self, gok_c K, gok_d K, gok_n K, gok_p K, gK_c_0 K, gK_c_1 K, gK_c_2 K, gK_c_3 K, gK_c_4 K, gK_c_5 K, gK_c_6 K, gK_c_7 K, gK_c_8 K, gK_c_9 K, gK_c_10 K, gK_c_11 K, gK_n_3 K, gK_n_4 K, gK_n_5 K, gK_n_6 K, gK_n_7 K, gK_n_8 K, gK_n_9 K, gK_n_10 K, gK_n_11 K, gK_n_12 K, gK_n_13 K, gK_n_14 K, gK_n_15 K, gK_n_16 K, gK_n_17 K, goA_c1 K, goA_c2 K, goA_c3 K, goA_c4 K, goA_c5 K, goA_c6 K, goA_c7 K, goA_c8 K, goA_c9 K, goA_c10 K, goA_c11 K, goA_c12 K, goA_n1 K, goA_n2 K, goA_n3 K, goA_n4 K, goA_n5 K, goA_n6 K, goA_n7 K, goA_n8 K, goA_n9 K, goA_n10 K, goA_n11 K, goA_n12 K, goA_n13 K, goA_n14 K, goA_n15 K]
      rw [cCd_lks Cd, hNe, if_neg (fun q => by have := (gn_lt (by omega) (by omega)).1 q; omega)]
    · rw [bLk_zero i hq]; rfl
  | succ j ih =>
    intro i h hq
    rw [q_Co_linkWorth_2]
    simp only [gK_N K, gK_8_0 K, gK_8_1 K, gK_8_2 K, gK_8_3 K, gK_8_4 K, gK_8_5 K, gK_8_6 K, gK_8_7 K, gK_8_8 K, gK_10_0 K, gK_10_1 K, gK_10_2 K, gK_11_0 K, gK_15_0 K, gK_15_1 K, gK_15_2 K, gK_15_3 K, gK_20_0 K, gK_20_1 K, gK_20_2 K, gK_20_3 K, gK_20_4 K, gK_20_5 K, gK_698_0 K, gK_698_3 K, gK_698_16 K, gK_698_17 K, gK_698_20 K, gK_698_21 K, gK_698_22 K, gK_698_23 K, gK_698_24 K, gK_698_25 K, gK_698_26 K, gK_698_27 K, gK_698_28 K, gK_698_29 K, gK_698_30 K, gK_698_31 K, gK_698_32 K, gK_698_33 K, gK_698_34 K, gK_698_35 K, gK_698_36 K, gK_698_37 K, gK_698_38 K, gK_698_39 K, gK_698_41 K, gK_698_42 K, gK_698_44 K, gK_c K, gK_d K, gK_n K, gK_p K, gok_8, gok_10, gok_11, gok_15, gok_20, gok_698, gok_699, goA_9, goA_12, goA_13, goA_14, goA_16, goA_17, goA_18, goA_19, goA_21, goA_22, goA_23, goA_24, goA_25, goA_26, goA_27, goA_28, goA_29, goA_30, goA_31, goA_732, goA_733, goA_734, goA_735, goA_736, goA_737, goA_738, goA_739, goA_740, goA_741, goA_742, goA_743, goA_744, goA_745, goA_746, goA_747, goA_748, goA_749, goA_750, goA_751, goA_752, goA_753, goA_754, goA_755, goA_756, goA_757, gN_wI, gR_wI, gL_wI, if_true, eq_self, gok_c K, gok_d K, gok_n K, gok_p K, gK_c_0 K, gK_c_1 K, gK_c_2 K, gK_c_3 K, gK_c_4 K, gK_c_5 K, gK_c_6 K, gK_c_7 K, gK_c_8 K, gK_c_9 K, gK_c_10 K, gK_c_11 K, gK_n_3 K, gK_n_4 K, gK_n_5 K, gK_n_6 K, gK_n_7 K, gK_n_8 K, gK_n_9 K, gK_n_10 K, gK_n_11 K, gK_n_12 K, gK_n_13 K, gK_n_14 K, gK_n_15 K, gK_n_16 K, gK_n_17 K, goA_c1 K, goA_c2 K, goA_c3 K, goA_c4 K, goA_c5 K, goA_c6 K, goA_c7 K, goA_c8 K, goA_c9 K, goA_c10 K, goA_c11 K, goA_c12 K, goA_n1 K, goA_n2 K, goA_n3 K, goA_n4 K, goA_n5 K, goA_n6 K, goA_n7 K, goA_n8 K, goA_n9 K, goA_n10 K, goA_n11 K, goA_n12 K, goA_n13 K, goA_n14 K, goA_n15 K]
    rw [cCd_lks Cd, hNe, if_pos ((gn_lt (by omega) (by omega)).2 (by omega)), gn_in (by omega) (by omega), if_pos rfl, gn_nat (by omega), cCd_lfi Cd i (by omega), cCd_lse Cd i (by omega), cCd_lwo Cd i (by omega), gn_succ]
    by_cases h1 : A 8 i = a ∧ A 9 i = b
    · refine ⟨A 10 i, ?_, ?_⟩
      · rw [if_pos h1.1, if_pos rfl, if_pos h1.2, if_pos rfl]
      · rw [bLk_one h1 N (by omega) fun t ht q => iCd_lon Id t (by omega) i (by omega) (q.1.trans h1.1.symm) (q.2.trans h1.2.symm)]
    · obtain ⟨w, hw1, hw2⟩ := ih (i + 1) (by omega) fun t ht => by
        by_cases e1 : t = i
        · rw [e1]; exact h1
        · exact hq t (by omega)
      refine ⟨w, ?_, hw2⟩
      by_cases h2 : A 8 i = a
      · rw [if_pos h2, if_pos rfl, if_neg (fun q => h1 ⟨h2, q⟩)]; exact hw1
      · rw [if_neg h2]; exact hw1
theorem c_linkWorth (K : gK c d n p m) (Cd : cCd c (gI m) A) (Id : iCd A) (a b : Int32) : ∃ w, gd_call 47 [.ref c, .int a, .int b] m = some (.int w, m) ∧ w.toInt = bLk A a b (gn (A 0 1)) := by
  rw [q_Co_linkWorth]
  exact c_linkWorth_2 K Cd Id a b (gn (A 0 1)) 0 (Nat.zero_add _) fun q hq => absurd hq (Nat.not_lt_zero q)
end P62
