/-! ===== sets as numbers ===== -/
theorem gb_nat {k i : Nat} (h : k < 4294967296) : gb (Int32.ofNat k) i = k.testBit i := by
  unfold gb
  show (BitVec.ofNat 32 k).getLsbD i = _
  rw [BitVec.getLsbD_ofNat]
  by_cases hi : i < 32
  · rw [decide_eq_true hi, Bool.true_and]
  · rw [decide_eq_false hi, Bool.false_and]
    symm
    apply Nat.testBit_lt_two_pow
    have : (2 : Nat) ^ 32 ≤ 2 ^ i := Nat.pow_le_pow_right (by decide) (by omega)
    exact Nat.lt_of_lt_of_le h this
theorem gx_next {s M : Nat} (hs : s < M) (hM : M < 65536) : (Int32.ofNat s - Int32.ofNat M) &&& Int32.ofNat M = Int32.ofNat ((2 ^ 32 + s - M) &&& M) := by
  apply Int32.toBitVec_inj.1
  show (BitVec.ofNat 32 s - BitVec.ofNat 32 M) &&& BitVec.ofNat 32 M = BitVec.ofNat 32 ((2 ^ 32 + s - M) &&& M)
  apply BitVec.eq_of_toNat_eq
  have h1 : (BitVec.ofNat 32 s).toNat = s := by rw [BitVec.toNat_ofNat, Nat.mod_eq_of_lt (by omega)]
  have h2 : (BitVec.ofNat 32 M).toNat = M := by rw [BitVec.toNat_ofNat, Nat.mod_eq_of_lt (by omega)]
  have h3 : (2 ^ 32 + s - M) &&& M ≤ M := Nat.and_le_right
  rw [BitVec.toNat_and, BitVec.toNat_sub, h1, h2, BitVec.toNat_ofNat, Nat.mod_eq_of_lt (show 2 ^ 32 - M + s < 2 ^ 32 by omega), Nat.mod_eq_of_lt (show (2 ^ 32 + s - M) &&& M < 2 ^ 32 by omega), show 2 ^ 32 - M + s = 2 ^ 32 + s - M by omega]
theorem nt_0 {s : Nat} : s.testBit 0 = decide (s % 2 = 1) := Nat.testBit_zero s
theorem nt_s {s i : Nat} : s.testBit (i + 1) = (s / 2).testBit i := Nat.testBit_succ s i
theorem nW_bit : ∀ k s M, s < 2 ^ k → M < 2 ^ k → (nW k s M = true ↔ ∀ i, s.testBit i = true → M.testBit i = true) := by
  intro k
  induction k with
  | zero =>
    intro s M hs hM
    have e1 : s = 0 := by have : s < 1 := hs; omega
    have e2 : M = 0 := by have : M < 1 := hM; omega
    subst e1; subst e2
    exact ⟨fun _ i hi => hi, fun _ => rfl⟩
  | succ k ih =>
    intro s M hs hM
    rw [Nat.pow_succ] at hs hM
    have hI := ih (s / 2) (M / 2) (by omega) (by omega)
    constructor
    · intro h i hi
      obtain ⟨h1, h2⟩ := nW_s h
      cases i with
      | zero =>
        rw [nt_0] at hi ⊢
        have := of_decide_eq_true hi
        exact decide_eq_true (by omega)
      | succ i =>
        rw [nt_s] at hi ⊢
        exact hI.1 h1 i hi
    · intro h
      refine nW_i (hI.2 fun i hi => ?_) ?_
      · rw [← nt_s] at hi ⊢; exact h (i + 1) hi
      · by_cases q : s % 2 = 1
        · have := h 0 (by rw [nt_0]; exact decide_eq_true q)
          rw [nt_0] at this
          have := of_decide_eq_true this
          omega
        · omega
theorem bSet_tb {f : Nat → Bool} : ∀ k i, (bSet f k).testBit i = (decide (i < k) && f i) := by
  intro k
  induction k with
  | zero => intro i; show (0 : Nat).testBit i = _; rw [Nat.zero_testBit]; rfl
  | succ k ih =>
    intro i
    have hlt := bSet_lt (f := f) k
    show (bSet f k + if f k = true then 2 ^ k else 0).testBit i = _
    cases hk : f k with
    | false =>
      rw [if_neg (by decide), Nat.add_zero, ih i]
      by_cases e : i = k
      · rw [e, hk, Bool.and_false, Bool.and_false]
      · rw [show decide (i < k + 1) = decide (i < k) from by by_cases h1 : i < k <;> simp <;> omega]
    | true =>
      rw [if_pos rfl, Nat.add_comm]
      by_cases e : i = k
      · rw [e, hk, Nat.testBit_two_pow_add_eq, ih k, decide_eq_false (Nat.lt_irrefl k), decide_eq_true (Nat.lt_succ_self k)]; rfl
      · by_cases h1 : i < k
        · rw [Nat.testBit_two_pow_add_gt h1, ih i, decide_eq_true h1, decide_eq_true (Nat.lt_succ_of_lt h1)]
        · have h2 : k < i := by omega
          rw [decide_eq_false (by omega), Bool.false_and]
          apply Nat.testBit_lt_two_pow
          have : (2 : Nat) ^ (k + 1) ≤ 2 ^ i := Nat.pow_le_pow_right (by decide) h2
          rw [Nat.pow_succ] at this
          omega
theorem bSet_of {s k : Nat} (h : s < 2 ^ k) : bSet (fun i => s.testBit i) k = s := by
  apply Nat.eq_of_testBit_eq
  intro i
  rw [bSet_tb]
  by_cases hi : i < k
  · rw [decide_eq_true hi, Bool.true_and]
  · rw [decide_eq_false hi, Bool.false_and]
    symm
    apply Nat.testBit_lt_two_pow
    have : (2 : Nat) ^ k ≤ 2 ^ i := Nat.pow_le_pow_right (by decide) (by omega)
    exact Nat.lt_of_lt_of_le h this
theorem bX_num {f : Nat → Bool} {C : Nat} (h : ∀ i, C ≤ i → f i = false) : ∀ j, bNum f (C + j) = bNum f C := by
  intro j
  induction j with
  | zero => rfl
  | succ j ih =>
    show bNum f (C + j) + (if f (C + j) = true then 1 else 0) = _
    rw [ih, h (C + j) (by omega)]; rfl
theorem bX_set {f : Nat → Bool} {C : Nat} (h : ∀ i, C ≤ i → f i = false) : ∀ j, bSet f (C + j) = bSet f C := by
  intro j
  induction j with
  | zero => rfl
  | succ j ih =>
    show bSet f (C + j) + (if f (C + j) = true then 2 ^ (C + j) else 0) = _
    rw [ih, h (C + j) (by omega)]; rfl
theorem bX_cnt {gr : Nat → Nat} {g : Nat} {f : Nat → Bool} {C : Nat} (h : ∀ i, C ≤ i → f i = false) : ∀ j, bCnt gr f g (C + j) = bCnt gr f g C := by
  intro j
  induction j with
  | zero => rfl
  | succ j ih =>
    show bCnt gr f g (C + j) + (if f (C + j) = true ∧ gr (C + j) = g then 1 else 0) = _
    rw [ih, h (C + j) (by omega), if_neg (fun q => Bool.false_ne_true q.1), Nat.add_zero]
theorem bX_val {wo li : Nat → Int} {f : Nat → Bool} {C : Nat} (h : ∀ i, C ≤ i → f i = false) : ∀ j, bVal wo li f (C + j) = bVal wo li f C := by
  intro j
  induction j with
  | zero => rfl
  | succ j ih =>
    show bVal wo li f (C + j) + (if f (C + j) = true then wo (C + j) + (if 0 < C + j ∧ f (C + j - 1) = true then li (C + j) else 0) else 0) = _
    rw [ih, h (C + j) (by omega)]
    simp
/-! ===== isRepeat and what may be chosen, the reference ===== -/
theorem bC_all {e : Nat → Int32} : ∀ k, (∀ i < k, e i ≠ -1) → bC e k = k := by
  intro k
  induction k with
  | zero => intro _; rfl
  | succ k ih =>
    intro h
    show (if bC e k = k ∧ e k ≠ -1 then k + 1 else bC e k) = k + 1
    rw [if_pos ⟨ih fun i hi => h i (by omega), h k (Nat.lt_succ_self k)⟩]
theorem bC_mono {e : Nat → Int32} {k : Nat} : ∀ j, bC e k ≤ bC e (k + j) := by
  intro j
  induction j with
  | zero => exact Nat.le_refl _
  | succ j ih =>
    show _ ≤ (if bC e (k + j) = k + j ∧ e (k + j) ≠ -1 then k + j + 1 else bC e (k + j))
    have := bC_le (e := e) (k + j)
    by_cases h : bC e (k + j) = k + j ∧ e (k + j) ≠ -1
    · rw [if_pos h]; omega
    · rw [if_neg h]; exact ih
theorem bC_ge {e : Nat → Int32} {k l : Nat} (h : ∀ i < k, e i ≠ -1) (hk : k ≤ l) : k ≤ bC e l := by
  obtain ⟨j, rfl⟩ : ∃ j, l = k + j := ⟨l - k, by omega⟩
  have := bC_mono (e := e) (k := k) j
  rw [bC_all k h] at this
  exact this
/-- a row's entries, as the reference has them -/
def rSt (A : gd_C) (n r l : Nat) (e : Nat → Int32) (m : gd_M) : Prop := gI m 739 r = Int32.ofNat l ∧ (∀ i < 16, gI m 740 (16 * r + i) = e i) ∧ (∀ j, gI m n j = A 0 j) ∧ ∀ k, 5 ≤ k → k < 16 → ∀ j, gI m (n + k) j = A k j
def oT (m m1 : gd_M) : Prop := m1.2 = m.2 ∧ ∀ a, (a < 747 ∨ 750 < a) → gI m1 a = gI m a
theorem oT_refl {m : gd_M} : oT m m := ⟨rfl, fun _ _ => rfl⟩
theorem oT_w {m m1 : gd_M} {a k : Nat} {x : Int32} (h : oT m m1) (ha : 747 ≤ a ∧ a ≤ 750) : oT m (wI m1 a k x) := ⟨h.1, fun b hb => by rw [← h.2 b hb]; funext j; exact if_neg fun q => by omega⟩
theorem oT_tr {m m1 m2 : gd_M} (h : oT m m1) (h2 : oT m1 m2) : oT m m2 := ⟨h2.1.trans h.1, fun b hb => (h2.2 b hb).trans (h.2 b hb)⟩
theorem rSt_o {A : gd_C} {n r l : Nat} {e : Nat → Int32} {m m1 : gd_M} (hn : n = 700 ∨ n = 716) (h : rSt A n r l e m) (o : oT m m1) : rSt A n r l e m1 := by
  refine ⟨?_, fun i hi => ?_, fun j => ?_, fun k h1 h2 j => ?_⟩
  · rw [o.2 _ (by omega)]; exact h.1
  · rw [o.2 _ (by omega)]; exact h.2.1 i hi
  · rw [o.2 _ (by omega)]; exact h.2.2.1 j
  · rw [o.2 _ (by omega)]; exact h.2.2.2 k h1 h2 j
/-- only the groups' counts -/
def oG (m m1 : gd_M) : Prop := m1.2 = m.2 ∧ ∀ a, a ≠ 750 → gI m1 a = gI m a
theorem oG_refl {m : gd_M} : oG m m := ⟨rfl, fun _ _ => rfl⟩
theorem oG_w {m m1 : gd_M} {k : Nat} {x : Int32} (h : oG m m1) : oG m (wI m1 750 k x) := ⟨h.1, fun b hb => by rw [← h.2 b hb]; funext j; exact if_neg fun q => hb q.1⟩
theorem oG_tr {m m1 m2 : gd_M} (h : oG m m1) (h2 : oG m1 m2) : oG m m2 := ⟨h2.1.trans h.1, fun b hb => (h2.2 b hb).trans (h.2 b hb)⟩
theorem oG_T {m m1 : gd_M} (h : oG m m1) : oT m m1 := ⟨h.1, fun a ha => h.2 a (by omega)⟩
theorem oG_fl {x : Int32} : ∀ j k (m m1 : gd_M), oG m m1 → oG m (wFl m1 750 k x j) := by
  intro j
  induction j with
  | zero => intro k m m1 h; exact h
  | succ j ih => intro k m m1 h; exact ih (k + 1) m _ (oG_w h)
section P67
variable {c d n p : Nat} {m : gd_M} {A : gd_C} {r l : Nat} {e : Nat → Int32}
theorem r_ent (K : gK c d n p m) (hr : r < 160) {i : Nat} (hi : i < 16) : 16 * Int32.ofNat r + Int32.ofNat i = Int32.ofNat (16 * r + i) ∧ gd_in (Int32.ofNat (16 * r + i)) 2560 = true ∧ (Int32.ofNat (16 * r + i)).toNatClampNeg = 16 * r + i := by
  rw [gm16, gn_add]
  exact ⟨rfl, gn_in (by omega) (by omega), gn_nat (by omega)⟩
theorem c_isRepeat_25 (K : gK c d n p m) (hr : r < 160) (Id : iCd A) (hE : eOk A e l) (St : rSt A n r l e m) {i : Nat} (hi : i < l) (hei : e i ≠ -1) : ∀ j q v, q + j = i + 1 → q ≤ bC e l → gd_Den (138, 25, [.ref 698, .int (Int32.ofNat r), .int (Int32.ofNat i), .int (e i), .int (gB ((List.range q).any fun t => decide (t < i) && decide (A 7 (gn (e t)) = A 7 (gn (e i))))), .int (Int32.ofNat q), v], [], m) = some (.int (gB (decide (i < bC e l) && bRep A e i)), m) := by
  have h16 := hE.1
  have hCl := bC_le (e := e) l
  obtain ⟨N, -, hN, hNe⟩ := iCd_pts Id
  have hgN : gn (A 0 0) = N := by rw [hNe, gn_of (by omega)]
  intro j
  induction j with
  | zero =>
    intro q v h hq
    have : q = i + 1 := by omega
    subst this
    rw [q_Mo_isRepeat_25, if_pos ((gn_lt (by omega) (by omega)).2 (by omega)), gB_bo, if_pos rfl, any_range, decide_eq_false (Nat.lt_irrefl i), Bool.false_and, Bool.or_false, decide_eq_true (show i < bC e l by omega), Bool.true_and]
    have : (List.range i).any (fun t => decide (t < i) && decide (A 7 (gn (e t)) = A 7 (gn (e i)))) = bRep A e i := by
      unfold bRep
      rw [Bool.eq_iff_iff, List.any_eq_true, List.any_eq_true]
      constructor
      · intro ⟨t, h1, h2⟩
        exact ⟨t, h1, (Bool.and_eq_true_iff.1 h2).2⟩
      · intro ⟨t, h1, h2⟩
        exact ⟨t, h1, Bool.and_eq_true_iff.2 ⟨decide_eq_true (List.mem_range.1 h1), h2⟩⟩
    rw [this]
  | succ j ih =>
    intro q v h hq
    obtain ⟨x1, x2, x3⟩ := r_ent K hr (show q < 16 by omega)
    rw [q_Mo_isRepeat_25, if_neg (fun t => by have := (gn_lt (by omega) (by omega)).1 t; omega)]
    simp only [gK_N K, gK_8_0 K, gK_8_1 K, gK_8_2 K, gK_8_3 K, gK_8_4 K, gK_8_5 K, gK_8_6 K, gK_8_7 K, gK_8_8 K, gK_10_0 K, gK_10_1 K, gK_10_2 K, gK_11_0 K, gK_15_0 K, gK_15_1 K, gK_15_2 K, gK_15_3 K, gK_20_0 K, gK_20_1 K, gK_20_2 K, gK_20_3 K, gK_20_4 K, gK_20_5 K, gK_698_0 K, gK_698_3 K, gK_698_16 K, gK_698_17 K, gK_698_20 K, gK_698_21 K, gK_698_22 K, gK_698_23 K, gK_698_24 K, gK_698_25 K, gK_698_26 K, gK_698_27 K, gK_698_28 K, gK_698_29 K, gK_698_30 K, gK_698_31 K, gK_698_32 K, gK_698_33 K, gK_698_34 K, gK_698_35 K, gK_698_36 K, gK_698_37 K, gK_698_38 K, gK_698_39 K, gK_698_41 K, gK_698_42 K, gK_698_44 K, gK_c K, gK_d K, gK_n K, gK_p K, gok_8, gok_10, gok_11, gok_15, gok_20, gok_698, gok_699, goA_9, goA_12, goA_13, goA_14, goA_16, goA_17, goA_18, goA_19, goA_21, goA_22, goA_23, goA_24, goA_25, goA_26, goA_27, goA_28, goA_29, goA_30, goA_31, goA_732, goA_733, goA_734, goA_735, goA_736, goA_737, goA_738, goA_739, goA_740, goA_741, goA_742, goA_743, goA_744, goA_745, goA_746, goA_747, goA_748, goA_749, goA_750, goA_751, goA_752, goA_753, goA_754, goA_755, goA_756, goA_757, gN_wI, gR_wI, gL_wI, if_true, eq_self, x1, x2, x3, St.2.1 q (by omega)]
    by_cases h1 : e q = -1
    · rw [if_pos h1]
      have : ¬ i < bC e l := fun t => bC_ne l q (by omega) h1
      rw [decide_eq_false this]; rfl
    · rw [if_neg h1]
      have hqC : q < bC e l := by
        by_cases t : q < bC e l
        · exact t
        · have e1 : bC e l = q := by omega
          have := bC_ge (e := e) (k := q + 1) (l := l) (fun i hi => by
            by_cases e2 : i = q
            · rw [e2]; exact h1
            · exact bC_ne l i (by omega)) (by omega)
          omega
      obtain ⟨-, -, k, hk, hek⟩ := eOk_p hE hqC
      rw [gn_succ]
      by_cases h2 : (List.range q).any (fun t => decide (t < i) && decide (A 7 (gn (e t)) = A 7 (gn (e i)))) = true
      · rw [h2, if_neg (show ¬ gB true = 0 by decide)]
        have hI := ih (q + 1) (.int (e q)) (by omega) hqC
        rw [any_range, h2, Bool.true_or] at hI
        exact hI
      · rw [Bool.not_eq_true] at h2
        rw [h2, if_pos (show gB false = 0 from rfl)]
        by_cases h3 : q < i
        · obtain ⟨k2, hk2, hek2⟩ := (hE.2 i hi).resolve_left hei
          rw [if_pos ((gn_lt (by omega) (by omega)).2 h3)]
          simp only [gok_c K, gok_d K, gok_n K, gok_p K, gK_c_0 K, gK_c_1 K, gK_c_2 K, gK_c_3 K, gK_c_4 K, gK_c_5 K, gK_c_6 K, gK_c_7 K, gK_c_8 K, gK_c_9 K, gK_c_10 K, gK_c_11 K, gK_n_3 K, gK_n_4 K, gK_n_5 K, gK_n_6 K, gK_n_7 K, gK_n_8 K, gK_n_9 K, gK_n_10 K, gK_n_11 K, gK_n_12 K, gK_n_13 K, gK_n_14 K, gK_n_15 K, gK_n_16 K, gK_n_17 K, goA_c1 K, goA_c2 K, goA_c3 K, goA_c4 K, goA_c5 K, goA_c6 K, goA_c7 K, goA_c8 K, goA_c9 K, goA_c10 K, goA_c11 K, goA_c12 K, goA_n1 K, goA_n2 K, goA_n3 K, goA_n4 K, goA_n5 K, goA_n6 K, goA_n7 K, goA_n8 K, goA_n9 K, goA_n10 K, goA_n11 K, goA_n12 K, goA_n13 K, goA_n14 K, goA_n15 K, if_true]
          rw [hek, hek2, gn_in (by omega) (show k < 31 by omega), if_pos rfl, gn_in (by omega) (show k2 < 31 by omega), if_pos rfl, gn_nat (show k < 2147483648 by omega), gn_nat (show k2 < 2147483648 by omega), St.2.2.2 7 (by decide) (by decide), St.2.2.2 7 (by decide) (by decide)]
          have hI := ih (q + 1) (.int (Int32.ofNat k)) (by omega) hqC
          rw [any_range, h2, decide_eq_true h3, Bool.true_and, Bool.false_or, hek, hek2, gn_of (show k < 2147483648 by omega), gn_of (show k2 < 2147483648 by omega)] at hI
          by_cases h4 : A 7 k = A 7 k2
          · rw [if_pos h4]
            rw [decide_eq_true h4] at hI
            exact hI
          · rw [if_neg h4]
            rw [decide_eq_false h4] at hI
            exact hI
        · rw [if_neg (fun t => h3 ((gn_lt (by omega) (by omega)).1 t))]
          have hI := ih (q + 1) (.int (e q)) (by omega) hqC
          rw [any_range, h2, decide_eq_false h3, Bool.false_and, Bool.or_false] at hI
          exact hI
theorem c_isRepeat (K : gK c d n p m) (hr : r < 160) (Id : iCd A) (hE : eOk A e l) (St : rSt A n r l e m) {i : Nat} (hi : i < l) : gd_call 138 [.ref 698, .int (Int32.ofNat r), .int (Int32.ofNat i)] m = some (.int (gB (decide (i < bC e l) && bRep A e i)), m) := by
  have h16 := hE.1
  obtain ⟨x1, x2, x3⟩ := r_ent K hr (show i < 16 by omega)
  rw [q_Mo_isRepeat]
  simp only [gK_N K, gK_8_0 K, gK_8_1 K, gK_8_2 K, gK_8_3 K, gK_8_4 K, gK_8_5 K, gK_8_6 K, gK_8_7 K, gK_8_8 K, gK_10_0 K, gK_10_1 K, gK_10_2 K, gK_11_0 K, gK_15_0 K, gK_15_1 K, gK_15_2 K, gK_15_3 K, gK_20_0 K, gK_20_1 K, gK_20_2 K, gK_20_3 K, gK_20_4 K, gK_20_5 K, gK_698_0 K, gK_698_3 K, gK_698_16 K, gK_698_17 K, gK_698_20 K, gK_698_21 K, gK_698_22 K, gK_698_23 K, gK_698_24 K, gK_698_25 K, gK_698_26 K, gK_698_27 K, gK_698_28 K, gK_698_29 K, gK_698_30 K, gK_698_31 K, gK_698_32 K, gK_698_33 K, gK_698_34 K, gK_698_35 K, gK_698_36 K, gK_698_37 K, gK_698_38 K, gK_698_39 K, gK_698_41 K, gK_698_42 K, gK_698_44 K, gK_c K, gK_d K, gK_n K, gK_p K, gok_8, gok_10, gok_11, gok_15, gok_20, gok_698, gok_699, goA_9, goA_12, goA_13, goA_14, goA_16, goA_17, goA_18, goA_19, goA_21, goA_22, goA_23, goA_24, goA_25, goA_26, goA_27, goA_28, goA_29, goA_30, goA_31, goA_732, goA_733, goA_734, goA_735, goA_736, goA_737, goA_738, goA_739, goA_740, goA_741, goA_742, goA_743, goA_744, goA_745, goA_746, goA_747, goA_748, goA_749, goA_750, goA_751, goA_752, goA_753, goA_754, goA_755, goA_756, goA_757, gN_wI, gR_wI, gL_wI, if_true, eq_self, x1, x2, x3, St.2.1 i (by omega)]
  by_cases h1 : e i = -1
  · rw [if_pos h1]
    have : ¬ i < bC e l := fun t => bC_ne l i (by omega) h1
    rw [decide_eq_false this]; rfl
  · rw [if_neg h1]
    exact c_isRepeat_25 K hr Id hE St hi h1 (i + 1) 0 .null (by omega) (Nat.zero_le _)
theorem c_tryAll_17 (K : gK c d n p m) (hr : r < 160) (Id : iCd A) (hE : eOk A e l) (St : rSt A n r l e m) : ∀ j i x, i + j = l → (∀ k, gb x k = (decide (k < i) && eMay A e l k)) → ∃ M z, gd_Den (141, 17, [.ref 698, .int (Int32.ofNat r), .int x, .int (gB (decide (i ≤ bC e l))), .int (Int32.ofNat i), .null, .null], [], m) = gd_Den (141, 100, [.ref 698, .int (Int32.ofNat r), .int M, .int z, .int 0, .int 1, .null], [], wI m 747 r (-2147483648)) ∧ ∀ k, gb M k = eMay A e l k := by
  have h16 := hE.1
  have hCl := bC_le (e := e) l
  have hmay : ∀ k, eMay A e l k = true → k < bC e l := fun k hk => of_decide_eq_true (Bool.and_eq_true_iff.1 hk).1
  intro j
  induction j with
  | zero =>
    intro i x h hx
    have : i = l := by omega
    subst this
    refine ⟨x, gB (decide (i ≤ bC e i)), ?_, fun k => ?_⟩
    · rw [q_Mo_tryAll_17]
      simp only [gK_N K, gK_8_0 K, gK_8_1 K, gK_8_2 K, gK_8_3 K, gK_8_4 K, gK_8_5 K, gK_8_6 K, gK_8_7 K, gK_8_8 K, gK_10_0 K, gK_10_1 K, gK_10_2 K, gK_11_0 K, gK_15_0 K, gK_15_1 K, gK_15_2 K, gK_15_3 K, gK_20_0 K, gK_20_1 K, gK_20_2 K, gK_20_3 K, gK_20_4 K, gK_20_5 K, gK_698_0 K, gK_698_3 K, gK_698_16 K, gK_698_17 K, gK_698_20 K, gK_698_21 K, gK_698_22 K, gK_698_23 K, gK_698_24 K, gK_698_25 K, gK_698_26 K, gK_698_27 K, gK_698_28 K, gK_698_29 K, gK_698_30 K, gK_698_31 K, gK_698_32 K, gK_698_33 K, gK_698_34 K, gK_698_35 K, gK_698_36 K, gK_698_37 K, gK_698_38 K, gK_698_39 K, gK_698_41 K, gK_698_42 K, gK_698_44 K, gK_c K, gK_d K, gK_n K, gK_p K, gok_8, gok_10, gok_11, gok_15, gok_20, gok_698, gok_699, goA_9, goA_12, goA_13, goA_14, goA_16, goA_17, goA_18, goA_19, goA_21, goA_22, goA_23, goA_24, goA_25, goA_26, goA_27, goA_28, goA_29, goA_30, goA_31, goA_732, goA_733, goA_734, goA_735, goA_736, goA_737, goA_738, goA_739, goA_740, goA_741, goA_742, goA_743, goA_744, goA_745, goA_746, goA_747, goA_748, goA_749, goA_750, goA_751, goA_752, goA_753, goA_754, goA_755, goA_756, goA_757, gN_wI, gR_wI, gL_wI, if_true, eq_self]
      rw [gn_in (by omega) hr, if_pos rfl, gn_nat (by omega), St.1, if_neg (fun t => by have := (gn_lt (by omega) (by omega)).1 t; omega), if_pos rfl]
    · rw [hx k]
      by_cases hk : k < i
      · rw [decide_eq_true hk, Bool.true_and]
      · rw [decide_eq_false hk, Bool.false_and]
        symm
        rw [← Bool.not_eq_true]
        intro t
        have := hmay k t
        omega
  | succ j ih =>
    intro i x h hx
    obtain ⟨x1, x2, x3⟩ := r_ent K hr (show i < 16 by omega)
    have hstep : ∀ y, (∀ k, k ≠ i → gb y k = gb x k) → gb y i = eMay A e l i → ∀ k, gb y k = (decide (k < i + 1) && eMay A e l k) := fun y h1 h2 k => by
      by_cases hk : k = i
      · rw [hk, h2, decide_eq_true (Nat.lt_succ_self i), Bool.true_and]
      · rw [h1 k hk, hx k, show decide (k < i + 1) = decide (k < i) from by by_cases h1 : k < i <;> simp <;> omega]
    have hxi : gb x i = false := by rw [hx i, decide_eq_false (Nat.lt_irrefl i)]; rfl
    rw [q_Mo_tryAll_17]
    simp only [gK_N K, gK_8_0 K, gK_8_1 K, gK_8_2 K, gK_8_3 K, gK_8_4 K, gK_8_5 K, gK_8_6 K, gK_8_7 K, gK_8_8 K, gK_10_0 K, gK_10_1 K, gK_10_2 K, gK_11_0 K, gK_15_0 K, gK_15_1 K, gK_15_2 K, gK_15_3 K, gK_20_0 K, gK_20_1 K, gK_20_2 K, gK_20_3 K, gK_20_4 K, gK_20_5 K, gK_698_0 K, gK_698_3 K, gK_698_16 K, gK_698_17 K, gK_698_20 K, gK_698_21 K, gK_698_22 K, gK_698_23 K, gK_698_24 K, gK_698_25 K, gK_698_26 K, gK_698_27 K, gK_698_28 K, gK_698_29 K, gK_698_30 K, gK_698_31 K, gK_698_32 K, gK_698_33 K, gK_698_34 K, gK_698_35 K, gK_698_36 K, gK_698_37 K, gK_698_38 K, gK_698_39 K, gK_698_41 K, gK_698_42 K, gK_698_44 K, gK_c K, gK_d K, gK_n K, gK_p K, gok_8, gok_10, gok_11, gok_15, gok_20, gok_698, gok_699, goA_9, goA_12, goA_13, goA_14, goA_16, goA_17, goA_18, goA_19, goA_21, goA_22, goA_23, goA_24, goA_25, goA_26, goA_27, goA_28, goA_29, goA_30, goA_31, goA_732, goA_733, goA_734, goA_735, goA_736, goA_737, goA_738, goA_739, goA_740, goA_741, goA_742, goA_743, goA_744, goA_745, goA_746, goA_747, goA_748, goA_749, goA_750, goA_751, goA_752, goA_753, goA_754, goA_755, goA_756, goA_757, gN_wI, gR_wI, gL_wI, if_true, eq_self]
    rw [gn_in (by omega) hr, if_pos rfl, gn_nat (by omega), St.1, if_pos ((gn_lt (by omega) (by omega)).2 (by omega)), x1, x2, x3, St.2.1 i (by omega), gOr0, gn_succ]
    by_cases hw : i ≤ bC e l
    · rw [decide_eq_true hw, if_neg (show ¬ gB true = 0 by decide), if_pos rfl]
      by_cases h1 : e i = -1
      · have hC : ¬ i < bC e l := fun t => bC_ne l i t h1
        have hm : eMay A e l i = false := by unfold eMay; rw [decide_eq_false hC]; rfl
        rw [if_pos h1]
        have hI := ih (i + 1) x (by omega) (hstep x (fun _ _ => rfl) (by rw [hxi, hm]))
        rw [decide_eq_false (show ¬ i + 1 ≤ bC e l by omega)] at hI
        exact hI
      · have hC : i < bC e l := by
          have := bC_ge (e := e) (k := i + 1) (l := l) (fun q hq => by
            by_cases e2 : q = i
            · rw [e2]; exact h1
            · exact bC_ne l q (by omega)) (by omega)
          omega
        rw [if_neg h1, c_isRepeat K hr Id hE St (show i < l by omega)]
        simp only [Option.bind_some, gd_kI_i, gB_0]
        rw [decide_eq_true hC, Bool.true_and]
        have hm : eMay A e l i = !bRep A e i := by unfold eMay; rw [decide_eq_true hC]; rfl
        cases hb : bRep A e i with
        | false =>
          rw [if_pos rfl]
          have hI := ih (i + 1) _ (by omega) (hstep (x ||| ((1 : Int32) <<< (Int32.ofNat i &&& 31))) (fun k hk => by rw [gb_or (by omega), decide_eq_false hk, Bool.or_false]) (by rw [gb_or (by omega), decide_eq_true rfl, Bool.or_true, hm, hb]; rfl))
          rw [decide_eq_true (show i + 1 ≤ bC e l by omega)] at hI
          exact hI
        | true =>
          rw [if_neg (by decide)]
          have hI := ih (i + 1) x (by omega) (hstep x (fun _ _ => rfl) (by rw [hxi, hm, hb]; rfl))
          rw [decide_eq_true (show i + 1 ≤ bC e l by omega)] at hI
          exact hI
    · have hm : eMay A e l i = false := by unfold eMay; rw [decide_eq_false (show ¬ i < bC e l by omega)]; rfl
      rw [decide_eq_false hw, if_pos (show gB false = 0 from rfl)]
      have hI := ih (i + 1) x (by omega) (hstep x (fun _ _ => rfl) (by rw [hxi, hm]))
      rw [decide_eq_false (show ¬ i + 1 ≤ bC e l by omega)] at hI
      exact hI
end P67
