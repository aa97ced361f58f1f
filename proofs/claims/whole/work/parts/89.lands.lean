/-! ===== lands ===== -/
theorem lPs_a {bt : Nat → Bool} {i : Nat} : ∀ j, (∀ k, i ≤ k → k < i + j → bt k = true) → lPs bt (i + j) = lPs bt i := by
  intro j
  induction j with
  | zero => intro _; rfl
  | succ j ih =>
    intro h
    show (if bt (i + j) = true then lPs bt (i + j) else i + j + 1) = lPs bt i
    rw [if_pos (h (i + j) (by omega) (by omega)), ih fun k h1 h2 => h k h1 (by omega)]
theorem lPs_p {bt : Nat → Bool} : ∀ i, (∀ k, lPs bt i ≤ k → k < i → bt k = true) ∧ (lPs bt i = 0 ∨ bt (lPs bt i - 1) = false) := by
  intro i
  induction i with
  | zero => exact ⟨fun k _ h => absurd h (Nat.not_lt_zero k), .inl rfl⟩
  | succ i ih =>
    by_cases h : bt i = true
    · have e : lPs bt (i + 1) = lPs bt i := if_pos h
      rw [e]
      refine ⟨fun k h1 h2 => ?_, ih.2⟩
      by_cases q : k = i
      · rw [q]; exact h
      · exact ih.1 k h1 (by omega)
    · have e : lPs bt (i + 1) = i + 1 := if_neg h
      rw [e]
      refine ⟨fun k h1 h2 => by omega, .inr ?_⟩
      rw [Bool.not_eq_true] at h
      exact h
/-- in falling order -/
def vSo (V : Nat → Int32) (n : Nat) : Prop := ∀ i j, i < j → j < n → ¬ V i < V j
def vB (V : Nat → Int32) (v : Int32) (i : Nat) : Bool := decide (V i < v)
theorem vB_m {V : Nat → Int32} {n : Nat} {v : Int32} (h : vSo V n) {i j : Nat} (hij : i ≤ j) (hj : j < n) (hb : vB V v i = true) : vB V v j = true := by
  have h1 := of_decide_eq_true hb
  refine decide_eq_true ?_
  by_cases e : i = j
  · rw [← e]; exact h1
  · have h2 := h i j (by omega) hj
    have a1 := Int32.lt_iff_toInt_lt.1 h1
    have a2 : ¬ (V i).toInt < (V j).toInt := fun q => h2 (Int32.lt_iff_toInt_lt.2 q)
    exact Int32.lt_iff_toInt_lt.2 (by omega)
theorem vB_lo {V : Nat → Int32} {n : Nat} {v : Int32} (h : vSo V n) {j : Nat} (hj : j < lPs (vB V v) n) : vB V v j = false := by
  have hp := lPs_p (bt := vB V v) n
  have hle := lPs_le (bt := vB V v) n
  cases q : vB V v j with
  | false => rfl
  | true =>
    have h1 := vB_m h (show j ≤ lPs (vB V v) n - 1 by omega) (by omega) q
    rcases hp.2 with h2 | h2
    · omega
    · rw [h1] at h2; exact absurd h2 (by decide)
theorem lPs_q {V : Nat → Int32} {n q : Nat} {v : Int32} (h : vSo V n) (hq : q ≤ n) : lPs (vB V v) q = min q (lPs (vB V v) n) := by
  have hp := lPs_p (bt := vB V v) n
  have hle := lPs_le (bt := vB V v) n
  by_cases h1 : lPs (vB V v) n ≤ q
  · have e1 := lPs_a (bt := vB V v) (i := lPs (vB V v) n) (q - lPs (vB V v) n) (fun k h2 h3 => hp.1 k h2 (by omega))
    rw [show lPs (vB V v) n + (q - lPs (vB V v) n) = q by omega] at e1
    rw [e1, Nat.min_eq_right h1]
    rcases hp.2 with h2 | h2
    · rw [h2]; rfl
    · generalize lPs (vB V v) n = t at *
      cases t with
      | zero => rfl
      | succ t =>
        show (if vB V v t = true then lPs (vB V v) t else t + 1) = t + 1
        rw [if_neg]
        rw [show t + 1 - 1 = t by omega] at h2
        rw [h2]; decide
  · rw [Nat.min_eq_left (by omega)]
    cases q with
    | zero => rfl
    | succ q =>
      show (if vB V v q = true then lPs (vB V v) q else q + 1) = q + 1
      rw [if_neg]
      rw [vB_lo h (show q < lPs (vB V v) n by omega)]; decide
theorem vSo_ins {V : Nat → Int32} {n : Nat} {v : Int32} (h : vSo V n) : vSo (lNw V (lPs (vB V v) n) v) (n + 1) := by
  have hp := lPs_p (bt := vB V v) n
  have hle := lPs_le (bt := vB V v) n
  intro i j hij hj
  unfold lNw
  by_cases a1 : j < lPs (vB V v) n
  · rw [if_pos a1, if_pos (by omega)]; exact h i j hij (by omega)
  · rw [if_neg a1]
    by_cases a2 : j = lPs (vB V v) n
    · rw [if_pos a2, if_pos (by omega)]
      exact of_decide_eq_false (vB_lo h (show i < lPs (vB V v) n by omega))
    · rw [if_neg a2]
      have hb := of_decide_eq_true (hp.1 (j - 1) (by omega) (by omega))
      by_cases a3 : i < lPs (vB V v) n
      · rw [if_pos a3]
        by_cases e : i = j - 1
        · rw [e]; exact Int32.lt_irrefl
        · exact h i (j - 1) (by omega) (by omega)
      · rw [if_neg a3]
        by_cases a4 : i = lPs (vB V v) n
        · rw [if_pos a4]
          intro q
          have b1 := Int32.lt_iff_toInt_lt.1 q
          have b2 := Int32.lt_iff_toInt_lt.1 hb
          omega
        · rw [if_neg a4]; exact h (i - 1) (j - 1) (by omega) (by omega)
def vSm (V : Nat → Int32) : Nat → Int32
  | 0 => 0
  | k + 1 => vSm V k + V k
/-- a land's scores at an apparatus, in order: of the first gymnasts -/
noncomputable def vL (n : Nat) (s : gd_C) (l a : Nat) : Nat → Nat × (Nat → Int32)
  | 0 => (0, fun _ => 0)
  | g + 1 => if gLa s g = l ∧ gPo s (4 * g + a) = true then ((vL n s l a g).1 + 1, lNw (vL n s l a g).2 (lPs (vB (vL n s l a g).2 (lScr n s (4 * g + a))) (vL n s l a g).1) (lScr n s (4 * g + a))) else vL n s l a g
theorem vL_b {n : Nat} {s : gd_C} {l a : Nat} : ∀ g, (vL n s l a g).1 ≤ g ∧ vSo (vL n s l a g).2 (vL n s l a g).1 := by
  intro g
  induction g with
  | zero => exact ⟨Nat.le_refl 0, fun i j _ h => absurd h (Nat.not_lt_zero j)⟩
  | succ g ih =>
    by_cases h : gLa s g = l ∧ gPo s (4 * g + a) = true
    · have e : vL n s l a (g + 1) = ((vL n s l a g).1 + 1, lNw (vL n s l a g).2 (lPs (vB (vL n s l a g).2 (lScr n s (4 * g + a))) (vL n s l a g).1) (lScr n s (4 * g + a))) := if_pos h
      rw [e]
      exact ⟨Nat.succ_le_succ ih.1, vSo_ins ih.2⟩
    · have e : vL n s l a (g + 1) = vL n s l a g := if_neg h
      rw [e]
      exact ⟨by omega, ih.2⟩
def gBt (n : Nat) (s : gd_C) : Nat := gn (gCd n s 0 24)
theorem gBt_e {n : Nat} {s : gd_C} (I : iAll n s) : gCd n s 0 24 = Int32.ofNat (gBt n s) ∧ 1 ≤ gBt n s ∧ gBt n s ≤ 6 := by
  obtain ⟨l, h1, hl, hle⟩ := iCd_bst (iAll_cod I)
  unfold gBt
  rw [hle, gn_of (by omega)]; exact ⟨rfl, h1, hl⟩
noncomputable def vLs (n : Nat) (s : gd_C) (P l a : Nat) : Int32 := vSm (vL n s l a P).2 (min (vL n s l a P).1 (gBt n s))
noncomputable def vTo (n : Nat) (s : gd_C) (P l : Nat) : Nat → Int32
  | 0 => 0
  | a + 1 => vTo n s P l a + vLs n s P l a
noncomputable def vSt (n : Nat) (s : gd_C) (P : Nat) (own : Int32) : Nat → Nat
  | 0 => 0
  | k + 1 => vSt n s P own k + if own < vTo n s P k 4 then 1 else 0
theorem vSt_le {n : Nat} {s : gd_C} {P : Nat} {own : Int32} : ∀ k, vSt n s P own k ≤ k := by
  intro k
  induction k with
  | zero => exact Nat.le_refl 0
  | succ k ih =>
    show vSt n s P own k + (if own < vTo n s P k 4 then 1 else 0) ≤ k + 1
    by_cases h : own < vTo n s P k 4
    · rw [if_pos h]; omega
    · rw [if_neg h]; omega
/-- only the class's row of the best has changed -/
def oB (m m1 : gd_M) : Prop := m1.2 = m.2 ∧ ∀ a, a ≠ 31 → gI m1 a = gI m a
theorem oB_refl {m : gd_M} : oB m m := ⟨rfl, fun _ _ => rfl⟩
theorem oB_tr {m m1 m2 : gd_M} (h : oB m m1) (h2 : oB m1 m2) : oB m m2 := ⟨h2.1.trans h.1, fun b hb => (h2.2 b hb).trans (h.2 b hb)⟩
theorem oB_w {m m1 : gd_M} {k : Nat} {x : Int32} (h : oB m m1) : oB m (wI m1 31 k x) := ⟨h.1, fun b hb => by rw [gI_wI_f hb]; exact h.2 b hb⟩
theorem oB_X {m m1 : gd_M} (h : oB m m1) : oX m m1 := ⟨h.1, fun a ha => h.2 a (by omega)⟩
theorem oB_C {c n : Nat} {m m1 : gd_M} {s : gd_C} (hc : c = 32 ∨ c = 45) (h : oB m m1) (C : cAll c n (gI m) s) : cAll c n (gI m1) s := cAll_O hc (fun a ha => h.2 a (by omega)) C
section P89
variable {c d n p : Nat} {m : gd_M} {s : gd_C} {a l q T : Nat} {V : Nat → Int32} {v : Int32}
theorem c_min_n {x y : Nat} (hx : x < 2147483648) (hy : y < 2147483648) (m : gd_M) : gd_call 27 [.int (Int32.ofNat x), .int (Int32.ofNat y)] m = some (.int (Int32.ofNat (min x y)), m) := by
  rw [q_Ma_min]
  by_cases h : y < x
  · rw [if_pos ((gn_lt hy hx).2 h), Nat.min_eq_right (by omega)]
  · rw [if_neg (fun t => h ((gn_lt hy hx).1 t)), Nat.min_eq_left (by omega)]
theorem c_keep_22 (hT6 : T ≤ 6) (hq : q ≤ T) : ∀ i (m : gd_M), i ≤ q → gK c d n p m → (∀ j < i, gI m 31 j = V j) → (∀ j, i < j → j ≤ q → j < T → gI m 31 j = V (j - 1)) → ∃ m', gd_Den (178, 22, [.ref 8, .int v, .int (Int32.ofNat q), .int (Int32.ofNat T), .int (Int32.ofNat i)], [], m) = some (.int (Int32.ofNat (min (q + 1) T)), m') ∧ oB m m' ∧ ∀ j < min (q + 1) T, gI m' 31 j = lNw V (lPs (vB V v) i) v j := by
  intro i
  induction i with
  | zero =>
    intro m _ K hlo hhi
    rw [q_X_keepBest_22, if_neg (show ¬ (0 : Int32) < Int32.ofNat 0 by decide)]
    simp only [gK_N K, gK_8_0 K, gK_8_1 K, gK_8_2 K, gK_8_3 K, gK_8_4 K, gK_8_5 K, gK_8_6 K, gK_8_7 K, gK_8_8 K, gK_10_0 K, gK_10_1 K, gK_10_2 K, gK_11_0 K, gK_15_0 K, gK_15_1 K, gK_15_2 K, gK_15_3 K, gK_20_0 K, gK_20_1 K, gK_20_2 K, gK_20_3 K, gK_20_4 K, gK_20_5 K, gK_698_0 K, gK_698_3 K, gK_698_16 K, gK_698_17 K, gK_698_20 K, gK_698_21 K, gK_698_22 K, gK_698_23 K, gK_698_24 K, gK_698_25 K, gK_698_26 K, gK_698_27 K, gK_698_28 K, gK_698_29 K, gK_698_30 K, gK_698_31 K, gK_698_32 K, gK_698_33 K, gK_698_34 K, gK_698_35 K, gK_698_36 K, gK_698_37 K, gK_698_38 K, gK_698_39 K, gK_698_41 K, gK_698_42 K, gK_698_44 K, gK_c K, gK_d K, gK_n K, gK_p K, gok_8, gok_10, gok_11, gok_15, gok_20, gok_698, gok_699, goA_9, goA_12, goA_13, goA_14, goA_16, goA_17, goA_18, goA_19, goA_21, goA_22, goA_23, goA_24, goA_25, goA_26, goA_27, goA_28, goA_29, goA_30, goA_31, goA_732, goA_733, goA_734, goA_735, goA_736, goA_737, goA_738, goA_739, goA_740, goA_741, goA_742, goA_743, goA_744, goA_745, goA_746, goA_747, goA_748, goA_749, goA_750, goA_751, goA_752, goA_753, goA_754, goA_755, goA_756, goA_757, gN_wI, gR_wI, gL_wI, if_true, eq_self]
    rw [gn_in (by decide) (show 0 < 6 by decide), gn_nat (by decide), gn_succ, c_min_n (by omega) (by omega), c_min_n (by omega) (by omega)]
    simp only [Option.bind_some, gd_k0I_i, if_true]
    by_cases h0 : 0 < T
    · rw [if_pos ((gn_lt (by omega) (by omega)).2 h0)]
      refine ⟨_, rfl, oB_w oB_refl, fun j hj => ?_⟩
      rw [gI_wI_m]
      show _ = if j < 0 then V j else if j = 0 then v else V (j - 1)
      rw [if_neg (Nat.not_lt_zero j)]
      by_cases e : j = 0
      · rw [if_pos e, if_pos e]
      · rw [if_neg e, if_neg e]; exact hhi j (by omega) (by omega) (by omega)
    · rw [if_neg (fun t => h0 ((gn_lt (by omega) (by omega)).1 t))]
      exact ⟨_, rfl, oB_refl, fun j hj => by omega⟩
  | succ i ih =>
    intro m hi K hlo hhi
    have f1 := hlo i (by omega)
    have eP : lPs (vB V v) (i + 1) = if vB V v i = true then lPs (vB V v) i else i + 1 := rfl
    rw [eP, q_X_keepBest_22, if_pos ((gnla_0 (by decide) (by omega)).2 (Nat.succ_pos i)), gn_s1, gn_m1]
    simp only [gK_N K, gK_8_0 K, gK_8_1 K, gK_8_2 K, gK_8_3 K, gK_8_4 K, gK_8_5 K, gK_8_6 K, gK_8_7 K, gK_8_8 K, gK_10_0 K, gK_10_1 K, gK_10_2 K, gK_11_0 K, gK_15_0 K, gK_15_1 K, gK_15_2 K, gK_15_3 K, gK_20_0 K, gK_20_1 K, gK_20_2 K, gK_20_3 K, gK_20_4 K, gK_20_5 K, gK_698_0 K, gK_698_3 K, gK_698_16 K, gK_698_17 K, gK_698_20 K, gK_698_21 K, gK_698_22 K, gK_698_23 K, gK_698_24 K, gK_698_25 K, gK_698_26 K, gK_698_27 K, gK_698_28 K, gK_698_29 K, gK_698_30 K, gK_698_31 K, gK_698_32 K, gK_698_33 K, gK_698_34 K, gK_698_35 K, gK_698_36 K, gK_698_37 K, gK_698_38 K, gK_698_39 K, gK_698_41 K, gK_698_42 K, gK_698_44 K, gK_c K, gK_d K, gK_n K, gK_p K, gok_8, gok_10, gok_11, gok_15, gok_20, gok_698, gok_699, goA_9, goA_12, goA_13, goA_14, goA_16, goA_17, goA_18, goA_19, goA_21, goA_22, goA_23, goA_24, goA_25, goA_26, goA_27, goA_28, goA_29, goA_30, goA_31, goA_732, goA_733, goA_734, goA_735, goA_736, goA_737, goA_738, goA_739, goA_740, goA_741, goA_742, goA_743, goA_744, goA_745, goA_746, goA_747, goA_748, goA_749, goA_750, goA_751, goA_752, goA_753, goA_754, goA_755, goA_756, goA_757, gN_wI, gR_wI, gL_wI, if_true, eq_self]
    rw [gn_in (by omega) (show i < 6 by omega), if_pos rfl, gn_nat (show i < 2147483648 by omega), f1, gn_succ, c_min_n (by omega) (by omega), c_min_n (by omega) (by omega)]
    simp only [Option.bind_some, gd_k0I_i]
    by_cases hv : V i < v
    · have hb : vB V v i = true := decide_eq_true hv
      rw [if_pos hv, if_pos hb]
      by_cases h0 : i + 1 < T
      · rw [if_pos ((gn_lt (by omega) (by omega)).2 h0), gn_in (by omega) (show i + 1 < 6 by omega), if_pos rfl, gn_nat (show i + 1 < 2147483648 by omega)]
        obtain ⟨m', a1, a2, a3⟩ := ih (wI m 31 (i + 1) (V i)) (by omega) K (fun j hj => by rw [gI_wI_k (by omega)]; exact hlo j (by omega)) (fun j h1 h2 h3 => by
          rw [gI_wI_m]
          by_cases e : j = i + 1
          · rw [if_pos e, e]; rfl
          · rw [if_neg e]; exact hhi j (by omega) h2 h3)
        exact ⟨m', a1, oB_tr (oB_w oB_refl) a2, a3⟩
      · rw [if_neg (fun t => h0 ((gn_lt (by omega) (by omega)).1 t))]
        exact ih m (by omega) K (fun j hj => hlo j (by omega)) (fun j h1 h2 h3 => by omega)
    · have hb : ¬ vB V v i = true := fun t => hv (of_decide_eq_true t)
      rw [if_neg hv, if_neg hb]
      by_cases h0 : i + 1 < T
      · rw [if_pos ((gn_lt (by omega) (by omega)).2 h0), gn_in (by omega) (show i + 1 < 6 by omega), if_pos rfl, gn_nat (show i + 1 < 2147483648 by omega)]
        refine ⟨_, rfl, oB_w oB_refl, fun j hj => ?_⟩
        rw [gI_wI_m]
        show _ = if j < i + 1 then V j else if j = i + 1 then v else V (j - 1)
        by_cases e : j = i + 1
        · rw [if_pos e, if_neg (by omega), if_pos e]
        · rw [if_neg e]
          by_cases e2 : j < i + 1
          · rw [if_pos e2]; exact hlo j e2
          · rw [if_neg e2, if_neg e]; exact hhi j (by omega) (by omega) (by omega)
      · rw [if_neg (fun t => h0 ((gn_lt (by omega) (by omega)).1 t))]
        refine ⟨_, rfl, oB_refl, fun j hj => ?_⟩
        show _ = if j < i + 1 then V j else if j = i + 1 then v else V (j - 1)
        rw [if_pos (by omega)]; exact hlo j (by omega)
/-- the class's best of a land -/
def cBs (V : Nat → Int32) (q : Nat) (m : gd_M) : Prop := ∀ j < q, gI m 31 j = V j
theorem c_keepBest (K : gK c d n p m) (C : cAll c n (gI m) s) (I : iAll n s) {cnt : Nat} (hcnt : cnt < 100) (hV : vSo V cnt) (B : cBs V (min cnt (gBt n s)) m) : ∃ m', gd_call 178 [.ref 8, .int v, .int (Int32.ofNat (min cnt (gBt n s)))] m = some (.int (Int32.ofNat (min (cnt + 1) (gBt n s))), m') ∧ oB m m' ∧ cBs (lNw V (lPs (vB V v) cnt) v) (min (cnt + 1) (gBt n s)) m' := by
  obtain ⟨e1, e2, e3⟩ := gBt_e I
  have hg : (Nat.ble 10 (gd_KD 31) && Nat.ble (gd_KD 31) 14 && decide (31 < 758)) = true := by decide +kernel
  have hln : gd_LN 31 = 6 := by decide +kernel
  obtain ⟨m', a1, a2, a3⟩ := c_keep_22 (c := c) (d := d) (n := n) (p := p) (V := V) (v := v) e3 (Nat.min_le_right cnt (gBt n s)) (min cnt (gBt n s)) m (Nat.le_refl _) K B (fun j h1 h2 _ => by omega)
  have hmin : min (min cnt (gBt n s) + 1) (gBt n s) = min (cnt + 1) (gBt n s) := by omega
  rw [hmin] at a1 a3
  refine ⟨m', ?_, a2, fun j hj => ?_⟩
  · rw [q_X_keepBest]
    simp only [gK_N K, gK_8_0 K, gK_8_1 K, gK_8_2 K, gK_8_3 K, gK_8_4 K, gK_8_5 K, gK_8_6 K, gK_8_7 K, gK_8_8 K, gK_10_0 K, gK_10_1 K, gK_10_2 K, gK_11_0 K, gK_15_0 K, gK_15_1 K, gK_15_2 K, gK_15_3 K, gK_20_0 K, gK_20_1 K, gK_20_2 K, gK_20_3 K, gK_20_4 K, gK_20_5 K, gK_698_0 K, gK_698_3 K, gK_698_16 K, gK_698_17 K, gK_698_20 K, gK_698_21 K, gK_698_22 K, gK_698_23 K, gK_698_24 K, gK_698_25 K, gK_698_26 K, gK_698_27 K, gK_698_28 K, gK_698_29 K, gK_698_30 K, gK_698_31 K, gK_698_32 K, gK_698_33 K, gK_698_34 K, gK_698_35 K, gK_698_36 K, gK_698_37 K, gK_698_38 K, gK_698_39 K, gK_698_41 K, gK_698_42 K, gK_698_44 K, gK_c K, gK_d K, gK_n K, gK_p K, gok_8, gok_10, gok_11, gok_15, gok_20, gok_698, gok_699, goA_9, goA_12, goA_13, goA_14, goA_16, goA_17, goA_18, goA_19, goA_21, goA_22, goA_23, goA_24, goA_25, goA_26, goA_27, goA_28, goA_29, goA_30, goA_31, goA_732, goA_733, goA_734, goA_735, goA_736, goA_737, goA_738, goA_739, goA_740, goA_741, goA_742, goA_743, goA_744, goA_745, goA_746, goA_747, goA_748, goA_749, goA_750, goA_751, goA_752, goA_753, goA_754, goA_755, goA_756, goA_757, gN_wI, gR_wI, gL_wI, if_true, eq_self, gok_c K, gok_d K, gok_n K, gok_p K, gK_c_0 K, gK_c_1 K, gK_c_2 K, gK_c_3 K, gK_c_4 K, gK_c_5 K, gK_c_6 K, gK_c_7 K, gK_c_8 K, gK_c_9 K, gK_c_10 K, gK_c_11 K, gK_n_3 K, gK_n_4 K, gK_n_5 K, gK_n_6 K, gK_n_7 K, gK_n_8 K, gK_n_9 K, gK_n_10 K, gK_n_11 K, gK_n_12 K, gK_n_13 K, gK_n_14 K, gK_n_15 K, gK_n_16 K, gK_n_17 K, goA_c1 K, goA_c2 K, goA_c3 K, goA_c4 K, goA_c5 K, goA_c6 K, goA_c7 K, goA_c8 K, goA_c9 K, goA_c10 K, goA_c11 K, goA_c12 K, goA_n1 K, goA_n2 K, goA_n3 K, goA_n4 K, goA_n5 K, goA_n6 K, goA_n7 K, goA_n8 K, goA_n9 K, goA_n10 K, goA_n11 K, goA_n12 K, goA_n13 K, goA_n14 K, goA_n15 K, hg, hln]
    rw [show gd_in 9 12 = true from rfl, if_pos rfl, show (9 : Int32).toNatClampNeg = 9 from rfl, cCd_bst (cAll_cd C), e1, c_min_n (by omega) (by decide), Nat.min_eq_left e3]
    simp only [Option.bind_some, gd_k0I_i]
    exact a1
  · rw [a3 j hj, lPs_q hV (Nat.min_le_left cnt (gBt n s))]
    have hle := lPs_le (bt := vB V v) cnt
    unfold lNw
    by_cases h1 : lPs (vB V v) cnt ≤ min cnt (gBt n s)
    · rw [Nat.min_eq_right h1]
    · rw [Nat.min_eq_left (by omega), if_pos (by omega), if_pos (by omega)]
theorem c_scoreOf_70 (K : gK c d n p m) (hq : q ≤ 6) (B : cBs V q m) {x1 x2 : Int32} : ∀ j k, k + j = q → gd_Den (179, 70, [.ref 8, .int x1, .int x2, .int (Int32.ofNat q), .int (vSm V k), .int (Int32.ofNat k)], [], m) = some (.int (vSm V q), m) := by
  intro j
  induction j with
  | zero =>
    intro k h
    have : k = q := by omega
    subst this
    rw [q_X_scoreOf_70, if_neg Int32.lt_irrefl]
  | succ j ih =>
    intro k h
    rw [q_X_scoreOf_70, if_pos ((gn_lt (by omega) (by omega)).2 (by omega))]
    simp only [gK_N K, gK_8_0 K, gK_8_1 K, gK_8_2 K, gK_8_3 K, gK_8_4 K, gK_8_5 K, gK_8_6 K, gK_8_7 K, gK_8_8 K, gK_10_0 K, gK_10_1 K, gK_10_2 K, gK_11_0 K, gK_15_0 K, gK_15_1 K, gK_15_2 K, gK_15_3 K, gK_20_0 K, gK_20_1 K, gK_20_2 K, gK_20_3 K, gK_20_4 K, gK_20_5 K, gK_698_0 K, gK_698_3 K, gK_698_16 K, gK_698_17 K, gK_698_20 K, gK_698_21 K, gK_698_22 K, gK_698_23 K, gK_698_24 K, gK_698_25 K, gK_698_26 K, gK_698_27 K, gK_698_28 K, gK_698_29 K, gK_698_30 K, gK_698_31 K, gK_698_32 K, gK_698_33 K, gK_698_34 K, gK_698_35 K, gK_698_36 K, gK_698_37 K, gK_698_38 K, gK_698_39 K, gK_698_41 K, gK_698_42 K, gK_698_44 K, gK_c K, gK_d K, gK_n K, gK_p K, gok_8, gok_10, gok_11, gok_15, gok_20, gok_698, gok_699, goA_9, goA_12, goA_13, goA_14, goA_16, goA_17, goA_18, goA_19, goA_21, goA_22, goA_23, goA_24, goA_25, goA_26, goA_27, goA_28, goA_29, goA_30, goA_31, goA_732, goA_733, goA_734, goA_735, goA_736, goA_737, goA_738, goA_739, goA_740, goA_741, goA_742, goA_743, goA_744, goA_745, goA_746, goA_747, goA_748, goA_749, goA_750, goA_751, goA_752, goA_753, goA_754, goA_755, goA_756, goA_757, gN_wI, gR_wI, gL_wI, if_true, eq_self]
    rw [gn_in (by omega) (show k < 6 by omega), if_pos rfl, gn_nat (by omega), B k (by omega), gn_succ]
    exact ih (k + 1) (by omega)
theorem c_scoreOf_5 (I : iAll n s) {P : Nat} (hP : s 698 18 = Int32.ofNat P) (hP2 : P ≤ 40) (hl : l < 10) (ha : a < 4) : ∀ j g (m : gd_M) w, g + j = P → gK c d n p m → cAll c n (gI m) s → cBs (vL n s l a g).2 (min (vL n s l a g).1 (gBt n s)) m → ∃ m', gd_Den (179, 5, [.ref 8, .int (Int32.ofNat l), .int (Int32.ofNat a), .int (Int32.ofNat (min (vL n s l a g).1 (gBt n s))), .int (Int32.ofNat g), w], [], m) = some (.int (vLs n s P l a), m') ∧ oB m m' := by
  intro j
  induction j with
  | zero =>
    intro g m w h K C B
    have : g = P := by omega
    subst this
    obtain ⟨e1, e2, e3⟩ := gBt_e I
    refine ⟨m, ?_, oB_refl⟩
    rw [q_X_scoreOf_5]
    simp only [gK_N K, gK_8_0 K, gK_8_1 K, gK_8_2 K, gK_8_3 K, gK_8_4 K, gK_8_5 K, gK_8_6 K, gK_8_7 K, gK_8_8 K, gK_10_0 K, gK_10_1 K, gK_10_2 K, gK_11_0 K, gK_15_0 K, gK_15_1 K, gK_15_2 K, gK_15_3 K, gK_20_0 K, gK_20_1 K, gK_20_2 K, gK_20_3 K, gK_20_4 K, gK_20_5 K, gK_698_0 K, gK_698_3 K, gK_698_16 K, gK_698_17 K, gK_698_20 K, gK_698_21 K, gK_698_22 K, gK_698_23 K, gK_698_24 K, gK_698_25 K, gK_698_26 K, gK_698_27 K, gK_698_28 K, gK_698_29 K, gK_698_30 K, gK_698_31 K, gK_698_32 K, gK_698_33 K, gK_698_34 K, gK_698_35 K, gK_698_36 K, gK_698_37 K, gK_698_38 K, gK_698_39 K, gK_698_41 K, gK_698_42 K, gK_698_44 K, gK_c K, gK_d K, gK_n K, gK_p K, gok_8, gok_10, gok_11, gok_15, gok_20, gok_698, gok_699, goA_9, goA_12, goA_13, goA_14, goA_16, goA_17, goA_18, goA_19, goA_21, goA_22, goA_23, goA_24, goA_25, goA_26, goA_27, goA_28, goA_29, goA_30, goA_31, goA_732, goA_733, goA_734, goA_735, goA_736, goA_737, goA_738, goA_739, goA_740, goA_741, goA_742, goA_743, goA_744, goA_745, goA_746, goA_747, goA_748, goA_749, goA_750, goA_751, goA_752, goA_753, goA_754, goA_755, goA_756, goA_757, gN_wI, gR_wI, gL_wI, if_true, eq_self]
    rw [cMt_ppl (cAll_mt C), hP, if_neg Int32.lt_irrefl]
    exact c_scoreOf_70 K (show min (vL n s l a g).1 (gBt n s) ≤ 6 by omega) B (min (vL n s l a g).1 (gBt n s)) 0 (by omega)
  | succ j ih =>
    intro g m w h K C B
    have hc := gK_c1 K
    have hr : 4 * g + a < 160 := by omega
    have W := cAll_rw C (4 * g + a) hr
    obtain ⟨b1, b2⟩ := vL_b (n := n) (s := s) (l := l) (a := a) g
    obtain ⟨l1, l2⟩ := gLa_e I g
    rw [q_X_scoreOf_5]
    simp only [gK_N K, gK_8_0 K, gK_8_1 K, gK_8_2 K, gK_8_3 K, gK_8_4 K, gK_8_5 K, gK_8_6 K, gK_8_7 K, gK_8_8 K, gK_10_0 K, gK_10_1 K, gK_10_2 K, gK_11_0 K, gK_15_0 K, gK_15_1 K, gK_15_2 K, gK_15_3 K, gK_20_0 K, gK_20_1 K, gK_20_2 K, gK_20_3 K, gK_20_4 K, gK_20_5 K, gK_698_0 K, gK_698_3 K, gK_698_16 K, gK_698_17 K, gK_698_20 K, gK_698_21 K, gK_698_22 K, gK_698_23 K, gK_698_24 K, gK_698_25 K, gK_698_26 K, gK_698_27 K, gK_698_28 K, gK_698_29 K, gK_698_30 K, gK_698_31 K, gK_698_32 K, gK_698_33 K, gK_698_34 K, gK_698_35 K, gK_698_36 K, gK_698_37 K, gK_698_38 K, gK_698_39 K, gK_698_41 K, gK_698_42 K, gK_698_44 K, gK_c K, gK_d K, gK_n K, gK_p K, gok_8, gok_10, gok_11, gok_15, gok_20, gok_698, gok_699, goA_9, goA_12, goA_13, goA_14, goA_16, goA_17, goA_18, goA_19, goA_21, goA_22, goA_23, goA_24, goA_25, goA_26, goA_27, goA_28, goA_29, goA_30, goA_31, goA_732, goA_733, goA_734, goA_735, goA_736, goA_737, goA_738, goA_739, goA_740, goA_741, goA_742, goA_743, goA_744, goA_745, goA_746, goA_747, goA_748, goA_749, goA_750, goA_751, goA_752, goA_753, goA_754, goA_755, goA_756, goA_757, gN_wI, gR_wI, gL_wI, if_true, eq_self]
    rw [cMt_ppl (cAll_mt C), hP, if_pos ((gn_lt (by omega) (by omega)).2 (by omega)), c_rowOf_at K ((cMt_ppl (cAll_mt C)).trans hP) hP2 (show g < P by omega) ha]
    simp only [gK_N K, gK_8_0 K, gK_8_1 K, gK_8_2 K, gK_8_3 K, gK_8_4 K, gK_8_5 K, gK_8_6 K, gK_8_7 K, gK_8_8 K, gK_10_0 K, gK_10_1 K, gK_10_2 K, gK_11_0 K, gK_15_0 K, gK_15_1 K, gK_15_2 K, gK_15_3 K, gK_20_0 K, gK_20_1 K, gK_20_2 K, gK_20_3 K, gK_20_4 K, gK_20_5 K, gK_698_0 K, gK_698_3 K, gK_698_16 K, gK_698_17 K, gK_698_20 K, gK_698_21 K, gK_698_22 K, gK_698_23 K, gK_698_24 K, gK_698_25 K, gK_698_26 K, gK_698_27 K, gK_698_28 K, gK_698_29 K, gK_698_30 K, gK_698_31 K, gK_698_32 K, gK_698_33 K, gK_698_34 K, gK_698_35 K, gK_698_36 K, gK_698_37 K, gK_698_38 K, gK_698_39 K, gK_698_41 K, gK_698_42 K, gK_698_44 K, gK_c K, gK_d K, gK_n K, gK_p K, gok_8, gok_10, gok_11, gok_15, gok_20, gok_698, gok_699, goA_9, goA_12, goA_13, goA_14, goA_16, goA_17, goA_18, goA_19, goA_21, goA_22, goA_23, goA_24, goA_25, goA_26, goA_27, goA_28, goA_29, goA_30, goA_31, goA_732, goA_733, goA_734, goA_735, goA_736, goA_737, goA_738, goA_739, goA_740, goA_741, goA_742, goA_743, goA_744, goA_745, goA_746, goA_747, goA_748, goA_749, goA_750, goA_751, goA_752, goA_753, goA_754, goA_755, goA_756, goA_757, gN_wI, gR_wI, gL_wI, if_true, eq_self, gK_row K hr, gK_ent K hr, gK_mrk K hr, gK_sen K hr, gok_row hr, goA_ent hr, goA_mrk hr, goA_sen hr, gd_row0, gd_row8, if_false, Option.bind_some, gd_kR_r]
    rw [gn_in (by omega) (show g < 40 by omega), if_pos rfl, gn_nat (show g < 2147483648 by omega), cMt_lan (cAll_mt C), l1, gn_succ]
    by_cases hla : gLa s g = l
    · rw [if_pos (by rw [hla]), c_isScored K hr W]
      simp only [gK_N K, gK_8_0 K, gK_8_1 K, gK_8_2 K, gK_8_3 K, gK_8_4 K, gK_8_5 K, gK_8_6 K, gK_8_7 K, gK_8_8 K, gK_10_0 K, gK_10_1 K, gK_10_2 K, gK_11_0 K, gK_15_0 K, gK_15_1 K, gK_15_2 K, gK_15_3 K, gK_20_0 K, gK_20_1 K, gK_20_2 K, gK_20_3 K, gK_20_4 K, gK_20_5 K, gK_698_0 K, gK_698_3 K, gK_698_16 K, gK_698_17 K, gK_698_20 K, gK_698_21 K, gK_698_22 K, gK_698_23 K, gK_698_24 K, gK_698_25 K, gK_698_26 K, gK_698_27 K, gK_698_28 K, gK_698_29 K, gK_698_30 K, gK_698_31 K, gK_698_32 K, gK_698_33 K, gK_698_34 K, gK_698_35 K, gK_698_36 K, gK_698_37 K, gK_698_38 K, gK_698_39 K, gK_698_41 K, gK_698_42 K, gK_698_44 K, gK_c K, gK_d K, gK_n K, gK_p K, gok_8, gok_10, gok_11, gok_15, gok_20, gok_698, gok_699, goA_9, goA_12, goA_13, goA_14, goA_16, goA_17, goA_18, goA_19, goA_21, goA_22, goA_23, goA_24, goA_25, goA_26, goA_27, goA_28, goA_29, goA_30, goA_31, goA_732, goA_733, goA_734, goA_735, goA_736, goA_737, goA_738, goA_739, goA_740, goA_741, goA_742, goA_743, goA_744, goA_745, goA_746, goA_747, goA_748, goA_749, goA_750, goA_751, goA_752, goA_753, goA_754, goA_755, goA_756, goA_757, gN_wI, gR_wI, gL_wI, if_true, eq_self, gK_row K hr, gK_ent K hr, gK_mrk K hr, gK_sen K hr, gok_row hr, goA_ent hr, goA_mrk hr, goA_sen hr, gd_row0, gd_row8, if_false, Option.bind_some, gd_kI_i, gB_0]
      cases hpo : gPo s (4 * g + a) with
      | false =>
        have e : vL n s l a (g + 1) = vL n s l a g := if_neg (fun t => by rw [hpo] at t; exact absurd t.2 (by decide))
        rw [if_pos rfl, ← e]
        exact ih (g + 1) m _ (by omega) K C (by rw [e]; exact B)
      | true =>
        obtain ⟨hb1, hb2⟩ := gPo_t hpo
        have hdn := cRw_don W hb1 hb2
        have e : vL n s l a (g + 1) = ((vL n s l a g).1 + 1, lNw (vL n s l a g).2 (lPs (vB (vL n s l a g).2 (lScr n s (4 * g + a))) (vL n s l a g).1) (lScr n s (4 * g + a))) := if_pos ⟨hla, hpo⟩
        obtain ⟨m2, a1, a2, a3⟩ := c_keepBest (v := lScr n s (4 * g + a)) K C I (show (vL n s l a g).1 < 100 by omega) b2 B
        have K2 := gK_o K a2.1
        obtain ⟨m', d1, d2⟩ := ih (g + 1) m2 (.ref (58 + 4 * (4 * g + a))) (by omega) K2 (oB_C hc a2 C) (by rw [e]; exact a3)
        refine ⟨m', ?_, oB_tr a2 d2⟩
        rw [e] at d1
        rw [if_neg (by decide), hdn.2.2]
        unfold lScr at a1
        rw [a1]
        simp only [Option.bind_some, gd_kI_i]
        exact d1
    · have e : vL n s l a (g + 1) = vL n s l a g := if_neg (fun t => hla t.1)
      rw [if_neg (fun t => hla ((gn_eq (by omega) (by omega)).1 t)), ← e]
      exact ih (g + 1) m _ (by omega) K C (by rw [e]; exact B)
theorem c_scoreOf (K : gK c d n p m) (C : cAll c n (gI m) s) (I : iAll n s) {P : Nat} (hP : s 698 18 = Int32.ofNat P) (hP2 : P ≤ 40) (hl : l < 10) (ha : a < 4) : ∃ m', gd_call 179 [.ref 8, .int (Int32.ofNat l), .int (Int32.ofNat a)] m = some (.int (vLs n s P l a), m') ∧ oB m m' := by
  rw [q_X_scoreOf]
  have e0 : min (vL n s l a 0).1 (gBt n s) = 0 := Nat.zero_min _
  have h := c_scoreOf_5 I hP hP2 hl ha P 0 m .null (by omega) K C (by rw [e0]; exact fun j hj => absurd hj (Nat.not_lt_zero j))
  rw [e0] at h
  exact h
theorem c_totalOf_4 (I : iAll n s) {P : Nat} (hP : s 698 18 = Int32.ofNat P) (hP2 : P ≤ 40) (hl : l < 10) : ∀ j a (m : gd_M), a + j = 4 → gK c d n p m → cAll c n (gI m) s → ∃ m', gd_Den (180, 4, [.ref 8, .int (Int32.ofNat l), .int (vTo n s P l a), .int (Int32.ofNat a)], [], m) = some (.int (vTo n s P l 4), m') ∧ oB m m' := by
  intro j
  induction j with
  | zero =>
    intro a m h K C
    have : a = 4 := by omega
    subst this
    exact ⟨m, by rw [q_X_totalOf_4, if_neg (show ¬ Int32.ofNat 4 < 4 by decide)], oB_refl⟩
  | succ j ih =>
    intro a m h K C
    obtain ⟨m2, a1, a2⟩ := c_scoreOf K C I hP hP2 hl (show a < 4 by omega)
    have K2 := gK_o K a2.1
    obtain ⟨m', b1, b2⟩ := ih (a + 1) m2 (by omega) K2 (oB_C (gK_c1 K) a2 C)
    refine ⟨m', ?_, oB_tr a2 b2⟩
    rw [q_X_totalOf_4, if_pos ((gnlb_4 (by omega) (by decide)).2 (by omega))]
    simp only [gK_N K, gK_8_0 K, gK_8_1 K, gK_8_2 K, gK_8_3 K, gK_8_4 K, gK_8_5 K, gK_8_6 K, gK_8_7 K, gK_8_8 K, gK_10_0 K, gK_10_1 K, gK_10_2 K, gK_11_0 K, gK_15_0 K, gK_15_1 K, gK_15_2 K, gK_15_3 K, gK_20_0 K, gK_20_1 K, gK_20_2 K, gK_20_3 K, gK_20_4 K, gK_20_5 K, gK_698_0 K, gK_698_3 K, gK_698_16 K, gK_698_17 K, gK_698_20 K, gK_698_21 K, gK_698_22 K, gK_698_23 K, gK_698_24 K, gK_698_25 K, gK_698_26 K, gK_698_27 K, gK_698_28 K, gK_698_29 K, gK_698_30 K, gK_698_31 K, gK_698_32 K, gK_698_33 K, gK_698_34 K, gK_698_35 K, gK_698_36 K, gK_698_37 K, gK_698_38 K, gK_698_39 K, gK_698_41 K, gK_698_42 K, gK_698_44 K, gK_c K, gK_d K, gK_n K, gK_p K, gok_8, gok_10, gok_11, gok_15, gok_20, gok_698, gok_699, goA_9, goA_12, goA_13, goA_14, goA_16, goA_17, goA_18, goA_19, goA_21, goA_22, goA_23, goA_24, goA_25, goA_26, goA_27, goA_28, goA_29, goA_30, goA_31, goA_732, goA_733, goA_734, goA_735, goA_736, goA_737, goA_738, goA_739, goA_740, goA_741, goA_742, goA_743, goA_744, goA_745, goA_746, goA_747, goA_748, goA_749, goA_750, goA_751, goA_752, goA_753, goA_754, goA_755, goA_756, goA_757, gN_wI, gR_wI, gL_wI, if_true, eq_self]
    rw [a1]
    simp only [Option.bind_some, gd_kI_i]
    rw [gn_succ]
    exact b1
theorem c_totalOf (K : gK c d n p m) (C : cAll c n (gI m) s) (I : iAll n s) {P : Nat} (hP : s 698 18 = Int32.ofNat P) (hP2 : P ≤ 40) (hl : l < 10) : ∃ m', gd_call 180 [.ref 8, .int (Int32.ofNat l)] m = some (.int (vTo n s P l 4), m') ∧ oB m m' := by
  rw [q_X_totalOf]
  exact c_totalOf_4 I hP hP2 hl 4 0 m (by omega) K C
/-! the reference's -/
theorem c_land_56 {cnt g : Nat} (hcnt : cnt < 40) : ∀ i (m : gd_M), i ≤ cnt → gK c d n p m → (∀ j < i, gI m 757 j = V j) → (∀ j, i < j → j ≤ cnt → gI m 757 j = V (j - 1)) → ∃ m' v5 v6, gd_Den (182, 56, [.ref 698, .int (Int32.ofNat l), .int (Int32.ofNat a), .int (Int32.ofNat cnt), .int (Int32.ofNat g), .int v, .int (Int32.ofNat i)], [], m) = gd_Den (182, 5, [.ref 698, .int (Int32.ofNat l), .int (Int32.ofNat a), .int (Int32.ofNat (cnt + 1)), .int (Int32.ofNat (g + 1)), v5, v6], [], m') ∧ oI m m' ∧ ∀ j < cnt + 1, gI m' 757 j = lNw V (lPs (vB V v) i) v j := by
  intro i
  induction i with
  | zero =>
    intro m _ K hlo hhi
    refine ⟨wI m 757 0 v, .int v, .int (Int32.ofNat 0), ?_, oI_w oI_refl (by decide), fun j hj => ?_⟩
    · rw [q_Mo_landAt_56, if_neg (show ¬ (0 : Int32) < Int32.ofNat 0 by decide)]
      simp only [gK_N K, gK_8_0 K, gK_8_1 K, gK_8_2 K, gK_8_3 K, gK_8_4 K, gK_8_5 K, gK_8_6 K, gK_8_7 K, gK_8_8 K, gK_10_0 K, gK_10_1 K, gK_10_2 K, gK_11_0 K, gK_15_0 K, gK_15_1 K, gK_15_2 K, gK_15_3 K, gK_20_0 K, gK_20_1 K, gK_20_2 K, gK_20_3 K, gK_20_4 K, gK_20_5 K, gK_698_0 K, gK_698_3 K, gK_698_16 K, gK_698_17 K, gK_698_20 K, gK_698_21 K, gK_698_22 K, gK_698_23 K, gK_698_24 K, gK_698_25 K, gK_698_26 K, gK_698_27 K, gK_698_28 K, gK_698_29 K, gK_698_30 K, gK_698_31 K, gK_698_32 K, gK_698_33 K, gK_698_34 K, gK_698_35 K, gK_698_36 K, gK_698_37 K, gK_698_38 K, gK_698_39 K, gK_698_41 K, gK_698_42 K, gK_698_44 K, gK_c K, gK_d K, gK_n K, gK_p K, gok_8, gok_10, gok_11, gok_15, gok_20, gok_698, gok_699, goA_9, goA_12, goA_13, goA_14, goA_16, goA_17, goA_18, goA_19, goA_21, goA_22, goA_23, goA_24, goA_25, goA_26, goA_27, goA_28, goA_29, goA_30, goA_31, goA_732, goA_733, goA_734, goA_735, goA_736, goA_737, goA_738, goA_739, goA_740, goA_741, goA_742, goA_743, goA_744, goA_745, goA_746, goA_747, goA_748, goA_749, goA_750, goA_751, goA_752, goA_753, goA_754, goA_755, goA_756, goA_757, gN_wI, gR_wI, gL_wI, if_true, eq_self]
      rw [gn_in (by decide) (show 0 < 40 by decide), if_pos rfl, gn_nat (by decide), gn_succ, gn_succ]
    · rw [gI_wI_m]
      show _ = if j < 0 then V j else if j = 0 then v else V (j - 1)
      rw [if_neg (Nat.not_lt_zero j)]
      by_cases e : j = 0
      · rw [if_pos e, if_pos e]
      · rw [if_neg e, if_neg e]; exact hhi j (by omega) (by omega)
  | succ i ih =>
    intro m hi K hlo hhi
    have f1 := hlo i (by omega)
    have eP : lPs (vB V v) (i + 1) = if vB V v i = true then lPs (vB V v) i else i + 1 := rfl
    rw [eP, q_Mo_landAt_56, if_pos ((gnla_0 (by decide) (by omega)).2 (Nat.succ_pos i)), gn_s1, gn_m1]
    simp only [gK_N K, gK_8_0 K, gK_8_1 K, gK_8_2 K, gK_8_3 K, gK_8_4 K, gK_8_5 K, gK_8_6 K, gK_8_7 K, gK_8_8 K, gK_10_0 K, gK_10_1 K, gK_10_2 K, gK_11_0 K, gK_15_0 K, gK_15_1 K, gK_15_2 K, gK_15_3 K, gK_20_0 K, gK_20_1 K, gK_20_2 K, gK_20_3 K, gK_20_4 K, gK_20_5 K, gK_698_0 K, gK_698_3 K, gK_698_16 K, gK_698_17 K, gK_698_20 K, gK_698_21 K, gK_698_22 K, gK_698_23 K, gK_698_24 K, gK_698_25 K, gK_698_26 K, gK_698_27 K, gK_698_28 K, gK_698_29 K, gK_698_30 K, gK_698_31 K, gK_698_32 K, gK_698_33 K, gK_698_34 K, gK_698_35 K, gK_698_36 K, gK_698_37 K, gK_698_38 K, gK_698_39 K, gK_698_41 K, gK_698_42 K, gK_698_44 K, gK_c K, gK_d K, gK_n K, gK_p K, gok_8, gok_10, gok_11, gok_15, gok_20, gok_698, gok_699, goA_9, goA_12, goA_13, goA_14, goA_16, goA_17, goA_18, goA_19, goA_21, goA_22, goA_23, goA_24, goA_25, goA_26, goA_27, goA_28, goA_29, goA_30, goA_31, goA_732, goA_733, goA_734, goA_735, goA_736, goA_737, goA_738, goA_739, goA_740, goA_741, goA_742, goA_743, goA_744, goA_745, goA_746, goA_747, goA_748, goA_749, goA_750, goA_751, goA_752, goA_753, goA_754, goA_755, goA_756, goA_757, gN_wI, gR_wI, gL_wI, if_true, eq_self]
    rw [gn_in (by omega) (show i < 40 by omega), if_pos rfl, gn_nat (show i < 2147483648 by omega), f1, gn_in (by omega) (show i + 1 < 40 by omega), gn_nat (show i + 1 < 2147483648 by omega), gn_succ, gn_succ]
    simp only [if_true]
    by_cases hv : V i < v
    · have hb : vB V v i = true := decide_eq_true hv
      rw [if_pos hv, if_pos hb]
      obtain ⟨m', v5, v6, a1, a2, a3⟩ := ih (wI m 757 (i + 1) (V i)) (by omega) K (fun j hj => by rw [gI_wI_k (by omega)]; exact hlo j (by omega)) (fun j h1 h2 => by
        rw [gI_wI_m]
        by_cases e : j = i + 1
        · rw [if_pos e, e]; rfl
        · rw [if_neg e]; exact hhi j (by omega) h2)
      exact ⟨m', v5, v6, a1, oI_tr (oI_w oI_refl (by decide)) a2, a3⟩
    · have hb : ¬ vB V v i = true := fun t => hv (of_decide_eq_true t)
      rw [if_neg hv, if_neg hb]
      refine ⟨_, _, _, rfl, oI_w oI_refl (by decide), fun j hj => ?_⟩
      rw [gI_wI_m]
      show _ = if j < i + 1 then V j else if j = i + 1 then v else V (j - 1)
      by_cases e : j = i + 1
      · rw [if_pos e, if_neg (by omega), if_pos e]
      · rw [if_neg e]
        by_cases e2 : j < i + 1
        · rw [if_pos e2]; exact hlo j e2
        · rw [if_neg e2, if_neg e]; exact hhi j (by omega) (by omega)
theorem c_land_121 (K : gK c d n p m) (S : gSm n (gI m) s) (I : iAll n s) {cnt : Nat} (hcnt : cnt ≤ 40) (B : ∀ j < cnt, gI m 757 j = V j) {x1 x2 : Int32} {w : Value} : ∀ j k, k + j = min cnt (gBt n s) → gd_Den (182, 121, [.ref 698, .int x1, .int x2, .int (Int32.ofNat cnt), .int (vSm V k), .int (Int32.ofNat k), w], [], m) = some (.int (vSm V (min cnt (gBt n s))), m) := by
  obtain ⟨e1, e2, e3⟩ := gBt_e I
  intro j
  induction j with
  | zero =>
    intro k h
    have hk : k = min cnt (gBt n s) := by omega
    rw [q_Mo_landAt_121, ← hk]
    simp only [gK_N K, gK_8_0 K, gK_8_1 K, gK_8_2 K, gK_8_3 K, gK_8_4 K, gK_8_5 K, gK_8_6 K, gK_8_7 K, gK_8_8 K, gK_10_0 K, gK_10_1 K, gK_10_2 K, gK_11_0 K, gK_15_0 K, gK_15_1 K, gK_15_2 K, gK_15_3 K, gK_20_0 K, gK_20_1 K, gK_20_2 K, gK_20_3 K, gK_20_4 K, gK_20_5 K, gK_698_0 K, gK_698_3 K, gK_698_16 K, gK_698_17 K, gK_698_20 K, gK_698_21 K, gK_698_22 K, gK_698_23 K, gK_698_24 K, gK_698_25 K, gK_698_26 K, gK_698_27 K, gK_698_28 K, gK_698_29 K, gK_698_30 K, gK_698_31 K, gK_698_32 K, gK_698_33 K, gK_698_34 K, gK_698_35 K, gK_698_36 K, gK_698_37 K, gK_698_38 K, gK_698_39 K, gK_698_41 K, gK_698_42 K, gK_698_44 K, gK_c K, gK_d K, gK_n K, gK_p K, gok_8, gok_10, gok_11, gok_15, gok_20, gok_698, gok_699, goA_9, goA_12, goA_13, goA_14, goA_16, goA_17, goA_18, goA_19, goA_21, goA_22, goA_23, goA_24, goA_25, goA_26, goA_27, goA_28, goA_29, goA_30, goA_31, goA_732, goA_733, goA_734, goA_735, goA_736, goA_737, goA_738, goA_739, goA_740, goA_741, goA_742, goA_743, goA_744, goA_745, goA_746, goA_747, goA_748, goA_749, goA_750, goA_751, goA_752, goA_753, goA_754, goA_755, goA_756, goA_757, gN_wI, gR_wI, gL_wI, if_true, eq_self, gok_c K, gok_d K, gok_n K, gok_p K, gK_c_0 K, gK_c_1 K, gK_c_2 K, gK_c_3 K, gK_c_4 K, gK_c_5 K, gK_c_6 K, gK_c_7 K, gK_c_8 K, gK_c_9 K, gK_c_10 K, gK_c_11 K, gK_n_3 K, gK_n_4 K, gK_n_5 K, gK_n_6 K, gK_n_7 K, gK_n_8 K, gK_n_9 K, gK_n_10 K, gK_n_11 K, gK_n_12 K, gK_n_13 K, gK_n_14 K, gK_n_15 K, gK_n_16 K, gK_n_17 K, goA_c1 K, goA_c2 K, goA_c3 K, goA_c4 K, goA_c5 K, goA_c6 K, goA_c7 K, goA_c8 K, goA_c9 K, goA_c10 K, goA_c11 K, goA_c12 K, goA_n1 K, goA_n2 K, goA_n3 K, goA_n4 K, goA_n5 K, goA_n6 K, goA_n7 K, goA_n8 K, goA_n9 K, goA_n10 K, goA_n11 K, goA_n12 K, goA_n13 K, goA_n14 K, goA_n15 K, gS_n K S, gS_n5 K S, gS_n6 K S, gS_n7 K S, gS_n8 K S, gS_n9 K S, gS_n10 K S, gS_n11 K S, gS_n12 K S, gS_n13 K S, gS_n14 K S, gS_n15 K S, gS_732 S, gS_735 S, gS_736 S, gS_737 S, gS_738 S, gS_739 S, gS_740 S, gS_741 S, gS_742 S, gS_743 S, gS_744 S, gS_745 S, gS_746 S, gS_698_4 S, gS_698_14 S, gS_698_15 S, gS_698_18 S, gS_698_19 S]
    rw [e1]
    by_cases h1 : k < cnt
    · rw [if_pos ((gn_lt (by omega) (by omega)).2 h1), if_neg (fun t => by have := (gn_lt (by omega) (by omega)).1 t; omega)]
    · rw [if_neg (fun t => h1 ((gn_lt (by omega) (by omega)).1 t))]
  | succ j ih =>
    intro k h
    rw [q_Mo_landAt_121]
    simp only [gK_N K, gK_8_0 K, gK_8_1 K, gK_8_2 K, gK_8_3 K, gK_8_4 K, gK_8_5 K, gK_8_6 K, gK_8_7 K, gK_8_8 K, gK_10_0 K, gK_10_1 K, gK_10_2 K, gK_11_0 K, gK_15_0 K, gK_15_1 K, gK_15_2 K, gK_15_3 K, gK_20_0 K, gK_20_1 K, gK_20_2 K, gK_20_3 K, gK_20_4 K, gK_20_5 K, gK_698_0 K, gK_698_3 K, gK_698_16 K, gK_698_17 K, gK_698_20 K, gK_698_21 K, gK_698_22 K, gK_698_23 K, gK_698_24 K, gK_698_25 K, gK_698_26 K, gK_698_27 K, gK_698_28 K, gK_698_29 K, gK_698_30 K, gK_698_31 K, gK_698_32 K, gK_698_33 K, gK_698_34 K, gK_698_35 K, gK_698_36 K, gK_698_37 K, gK_698_38 K, gK_698_39 K, gK_698_41 K, gK_698_42 K, gK_698_44 K, gK_c K, gK_d K, gK_n K, gK_p K, gok_8, gok_10, gok_11, gok_15, gok_20, gok_698, gok_699, goA_9, goA_12, goA_13, goA_14, goA_16, goA_17, goA_18, goA_19, goA_21, goA_22, goA_23, goA_24, goA_25, goA_26, goA_27, goA_28, goA_29, goA_30, goA_31, goA_732, goA_733, goA_734, goA_735, goA_736, goA_737, goA_738, goA_739, goA_740, goA_741, goA_742, goA_743, goA_744, goA_745, goA_746, goA_747, goA_748, goA_749, goA_750, goA_751, goA_752, goA_753, goA_754, goA_755, goA_756, goA_757, gN_wI, gR_wI, gL_wI, if_true, eq_self, gok_c K, gok_d K, gok_n K, gok_p K, gK_c_0 K, gK_c_1 K, gK_c_2 K, gK_c_3 K, gK_c_4 K, gK_c_5 K, gK_c_6 K, gK_c_7 K, gK_c_8 K, gK_c_9 K, gK_c_10 K, gK_c_11 K, gK_n_3 K, gK_n_4 K, gK_n_5 K, gK_n_6 K, gK_n_7 K, gK_n_8 K, gK_n_9 K, gK_n_10 K, gK_n_11 K, gK_n_12 K, gK_n_13 K, gK_n_14 K, gK_n_15 K, gK_n_16 K, gK_n_17 K, goA_c1 K, goA_c2 K, goA_c3 K, goA_c4 K, goA_c5 K, goA_c6 K, goA_c7 K, goA_c8 K, goA_c9 K, goA_c10 K, goA_c11 K, goA_c12 K, goA_n1 K, goA_n2 K, goA_n3 K, goA_n4 K, goA_n5 K, goA_n6 K, goA_n7 K, goA_n8 K, goA_n9 K, goA_n10 K, goA_n11 K, goA_n12 K, goA_n13 K, goA_n14 K, goA_n15 K, gS_n K S, gS_n5 K S, gS_n6 K S, gS_n7 K S, gS_n8 K S, gS_n9 K S, gS_n10 K S, gS_n11 K S, gS_n12 K S, gS_n13 K S, gS_n14 K S, gS_n15 K S, gS_732 S, gS_735 S, gS_736 S, gS_737 S, gS_738 S, gS_739 S, gS_740 S, gS_741 S, gS_742 S, gS_743 S, gS_744 S, gS_745 S, gS_746 S, gS_698_4 S, gS_698_14 S, gS_698_15 S, gS_698_18 S, gS_698_19 S]
    rw [e1, if_pos ((gn_lt (by omega) (by omega)).2 (by omega)), if_pos ((gn_lt (by omega) (by omega)).2 (by omega)), gn_in (by omega) (show k < 40 by omega), if_pos rfl, gn_nat (by omega), B k (by omega), gn_succ]
    exact ih (k + 1) (by omega)
theorem c_landAt_5 (I : iAll n s) {P : Nat} (hP : s 698 18 = Int32.ofNat P) (hP2 : P ≤ 40) (hl : l < 10) (ha : a < 4) : ∀ j g (m : gd_M) v5 v6, g + j = P → gK c d n p m → gSm n (gI m) s → gCh n (gI m) s → (∀ j < (vL n s l a g).1, gI m 757 j = (vL n s l a g).2 j) → ∃ m', gd_Den (182, 5, [.ref 698, .int (Int32.ofNat l), .int (Int32.ofNat a), .int (Int32.ofNat (vL n s l a g).1), .int (Int32.ofNat g), v5, v6], [], m) = some (.int (vLs n s P l a), m') ∧ rK n s m m' := by
  intro j
  induction j with
  | zero =>
    intro g m v5 v6 h K S H B
    have : g = P := by omega
    subst this
    obtain ⟨b1, b2⟩ := vL_b (n := n) (s := s) (l := l) (a := a) g
    refine ⟨m, ?_, oM_refl, S, H⟩
    rw [q_Mo_landAt_5]
    simp only [gK_N K, gK_8_0 K, gK_8_1 K, gK_8_2 K, gK_8_3 K, gK_8_4 K, gK_8_5 K, gK_8_6 K, gK_8_7 K, gK_8_8 K, gK_10_0 K, gK_10_1 K, gK_10_2 K, gK_11_0 K, gK_15_0 K, gK_15_1 K, gK_15_2 K, gK_15_3 K, gK_20_0 K, gK_20_1 K, gK_20_2 K, gK_20_3 K, gK_20_4 K, gK_20_5 K, gK_698_0 K, gK_698_3 K, gK_698_16 K, gK_698_17 K, gK_698_20 K, gK_698_21 K, gK_698_22 K, gK_698_23 K, gK_698_24 K, gK_698_25 K, gK_698_26 K, gK_698_27 K, gK_698_28 K, gK_698_29 K, gK_698_30 K, gK_698_31 K, gK_698_32 K, gK_698_33 K, gK_698_34 K, gK_698_35 K, gK_698_36 K, gK_698_37 K, gK_698_38 K, gK_698_39 K, gK_698_41 K, gK_698_42 K, gK_698_44 K, gK_c K, gK_d K, gK_n K, gK_p K, gok_8, gok_10, gok_11, gok_15, gok_20, gok_698, gok_699, goA_9, goA_12, goA_13, goA_14, goA_16, goA_17, goA_18, goA_19, goA_21, goA_22, goA_23, goA_24, goA_25, goA_26, goA_27, goA_28, goA_29, goA_30, goA_31, goA_732, goA_733, goA_734, goA_735, goA_736, goA_737, goA_738, goA_739, goA_740, goA_741, goA_742, goA_743, goA_744, goA_745, goA_746, goA_747, goA_748, goA_749, goA_750, goA_751, goA_752, goA_753, goA_754, goA_755, goA_756, goA_757, gN_wI, gR_wI, gL_wI, if_true, eq_self, gS_n K S, gS_n5 K S, gS_n6 K S, gS_n7 K S, gS_n8 K S, gS_n9 K S, gS_n10 K S, gS_n11 K S, gS_n12 K S, gS_n13 K S, gS_n14 K S, gS_n15 K S, gS_732 S, gS_735 S, gS_736 S, gS_737 S, gS_738 S, gS_739 S, gS_740 S, gS_741 S, gS_742 S, gS_743 S, gS_744 S, gS_745 S, gS_746 S, gS_698_4 S, gS_698_14 S, gS_698_15 S, gS_698_18 S, gS_698_19 S]
    rw [hP, if_neg Int32.lt_irrefl]
    exact c_land_121 K S I (show (vL n s l a g).1 ≤ 40 by omega) B (min (vL n s l a g).1 (gBt n s)) 0 (by omega)
  | succ j ih =>
    intro g m v5 v6 h K S H B
    have hn := gK_n1 K
    have hr : 4 * g + a < 160 := by omega
    obtain ⟨b1, b2⟩ := vL_b (n := n) (s := s) (l := l) (a := a) g
    obtain ⟨l1, l2⟩ := gLa_e I g
    rw [q_Mo_landAt_5]
    simp only [gK_N K, gK_8_0 K, gK_8_1 K, gK_8_2 K, gK_8_3 K, gK_8_4 K, gK_8_5 K, gK_8_6 K, gK_8_7 K, gK_8_8 K, gK_10_0 K, gK_10_1 K, gK_10_2 K, gK_11_0 K, gK_15_0 K, gK_15_1 K, gK_15_2 K, gK_15_3 K, gK_20_0 K, gK_20_1 K, gK_20_2 K, gK_20_3 K, gK_20_4 K, gK_20_5 K, gK_698_0 K, gK_698_3 K, gK_698_16 K, gK_698_17 K, gK_698_20 K, gK_698_21 K, gK_698_22 K, gK_698_23 K, gK_698_24 K, gK_698_25 K, gK_698_26 K, gK_698_27 K, gK_698_28 K, gK_698_29 K, gK_698_30 K, gK_698_31 K, gK_698_32 K, gK_698_33 K, gK_698_34 K, gK_698_35 K, gK_698_36 K, gK_698_37 K, gK_698_38 K, gK_698_39 K, gK_698_41 K, gK_698_42 K, gK_698_44 K, gK_c K, gK_d K, gK_n K, gK_p K, gok_8, gok_10, gok_11, gok_15, gok_20, gok_698, gok_699, goA_9, goA_12, goA_13, goA_14, goA_16, goA_17, goA_18, goA_19, goA_21, goA_22, goA_23, goA_24, goA_25, goA_26, goA_27, goA_28, goA_29, goA_30, goA_31, goA_732, goA_733, goA_734, goA_735, goA_736, goA_737, goA_738, goA_739, goA_740, goA_741, goA_742, goA_743, goA_744, goA_745, goA_746, goA_747, goA_748, goA_749, goA_750, goA_751, goA_752, goA_753, goA_754, goA_755, goA_756, goA_757, gN_wI, gR_wI, gL_wI, if_true, eq_self, gS_n K S, gS_n5 K S, gS_n6 K S, gS_n7 K S, gS_n8 K S, gS_n9 K S, gS_n10 K S, gS_n11 K S, gS_n12 K S, gS_n13 K S, gS_n14 K S, gS_n15 K S, gS_732 S, gS_735 S, gS_736 S, gS_737 S, gS_738 S, gS_739 S, gS_740 S, gS_741 S, gS_742 S, gS_743 S, gS_744 S, gS_745 S, gS_746 S, gS_698_4 S, gS_698_14 S, gS_698_15 S, gS_698_18 S, gS_698_19 S, gm4, gn_add]
    rw [hP, if_pos ((gn_lt (by omega) (by omega)).2 (by omega)), gn_in (by omega) (show g < 40 by omega), if_pos rfl, gn_nat (show g < 2147483648 by omega), l1, gn_succ]
    by_cases hla : gLa s g = l
    · rw [if_pos (by rw [hla]), c_MisPosted K hr S]
      simp only [gK_N K, gK_8_0 K, gK_8_1 K, gK_8_2 K, gK_8_3 K, gK_8_4 K, gK_8_5 K, gK_8_6 K, gK_8_7 K, gK_8_8 K, gK_10_0 K, gK_10_1 K, gK_10_2 K, gK_11_0 K, gK_15_0 K, gK_15_1 K, gK_15_2 K, gK_15_3 K, gK_20_0 K, gK_20_1 K, gK_20_2 K, gK_20_3 K, gK_20_4 K, gK_20_5 K, gK_698_0 K, gK_698_3 K, gK_698_16 K, gK_698_17 K, gK_698_20 K, gK_698_21 K, gK_698_22 K, gK_698_23 K, gK_698_24 K, gK_698_25 K, gK_698_26 K, gK_698_27 K, gK_698_28 K, gK_698_29 K, gK_698_30 K, gK_698_31 K, gK_698_32 K, gK_698_33 K, gK_698_34 K, gK_698_35 K, gK_698_36 K, gK_698_37 K, gK_698_38 K, gK_698_39 K, gK_698_41 K, gK_698_42 K, gK_698_44 K, gK_c K, gK_d K, gK_n K, gK_p K, gok_8, gok_10, gok_11, gok_15, gok_20, gok_698, gok_699, goA_9, goA_12, goA_13, goA_14, goA_16, goA_17, goA_18, goA_19, goA_21, goA_22, goA_23, goA_24, goA_25, goA_26, goA_27, goA_28, goA_29, goA_30, goA_31, goA_732, goA_733, goA_734, goA_735, goA_736, goA_737, goA_738, goA_739, goA_740, goA_741, goA_742, goA_743, goA_744, goA_745, goA_746, goA_747, goA_748, goA_749, goA_750, goA_751, goA_752, goA_753, goA_754, goA_755, goA_756, goA_757, gN_wI, gR_wI, gL_wI, if_true, eq_self, Option.bind_some, gd_kI_i, gB_0]
      cases hpo : gPo s (4 * g + a) with
      | false =>
        have e : vL n s l a (g + 1) = vL n s l a g := if_neg (fun t => by rw [hpo] at t; exact absurd t.2 (by decide))
        rw [if_pos rfl, ← e]
        exact ih (g + 1) m _ _ (by omega) K S H (by rw [e]; exact B)
      | true =>
        obtain ⟨hb1, hb2⟩ := gPo_t hpo
        have e : vL n s l a (g + 1) = ((vL n s l a g).1 + 1, lNw (vL n s l a g).2 (lPs (vB (vL n s l a g).2 (lScr n s (4 * g + a))) (vL n s l a g).1) (lScr n s (4 * g + a))) := if_pos ⟨hla, hpo⟩
        obtain ⟨m2, a1, a2, a3, a4⟩ := c_scoreK K S H I hr hb1
        have K2 := gK_o K a2.1
        obtain ⟨m3, w5, w6, d1, d2, d3⟩ := c_land_56 (c := c) (d := d) (n := n) (p := p) (l := l) (a := a) (g := g) (V := (vL n s l a g).2) (v := lScr n s (4 * g + a)) (show (vL n s l a g).1 < 40 by omega) (vL n s l a g).1 m2 (Nat.le_refl _) K2 (fun j hj => by rw [a2.2 757 (by decide)]; exact B j hj) (fun j h1 h2 => by omega)
        have K3 := gK_o K2 d2.1
        obtain ⟨m', f1, f2⟩ := ih (g + 1) m3 w5 w6 (by omega) K3 (gSm_oI hn a3 d2) (gCh_oI a4 d2) (by rw [e]; exact d3)
        refine ⟨m', ?_, rK_tr (rK_I hn ⟨oT_M a2, a3, a4⟩ d2) f2⟩
        rw [e] at f1
        rw [if_neg (by decide), a1]
        simp only [Option.bind_some, gd_kI_i]
        exact d1.trans f1
    · have e : vL n s l a (g + 1) = vL n s l a g := if_neg (fun t => hla t.1)
      rw [if_neg (fun t => hla ((gn_eq (by omega) (by omega)).1 t)), ← e]
      exact ih (g + 1) m _ _ (by omega) K S H (by rw [e]; exact B)
theorem c_landAt (K : gK c d n p m) (S : gSm n (gI m) s) (H : gCh n (gI m) s) (I : iAll n s) {P : Nat} (hP : s 698 18 = Int32.ofNat P) (hP2 : P ≤ 40) (hl : l < 10) (ha : a < 4) : ∃ m', gd_call 182 [.ref 698, .int (Int32.ofNat l), .int (Int32.ofNat a)] m = some (.int (vLs n s P l a), m') ∧ rK n s m m' := by
  rw [q_Mo_landAt]
  exact c_landAt_5 I hP hP2 hl ha P 0 m .null .null (by omega) K S H (fun j hj => absurd hj (Nat.not_lt_zero j))
theorem c_land4 (K : gK c d n p m) (S : gSm n (gI m) s) (H : gCh n (gI m) s) (I : iAll n s) {P : Nat} (hP : s 698 18 = Int32.ofNat P) (hP2 : P ≤ 40) (hl : l < 10) : ∃ m', gd_call 183 [.ref 698, .int (Int32.ofNat l), .int 4] m = some (.int (vTo n s P l 4), m') ∧ rK n s m m' := by
  obtain ⟨m1, a1, a2⟩ := c_landAt K S H I hP hP2 hl (show 0 < 4 by decide)
  have K1 := gK_o K a2.1.1
  obtain ⟨m2, b1, b2⟩ := c_landAt K1 a2.2.1 a2.2.2 I hP hP2 hl (show 1 < 4 by decide)
  have K2 := gK_o K1 b2.1.1
  obtain ⟨m3, d1, d2⟩ := c_landAt K2 b2.2.1 b2.2.2 I hP hP2 hl (show 2 < 4 by decide)
  have K3 := gK_o K2 d2.1.1
  obtain ⟨m4, f1, f2⟩ := c_landAt K3 d2.2.1 d2.2.2 I hP hP2 hl (show 3 < 4 by decide)
  rw [gn_0] at a1
  rw [gn_1] at b1
  have d1 : gd_call 182 [.ref 698, .int (Int32.ofNat l), .int 2] m2 = some (.int (vLs n s P l 2), m3) := d1
  have f1 : gd_call 182 [.ref 698, .int (Int32.ofNat l), .int 3] m3 = some (.int (vLs n s P l 3), m4) := f1
  refine ⟨m4, ?_, rK_tr (rK_tr (rK_tr a2 b2) d2) f2⟩
  rw [q_Mo_land, c_in9, gIs_y (by decide) hl]
  simp only [Option.bind_some, gd_k0I_i, gB_t]
  rw [if_neg (by decide), c_in4, show gIs 5 4 = true from rfl]
  simp only [Option.bind_some, gd_k0I_i, gB_t]
  rw [if_neg (by decide), if_neg (by decide)]
  simp only [gK_N K, gK_8_0 K, gK_8_1 K, gK_8_2 K, gK_8_3 K, gK_8_4 K, gK_8_5 K, gK_8_6 K, gK_8_7 K, gK_8_8 K, gK_10_0 K, gK_10_1 K, gK_10_2 K, gK_11_0 K, gK_15_0 K, gK_15_1 K, gK_15_2 K, gK_15_3 K, gK_20_0 K, gK_20_1 K, gK_20_2 K, gK_20_3 K, gK_20_4 K, gK_20_5 K, gK_698_0 K, gK_698_3 K, gK_698_16 K, gK_698_17 K, gK_698_20 K, gK_698_21 K, gK_698_22 K, gK_698_23 K, gK_698_24 K, gK_698_25 K, gK_698_26 K, gK_698_27 K, gK_698_28 K, gK_698_29 K, gK_698_30 K, gK_698_31 K, gK_698_32 K, gK_698_33 K, gK_698_34 K, gK_698_35 K, gK_698_36 K, gK_698_37 K, gK_698_38 K, gK_698_39 K, gK_698_41 K, gK_698_42 K, gK_698_44 K, gK_c K, gK_d K, gK_n K, gK_p K, gok_8, gok_10, gok_11, gok_15, gok_20, gok_698, gok_699, goA_9, goA_12, goA_13, goA_14, goA_16, goA_17, goA_18, goA_19, goA_21, goA_22, goA_23, goA_24, goA_25, goA_26, goA_27, goA_28, goA_29, goA_30, goA_31, goA_732, goA_733, goA_734, goA_735, goA_736, goA_737, goA_738, goA_739, goA_740, goA_741, goA_742, goA_743, goA_744, goA_745, goA_746, goA_747, goA_748, goA_749, goA_750, goA_751, goA_752, goA_753, goA_754, goA_755, goA_756, goA_757, gN_wI, gR_wI, gL_wI, if_true, eq_self]
  rw [a1]
  simp only [gK_N K1, gK_8_0 K1, gK_8_1 K1, gK_8_2 K1, gK_8_3 K1, gK_8_4 K1, gK_8_5 K1, gK_8_6 K1, gK_8_7 K1, gK_8_8 K1, gK_10_0 K1, gK_10_1 K1, gK_10_2 K1, gK_11_0 K1, gK_15_0 K1, gK_15_1 K1, gK_15_2 K1, gK_15_3 K1, gK_20_0 K1, gK_20_1 K1, gK_20_2 K1, gK_20_3 K1, gK_20_4 K1, gK_20_5 K1, gK_698_0 K1, gK_698_3 K1, gK_698_16 K1, gK_698_17 K1, gK_698_20 K1, gK_698_21 K1, gK_698_22 K1, gK_698_23 K1, gK_698_24 K1, gK_698_25 K1, gK_698_26 K1, gK_698_27 K1, gK_698_28 K1, gK_698_29 K1, gK_698_30 K1, gK_698_31 K1, gK_698_32 K1, gK_698_33 K1, gK_698_34 K1, gK_698_35 K1, gK_698_36 K1, gK_698_37 K1, gK_698_38 K1, gK_698_39 K1, gK_698_41 K1, gK_698_42 K1, gK_698_44 K1, gK_c K1, gK_d K1, gK_n K1, gK_p K1, gok_8, gok_10, gok_11, gok_15, gok_20, gok_698, gok_699, goA_9, goA_12, goA_13, goA_14, goA_16, goA_17, goA_18, goA_19, goA_21, goA_22, goA_23, goA_24, goA_25, goA_26, goA_27, goA_28, goA_29, goA_30, goA_31, goA_732, goA_733, goA_734, goA_735, goA_736, goA_737, goA_738, goA_739, goA_740, goA_741, goA_742, goA_743, goA_744, goA_745, goA_746, goA_747, goA_748, goA_749, goA_750, goA_751, goA_752, goA_753, goA_754, goA_755, goA_756, goA_757, gN_wI, gR_wI, gL_wI, if_true, eq_self, Option.bind_some, gd_kI_i]
  rw [b1]
  simp only [gK_N K2, gK_8_0 K2, gK_8_1 K2, gK_8_2 K2, gK_8_3 K2, gK_8_4 K2, gK_8_5 K2, gK_8_6 K2, gK_8_7 K2, gK_8_8 K2, gK_10_0 K2, gK_10_1 K2, gK_10_2 K2, gK_11_0 K2, gK_15_0 K2, gK_15_1 K2, gK_15_2 K2, gK_15_3 K2, gK_20_0 K2, gK_20_1 K2, gK_20_2 K2, gK_20_3 K2, gK_20_4 K2, gK_20_5 K2, gK_698_0 K2, gK_698_3 K2, gK_698_16 K2, gK_698_17 K2, gK_698_20 K2, gK_698_21 K2, gK_698_22 K2, gK_698_23 K2, gK_698_24 K2, gK_698_25 K2, gK_698_26 K2, gK_698_27 K2, gK_698_28 K2, gK_698_29 K2, gK_698_30 K2, gK_698_31 K2, gK_698_32 K2, gK_698_33 K2, gK_698_34 K2, gK_698_35 K2, gK_698_36 K2, gK_698_37 K2, gK_698_38 K2, gK_698_39 K2, gK_698_41 K2, gK_698_42 K2, gK_698_44 K2, gK_c K2, gK_d K2, gK_n K2, gK_p K2, gok_8, gok_10, gok_11, gok_15, gok_20, gok_698, gok_699, goA_9, goA_12, goA_13, goA_14, goA_16, goA_17, goA_18, goA_19, goA_21, goA_22, goA_23, goA_24, goA_25, goA_26, goA_27, goA_28, goA_29, goA_30, goA_31, goA_732, goA_733, goA_734, goA_735, goA_736, goA_737, goA_738, goA_739, goA_740, goA_741, goA_742, goA_743, goA_744, goA_745, goA_746, goA_747, goA_748, goA_749, goA_750, goA_751, goA_752, goA_753, goA_754, goA_755, goA_756, goA_757, gN_wI, gR_wI, gL_wI, if_true, eq_self, Option.bind_some, gd_kI_i]
  rw [d1]
  simp only [gK_N K3, gK_8_0 K3, gK_8_1 K3, gK_8_2 K3, gK_8_3 K3, gK_8_4 K3, gK_8_5 K3, gK_8_6 K3, gK_8_7 K3, gK_8_8 K3, gK_10_0 K3, gK_10_1 K3, gK_10_2 K3, gK_11_0 K3, gK_15_0 K3, gK_15_1 K3, gK_15_2 K3, gK_15_3 K3, gK_20_0 K3, gK_20_1 K3, gK_20_2 K3, gK_20_3 K3, gK_20_4 K3, gK_20_5 K3, gK_698_0 K3, gK_698_3 K3, gK_698_16 K3, gK_698_17 K3, gK_698_20 K3, gK_698_21 K3, gK_698_22 K3, gK_698_23 K3, gK_698_24 K3, gK_698_25 K3, gK_698_26 K3, gK_698_27 K3, gK_698_28 K3, gK_698_29 K3, gK_698_30 K3, gK_698_31 K3, gK_698_32 K3, gK_698_33 K3, gK_698_34 K3, gK_698_35 K3, gK_698_36 K3, gK_698_37 K3, gK_698_38 K3, gK_698_39 K3, gK_698_41 K3, gK_698_42 K3, gK_698_44 K3, gK_c K3, gK_d K3, gK_n K3, gK_p K3, gok_8, gok_10, gok_11, gok_15, gok_20, gok_698, gok_699, goA_9, goA_12, goA_13, goA_14, goA_16, goA_17, goA_18, goA_19, goA_21, goA_22, goA_23, goA_24, goA_25, goA_26, goA_27, goA_28, goA_29, goA_30, goA_31, goA_732, goA_733, goA_734, goA_735, goA_736, goA_737, goA_738, goA_739, goA_740, goA_741, goA_742, goA_743, goA_744, goA_745, goA_746, goA_747, goA_748, goA_749, goA_750, goA_751, goA_752, goA_753, goA_754, goA_755, goA_756, goA_757, gN_wI, gR_wI, gL_wI, if_true, eq_self, Option.bind_some, gd_kI_i]
  rw [f1]
  simp only [Option.bind_some, gd_kI_i]
  show some (Value.int (vLs n s P l 0 + vLs n s P l 1 + vLs n s P l 2 + vLs n s P l 3), m4) = some (Value.int (0 + vLs n s P l 0 + vLs n s P l 1 + vLs n s P l 2 + vLs n s P l 3), m4)
  rw [Int32.zero_add]
theorem P_land (R : gRel c d n p m s) (x y : Int32) : gPr 181 183 [.int x, .int y] m := by
  obtain ⟨K, I, C, S, H⟩ := id R
  obtain ⟨P, -, hP2, hP⟩ := iAll_ppl I
  have hc := gK_c1 K
  cases h : gIs 10 x with
  | false =>
    refine gPr_of R (v := -2) (s' := s) ⟨m, ?_, oX_refl, C⟩ (fun m1 K S H => ⟨m1, ?_, oM_refl, S, H⟩) I
    · rw [q_X_land, c_isLand, h]; rfl
    · rw [q_Mo_land, c_in9, h]; rfl
  | true =>
    obtain ⟨l, hl, rfl⟩ := gIs_t (by decide) h
    cases h2 : gIs 5 y with
    | false =>
      refine gPr_of R (v := -2) (s' := s) ⟨m, ?_, oX_refl, C⟩ (fun m1 K S H => ⟨m1, ?_, oM_refl, S, H⟩) I
      · rw [q_X_land, c_isLand, h]
        simp only [Option.bind_some, gd_k0I_i, gB_t]
        rw [if_neg (by decide), c_isList, h2]; rfl
      · rw [q_Mo_land, c_in9, h]
        simp only [Option.bind_some, gd_k0I_i, gB_t]
        rw [if_neg (by decide), c_in4, h2]; rfl
    | true =>
      obtain ⟨a, ha, rfl⟩ := gIs_t (by decide) h2
      by_cases h4 : a = 4
      · subst h4
        obtain ⟨m2, a1, a2⟩ := c_totalOf K C I hP hP2 hl
        refine gPr_of R (v := vTo n s P l 4) (s' := s) ⟨m2, ?_, oB_X a2, oB_C hc a2 C⟩ (fun m1 K S H => ?_) I
        · rw [q_X_land, c_isLand, h]
          simp only [Option.bind_some, gd_k0I_i, gB_t]
          rw [if_neg (by decide), c_isList, h2]
          simp only [Option.bind_some, gd_k0I_i, gB_t, gK_N K, gok_8, if_true]
          rw [if_neg (by decide), if_pos (show Int32.ofNat 4 = 4 from rfl), a1]
          rfl
        · obtain ⟨m3, b1, b2⟩ := c_land4 K S H I hP hP2 hl
          exact ⟨m3, b1, b2⟩
      · obtain ⟨m2, a1, a2⟩ := c_scoreOf K C I hP hP2 hl (show a < 4 by omega)
        refine gPr_of R (v := vLs n s P l a) (s' := s) ⟨m2, ?_, oB_X a2, oB_C hc a2 C⟩ (fun m1 K S H => ?_) I
        · rw [q_X_land, c_isLand, h]
          simp only [Option.bind_some, gd_k0I_i, gB_t]
          rw [if_neg (by decide), c_isList, h2]
          simp only [Option.bind_some, gd_k0I_i, gB_t, gK_N K, gok_8, if_true]
          rw [if_neg (by decide), if_neg (fun t : Int32.ofNat a = 4 => h4 ((gneb_4 (by omega) (by decide)).1 t)), a1]
          rfl
        · obtain ⟨m3, b1, b2⟩ := c_landAt K S H I hP hP2 hl (show a < 4 by omega)
          refine ⟨m3, ?_, b2⟩
          rw [q_Mo_land, c_in9, h]
          simp only [Option.bind_some, gd_k0I_i, gB_t]
          rw [if_neg (by decide), c_in4, h2]
          simp only [Option.bind_some, gd_k0I_i, gB_t, gK_N K, gok_698, if_true]
          rw [if_neg (by decide), if_pos ((gnlb_4 (by omega) (by decide)).2 (by omega)), b1]
          rfl
theorem c_standing_21 (I : iAll n s) {P : Nat} (hP : s 698 18 = Int32.ofNat P) (hP2 : P ≤ 40) {x1 own : Int32} : ∀ j k (m : gd_M), k + j = 10 → gK c d n p m → cAll c n (gI m) s → ∃ m', gd_Den (184, 21, [.ref 8, .int x1, .int own, .int (Int32.ofNat (vSt n s P own k)), .int (Int32.ofNat k)], [], m) = some (.int (Int32.ofNat (vSt n s P own 10 + 1)), m') ∧ oB m m' := by
  intro j
  induction j with
  | zero =>
    intro k m h K C
    have : k = 10 := by omega
    subst this
    exact ⟨m, by rw [q_X_standing_21, if_neg (show ¬ Int32.ofNat 10 < 10 by decide), gn_succ], oB_refl⟩
  | succ j ih =>
    intro k m h K C
    obtain ⟨m2, a1, a2⟩ := c_totalOf K C I hP hP2 (show k < 10 by omega)
    have K2 := gK_o K a2.1
    obtain ⟨m', b1, b2⟩ := ih (k + 1) m2 (by omega) K2 (oB_C (gK_c1 K) a2 C)
    have e1 : vSt n s P own (k + 1) = vSt n s P own k + if own < vTo n s P k 4 then 1 else 0 := rfl
    rw [e1] at b1
    refine ⟨m', ?_, oB_tr a2 b2⟩
    rw [q_X_standing_21, if_pos ((gnlb_10 (by omega) (by decide)).2 (by omega))]
    simp only [gK_N K, gK_8_0 K, gK_8_1 K, gK_8_2 K, gK_8_3 K, gK_8_4 K, gK_8_5 K, gK_8_6 K, gK_8_7 K, gK_8_8 K, gK_10_0 K, gK_10_1 K, gK_10_2 K, gK_11_0 K, gK_15_0 K, gK_15_1 K, gK_15_2 K, gK_15_3 K, gK_20_0 K, gK_20_1 K, gK_20_2 K, gK_20_3 K, gK_20_4 K, gK_20_5 K, gK_698_0 K, gK_698_3 K, gK_698_16 K, gK_698_17 K, gK_698_20 K, gK_698_21 K, gK_698_22 K, gK_698_23 K, gK_698_24 K, gK_698_25 K, gK_698_26 K, gK_698_27 K, gK_698_28 K, gK_698_29 K, gK_698_30 K, gK_698_31 K, gK_698_32 K, gK_698_33 K, gK_698_34 K, gK_698_35 K, gK_698_36 K, gK_698_37 K, gK_698_38 K, gK_698_39 K, gK_698_41 K, gK_698_42 K, gK_698_44 K, gK_c K, gK_d K, gK_n K, gK_p K, gok_8, gok_10, gok_11, gok_15, gok_20, gok_698, gok_699, goA_9, goA_12, goA_13, goA_14, goA_16, goA_17, goA_18, goA_19, goA_21, goA_22, goA_23, goA_24, goA_25, goA_26, goA_27, goA_28, goA_29, goA_30, goA_31, goA_732, goA_733, goA_734, goA_735, goA_736, goA_737, goA_738, goA_739, goA_740, goA_741, goA_742, goA_743, goA_744, goA_745, goA_746, goA_747, goA_748, goA_749, goA_750, goA_751, goA_752, goA_753, goA_754, goA_755, goA_756, goA_757, gN_wI, gR_wI, gL_wI, if_true, eq_self]
    rw [a1]
    simp only [Option.bind_some, gd_kI_i]
    rw [gn_succ, gn_succ]
    by_cases q : own < vTo n s P k 4
    · rw [if_pos q]; rw [if_pos q] at b1; exact b1
    · rw [if_neg q]; rw [if_neg q] at b1; exact b1
theorem c_standing_25 (I : iAll n s) {P : Nat} (hP : s 698 18 = Int32.ofNat P) (hP2 : P ≤ 40) {x1 own : Int32} : ∀ j k (m : gd_M), k + j = 10 → gK c d n p m → gSm n (gI m) s → gCh n (gI m) s → ∃ m', gd_Den (185, 25, [.ref 698, .int x1, .int own, .int (Int32.ofNat (vSt n s P own k + 1)), .int (Int32.ofNat k)], [], m) = some (.int (Int32.ofNat (vSt n s P own 10 + 1)), m') ∧ rK n s m m' := by
  intro j
  induction j with
  | zero =>
    intro k m h K S H
    have : k = 10 := by omega
    subst this
    exact ⟨m, by rw [q_Mo_standing_25, if_neg (show ¬ Int32.ofNat 10 < 10 by decide)], oM_refl, S, H⟩
  | succ j ih =>
    intro k m h K S H
    obtain ⟨m2, a1, a2⟩ := c_land4 K S H I hP hP2 (show k < 10 by omega)
    have K2 := gK_o K a2.1.1
    obtain ⟨m', b1, b2⟩ := ih (k + 1) m2 (by omega) K2 a2.2.1 a2.2.2
    have e1 : vSt n s P own (k + 1) = vSt n s P own k + if own < vTo n s P k 4 then 1 else 0 := rfl
    rw [e1] at b1
    refine ⟨m', ?_, rK_tr a2 b2⟩
    rw [q_Mo_standing_25, if_pos ((gnlb_10 (by omega) (by decide)).2 (by omega))]
    simp only [gK_N K, gK_8_0 K, gK_8_1 K, gK_8_2 K, gK_8_3 K, gK_8_4 K, gK_8_5 K, gK_8_6 K, gK_8_7 K, gK_8_8 K, gK_10_0 K, gK_10_1 K, gK_10_2 K, gK_11_0 K, gK_15_0 K, gK_15_1 K, gK_15_2 K, gK_15_3 K, gK_20_0 K, gK_20_1 K, gK_20_2 K, gK_20_3 K, gK_20_4 K, gK_20_5 K, gK_698_0 K, gK_698_3 K, gK_698_16 K, gK_698_17 K, gK_698_20 K, gK_698_21 K, gK_698_22 K, gK_698_23 K, gK_698_24 K, gK_698_25 K, gK_698_26 K, gK_698_27 K, gK_698_28 K, gK_698_29 K, gK_698_30 K, gK_698_31 K, gK_698_32 K, gK_698_33 K, gK_698_34 K, gK_698_35 K, gK_698_36 K, gK_698_37 K, gK_698_38 K, gK_698_39 K, gK_698_41 K, gK_698_42 K, gK_698_44 K, gK_c K, gK_d K, gK_n K, gK_p K, gok_8, gok_10, gok_11, gok_15, gok_20, gok_698, gok_699, goA_9, goA_12, goA_13, goA_14, goA_16, goA_17, goA_18, goA_19, goA_21, goA_22, goA_23, goA_24, goA_25, goA_26, goA_27, goA_28, goA_29, goA_30, goA_31, goA_732, goA_733, goA_734, goA_735, goA_736, goA_737, goA_738, goA_739, goA_740, goA_741, goA_742, goA_743, goA_744, goA_745, goA_746, goA_747, goA_748, goA_749, goA_750, goA_751, goA_752, goA_753, goA_754, goA_755, goA_756, goA_757, gN_wI, gR_wI, gL_wI, if_true, eq_self]
    rw [a1]
    simp only [Option.bind_some, gd_kI_i]
    rw [gn_succ, gn_succ, Int32.add_zero]
    by_cases q : own < vTo n s P k 4
    · rw [if_pos q]; rw [if_pos q] at b1; exact b1
    · rw [if_neg q]; rw [if_neg q] at b1; exact b1
theorem P_standing (R : gRel c d n p m s) (x : Int32) : gPr 184 185 [.int x] m := by
  obtain ⟨K, I, C, S, H⟩ := id R
  obtain ⟨P, -, hP2, hP⟩ := iAll_ppl I
  have hc := gK_c1 K
  cases h : gIs 10 x with
  | false =>
    refine gPr_of R (v := -2) (s' := s) ⟨m, ?_, oX_refl, C⟩ (fun m1 K S H => ⟨m1, ?_, oM_refl, S, H⟩) I
    · rw [q_X_standing, c_isLand, h]; rfl
    · rw [q_Mo_standing, c_in9, h]; rfl
  | true =>
    obtain ⟨l, hl, rfl⟩ := gIs_t (by decide) h
    obtain ⟨m2, a1, a2⟩ := c_totalOf K C I hP hP2 hl
    have K2 := gK_o K a2.1
    obtain ⟨m3, b1, b2⟩ := c_standing_21 (x1 := Int32.ofNat l) (own := vTo n s P l 4) I hP hP2 10 0 m2 (by omega) K2 (oB_C hc a2 C)
    refine gPr_of R (v := Int32.ofNat (vSt n s P (vTo n s P l 4) 10 + 1)) (s' := s) ⟨m3, ?_, oB_X (oB_tr a2 b2), oB_C hc (oB_tr a2 b2) C⟩ (fun m1 K S H => ?_) I
    · rw [q_X_standing, c_isLand, h]
      simp only [Option.bind_some, gd_k0I_i, gB_t, gK_N K, gok_8, if_true]
      rw [if_neg (by decide), a1]
      simp only [Option.bind_some, gd_kI_i]
      exact b1
    · obtain ⟨m4, d1, d2⟩ := c_land4 K S H I hP hP2 hl
      have K4 := gK_o K d2.1.1
      obtain ⟨m5, f1, f2⟩ := c_standing_25 (x1 := Int32.ofNat l) (own := vTo n s P l 4) I hP hP2 10 0 m4 (by omega) K4 d2.2.1 d2.2.2
      refine ⟨m5, ?_, rK_tr d2 f2⟩
      rw [q_Mo_standing, c_in9, h]
      simp only [Option.bind_some, gd_k0I_i, gB_t, gK_N K, gok_698, if_true]
      rw [if_neg (by decide), d1]
      simp only [Option.bind_some, gd_kI_i]
      exact f1
end P89
