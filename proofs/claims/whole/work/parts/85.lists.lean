/-! ===== lists: what they are, the class's ===== -/
def lSk (a b : Nat) : Bool := decide (a < 4) && !decide (b = a)
def lS (a : Nat) (S : Nat → Int32) : Nat → Int32
  | 0 => 0
  | b + 1 => if lSk a b = true then lS a S b else lS a S b + S b
def lP (a : Nat) (Q : Nat → Bool) : Nat → Bool
  | 0 => true
  | b + 1 => lP a Q b && (lSk a b || Q b)
noncomputable def lScr (n : Nat) (s : gd_C) (r : Nat) : Int32 := gSc (gCd n s) (s 739 r) (gEn s r) (gMk s r) (gSn s r)
def lExe (n : Nat) (s : gd_C) (r : Nat) : Int32 := gJd (gCd n s) (gMk s r)
noncomputable def lDif (n : Nat) (s : gd_C) (r : Nat) : Int32 := gM0 (gBw (gCd n s) (s 739 r) (gEn s r))
noncomputable def kS (n : Nat) (s : gd_C) (a g : Nat) : Int32 := lS a (fun b => lScr n s (4 * g + b)) 4
def kE (n : Nat) (s : gd_C) (a g : Nat) : Int32 := lS a (fun b => lExe n s (4 * g + b)) 4
noncomputable def kD (n : Nat) (s : gd_C) (a g : Nat) : Int32 := lS a (fun b => lDif n s (4 * g + b)) 4
def lIn (s : gd_C) (a g : Nat) : Bool := decide (s 737 (5 * g + a) = 0) && lP a (fun b => gPo s (4 * g + b)) 4
/-- is g better than h -/
noncomputable def lBt (n : Nat) (s : gd_C) (a g h : Nat) : Bool := if kS n s a g = kS n s a h then (if kE n s a g = kE n s a h then decide (kD n s a h < kD n s a g) else decide (kE n s a g < kE n s a h)) else decide (kS n s a h < kS n s a g)
def lPs (bt : Nat → Bool) : Nat → Nat
  | 0 => 0
  | i + 1 => if bt i = true then lPs bt i else i + 1
def lNw {α : Type} (L : Nat → α) (p : Nat) (x : α) : Nat → α := fun j => if j < p then L j else if j = p then x else L (j - 1)
noncomputable def lLi (n : Nat) (s : gd_C) (a : Nat) : Nat → Nat × (Nat → Nat)
  | 0 => (0, fun _ => 0)
  | g + 1 => if lIn s a g = true then ((lLi n s a g).1 + 1, lNw (lLi n s a g).2 (lPs (fun i => lBt n s a g ((lLi n s a g).2 i)) (lLi n s a g).1) g) else lLi n s a g
theorem lPs_le {bt : Nat → Bool} : ∀ i, lPs bt i ≤ i := by
  intro i
  induction i with
  | zero => exact Nat.le_refl 0
  | succ i ih =>
    show (if bt i = true then lPs bt i else i + 1) ≤ i + 1
    by_cases h : bt i = true
    · rw [if_pos h]; omega
    · rw [if_neg h]; exact Nat.le_refl _
theorem lLi_lt {n : Nat} {s : gd_C} {a : Nat} : ∀ g, (lLi n s a g).1 ≤ g ∧ ∀ j < (lLi n s a g).1, (lLi n s a g).2 j < g := by
  intro g
  induction g with
  | zero => exact ⟨Nat.le_refl 0, fun j hj => absurd hj (Nat.not_lt_zero j)⟩
  | succ g ih =>
    obtain ⟨i1, i2⟩ := ih
    have hp := lPs_le (bt := fun i => lBt n s a g ((lLi n s a g).2 i)) (lLi n s a g).1
    by_cases h : lIn s a g = true
    · have e : lLi n s a (g + 1) = ((lLi n s a g).1 + 1, lNw (lLi n s a g).2 (lPs (fun i => lBt n s a g ((lLi n s a g).2 i)) (lLi n s a g).1) g) := if_pos h
      rw [e]
      refine ⟨Nat.succ_le_succ i1, fun j hj => ?_⟩
      have hj : j < (lLi n s a g).1 + 1 := hj
      show (if j < lPs (fun i => lBt n s a g ((lLi n s a g).2 i)) (lLi n s a g).1 then (lLi n s a g).2 j else if j = lPs (fun i => lBt n s a g ((lLi n s a g).2 i)) (lLi n s a g).1 then g else (lLi n s a g).2 (j - 1)) < g + 1
      by_cases q1 : j < lPs (fun i => lBt n s a g ((lLi n s a g).2 i)) (lLi n s a g).1
      · rw [if_pos q1]; have := i2 j (by omega); omega
      · rw [if_neg q1]
        by_cases q2 : j = lPs (fun i => lBt n s a g ((lLi n s a g).2 i)) (lLi n s a g).1
        · rw [if_pos q2]; omega
        · rw [if_neg q2]; have := i2 (j - 1) (by omega); omega
    · have e : lLi n s a (g + 1) = lLi n s a g := if_neg h
      rw [e]
      exact ⟨by omega, fun j hj => by have := i2 j hj; omega⟩
theorem lSk_4 {b : Nat} : lSk 4 b = false := rfl
theorem lSk_a {a : Nat} : lSk a a = false := by unfold lSk; rw [decide_eq_true (show a = a from rfl)]; cases decide (a < 4) <;> rfl
theorem lSk_n {a b : Nat} (ha : a < 4) (h : b ≠ a) : lSk a b = true := by unfold lSk; rw [decide_eq_true ha, decide_eq_false h]; rfl
theorem lS_lo {a : Nat} (ha : a < 4) {S : Nat → Int32} : ∀ b, b ≤ a → lS a S b = 0 := by
  intro b
  induction b with
  | zero => intro _; rfl
  | succ b ih =>
    intro h
    show (if lSk a b = true then lS a S b else lS a S b + S b) = 0
    rw [if_pos (lSk_n ha (by omega))]; exact ih (by omega)
theorem lS_hi {a : Nat} (ha : a < 4) {S : Nat → Int32} : ∀ j, lS a S (a + 1 + j) = lS a S (a + 1) := by
  intro j
  induction j with
  | zero => rfl
  | succ j ih =>
    show (if lSk a (a + 1 + j) = true then lS a S (a + 1 + j) else lS a S (a + 1 + j) + S (a + 1 + j)) = _
    rw [if_pos (lSk_n ha (by omega))]; exact ih
theorem lP_lo {a : Nat} (ha : a < 4) {Q : Nat → Bool} : ∀ b, b ≤ a → lP a Q b = true := by
  intro b
  induction b with
  | zero => intro _; rfl
  | succ b ih =>
    intro h
    show (lP a Q b && (lSk a b || Q b)) = true
    rw [lSk_n ha (by omega), ih (by omega)]; rfl
theorem lP_hi {a : Nat} (ha : a < 4) {Q : Nat → Bool} : ∀ j, lP a Q (a + 1 + j) = lP a Q (a + 1) := by
  intro j
  induction j with
  | zero => rfl
  | succ j ih =>
    show (lP a Q (a + 1 + j) && (lSk a (a + 1 + j) || Q (a + 1 + j))) = _
    rw [lSk_n ha (by omega), Bool.true_or, Bool.and_true]; exact ih
theorem lP_f {a : Nat} {Q : Nat → Bool} {b : Nat} (h : lP a Q b = false) : ∀ j, lP a Q (b + j) = false := by
  intro j
  induction j with
  | zero => exact h
  | succ j ih =>
    show (lP a Q (b + j) && (lSk a (b + j) || Q (b + j))) = false
    rw [ih]; rfl
theorem lP_1 {a : Nat} (ha : a < 4) {Q : Nat → Bool} : lP a Q 4 = Q a := by
  have h := lP_hi ha (Q := Q) (3 - a)
  rw [show a + 1 + (3 - a) = 4 by omega] at h
  rw [h]
  show (lP a Q a && (lSk a a || Q a)) = Q a
  rw [lP_lo ha a (Nat.le_refl a), lSk_a]; rfl
theorem gn_m1 {i : Nat} : Int32.ofNat (i + 1) + (-1) = Int32.ofNat i := by
  rw [← gn_succ, Int32.add_assoc, show (1 : Int32) + (-1) = 0 from rfl, Int32.add_zero]
theorem gn_s1 {i : Nat} : Int32.ofNat (i + 1) - 1 = Int32.ofNat i := gn_pred (N := i + 1) (Nat.succ_pos i)
/-- only the class's lists have changed -/
def oL (m m1 : gd_M) : Prop := m1.2 = m.2 ∧ ∀ a, (a < 20 ∨ 26 < a) → gI m1 a = gI m a
theorem oL_refl {m : gd_M} : oL m m := ⟨rfl, fun _ _ => rfl⟩
theorem oL_w {m m1 : gd_M} {a k : Nat} {x : Int32} (h : oL m m1) (ha : 20 ≤ a ∧ a ≤ 26) : oL m (wI m1 a k x) := ⟨h.1, fun b hb => by rw [gI_wI_f (by omega)]; exact h.2 b hb⟩
theorem oL_tr {m m1 m2 : gd_M} (h : oL m m1) (h2 : oL m1 m2) : oL m m2 := ⟨h2.1.trans h.1, fun b hb => (h2.2 b hb).trans (h.2 b hb)⟩
theorem oL_X {m m1 : gd_M} (h : oL m m1) : oX m m1 := ⟨h.1, fun a ha => h.2 a (by omega)⟩
theorem oL_C {c n : Nat} {m m1 : gd_M} {s : gd_C} (hc : c = 32 ∨ c = 45) (h : oL m m1) (C : cAll c n (gI m) s) : cAll c n (gI m1) s := cAll_O hc (fun a ha => h.2 a (by omega)) C
/-- the class's list in the memory -/
def cLs (n : Nat) (s : gd_C) (a len : Nat) (L : Nat → Nat) (m : gd_M) : Prop := gI m 20 6 = Int32.ofNat len ∧ ∀ j < len, gI m 21 j = Int32.ofNat (L j) ∧ gI m 22 (L j) = kS n s a (L j) ∧ gI m 23 (L j) = kE n s a (L j) ∧ gI m 24 (L j) = kD n s a (L j)
section P85
variable {c d n p : Nat} {m : gd_M} {s : gd_C} {a g h len fr to : Nat} {L : Nat → Nat}
theorem c_isBetter (K : gK c d n p m) (hg : g < 40) (hh : h < 40) (g1 : gI m 22 g = kS n s a g) (g2 : gI m 23 g = kE n s a g) (g3 : gI m 24 g = kD n s a g) (h1 : gI m 22 h = kS n s a h) (h2 : gI m 23 h = kE n s a h) (h3 : gI m 24 h = kD n s a h) : gd_call 161 [.ref 20, .int (Int32.ofNat g), .int (Int32.ofNat h)] m = some (.int (gB (lBt n s a g h)), m) := by
  rw [q_Ra_isBetter]
  simp only [gK_N K, gK_8_0 K, gK_8_1 K, gK_8_2 K, gK_8_3 K, gK_8_4 K, gK_8_5 K, gK_8_6 K, gK_8_7 K, gK_8_8 K, gK_10_0 K, gK_10_1 K, gK_10_2 K, gK_11_0 K, gK_15_0 K, gK_15_1 K, gK_15_2 K, gK_15_3 K, gK_20_0 K, gK_20_1 K, gK_20_2 K, gK_20_3 K, gK_20_4 K, gK_20_5 K, gK_698_0 K, gK_698_3 K, gK_698_16 K, gK_698_17 K, gK_698_20 K, gK_698_21 K, gK_698_22 K, gK_698_23 K, gK_698_24 K, gK_698_25 K, gK_698_26 K, gK_698_27 K, gK_698_28 K, gK_698_29 K, gK_698_30 K, gK_698_31 K, gK_698_32 K, gK_698_33 K, gK_698_34 K, gK_698_35 K, gK_698_36 K, gK_698_37 K, gK_698_38 K, gK_698_39 K, gK_698_41 K, gK_698_42 K, gK_698_44 K, gK_c K, gK_d K, gK_n K, gK_p K, gok_8, gok_10, gok_11, gok_15, gok_20, gok_698, gok_699, goA_9, goA_12, goA_13, goA_14, goA_16, goA_17, goA_18, goA_19, goA_21, goA_22, goA_23, goA_24, goA_25, goA_26, goA_27, goA_28, goA_29, goA_30, goA_31, goA_732, goA_733, goA_734, goA_735, goA_736, goA_737, goA_738, goA_739, goA_740, goA_741, goA_742, goA_743, goA_744, goA_745, goA_746, goA_747, goA_748, goA_749, goA_750, goA_751, goA_752, goA_753, goA_754, goA_755, goA_756, goA_757, gN_wI, gR_wI, gL_wI, if_true, eq_self, gn_in (show g < 2147483648 by omega) hg, gn_in (show h < 2147483648 by omega) hh, gn_nat (show g < 2147483648 by omega), gn_nat (show h < 2147483648 by omega), g1, g2, g3, h1, h2, h3]
  unfold lBt
  by_cases q1 : kS n s a g = kS n s a h
  · rw [if_pos q1, if_pos q1]
    by_cases q2 : kE n s a g = kE n s a h
    · rw [if_pos q2, if_pos q2]
      by_cases q3 : kD n s a h < kD n s a g
      · rw [if_pos q3, decide_eq_true q3]; rfl
      · rw [if_neg q3, decide_eq_false q3]; rfl
    · rw [if_neg q2, if_neg q2]
      by_cases q3 : kE n s a g < kE n s a h
      · rw [if_pos q3, decide_eq_true q3]; rfl
      · rw [if_neg q3, decide_eq_false q3]; rfl
  · rw [if_neg q1, if_neg q1]
    by_cases q3 : kS n s a h < kS n s a g
    · rw [if_pos q3, decide_eq_true q3]; rfl
    · rw [if_neg q3, decide_eq_false q3]; rfl
theorem c_insert_48 {x2 x3 x4 : Int32} (hg : g < 40) (hlen : len < 40) (hL : ∀ j < len, L j < 40) : ∀ i (m : gd_M), i ≤ len → gK c d n p m → gI m 20 6 = Int32.ofNat len → (gI m 22 g = kS n s a g ∧ gI m 23 g = kE n s a g ∧ gI m 24 g = kD n s a g) → (∀ j < len, gI m 22 (L j) = kS n s a (L j) ∧ gI m 23 (L j) = kE n s a (L j) ∧ gI m 24 (L j) = kD n s a (L j)) → (∀ j < i, gI m 21 j = Int32.ofNat (L j)) → (∀ j, i < j → j ≤ len → gI m 21 j = Int32.ofNat (L (j - 1))) → ∃ m', gd_Den (162, 48, [.ref 20, .int (Int32.ofNat g), .int x2, .int x3, .int x4, .int (Int32.ofNat i)], [], m) = some (.null, m') ∧ m'.2 = m.2 ∧ (∀ q, q ≠ 20 → q ≠ 21 → gI m' q = gI m q) ∧ gI m' 20 6 = Int32.ofNat (len + 1) ∧ ∀ j < len + 1, gI m' 21 j = Int32.ofNat (lNw L (lPs (fun i => lBt n s a g (L i)) i) g j) := by
  intro i
  induction i with
  | zero =>
    intro m _ K h6 hk hks hlo hhi
    refine ⟨wI (wI m 21 0 (Int32.ofNat g)) 20 6 (Int32.ofNat (len + 1)), ?_, rfl, fun q q1 q2 => by rw [gI_wI_f q1, gI_wI_f q2], gI_wI_s, fun j hj => ?_⟩
    · rw [q_Ra_insert_48, if_neg (show ¬ (0 : Int32) < Int32.ofNat 0 by decide)]
      simp only [gK_N K, gK_8_0 K, gK_8_1 K, gK_8_2 K, gK_8_3 K, gK_8_4 K, gK_8_5 K, gK_8_6 K, gK_8_7 K, gK_8_8 K, gK_10_0 K, gK_10_1 K, gK_10_2 K, gK_11_0 K, gK_15_0 K, gK_15_1 K, gK_15_2 K, gK_15_3 K, gK_20_0 K, gK_20_1 K, gK_20_2 K, gK_20_3 K, gK_20_4 K, gK_20_5 K, gK_698_0 K, gK_698_3 K, gK_698_16 K, gK_698_17 K, gK_698_20 K, gK_698_21 K, gK_698_22 K, gK_698_23 K, gK_698_24 K, gK_698_25 K, gK_698_26 K, gK_698_27 K, gK_698_28 K, gK_698_29 K, gK_698_30 K, gK_698_31 K, gK_698_32 K, gK_698_33 K, gK_698_34 K, gK_698_35 K, gK_698_36 K, gK_698_37 K, gK_698_38 K, gK_698_39 K, gK_698_41 K, gK_698_42 K, gK_698_44 K, gK_c K, gK_d K, gK_n K, gK_p K, gok_8, gok_10, gok_11, gok_15, gok_20, gok_698, gok_699, goA_9, goA_12, goA_13, goA_14, goA_16, goA_17, goA_18, goA_19, goA_21, goA_22, goA_23, goA_24, goA_25, goA_26, goA_27, goA_28, goA_29, goA_30, goA_31, goA_732, goA_733, goA_734, goA_735, goA_736, goA_737, goA_738, goA_739, goA_740, goA_741, goA_742, goA_743, goA_744, goA_745, goA_746, goA_747, goA_748, goA_749, goA_750, goA_751, goA_752, goA_753, goA_754, goA_755, goA_756, goA_757, gN_wI, gR_wI, gL_wI, if_true, eq_self]
      rw [gn_in (by decide) (by decide), if_pos rfl, gn_nat (by decide), gI_wI_a (show (20 : Nat) ≠ 21 by decide), h6, gn_succ]
    · rw [gI_wI_a (by decide), gI_wI_m]
      show _ = Int32.ofNat (if j < 0 then L j else if j = 0 then g else L (j - 1))
      rw [if_neg (Nat.not_lt_zero j)]
      by_cases e : j = 0
      · rw [if_pos e, if_pos e]
      · rw [if_neg e, if_neg e]; exact hhi j (by omega) (by omega)
  | succ i ih =>
    intro m hi K h6 hk hks hlo hhi
    obtain ⟨k1, k2, k3⟩ := hk
    obtain ⟨l1, l2, l3⟩ := hks i (by omega)
    rw [q_Ra_insert_48, if_pos ((gnla_0 (by decide) (by omega)).2 (Nat.succ_pos i)), gn_s1]
    simp only [gK_N K, gK_8_0 K, gK_8_1 K, gK_8_2 K, gK_8_3 K, gK_8_4 K, gK_8_5 K, gK_8_6 K, gK_8_7 K, gK_8_8 K, gK_10_0 K, gK_10_1 K, gK_10_2 K, gK_11_0 K, gK_15_0 K, gK_15_1 K, gK_15_2 K, gK_15_3 K, gK_20_0 K, gK_20_1 K, gK_20_2 K, gK_20_3 K, gK_20_4 K, gK_20_5 K, gK_698_0 K, gK_698_3 K, gK_698_16 K, gK_698_17 K, gK_698_20 K, gK_698_21 K, gK_698_22 K, gK_698_23 K, gK_698_24 K, gK_698_25 K, gK_698_26 K, gK_698_27 K, gK_698_28 K, gK_698_29 K, gK_698_30 K, gK_698_31 K, gK_698_32 K, gK_698_33 K, gK_698_34 K, gK_698_35 K, gK_698_36 K, gK_698_37 K, gK_698_38 K, gK_698_39 K, gK_698_41 K, gK_698_42 K, gK_698_44 K, gK_c K, gK_d K, gK_n K, gK_p K, gok_8, gok_10, gok_11, gok_15, gok_20, gok_698, gok_699, goA_9, goA_12, goA_13, goA_14, goA_16, goA_17, goA_18, goA_19, goA_21, goA_22, goA_23, goA_24, goA_25, goA_26, goA_27, goA_28, goA_29, goA_30, goA_31, goA_732, goA_733, goA_734, goA_735, goA_736, goA_737, goA_738, goA_739, goA_740, goA_741, goA_742, goA_743, goA_744, goA_745, goA_746, goA_747, goA_748, goA_749, goA_750, goA_751, goA_752, goA_753, goA_754, goA_755, goA_756, goA_757, gN_wI, gR_wI, gL_wI, if_true, eq_self]
    rw [gn_in (by omega) (show i < 40 by omega), if_pos rfl, gn_nat (show i < 2147483648 by omega), hlo i (by omega), c_isBetter K hg (hL i (by omega)) k1 k2 k3 l1 l2 l3]
    simp only [gK_N K, gK_8_0 K, gK_8_1 K, gK_8_2 K, gK_8_3 K, gK_8_4 K, gK_8_5 K, gK_8_6 K, gK_8_7 K, gK_8_8 K, gK_10_0 K, gK_10_1 K, gK_10_2 K, gK_11_0 K, gK_15_0 K, gK_15_1 K, gK_15_2 K, gK_15_3 K, gK_20_0 K, gK_20_1 K, gK_20_2 K, gK_20_3 K, gK_20_4 K, gK_20_5 K, gK_698_0 K, gK_698_3 K, gK_698_16 K, gK_698_17 K, gK_698_20 K, gK_698_21 K, gK_698_22 K, gK_698_23 K, gK_698_24 K, gK_698_25 K, gK_698_26 K, gK_698_27 K, gK_698_28 K, gK_698_29 K, gK_698_30 K, gK_698_31 K, gK_698_32 K, gK_698_33 K, gK_698_34 K, gK_698_35 K, gK_698_36 K, gK_698_37 K, gK_698_38 K, gK_698_39 K, gK_698_41 K, gK_698_42 K, gK_698_44 K, gK_c K, gK_d K, gK_n K, gK_p K, gok_8, gok_10, gok_11, gok_15, gok_20, gok_698, gok_699, goA_9, goA_12, goA_13, goA_14, goA_16, goA_17, goA_18, goA_19, goA_21, goA_22, goA_23, goA_24, goA_25, goA_26, goA_27, goA_28, goA_29, goA_30, goA_31, goA_732, goA_733, goA_734, goA_735, goA_736, goA_737, goA_738, goA_739, goA_740, goA_741, goA_742, goA_743, goA_744, goA_745, goA_746, goA_747, goA_748, goA_749, goA_750, goA_751, goA_752, goA_753, goA_754, goA_755, goA_756, goA_757, gN_wI, gR_wI, gL_wI, if_true, eq_self, Option.bind_some, gd_kI_i, gB_0]
    rw [gn_in (by omega) (show i < 40 by omega), gn_in (by omega) (show i + 1 < 40 by omega), gn_nat (show i + 1 < 2147483648 by omega), gn_m1]
    simp only [if_true]
    have eP : lPs (fun i => lBt n s a g (L i)) (i + 1) = if lBt n s a g (L i) = true then lPs (fun i => lBt n s a g (L i)) i else i + 1 := rfl
    rw [eP]
    cases q : lBt n s a g (L i) with
    | false =>
      rw [if_pos rfl, if_neg (by decide)]
      refine ⟨wI (wI m 21 (i + 1) (Int32.ofNat g)) 20 6 (Int32.ofNat (len + 1)), ?_, rfl, fun q q1 q2 => by rw [gI_wI_f q1, gI_wI_f q2], gI_wI_s, fun j hj => ?_⟩
      · rw [gI_wI_a (show (20 : Nat) ≠ 21 by decide), h6, gn_succ]
      · rw [gI_wI_a (by decide), gI_wI_m]
        show _ = Int32.ofNat (if j < i + 1 then L j else if j = i + 1 then g else L (j - 1))
        by_cases e : j = i + 1
        · rw [if_pos e, if_neg (by omega), if_pos e]
        · rw [if_neg e]
          by_cases e2 : j < i + 1
          · rw [if_pos e2]; exact hlo j e2
          · rw [if_neg e2, if_neg e]; exact hhi j (by omega) (by omega)
    | true =>
      rw [if_neg (by decide), if_pos rfl]
      obtain ⟨m', a1, a2, a3, a4, a5⟩ := ih (wI m 21 (i + 1) (Int32.ofNat (L i))) (by omega) K (by rw [gI_wI_a (by decide)]; exact h6) ⟨by rw [gI_wI_a (by decide)]; exact k1, by rw [gI_wI_a (by decide)]; exact k2, by rw [gI_wI_a (by decide)]; exact k3⟩ (fun j hj => by rw [gI_wI_a (by decide), gI_wI_a (by decide), gI_wI_a (by decide)]; exact hks j hj) (fun j hj => by rw [gI_wI_k (by omega)]; exact hlo j (by omega)) (fun j h1 h2 => by
        rw [gI_wI_m]
        by_cases e : j = i + 1
        · rw [if_pos e, e]; rfl
        · rw [if_neg e]; exact hhi j (by omega) h2)
      refine ⟨m', ?_, a2, fun q q1 q2 => by rw [a3 q q1 q2, gI_wI_f q2], a4, a5⟩
      rw [hlo i (by omega)]
      exact a1
theorem c_insert (K : gK c d n p m) (hg : g < 40) (hL : ∀ j < len, L j < g) (hlen : len ≤ g) (B : cLs n s a len L m) : ∃ m', gd_call 162 [.ref 20, .int (Int32.ofNat g), .int (kS n s a g), .int (kE n s a g), .int (kD n s a g)] m = some (.null, m') ∧ oL m m' ∧ cLs n s a (len + 1) (lNw L (lPs (fun i => lBt n s a g (L i)) len) g) m' := by
  obtain ⟨b1, b2⟩ := B
  have hp := lPs_le (bt := fun i => lBt n s a g (L i)) len
  have K1 : gK c d n p (wI (wI (wI m 22 g (kS n s a g)) 23 g (kE n s a g)) 24 g (kD n s a g)) := K
  have hne : ∀ j < len, L j ≠ g := fun j hj => by have := hL j hj; omega
  have hkeys : ∀ j < len, gI (wI (wI (wI m 22 g (kS n s a g)) 23 g (kE n s a g)) 24 g (kD n s a g)) 22 (L j) = kS n s a (L j) ∧ gI (wI (wI (wI m 22 g (kS n s a g)) 23 g (kE n s a g)) 24 g (kD n s a g)) 23 (L j) = kE n s a (L j) ∧ gI (wI (wI (wI m 22 g (kS n s a g)) 23 g (kE n s a g)) 24 g (kD n s a g)) 24 (L j) = kD n s a (L j) := fun j hj => by
    obtain ⟨-, c1, c2, c3⟩ := b2 j hj
    refine ⟨?_, ?_, ?_⟩
    · rw [gI_wI_a (by decide), gI_wI_a (by decide), gI_wI_k (hne j hj)]; exact c1
    · rw [gI_wI_a (by decide), gI_wI_k (hne j hj), gI_wI_a (by decide)]; exact c2
    · rw [gI_wI_k (hne j hj), gI_wI_a (by decide), gI_wI_a (by decide)]; exact c3
  have hown : gI (wI (wI (wI m 22 g (kS n s a g)) 23 g (kE n s a g)) 24 g (kD n s a g)) 22 g = kS n s a g ∧ gI (wI (wI (wI m 22 g (kS n s a g)) 23 g (kE n s a g)) 24 g (kD n s a g)) 23 g = kE n s a g ∧ gI (wI (wI (wI m 22 g (kS n s a g)) 23 g (kE n s a g)) 24 g (kD n s a g)) 24 g = kD n s a g := by
    refine ⟨?_, ?_, gI_wI_s⟩
    · rw [gI_wI_a (by decide), gI_wI_a (by decide), gI_wI_s]
    · rw [gI_wI_a (by decide), gI_wI_s]
  have h6 : gI (wI (wI (wI m 22 g (kS n s a g)) 23 g (kE n s a g)) 24 g (kD n s a g)) 20 6 = Int32.ofNat len := by
    rw [gI_wI_a (by decide), gI_wI_a (by decide), gI_wI_a (by decide)]; exact b1
  have h21 : ∀ j, gI (wI (wI (wI m 22 g (kS n s a g)) 23 g (kE n s a g)) 24 g (kD n s a g)) 21 j = gI m 21 j := fun j => by
    rw [gI_wI_a (by decide), gI_wI_a (by decide), gI_wI_a (by decide)]
  obtain ⟨m', a1, a2, a3, a4, a5⟩ := c_insert_48 (x2 := kS n s a g) (x3 := kE n s a g) (x4 := kD n s a g) (c := c) (d := d) (p := p) (L := L) hg (show len < 40 by omega) (fun j hj => by have := hL j hj; omega) len _ (Nat.le_refl len) K1 h6 hown hkeys (fun j hj => by rw [h21]; exact (b2 j hj).1) (fun j h1 h2 => by omega)
  refine ⟨m', ?_, ⟨a2, fun q hq => ?_⟩, a4, fun j hj => ⟨a5 j hj, ?_⟩⟩
  · rw [q_Ra_insert, if_neg (gn_nn (by omega)), if_pos ((gnlb_40 (by omega) (by decide)).2 hg)]
    simp only [gK_N K, gK_8_0 K, gK_8_1 K, gK_8_2 K, gK_8_3 K, gK_8_4 K, gK_8_5 K, gK_8_6 K, gK_8_7 K, gK_8_8 K, gK_10_0 K, gK_10_1 K, gK_10_2 K, gK_11_0 K, gK_15_0 K, gK_15_1 K, gK_15_2 K, gK_15_3 K, gK_20_0 K, gK_20_1 K, gK_20_2 K, gK_20_3 K, gK_20_4 K, gK_20_5 K, gK_698_0 K, gK_698_3 K, gK_698_16 K, gK_698_17 K, gK_698_20 K, gK_698_21 K, gK_698_22 K, gK_698_23 K, gK_698_24 K, gK_698_25 K, gK_698_26 K, gK_698_27 K, gK_698_28 K, gK_698_29 K, gK_698_30 K, gK_698_31 K, gK_698_32 K, gK_698_33 K, gK_698_34 K, gK_698_35 K, gK_698_36 K, gK_698_37 K, gK_698_38 K, gK_698_39 K, gK_698_41 K, gK_698_42 K, gK_698_44 K, gK_c K, gK_d K, gK_n K, gK_p K, gok_8, gok_10, gok_11, gok_15, gok_20, gok_698, gok_699, goA_9, goA_12, goA_13, goA_14, goA_16, goA_17, goA_18, goA_19, goA_21, goA_22, goA_23, goA_24, goA_25, goA_26, goA_27, goA_28, goA_29, goA_30, goA_31, goA_732, goA_733, goA_734, goA_735, goA_736, goA_737, goA_738, goA_739, goA_740, goA_741, goA_742, goA_743, goA_744, goA_745, goA_746, goA_747, goA_748, goA_749, goA_750, goA_751, goA_752, goA_753, goA_754, goA_755, goA_756, goA_757, gN_wI, gR_wI, gL_wI, if_true, eq_self]
    rw [b1, if_pos ((gnlb_40 (by omega) (by decide)).2 (by omega)), gn_in (by omega) hg, if_pos rfl, gn_nat (by omega), h6]
    exact a1
  · rw [a3 q (by omega) (by omega), gI_wI_f (by omega), gI_wI_f (by omega), gI_wI_f (by omega)]
  · rw [a3 22 (by decide) (by decide), a3 23 (by decide) (by decide), a3 24 (by decide) (by decide)]
    unfold lNw
    by_cases q1 : j < lPs (fun i => lBt n s a g (L i)) len
    · rw [if_pos q1]; exact hkeys j (by omega)
    · rw [if_neg q1]
      by_cases q2 : j = lPs (fun i => lBt n s a g (L i)) len
      · rw [if_pos q2]; exact hown
      · rw [if_neg q2]; exact hkeys (j - 1) (by omega)
/-- from and to -/
def lFT (a fr to : Nat) : Prop := to < 4 ∧ (∀ b, fr ≤ b → b ≤ to → lSk a b = false) ∧ (∀ S, lS a S (to + 1) = lS a S 4) ∧ (∀ Q, lP a Q (to + 1) = lP a Q 4) ∧ (∀ S, lS a S fr = 0) ∧ (∀ Q, lP a Q fr = true) ∧ fr ≤ to
theorem lFT_4 : lFT 4 0 3 := ⟨by decide, fun _ _ _ => lSk_4, fun _ => rfl, fun _ => rfl, fun _ => rfl, fun _ => rfl, by decide⟩
theorem lFT_a {a : Nat} (ha : a < 4) : lFT a a a := by
  refine ⟨ha, fun b h1 h2 => ?_, fun S => ?_, fun Q => ?_, fun S => lS_lo ha a (Nat.le_refl a), fun Q => lP_lo ha a (Nat.le_refl a), Nat.le_refl a⟩
  · rw [show b = a by omega]; exact lSk_a
  · have h := lS_hi ha (S := S) (3 - a)
    rw [show a + 1 + (3 - a) = 4 by omega] at h
    exact h.symm
  · have h := lP_hi ha (Q := Q) (3 - a)
    rw [show a + 1 + (3 - a) = 4 by omega] at h
    exact h.symm
theorem c_rankG_12 (K : gK c d n p m) (C : cAll c n (gI m) s) (I : iAll n s) {P : Nat} (hP : s 698 18 = Int32.ofNat P) (hP2 : P ≤ 40) (hg : g < P) (F : lFT a fr to) {x2 : Int32} : ∀ j b v, b + j = to + 1 → fr ≤ b → lP a (fun b => gPo s (4 * g + b)) b = true → gd_Den (163, 12, [.ref 8, .int (Int32.ofNat g), .int x2, .int (Int32.ofNat to), .int (lS a (fun b => lScr n s (4 * g + b)) b), .int (lS a (fun b => lExe n s (4 * g + b)) b), .int (lS a (fun b => lDif n s (4 * g + b)) b), .int (Int32.ofNat b), v], [], m) = if lP a (fun b => gPo s (4 * g + b)) 4 = true then ((gd_call 162 [.ref 20, .int (Int32.ofNat g), .int (kS n s a g), .int (kE n s a g), .int (kD n s a g)] m).bind (gd_kV fun m5 => some (.null, m5))) else some (.null, m) := by
  obtain ⟨f1, f2, f3, f4, -, -, -⟩ := F
  intro j
  induction j with
  | zero =>
    intro b v h hfr hQ
    have : b = to + 1 := by omega
    subst this
    rw [q_X_rankGymnast_12, if_pos ((gn_lt (by omega) (by omega)).2 (by omega))]
    simp only [gK_N K, gK_8_0 K, gK_8_1 K, gK_8_2 K, gK_8_3 K, gK_8_4 K, gK_8_5 K, gK_8_6 K, gK_8_7 K, gK_8_8 K, gK_10_0 K, gK_10_1 K, gK_10_2 K, gK_11_0 K, gK_15_0 K, gK_15_1 K, gK_15_2 K, gK_15_3 K, gK_20_0 K, gK_20_1 K, gK_20_2 K, gK_20_3 K, gK_20_4 K, gK_20_5 K, gK_698_0 K, gK_698_3 K, gK_698_16 K, gK_698_17 K, gK_698_20 K, gK_698_21 K, gK_698_22 K, gK_698_23 K, gK_698_24 K, gK_698_25 K, gK_698_26 K, gK_698_27 K, gK_698_28 K, gK_698_29 K, gK_698_30 K, gK_698_31 K, gK_698_32 K, gK_698_33 K, gK_698_34 K, gK_698_35 K, gK_698_36 K, gK_698_37 K, gK_698_38 K, gK_698_39 K, gK_698_41 K, gK_698_42 K, gK_698_44 K, gK_c K, gK_d K, gK_n K, gK_p K, gok_8, gok_10, gok_11, gok_15, gok_20, gok_698, gok_699, goA_9, goA_12, goA_13, goA_14, goA_16, goA_17, goA_18, goA_19, goA_21, goA_22, goA_23, goA_24, goA_25, goA_26, goA_27, goA_28, goA_29, goA_30, goA_31, goA_732, goA_733, goA_734, goA_735, goA_736, goA_737, goA_738, goA_739, goA_740, goA_741, goA_742, goA_743, goA_744, goA_745, goA_746, goA_747, goA_748, goA_749, goA_750, goA_751, goA_752, goA_753, goA_754, goA_755, goA_756, goA_757, gN_wI, gR_wI, gL_wI, if_true, eq_self]
    rw [f4] at hQ
    rw [f3, f3, f3, if_pos hQ]
    rfl
  | succ j ih =>
    intro b v h hfr hQ
    have hr : 4 * g + b < 160 := by omega
    have W := cAll_rw C (4 * g + b) hr
    rw [q_X_rankGymnast_12, if_neg (fun q => by have := (gn_lt (by omega) (by omega)).1 q; omega)]
    simp only [gK_N K, gK_8_0 K, gK_8_1 K, gK_8_2 K, gK_8_3 K, gK_8_4 K, gK_8_5 K, gK_8_6 K, gK_8_7 K, gK_8_8 K, gK_10_0 K, gK_10_1 K, gK_10_2 K, gK_11_0 K, gK_15_0 K, gK_15_1 K, gK_15_2 K, gK_15_3 K, gK_20_0 K, gK_20_1 K, gK_20_2 K, gK_20_3 K, gK_20_4 K, gK_20_5 K, gK_698_0 K, gK_698_3 K, gK_698_16 K, gK_698_17 K, gK_698_20 K, gK_698_21 K, gK_698_22 K, gK_698_23 K, gK_698_24 K, gK_698_25 K, gK_698_26 K, gK_698_27 K, gK_698_28 K, gK_698_29 K, gK_698_30 K, gK_698_31 K, gK_698_32 K, gK_698_33 K, gK_698_34 K, gK_698_35 K, gK_698_36 K, gK_698_37 K, gK_698_38 K, gK_698_39 K, gK_698_41 K, gK_698_42 K, gK_698_44 K, gK_c K, gK_d K, gK_n K, gK_p K, gok_8, gok_10, gok_11, gok_15, gok_20, gok_698, gok_699, goA_9, goA_12, goA_13, goA_14, goA_16, goA_17, goA_18, goA_19, goA_21, goA_22, goA_23, goA_24, goA_25, goA_26, goA_27, goA_28, goA_29, goA_30, goA_31, goA_732, goA_733, goA_734, goA_735, goA_736, goA_737, goA_738, goA_739, goA_740, goA_741, goA_742, goA_743, goA_744, goA_745, goA_746, goA_747, goA_748, goA_749, goA_750, goA_751, goA_752, goA_753, goA_754, goA_755, goA_756, goA_757, gN_wI, gR_wI, gL_wI, if_true, eq_self]
    rw [c_rowOf_at K ((cMt_ppl (cAll_mt C)).trans hP) hP2 hg (show b < 4 by omega)]
    simp only [gK_N K, gK_8_0 K, gK_8_1 K, gK_8_2 K, gK_8_3 K, gK_8_4 K, gK_8_5 K, gK_8_6 K, gK_8_7 K, gK_8_8 K, gK_10_0 K, gK_10_1 K, gK_10_2 K, gK_11_0 K, gK_15_0 K, gK_15_1 K, gK_15_2 K, gK_15_3 K, gK_20_0 K, gK_20_1 K, gK_20_2 K, gK_20_3 K, gK_20_4 K, gK_20_5 K, gK_698_0 K, gK_698_3 K, gK_698_16 K, gK_698_17 K, gK_698_20 K, gK_698_21 K, gK_698_22 K, gK_698_23 K, gK_698_24 K, gK_698_25 K, gK_698_26 K, gK_698_27 K, gK_698_28 K, gK_698_29 K, gK_698_30 K, gK_698_31 K, gK_698_32 K, gK_698_33 K, gK_698_34 K, gK_698_35 K, gK_698_36 K, gK_698_37 K, gK_698_38 K, gK_698_39 K, gK_698_41 K, gK_698_42 K, gK_698_44 K, gK_c K, gK_d K, gK_n K, gK_p K, gok_8, gok_10, gok_11, gok_15, gok_20, gok_698, gok_699, goA_9, goA_12, goA_13, goA_14, goA_16, goA_17, goA_18, goA_19, goA_21, goA_22, goA_23, goA_24, goA_25, goA_26, goA_27, goA_28, goA_29, goA_30, goA_31, goA_732, goA_733, goA_734, goA_735, goA_736, goA_737, goA_738, goA_739, goA_740, goA_741, goA_742, goA_743, goA_744, goA_745, goA_746, goA_747, goA_748, goA_749, goA_750, goA_751, goA_752, goA_753, goA_754, goA_755, goA_756, goA_757, gN_wI, gR_wI, gL_wI, if_true, eq_self, gK_row K hr, gK_ent K hr, gK_mrk K hr, gK_sen K hr, gok_row hr, goA_ent hr, goA_mrk hr, goA_sen hr, gd_row0, gd_row8, if_false, Option.bind_some, gd_kR_r]
    rw [c_isScored K hr W]
    simp only [gK_N K, gK_8_0 K, gK_8_1 K, gK_8_2 K, gK_8_3 K, gK_8_4 K, gK_8_5 K, gK_8_6 K, gK_8_7 K, gK_8_8 K, gK_10_0 K, gK_10_1 K, gK_10_2 K, gK_11_0 K, gK_15_0 K, gK_15_1 K, gK_15_2 K, gK_15_3 K, gK_20_0 K, gK_20_1 K, gK_20_2 K, gK_20_3 K, gK_20_4 K, gK_20_5 K, gK_698_0 K, gK_698_3 K, gK_698_16 K, gK_698_17 K, gK_698_20 K, gK_698_21 K, gK_698_22 K, gK_698_23 K, gK_698_24 K, gK_698_25 K, gK_698_26 K, gK_698_27 K, gK_698_28 K, gK_698_29 K, gK_698_30 K, gK_698_31 K, gK_698_32 K, gK_698_33 K, gK_698_34 K, gK_698_35 K, gK_698_36 K, gK_698_37 K, gK_698_38 K, gK_698_39 K, gK_698_41 K, gK_698_42 K, gK_698_44 K, gK_c K, gK_d K, gK_n K, gK_p K, gok_8, gok_10, gok_11, gok_15, gok_20, gok_698, gok_699, goA_9, goA_12, goA_13, goA_14, goA_16, goA_17, goA_18, goA_19, goA_21, goA_22, goA_23, goA_24, goA_25, goA_26, goA_27, goA_28, goA_29, goA_30, goA_31, goA_732, goA_733, goA_734, goA_735, goA_736, goA_737, goA_738, goA_739, goA_740, goA_741, goA_742, goA_743, goA_744, goA_745, goA_746, goA_747, goA_748, goA_749, goA_750, goA_751, goA_752, goA_753, goA_754, goA_755, goA_756, goA_757, gN_wI, gR_wI, gL_wI, if_true, eq_self, gK_row K hr, gK_ent K hr, gK_mrk K hr, gK_sen K hr, gok_row hr, goA_ent hr, goA_mrk hr, goA_sen hr, gd_row0, gd_row8, if_false, Option.bind_some, gd_kI_i, gB_0]
    have e1 : lP a (fun b => gPo s (4 * g + b)) (b + 1) = (lP a (fun b => gPo s (4 * g + b)) b && (lSk a b || gPo s (4 * g + b))) := rfl
    rw [hQ, f2 b hfr (by omega), Bool.false_or, Bool.true_and] at e1
    cases q : gPo s (4 * g + b) with
    | false =>
      rw [q] at e1
      have h4 := lP_f e1 (4 - (b + 1))
      rw [show b + 1 + (4 - (b + 1)) = 4 by omega] at h4
      rw [if_pos rfl, h4, if_neg (by decide)]
    | true =>
      rw [q] at e1
      obtain ⟨hb1, hb2⟩ := gPo_t q
      have hdn := cRw_don W hb1 hb2
      have hst := cRw_sta W hb1 hdn.1
      have hI := ih (b + 1) (.ref (58 + 4 * (4 * g + b))) (by omega) (by omega) e1
      have s1 : ∀ S, lS a S (b + 1) = lS a S b + S b := fun S => if_neg (by rw [f2 b hfr (by omega)]; decide)
      rw [s1, s1, s1] at hI
      rw [if_neg (by decide), hdn.2.1, hdn.2.2, hst.1, gn_succ]
      exact hI
theorem c_rankG (K : gK c d n p m) (C : cAll c n (gI m) s) (I : iAll n s) {P : Nat} (hP : s 698 18 = Int32.ofNat P) (hP2 : P ≤ 40) (hg : g < P) (F : lFT a fr to) : gd_call 163 [.ref 8, .int (Int32.ofNat g), .int (Int32.ofNat fr), .int (Int32.ofNat to)] m = if lP a (fun b => gPo s (4 * g + b)) 4 = true then ((gd_call 162 [.ref 20, .int (Int32.ofNat g), .int (kS n s a g), .int (kE n s a g), .int (kD n s a g)] m).bind (gd_kV fun m5 => some (.null, m5))) else some (.null, m) := by
  have h := c_rankG_12 K C I hP hP2 hg F (x2 := Int32.ofNat fr) (to + 1 - fr) fr .null (by have := F.2.2.2.2.2.2; omega) (Nat.le_refl fr) (F.2.2.2.2.2.1 _)
  rw [F.2.2.2.2.1, F.2.2.2.2.1, F.2.2.2.2.1] at h
  rw [q_X_rankGymnast]
  exact h
theorem c_rank_40 (I : iAll n s) {P : Nat} (hP : s 698 18 = Int32.ofNat P) (hP2 : P ≤ 40) (ha : a < 5) (F : lFT a fr to) : ∀ j g (m : gd_M), g + j = P → gK c d n p m → cAll c n (gI m) s → cLs n s a (lLi n s a g).1 (lLi n s a g).2 m → ∃ m', gd_Den (164, 40, [.ref 8, .int (Int32.ofNat a), .int (Int32.ofNat fr), .int (Int32.ofNat to), .int (Int32.ofNat g)], [], m) = some (.null, m') ∧ oL m m' ∧ cLs n s a (lLi n s a P).1 (lLi n s a P).2 m' := by
  intro j
  induction j with
  | zero =>
    intro g m h K C B
    have : g = P := by omega
    subst this
    refine ⟨m, ?_, oL_refl, B⟩
    rw [q_X_rank_40]
    simp only [gK_N K, gK_8_0 K, gK_8_1 K, gK_8_2 K, gK_8_3 K, gK_8_4 K, gK_8_5 K, gK_8_6 K, gK_8_7 K, gK_8_8 K, gK_10_0 K, gK_10_1 K, gK_10_2 K, gK_11_0 K, gK_15_0 K, gK_15_1 K, gK_15_2 K, gK_15_3 K, gK_20_0 K, gK_20_1 K, gK_20_2 K, gK_20_3 K, gK_20_4 K, gK_20_5 K, gK_698_0 K, gK_698_3 K, gK_698_16 K, gK_698_17 K, gK_698_20 K, gK_698_21 K, gK_698_22 K, gK_698_23 K, gK_698_24 K, gK_698_25 K, gK_698_26 K, gK_698_27 K, gK_698_28 K, gK_698_29 K, gK_698_30 K, gK_698_31 K, gK_698_32 K, gK_698_33 K, gK_698_34 K, gK_698_35 K, gK_698_36 K, gK_698_37 K, gK_698_38 K, gK_698_39 K, gK_698_41 K, gK_698_42 K, gK_698_44 K, gK_c K, gK_d K, gK_n K, gK_p K, gok_8, gok_10, gok_11, gok_15, gok_20, gok_698, gok_699, goA_9, goA_12, goA_13, goA_14, goA_16, goA_17, goA_18, goA_19, goA_21, goA_22, goA_23, goA_24, goA_25, goA_26, goA_27, goA_28, goA_29, goA_30, goA_31, goA_732, goA_733, goA_734, goA_735, goA_736, goA_737, goA_738, goA_739, goA_740, goA_741, goA_742, goA_743, goA_744, goA_745, goA_746, goA_747, goA_748, goA_749, goA_750, goA_751, goA_752, goA_753, goA_754, goA_755, goA_756, goA_757, gN_wI, gR_wI, gL_wI, if_true, eq_self]
    rw [cMt_ppl (cAll_mt C), hP, if_neg (fun q => by have := (gn_lt (by omega) (by omega)).1 q; omega)]
  | succ j ih =>
    intro g m h K C B
    have hlt := lLi_lt (n := n) (s := s) (a := a) g
    rw [q_X_rank_40]
    simp only [gK_N K, gK_8_0 K, gK_8_1 K, gK_8_2 K, gK_8_3 K, gK_8_4 K, gK_8_5 K, gK_8_6 K, gK_8_7 K, gK_8_8 K, gK_10_0 K, gK_10_1 K, gK_10_2 K, gK_11_0 K, gK_15_0 K, gK_15_1 K, gK_15_2 K, gK_15_3 K, gK_20_0 K, gK_20_1 K, gK_20_2 K, gK_20_3 K, gK_20_4 K, gK_20_5 K, gK_698_0 K, gK_698_3 K, gK_698_16 K, gK_698_17 K, gK_698_20 K, gK_698_21 K, gK_698_22 K, gK_698_23 K, gK_698_24 K, gK_698_25 K, gK_698_26 K, gK_698_27 K, gK_698_28 K, gK_698_29 K, gK_698_30 K, gK_698_31 K, gK_698_32 K, gK_698_33 K, gK_698_34 K, gK_698_35 K, gK_698_36 K, gK_698_37 K, gK_698_38 K, gK_698_39 K, gK_698_41 K, gK_698_42 K, gK_698_44 K, gK_c K, gK_d K, gK_n K, gK_p K, gok_8, gok_10, gok_11, gok_15, gok_20, gok_698, gok_699, goA_9, goA_12, goA_13, goA_14, goA_16, goA_17, goA_18, goA_19, goA_21, goA_22, goA_23, goA_24, goA_25, goA_26, goA_27, goA_28, goA_29, goA_30, goA_31, goA_732, goA_733, goA_734, goA_735, goA_736, goA_737, goA_738, goA_739, goA_740, goA_741, goA_742, goA_743, goA_744, goA_745, goA_746, goA_747, goA_748, goA_749, goA_750, goA_751, goA_752, goA_753, goA_754, goA_755, goA_756, goA_757, gN_wI, gR_wI, gL_wI, if_true, eq_self]
    rw [cMt_ppl (cAll_mt C), hP, if_pos ((gn_lt (by omega) (by omega)).2 (by omega)), c_hasWd K C (by omega) ha]
    simp only [gK_N K, gK_8_0 K, gK_8_1 K, gK_8_2 K, gK_8_3 K, gK_8_4 K, gK_8_5 K, gK_8_6 K, gK_8_7 K, gK_8_8 K, gK_10_0 K, gK_10_1 K, gK_10_2 K, gK_11_0 K, gK_15_0 K, gK_15_1 K, gK_15_2 K, gK_15_3 K, gK_20_0 K, gK_20_1 K, gK_20_2 K, gK_20_3 K, gK_20_4 K, gK_20_5 K, gK_698_0 K, gK_698_3 K, gK_698_16 K, gK_698_17 K, gK_698_20 K, gK_698_21 K, gK_698_22 K, gK_698_23 K, gK_698_24 K, gK_698_25 K, gK_698_26 K, gK_698_27 K, gK_698_28 K, gK_698_29 K, gK_698_30 K, gK_698_31 K, gK_698_32 K, gK_698_33 K, gK_698_34 K, gK_698_35 K, gK_698_36 K, gK_698_37 K, gK_698_38 K, gK_698_39 K, gK_698_41 K, gK_698_42 K, gK_698_44 K, gK_c K, gK_d K, gK_n K, gK_p K, gok_8, gok_10, gok_11, gok_15, gok_20, gok_698, gok_699, goA_9, goA_12, goA_13, goA_14, goA_16, goA_17, goA_18, goA_19, goA_21, goA_22, goA_23, goA_24, goA_25, goA_26, goA_27, goA_28, goA_29, goA_30, goA_31, goA_732, goA_733, goA_734, goA_735, goA_736, goA_737, goA_738, goA_739, goA_740, goA_741, goA_742, goA_743, goA_744, goA_745, goA_746, goA_747, goA_748, goA_749, goA_750, goA_751, goA_752, goA_753, goA_754, goA_755, goA_756, goA_757, gN_wI, gR_wI, gL_wI, if_true, eq_self, Option.bind_some, gd_kI_i, gB_0]
    rw [gn_succ]
    by_cases q : s 737 (5 * g + a) = 0
    · rw [decide_eq_true q, if_pos (by decide), c_rankG K C I hP hP2 (by omega) F]
      by_cases q2 : lP a (fun b => gPo s (4 * g + b)) 4 = true
      · obtain ⟨m2, a1, a2, a3⟩ := c_insert K (show g < 40 by omega) hlt.2 hlt.1 B
        have e : lLi n s a (g + 1) = ((lLi n s a g).1 + 1, lNw (lLi n s a g).2 (lPs (fun i => lBt n s a g ((lLi n s a g).2 i)) (lLi n s a g).1) g) := if_pos (by unfold lIn; rw [decide_eq_true q, q2]; rfl)
        have K2 := gK_o K a2.1
        obtain ⟨m', b1, b2, b3⟩ := ih (g + 1) m2 (by omega) K2 (oL_C (gK_c1 K) a2 C) (by rw [e]; exact a3)
        refine ⟨m', ?_, oL_tr a2 b2, b3⟩
        rw [if_pos q2, a1]
        simp only [Option.bind_some, gd_kV_v]
        exact b1
      · have e : lLi n s a (g + 1) = lLi n s a g := if_neg (by unfold lIn; rw [Bool.not_eq_true] at q2; rw [q2, Bool.and_false]; decide)
        obtain ⟨m', b1, b2, b3⟩ := ih (g + 1) m (by omega) K C (by rw [e]; exact B)
        refine ⟨m', ?_, b2, b3⟩
        rw [if_neg q2]
        simp only [Option.bind_some, gd_kV_v]
        exact b1
    · have e : lLi n s a (g + 1) = lLi n s a g := if_neg (by unfold lIn; rw [decide_eq_false q, Bool.false_and]; decide)
      obtain ⟨m', b1, b2, b3⟩ := ih (g + 1) m (by omega) K C (by rw [e]; exact B)
      refine ⟨m', ?_, b2, b3⟩
      rw [decide_eq_false q, if_neg (by decide)]
      exact b1
theorem c_rank (K : gK c d n p m) (C : cAll c n (gI m) s) (I : iAll n s) {P : Nat} (hP : s 698 18 = Int32.ofNat P) (hP2 : P ≤ 40) (ha : a < 5) : ∃ m', gd_call 164 [.ref 8, .int (Int32.ofNat a)] m = some (.null, m') ∧ oL m m' ∧ cLs n s a (lLi n s a P).1 (lLi n s a P).2 m' := by
  have K1 : gK c d n p (wI (wI m 20 6 0) 20 7 0) := K
  have o1 : oL m (wI (wI m 20 6 0) 20 7 0) := oL_w (oL_w oL_refl (by decide)) (by decide)
  have C1 := oL_C (gK_c1 K) o1 C
  have B1 : cLs n s a 0 (fun _ => 0) (wI (wI m 20 6 0) 20 7 0) := ⟨by rw [gI_wI_k (by decide), gI_wI_s]; rfl, fun j hj => absurd hj (Nat.not_lt_zero j)⟩
  by_cases h4 : a = 4
  · subst h4
    obtain ⟨m', b1, b2, b3⟩ := c_rank_40 I hP hP2 ha lFT_4 P 0 _ (by omega) K1 C1 B1
    refine ⟨m', ?_, oL_tr o1 b2, b3⟩
    rw [q_X_rank]
    simp only [gK_N K, gK_8_0 K, gK_8_1 K, gK_8_2 K, gK_8_3 K, gK_8_4 K, gK_8_5 K, gK_8_6 K, gK_8_7 K, gK_8_8 K, gK_10_0 K, gK_10_1 K, gK_10_2 K, gK_11_0 K, gK_15_0 K, gK_15_1 K, gK_15_2 K, gK_15_3 K, gK_20_0 K, gK_20_1 K, gK_20_2 K, gK_20_3 K, gK_20_4 K, gK_20_5 K, gK_698_0 K, gK_698_3 K, gK_698_16 K, gK_698_17 K, gK_698_20 K, gK_698_21 K, gK_698_22 K, gK_698_23 K, gK_698_24 K, gK_698_25 K, gK_698_26 K, gK_698_27 K, gK_698_28 K, gK_698_29 K, gK_698_30 K, gK_698_31 K, gK_698_32 K, gK_698_33 K, gK_698_34 K, gK_698_35 K, gK_698_36 K, gK_698_37 K, gK_698_38 K, gK_698_39 K, gK_698_41 K, gK_698_42 K, gK_698_44 K, gK_c K, gK_d K, gK_n K, gK_p K, gok_8, gok_10, gok_11, gok_15, gok_20, gok_698, gok_699, goA_9, goA_12, goA_13, goA_14, goA_16, goA_17, goA_18, goA_19, goA_21, goA_22, goA_23, goA_24, goA_25, goA_26, goA_27, goA_28, goA_29, goA_30, goA_31, goA_732, goA_733, goA_734, goA_735, goA_736, goA_737, goA_738, goA_739, goA_740, goA_741, goA_742, goA_743, goA_744, goA_745, goA_746, goA_747, goA_748, goA_749, goA_750, goA_751, goA_752, goA_753, goA_754, goA_755, goA_756, goA_757, gN_wI, gR_wI, gL_wI, if_true, eq_self]
    rw [q_Ra_clear]
    simp only [gK_N K, gK_8_0 K, gK_8_1 K, gK_8_2 K, gK_8_3 K, gK_8_4 K, gK_8_5 K, gK_8_6 K, gK_8_7 K, gK_8_8 K, gK_10_0 K, gK_10_1 K, gK_10_2 K, gK_11_0 K, gK_15_0 K, gK_15_1 K, gK_15_2 K, gK_15_3 K, gK_20_0 K, gK_20_1 K, gK_20_2 K, gK_20_3 K, gK_20_4 K, gK_20_5 K, gK_698_0 K, gK_698_3 K, gK_698_16 K, gK_698_17 K, gK_698_20 K, gK_698_21 K, gK_698_22 K, gK_698_23 K, gK_698_24 K, gK_698_25 K, gK_698_26 K, gK_698_27 K, gK_698_28 K, gK_698_29 K, gK_698_30 K, gK_698_31 K, gK_698_32 K, gK_698_33 K, gK_698_34 K, gK_698_35 K, gK_698_36 K, gK_698_37 K, gK_698_38 K, gK_698_39 K, gK_698_41 K, gK_698_42 K, gK_698_44 K, gK_c K, gK_d K, gK_n K, gK_p K, gok_8, gok_10, gok_11, gok_15, gok_20, gok_698, gok_699, goA_9, goA_12, goA_13, goA_14, goA_16, goA_17, goA_18, goA_19, goA_21, goA_22, goA_23, goA_24, goA_25, goA_26, goA_27, goA_28, goA_29, goA_30, goA_31, goA_732, goA_733, goA_734, goA_735, goA_736, goA_737, goA_738, goA_739, goA_740, goA_741, goA_742, goA_743, goA_744, goA_745, goA_746, goA_747, goA_748, goA_749, goA_750, goA_751, goA_752, goA_753, goA_754, goA_755, goA_756, goA_757, gN_wI, gR_wI, gL_wI, if_true, eq_self, Option.bind_some, gd_kV_v]
    rw [c_isList]
    exact b1
  · obtain ⟨m', b1, b2, b3⟩ := c_rank_40 I hP hP2 ha (lFT_a (show a < 4 by omega)) P 0 _ (by omega) K1 C1 B1
    refine ⟨m', ?_, oL_tr o1 b2, b3⟩
    rw [q_X_rank]
    simp only [gK_N K, gK_8_0 K, gK_8_1 K, gK_8_2 K, gK_8_3 K, gK_8_4 K, gK_8_5 K, gK_8_6 K, gK_8_7 K, gK_8_8 K, gK_10_0 K, gK_10_1 K, gK_10_2 K, gK_11_0 K, gK_15_0 K, gK_15_1 K, gK_15_2 K, gK_15_3 K, gK_20_0 K, gK_20_1 K, gK_20_2 K, gK_20_3 K, gK_20_4 K, gK_20_5 K, gK_698_0 K, gK_698_3 K, gK_698_16 K, gK_698_17 K, gK_698_20 K, gK_698_21 K, gK_698_22 K, gK_698_23 K, gK_698_24 K, gK_698_25 K, gK_698_26 K, gK_698_27 K, gK_698_28 K, gK_698_29 K, gK_698_30 K, gK_698_31 K, gK_698_32 K, gK_698_33 K, gK_698_34 K, gK_698_35 K, gK_698_36 K, gK_698_37 K, gK_698_38 K, gK_698_39 K, gK_698_41 K, gK_698_42 K, gK_698_44 K, gK_c K, gK_d K, gK_n K, gK_p K, gok_8, gok_10, gok_11, gok_15, gok_20, gok_698, gok_699, goA_9, goA_12, goA_13, goA_14, goA_16, goA_17, goA_18, goA_19, goA_21, goA_22, goA_23, goA_24, goA_25, goA_26, goA_27, goA_28, goA_29, goA_30, goA_31, goA_732, goA_733, goA_734, goA_735, goA_736, goA_737, goA_738, goA_739, goA_740, goA_741, goA_742, goA_743, goA_744, goA_745, goA_746, goA_747, goA_748, goA_749, goA_750, goA_751, goA_752, goA_753, goA_754, goA_755, goA_756, goA_757, gN_wI, gR_wI, gL_wI, if_true, eq_self]
    rw [q_Ra_clear]
    simp only [gK_N K, gK_8_0 K, gK_8_1 K, gK_8_2 K, gK_8_3 K, gK_8_4 K, gK_8_5 K, gK_8_6 K, gK_8_7 K, gK_8_8 K, gK_10_0 K, gK_10_1 K, gK_10_2 K, gK_11_0 K, gK_15_0 K, gK_15_1 K, gK_15_2 K, gK_15_3 K, gK_20_0 K, gK_20_1 K, gK_20_2 K, gK_20_3 K, gK_20_4 K, gK_20_5 K, gK_698_0 K, gK_698_3 K, gK_698_16 K, gK_698_17 K, gK_698_20 K, gK_698_21 K, gK_698_22 K, gK_698_23 K, gK_698_24 K, gK_698_25 K, gK_698_26 K, gK_698_27 K, gK_698_28 K, gK_698_29 K, gK_698_30 K, gK_698_31 K, gK_698_32 K, gK_698_33 K, gK_698_34 K, gK_698_35 K, gK_698_36 K, gK_698_37 K, gK_698_38 K, gK_698_39 K, gK_698_41 K, gK_698_42 K, gK_698_44 K, gK_c K, gK_d K, gK_n K, gK_p K, gok_8, gok_10, gok_11, gok_15, gok_20, gok_698, gok_699, goA_9, goA_12, goA_13, goA_14, goA_16, goA_17, goA_18, goA_19, goA_21, goA_22, goA_23, goA_24, goA_25, goA_26, goA_27, goA_28, goA_29, goA_30, goA_31, goA_732, goA_733, goA_734, goA_735, goA_736, goA_737, goA_738, goA_739, goA_740, goA_741, goA_742, goA_743, goA_744, goA_745, goA_746, goA_747, goA_748, goA_749, goA_750, goA_751, goA_752, goA_753, goA_754, goA_755, goA_756, goA_757, gN_wI, gR_wI, gL_wI, if_true, eq_self, Option.bind_some, gd_kV_v]
    rw [c_isList, gIs_y (by decide) ha]
    simp only [Option.bind_some, gd_k0I_i, gB_t]
    have hne : ¬ Int32.ofNat a = 4 := fun q => h4 ((gneb_4 (by omega) (by decide)).1 q)
    rw [if_neg (by decide), if_neg hne, if_neg hne]
    exact b1
/-- no such list -/
theorem c_rank_no (K : gK c d n p m) {x : Int32} (h : gIs 5 x = false) : gd_call 164 [.ref 8, .int x] m = some (.null, wI (wI m 20 6 0) 20 7 0) := by
  rw [q_X_rank]
  simp only [gK_N K, gK_8_0 K, gK_8_1 K, gK_8_2 K, gK_8_3 K, gK_8_4 K, gK_8_5 K, gK_8_6 K, gK_8_7 K, gK_8_8 K, gK_10_0 K, gK_10_1 K, gK_10_2 K, gK_11_0 K, gK_15_0 K, gK_15_1 K, gK_15_2 K, gK_15_3 K, gK_20_0 K, gK_20_1 K, gK_20_2 K, gK_20_3 K, gK_20_4 K, gK_20_5 K, gK_698_0 K, gK_698_3 K, gK_698_16 K, gK_698_17 K, gK_698_20 K, gK_698_21 K, gK_698_22 K, gK_698_23 K, gK_698_24 K, gK_698_25 K, gK_698_26 K, gK_698_27 K, gK_698_28 K, gK_698_29 K, gK_698_30 K, gK_698_31 K, gK_698_32 K, gK_698_33 K, gK_698_34 K, gK_698_35 K, gK_698_36 K, gK_698_37 K, gK_698_38 K, gK_698_39 K, gK_698_41 K, gK_698_42 K, gK_698_44 K, gK_c K, gK_d K, gK_n K, gK_p K, gok_8, gok_10, gok_11, gok_15, gok_20, gok_698, gok_699, goA_9, goA_12, goA_13, goA_14, goA_16, goA_17, goA_18, goA_19, goA_21, goA_22, goA_23, goA_24, goA_25, goA_26, goA_27, goA_28, goA_29, goA_30, goA_31, goA_732, goA_733, goA_734, goA_735, goA_736, goA_737, goA_738, goA_739, goA_740, goA_741, goA_742, goA_743, goA_744, goA_745, goA_746, goA_747, goA_748, goA_749, goA_750, goA_751, goA_752, goA_753, goA_754, goA_755, goA_756, goA_757, gN_wI, gR_wI, gL_wI, if_true, eq_self]
  rw [q_Ra_clear]
  simp only [gK_N K, gK_8_0 K, gK_8_1 K, gK_8_2 K, gK_8_3 K, gK_8_4 K, gK_8_5 K, gK_8_6 K, gK_8_7 K, gK_8_8 K, gK_10_0 K, gK_10_1 K, gK_10_2 K, gK_11_0 K, gK_15_0 K, gK_15_1 K, gK_15_2 K, gK_15_3 K, gK_20_0 K, gK_20_1 K, gK_20_2 K, gK_20_3 K, gK_20_4 K, gK_20_5 K, gK_698_0 K, gK_698_3 K, gK_698_16 K, gK_698_17 K, gK_698_20 K, gK_698_21 K, gK_698_22 K, gK_698_23 K, gK_698_24 K, gK_698_25 K, gK_698_26 K, gK_698_27 K, gK_698_28 K, gK_698_29 K, gK_698_30 K, gK_698_31 K, gK_698_32 K, gK_698_33 K, gK_698_34 K, gK_698_35 K, gK_698_36 K, gK_698_37 K, gK_698_38 K, gK_698_39 K, gK_698_41 K, gK_698_42 K, gK_698_44 K, gK_c K, gK_d K, gK_n K, gK_p K, gok_8, gok_10, gok_11, gok_15, gok_20, gok_698, gok_699, goA_9, goA_12, goA_13, goA_14, goA_16, goA_17, goA_18, goA_19, goA_21, goA_22, goA_23, goA_24, goA_25, goA_26, goA_27, goA_28, goA_29, goA_30, goA_31, goA_732, goA_733, goA_734, goA_735, goA_736, goA_737, goA_738, goA_739, goA_740, goA_741, goA_742, goA_743, goA_744, goA_745, goA_746, goA_747, goA_748, goA_749, goA_750, goA_751, goA_752, goA_753, goA_754, goA_755, goA_756, goA_757, gN_wI, gR_wI, gL_wI, if_true, eq_self, Option.bind_some, gd_kV_v]
  rw [c_isList, h]; rfl
end P85
