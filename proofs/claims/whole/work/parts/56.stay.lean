/-! ===== what stays when something is written ===== -/
theorem gd_up_s {s : gd_C} {a k : Nat} {x : Int32} : gd_up s a k x a k = x := if_pos ⟨rfl, rfl⟩
theorem gd_up_a {s : gd_C} {a k b j : Nat} {x : Int32} (h : b ≠ a) : gd_up s a k x b j = s b j := if_neg fun q => h q.1
theorem gd_up_k {s : gd_C} {a k b j : Nat} {x : Int32} (h : j ≠ k) : gd_up s a k x b j = s b j := if_neg fun q => h q.2
theorem gd_up_f {s : gd_C} {a k b : Nat} {x : Int32} (h : b ≠ a) : gd_up s a k x b = s b := funext fun _ => gd_up_a h
theorem gI_wI_f {m : gd_M} {a k b : Nat} {x : Int32} (h : b ≠ a) : gI (wI m a k x) b = gI m b := funext fun _ => gI_wI_a h
/-- the same value in j slots from k on -/
def wFl (m : gd_M) (a k : Nat) (x : Int32) : Nat → gd_M
  | 0 => m
  | j + 1 => wFl (wI m a k x) a (k + 1) x j
def gUr (s : gd_C) (a k : Nat) (x : Int32) : Nat → gd_C
  | 0 => s
  | j + 1 => gUr (gd_up s a k x) a (k + 1) x j
theorem wFl_2 {a : Nat} {x : Int32} : ∀ j k m, (wFl m a k x j).2 = m.2 := by
  intro j
  induction j with
  | zero => intro k m; rfl
  | succ j ih => intro k m; exact ih (k + 1) (wI m a k x)
theorem gI_wFl {a : Nat} {x : Int32} : ∀ j k m, gI (wFl m a k x j) = gUr (gI m) a k x j := by
  intro j
  induction j with
  | zero => intro k m; rfl
  | succ j ih => intro k m; exact ih (k + 1) (wI m a k x)
theorem gUr_e {a : Nat} {x : Int32} {b i : Nat} : ∀ j k s, gUr s a k x j b i = if b = a ∧ k ≤ i ∧ i < k + j then x else s b i := by
  intro j
  induction j with
  | zero => intro k s; exact (if_neg (by omega)).symm
  | succ j ih =>
    intro k s
    refine (ih (k + 1) (gd_up s a k x)).trans ?_
    by_cases h : b = a ∧ k + 1 ≤ i ∧ i < k + 1 + j
    · rw [if_pos h, if_pos (by omega)]
    · rw [if_neg h]
      show (if b = a ∧ i = k then x else s b i) = _
      by_cases h2 : b = a ∧ i = k
      · rw [if_pos h2, if_pos (by omega)]
      · rw [if_neg h2, if_neg (by omega)]
theorem gUr_a {s : gd_C} {a k b j i : Nat} {x : Int32} (h : b ≠ a) : gUr s a k x j b i = s b i := by rw [gUr_e, if_neg (by omega)]
theorem gUr_f {s : gd_C} {a k b j : Nat} {x : Int32} (h : b ≠ a) : gUr s a k x j b = s b := funext fun _ => gUr_a h
theorem gSm_wFl {n : Nat} {a : Nat} {x : Int32} : ∀ j k (m : gd_M) (s : gd_C), gSm n (gI m) s → gSm n (gI (wFl m a k x j)) (gUr s a k x j) := by
  intro j
  induction j with
  | zero => intro k m s h; exact h
  | succ j ih => intro k m s h; exact ih (k + 1) _ _ (gSm_w h)
theorem oM_wFl {a : Nat} {x : Int32} (ha : ¬ a < 698) : ∀ j k (m m1 : gd_M), oM m m1 → oM m (wFl m1 a k x j) := by
  intro j
  induction j with
  | zero => intro k m m1 h; exact h
  | succ j ih => intro k m m1 h; exact ih (k + 1) m _ (oM_w h ha)
theorem gSm_f {n : Nat} {J s s' : gd_C} (h : gSm n J s) (e : s' = s) : gSm n J s' := by rw [e]; exact h
/-! rows -/
def rEq (s s' : gd_C) (r : Nat) : Prop := s' 738 r = s 738 r ∧ s' 739 r = s 739 r ∧ (∀ i < 16, s' 740 (16 * r + i) = s 740 (16 * r + i)) ∧ (∀ j < 6, s' 741 (6 * r + j) = s 741 (6 * r + j)) ∧ s' 742 r = s 742 r ∧ s' 743 r = s 743 r ∧ (∀ i < 160, s' 744 (160 * r + i) = s 744 (160 * r + i)) ∧ s' 745 r = s 745 r ∧ s' 746 r = s 746 r
theorem rEq_refl {s : gd_C} {r : Nat} : rEq s s r := ⟨rfl, rfl, fun _ _ => rfl, fun _ _ => rfl, rfl, rfl, fun _ _ => rfl, rfl, rfl⟩
theorem rEq_tr {s s1 s2 : gd_C} {r : Nat} (h : rEq s s1 r) (q : rEq s1 s2 r) : rEq s s2 r := by
  obtain ⟨a1, a2, a3, a4, a5, a6, a7, a8, a9⟩ := h
  obtain ⟨b1, b2, b3, b4, b5, b6, b7, b8, b9⟩ := q
  exact ⟨b1.trans a1, b2.trans a2, fun i hi => (b3 i hi).trans (a3 i hi), fun i hi => (b4 i hi).trans (a4 i hi), b5.trans a5, b6.trans a6, fun i hi => (b7 i hi).trans (a7 i hi), b8.trans a8, b9.trans a9⟩
/-- whose row a cell is -/
def gOw (a k : Nat) : Nat := if a = 740 then k / 16 else if a = 741 then k / 6 else if a = 744 then k / 160 else if a = 738 ∨ a = 739 ∨ a = 742 ∨ a = 743 ∨ a = 745 ∨ a = 746 then k else 160
theorem rEq_up {s : gd_C} {a k r : Nat} {x : Int32} (h : gOw a k ≠ r) : rEq s (gd_up s a k x) r := by
  unfold gOw at h
  refine ⟨if_neg ?_, if_neg ?_, fun i hi => if_neg ?_, fun j hj => if_neg ?_, if_neg ?_, if_neg ?_, fun i hi => if_neg ?_, if_neg ?_, if_neg ?_⟩
  all_goals
    intro q
    obtain ⟨q1, q2⟩ := q
    rw [← q1, ← q2] at h
    refine h ?_
    simp
    try omega
theorem rEq_ur {a r : Nat} {x : Int32} : ∀ j k (s : gd_C), (∀ i, k ≤ i → i < k + j → gOw a i ≠ r) → rEq s (gUr s a k x j) r := by
  intro j
  induction j with
  | zero => intro k s _; exact rEq_refl
  | succ j ih => intro k s h; exact rEq_tr (rEq_up (h k (by omega) (by omega))) (ih (k + 1) _ fun i h1 h2 => h i (by omega) (by omega))
theorem gEn_c {s s' : gd_C} {r : Nat} (h : rEq s s' r) : gEn s' r = gEn s r := by
  funext i; unfold gEn
  by_cases q : i < 16
  · rw [if_pos q, if_pos q, h.2.2.1 i q]
  · rw [if_neg q, if_neg q]
theorem gMk_c {s s' : gd_C} {r : Nat} (h : rEq s s' r) : gMk s' r = gMk s r := by
  funext i; unfold gMk
  by_cases q : i < 6
  · rw [if_pos q, if_pos q, h.2.2.2.1 i q]
  · rw [if_neg q, if_neg q]
theorem gSn_c {s s' : gd_C} {r : Nat} (h : rEq s s' r) : gSn s' r = gSn s r := by
  funext f i; unfold gSn
  by_cases q : f < 10 ∧ i < 16
  · rw [if_pos q, if_pos q, Nat.add_assoc, h.2.2.2.2.2.2.1 (16 * f + i) (by omega)]
  · rw [if_neg q, if_neg q]
theorem cRw_c {A J J' s s' : gd_C} {r : Nat} (h : cRw A J s r) (j : ∀ a, 58 + 4 * r ≤ a → a ≤ 61 + 4 * r → J' a = J a) (e : rEq s s' r) : cRw A J' s' r := by
  have hE := gEn_c e
  have hM := gMk_c e
  have hS := gSn_c e
  obtain ⟨a1, a2, a3, a4, a5, a6, a7, a8, a9⟩ := e
  unfold cRw at h ⊢
  rw [j (58 + 4 * r) (by omega) (by omega), j (59 + 4 * r) (by omega) (by omega), j (60 + 4 * r) (by omega) (by omega), j (61 + 4 * r) (by omega) (by omega), hE, hM, hS, a1, a2, a5, a6, a8, a9]
  obtain ⟨b1, b2, b3, b4, b5, b6, b7, b8, b9⟩ := h
  refine ⟨b1, b2, fun i hi => (b3 i hi).trans (a3 i hi).symm, fun i hi => (b4 i hi).trans (a4 i hi).symm, b5, b6, b7, fun f hf i => ?_, b9⟩
  rw [b8 f hf i]
  by_cases hi : i < 16
  · rw [Nat.add_assoc, a7 (16 * f + i) (by omega)]
  · rw [decide_eq_false hi]; rfl
theorem iRow_c {A s s' : gd_C} {r : Nat} (h : iRow A s r) (e : rEq s s' r) (l : s' 698 19 = s 698 19) : iRow A s' r := by
  obtain ⟨a1, a2, a3, a4, a5, a6, a7, a8, a9⟩ := e
  unfold iRow at h ⊢
  rw [a1, a2, a8, a9, l]
  obtain ⟨b1, b2, b3, b4, b5⟩ := h
  refine ⟨b1, b2, fun q i hi => ?_, fun q j hj => ?_, b5⟩
  · obtain ⟨k, -, hk, e⟩ := b2
    rw [a3 i (by rw [e, gn_of (by omega)] at hi; omega)]; exact b3 q i hi
  · rw [a4 j hj]; exact b4 q j hj
theorem gCd_c {n : Nat} {s s' : gd_C} (h : ∀ k < 16, s' (n + k) = s (n + k)) : gCd n s' = gCd n s := by
  funext k j; unfold gCd
  by_cases q : k < 16
  · rw [if_pos q, if_pos q, h k q]
  · rw [if_neg q, if_neg q]
theorem gCd_up {n a k : Nat} {s : gd_C} {x : Int32} (hn : n = 700 ∨ n = 716) (h : a < 700 ∨ 732 ≤ a) : gCd n (gd_up s a k x) = gCd n s := gCd_c fun i hi => gd_up_f (by omega)
theorem gCd_ur {n a k j : Nat} {s : gd_C} {x : Int32} (hn : n = 700 ∨ n = 716) (h : a < 700 ∨ 732 ≤ a) : gCd n (gUr s a k x j) = gCd n s := gCd_c fun i hi => gUr_f (by omega)
theorem cCd_c {c : Nat} {J J' A : gd_C} (h : cCd c J A) (e : ∀ k, k < 13 → J' (c + k) = J (c + k)) : cCd c J' A := by
  unfold cCd at h ⊢
  rw [show J' c = J c from e 0 (by decide), e 1 (by decide), e 2 (by decide), e 3 (by decide), e 4 (by decide), e 5 (by decide), e 6 (by decide), e 7 (by decide), e 8 (by decide), e 9 (by decide), e 10 (by decide), e 11 (by decide), e 12 (by decide)]
  exact h
theorem gCt_c {s s' : gd_C} {l : Int32} {a : Nat} : ∀ k, (∀ g < k, s' 735 g = s 735 g ∧ s' 738 (4 * g + a) = s 738 (4 * g + a)) → gCt s' l a k = gCt s l a k := by
  intro k
  induction k with
  | zero => intro _; rfl
  | succ k ih =>
    intro h
    show gCt s' l a k + _ = gCt s l a k + _
    rw [ih fun g hg => h g (by omega), (h k (by omega)).1, (h k (by omega)).2]
theorem gPc_c {s s' : gd_C} : ∀ k, (∀ r < k, s' 738 r = s 738 r ∧ s' 745 r = s 745 r) → gPc s' k = gPc s k := by
  intro k
  induction k with
  | zero => intro _; rfl
  | succ k ih =>
    intro h
    show gPc s' k + _ = gPc s k + _
    unfold gPo
    rw [ih fun g hg => h g (by omega), (h k (by omega)).1, (h k (by omega)).2]
theorem gPc_o {s : gd_C} {k : Nat} : ∀ j, (∀ r, k ≤ r → r < k + j → s 738 r = 0) → gPc s (k + j) = gPc s k := by
  intro j
  induction j with
  | zero => intro _; rfl
  | succ j ih =>
    intro h
    show gPc s (k + j) + (if gPo s (k + j) = true then 1 else 0) = gPc s k
    unfold gPo
    rw [ih fun r h1 h2 => h r h1 (by omega), h (k + j) (by omega) (by omega)]
    rfl
/-- what the reference has tried holds on while rows stay -/
theorem gCh_c {n : Nat} {J J' s s' : gd_C} (h : gCh n J s) (hc : gCd n s' = gCd n s) (e : ∀ r < 160, s' 738 r = 0 ∨ J' 749 r = 0 ∨ (rEq s s' r ∧ J' 747 r = J 747 r ∧ J' 748 r = J 748 r ∧ J' 749 r = J 749 r)) : gCh n J' s' := by
  intro r hr q1 q2
  rcases e r hr with e | e | ⟨e, e1, e2, e3⟩
  · exact absurd e q1
  · exact absurd e q2
  · rw [hc, e1, e2, gEn_c e, e.2.1]
    exact h r hr (by rw [← e.1]; exact q1) (by rw [← e3]; exact q2)
