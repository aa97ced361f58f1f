/-! ===== the greatest of a family ===== -/
def xN : Int := -1073741824
def xDC (P : (Nat → Bool) → Prop) (val : (Nat → Bool) → Int) (x b : Int) : Prop := (∃ f, P f ∧ val f = x ∧ ∀ f', P f' → val f' ≤ x) ∨ ((∀ f, ¬ P f) ∧ xN ≤ x ∧ x ≤ xN + b)
theorem xDC_max' {P Q : (Nat → Bool) → Prop} {val : (Nat → Bool) → Int} {x y b : Int} (hP : xDC P val x b) (hQ : xDC Q val y b) (h0 : ∀ f, P f ∨ Q f → xN + b < val f) : xDC (fun f => P f ∨ Q f) val (max x y) b := by
  rcases hP with ⟨f, p1, p2, p3⟩ | ⟨p1, p2, p3⟩
  · have hx := h0 f (.inl p1)
    rcases hQ with ⟨g, q1, q2, q3⟩ | ⟨q1, q2, q3⟩
    · have hy := h0 g (.inr q1)
      by_cases h : x ≤ y
      · refine .inl ⟨g, .inr q1, by omega, fun f' h' => ?_⟩
        rcases h' with h' | h'
        · have := p3 f' h'; omega
        · have := q3 f' h'; omega
      · refine .inl ⟨f, .inl p1, by omega, fun f' h' => ?_⟩
        rcases h' with h' | h'
        · have := p3 f' h'; omega
        · have := q3 f' h'; omega
    · refine .inl ⟨f, .inl p1, by omega, fun f' h' => ?_⟩
      rcases h' with h' | h'
      · have := p3 f' h'; omega
      · exact absurd h' (q1 f')
  · rcases hQ with ⟨g, q1, q2, q3⟩ | ⟨q1, q2, q3⟩
    · have hy := h0 g (.inr q1)
      refine .inl ⟨g, .inr q1, by omega, fun f' h' => ?_⟩
      rcases h' with h' | h'
      · exact absurd h' (p1 f')
      · have := q3 f' h'; omega
    · refine .inr ⟨fun f h' => ?_, by omega, by omega⟩
      rcases h' with h' | h'
      · exact p1 f h'
      · exact q1 f h'
theorem xDC_max {P Q : (Nat → Bool) → Prop} {val : (Nat → Bool) → Int} {x y b : Int} (hP : xDC P val x b) (hQ : xDC Q val y b) (h0 : ∀ f, P f ∨ Q f → 0 ≤ val f) (hb : xN + b < 0) : xDC (fun f => P f ∨ Q f) val (max x y) b := xDC_max' hP hQ fun f hf => by have := h0 f hf; omega
theorem xDC_map {P Q : (Nat → Bool) → Prop} {val val' : (Nat → Bool) → Int} {x a b c : Int} (h : xDC P val x b) (φ ψ : (Nat → Bool) → Nat → Bool) (h1 : ∀ f, P f → Q (φ f) ∧ val' (φ f) = val f + a) (h2 : ∀ f, Q f → P (ψ f) ∧ val' f = val (ψ f) + a) (ha : 0 ≤ a ∧ a ≤ c) : xDC Q val' (x + a) (b + c) := by
  rcases h with ⟨f, p1, p2, p3⟩ | ⟨p1, p2, p3⟩
  · exact .inl ⟨φ f, (h1 f p1).1, by rw [(h1 f p1).2, p2], fun f' h' => by have := p3 _ (h2 f' h').1; have := (h2 f' h').2; omega⟩
  · exact .inr ⟨fun f h' => p1 _ (h2 f h').1, by omega, by omega⟩
theorem xDC_iff {P Q : (Nat → Bool) → Prop} {val val' : (Nat → Bool) → Int} {x b c : Int} (h : xDC P val x b) (h1 : ∀ f, P f ↔ Q f) (h2 : ∀ f, Q f → val' f = val f) (hc : b ≤ c) : xDC Q val' x c := by
  rcases h with ⟨f, p1, p2, p3⟩ | ⟨p1, p2, p3⟩
  · have q := (h1 f).1 p1
    exact .inl ⟨f, q, by rw [h2 f q, p2], fun f' h' => by rw [h2 f' h']; exact p3 f' ((h1 f').2 h')⟩
  · exact .inr ⟨fun f h' => p1 f ((h1 f).2 h'), p2, by omega⟩
/-! ===== choices of the first k entries ===== -/
theorem bVal_c {wo li : Nat → Int} {f f' : Nat → Bool} : ∀ k, (∀ i, i < k → f i = f' i) → bVal wo li f k = bVal wo li f' k := by
  intro k
  induction k with
  | zero => intro _; rfl
  | succ k ih =>
    intro h
    show bVal wo li f k + _ = bVal wo li f' k + _
    rw [ih fun i hi => h i (by omega), h k (by omega)]
    by_cases e : 0 < k
    · rw [h (k - 1) (by omega)]
    · rw [if_neg (fun q : 0 < k ∧ f (k - 1) = true => e q.1), if_neg (fun q : 0 < k ∧ f' (k - 1) = true => e q.1)]
theorem bCnt_c {gr : Nat → Nat} {f f' : Nat → Bool} {g : Nat} : ∀ k, (∀ i, i < k → f i = f' i) → bCnt gr f g k = bCnt gr f' g k := by
  intro k
  induction k with
  | zero => intro _; rfl
  | succ k ih =>
    intro h
    show bCnt gr f g k + _ = bCnt gr f' g k + _
    rw [ih fun i hi => h i (by omega), h k (by omega)]
theorem bSet_c {f f' : Nat → Bool} : ∀ k, (∀ i, i < k → f i = f' i) → bSet f k = bSet f' k := by
  intro k
  induction k with
  | zero => intro _; rfl
  | succ k ih =>
    intro h
    show bSet f k + _ = bSet f' k + _
    rw [ih fun i hi => h i (by omega), h k (by omega)]
theorem bNum_c {f f' : Nat → Bool} : ∀ k, (∀ i, i < k → f i = f' i) → bNum f k = bNum f' k := by
  intro k
  induction k with
  | zero => intro _; rfl
  | succ k ih =>
    intro h
    show bNum f k + _ = bNum f' k + _
    rw [ih fun i hi => h i (by omega), h k (by omega)]
theorem bSet_lt {f : Nat → Bool} : ∀ k, bSet f k < 2 ^ k := by
  intro k
  induction k with
  | zero => exact Nat.one_pos
  | succ k ih =>
    show bSet f k + _ < _
    rw [Nat.pow_succ]
    cases f k
    · rw [if_neg (by decide)]; omega
    · rw [if_pos rfl]; omega
theorem bNum_sum {gr : Nat → Nat} {f : Nat → Bool} : ∀ k, (∀ i, i < k → f i = true → gr i < 5) → bCnt gr f 0 k + bCnt gr f 1 k + bCnt gr f 2 k + bCnt gr f 3 k + bCnt gr f 4 k = bNum f k := by
  intro k
  induction k with
  | zero => intro _; rfl
  | succ k ih =>
    intro h
    have hi := ih fun i hi => h i (by omega)
    have hk := h k (Nat.lt_succ_self k)
    show bCnt gr f 0 k + _ + (bCnt gr f 1 k + _) + (bCnt gr f 2 k + _) + (bCnt gr f 3 k + _) + (bCnt gr f 4 k + _) = bNum f k + _
    cases e : f k with
    | false => simp; exact hi
    | true =>
      have hk := hk e
      have : gr k = 0 ∨ gr k = 1 ∨ gr k = 2 ∨ gr k = 3 ∨ gr k = 4 := by omega
      rcases this with q | q | q | q | q <;> rw [q] <;> simp <;> omega
section CDP
variable {may : Nat → Bool} {gr : Nat → Nat} {wo li : Nat → Int}
def cLast (f : Nat → Bool) (k : Nat) : Bool := decide (0 < k) && f (k - 1)
def cFE (may : Nat → Bool) (gr : Nat → Nat) (k : Nat) (v : Nat → Nat) (l : Bool) (f : Nat → Bool) : Prop := (∀ i, f i = true → i < k ∧ may i = true) ∧ (∀ g < 5, bCnt gr f g k = v g) ∧ cLast f k = l
def cVl (wo li : Nat → Int) (k : Nat) (f : Nat → Bool) : Int := 65536 * bVal wo li f k - (bSet f k : Int)
def cDC (may : Nat → Bool) (gr : Nat → Nat) (wo li : Nat → Int) (k : Nat) (v : Nat → Nat) (l : Bool) (x : Int) : Prop := xDC (cFE may gr k v l) (cVl wo li k) x (2600000 * (k : Int))
theorem c2pow {i : Nat} (h : i < 16) : (2 : Nat) ^ i ≤ 32768 := by
  have : (2 : Nat) ^ i ≤ 2 ^ 15 := Nat.pow_le_pow_right (by decide) (by omega)
  exact this
theorem cVl_b (hw : ∀ i, may i = true → 1 ≤ wo i ∧ wo i ≤ 30) (hl : ∀ i, may i = true → 0 ≤ li i ∧ li i ≤ 9) {f : Nat → Bool} : ∀ k, k ≤ 16 → (∀ i, i < k → f i = true → may i = true) → 0 ≤ cVl wo li k f ∧ cVl wo li k f ≤ 2600000 * (k : Int) := by
  intro k
  induction k with
  | zero =>
    intro _ _
    show 0 ≤ 65536 * (0 : Int) - ((0 : Nat) : Int) ∧ 65536 * (0 : Int) - ((0 : Nat) : Int) ≤ 2600000 * ((0 : Nat) : Int)
    exact ⟨by decide, by decide⟩
  | succ k ih =>
    intro hk h
    obtain ⟨a, b⟩ := ih (by omega) fun i hi => h i (by omega)
    unfold cVl at a b ⊢
    show 0 ≤ 65536 * (bVal wo li f k + _) - ((bSet f k + _ : Nat) : Int) ∧ 65536 * (bVal wo li f k + _) - ((bSet f k + _ : Nat) : Int) ≤ _
    cases e : f k with
    | false => simp; omega
    | true =>
      have hm := h k (by omega) e
      have h1 := hw k hm
      have h2 := hl k hm
      have h3 := c2pow (show k < 16 by omega)
      have h4 : (0 : Int) ≤ ((2 ^ k : Nat) : Int) := Int.natCast_nonneg _
      rw [if_pos rfl, if_pos rfl]
      by_cases e2 : 0 < k ∧ f (k - 1) = true
      · rw [if_pos e2]; omega
      · rw [if_neg e2]; omega
theorem cFE_F {k : Nat} {v : Nat → Nat} {f : Nat → Bool} : (cFE may gr k v false f ∨ cFE may gr k v true f) ↔ cFE may gr (k + 1) v false f := by
  have hl : cLast f (k + 1) = f k := by unfold cLast; rw [decide_eq_true (Nat.succ_pos k)]; rfl
  constructor
  · intro h
    have h : (∀ i, f i = true → i < k ∧ may i = true) ∧ (∀ g < 5, bCnt gr f g k = v g) := by
      rcases h with h | h
      · exact ⟨h.1, h.2.1⟩
      · exact ⟨h.1, h.2.1⟩
    have hk : f k = false := by
      cases e : f k with
      | false => rfl
      | true => exact absurd (h.1 k e).1 (Nat.lt_irrefl k)
    refine ⟨fun i hi => ⟨Nat.lt_succ_of_lt (h.1 i hi).1, (h.1 i hi).2⟩, fun g hg => ?_, by rw [hl, hk]⟩
    show bCnt gr f g k + _ = _
    rw [hk, if_neg (fun q => absurd q.1 (by decide)), h.2 g hg, Nat.add_zero]
  · intro h
    have hk : f k = false := by rw [← hl]; exact h.2.2
    have h1 : ∀ i, f i = true → i < k ∧ may i = true := fun i hi => by
      obtain ⟨a, b⟩ := h.1 i hi
      refine ⟨?_, b⟩
      by_cases e : i = k
      · rw [e, hk] at hi; exact absurd hi (by decide)
      · omega
    have h2 : ∀ g < 5, bCnt gr f g k = v g := fun g hg => by
      have : bCnt gr f g k + _ = _ := h.2.1 g hg
      rw [hk, if_neg (fun q => absurd q.1 (by decide))] at this
      exact this
    cases e : cLast f k with
    | false => exact .inl ⟨h1, h2, e⟩
    | true => exact .inr ⟨h1, h2, e⟩
/-- without the latest entry -/
theorem cDC_W (hw : ∀ i, may i = true → 1 ≤ wo i ∧ wo i ≤ 30) (hl : ∀ i, may i = true → 0 ≤ li i ∧ li i ≤ 9) {k : Nat} (hk : k < 16) {v : Nat → Nat} {x y : Int} (hx : cDC may gr wo li k v false x) (hy : cDC may gr wo li k v true y) : cDC may gr wo li (k + 1) v false (max x y) := by
  refine xDC_iff (xDC_max hx hy (fun f h => ?_) (by show -1073741824 + 2600000 * (k : Int) < 0; omega)) (fun f => cFE_F) (fun f h => ?_) (by omega)
  · have h : ∀ i, f i = true → i < k ∧ may i = true := by
      rcases h with h | h
      · exact h.1
      · exact h.1
    exact (cVl_b hw hl k (by omega) fun i _ hi => (h i hi).2).1
  · have hk : f k = false := by
      have := h.2.2
      unfold cLast at this
      rw [decide_eq_true (Nat.succ_pos k)] at this
      exact this
    unfold cVl
    show 65536 * (bVal wo li f k + _) - ((bSet f k + _ : Nat) : Int) = _
    rw [hk]; simp
theorem cDC_N {k : Nat} {v : Nat → Nat} (h : may k = false ∨ v (gr k) = 0) (hg : gr k < 5) : cDC may gr wo li (k + 1) v true xN := by
  refine .inr ⟨fun f hf => ?_, Int.le_refl _, by omega⟩
  have hk : f k = true := by
    have := hf.2.2
    unfold cLast at this
    rw [decide_eq_true (Nat.succ_pos k)] at this
    exact this
  rcases h with h | h
  · have := (hf.1 k hk).2
    rw [h] at this; exact absurd this (by decide)
  · have : bCnt gr f (gr k) k + _ = _ := hf.2.1 (gr k) hg
    rw [if_pos ⟨hk, rfl⟩, h] at this
    omega
/-- with the latest entry; l: with the one ahead of it -/
theorem cDC_1 {k : Nat} (hk : k < 16) (hm : may k = true) {v : Nat → Nat} {l : Bool} (hv : 0 < v (gr k)) {a x : Int} (ha : a = 65536 * wo k + (if l = true then 65536 * li k else 0) - (2 ^ k : Nat)) (hb : 0 ≤ a ∧ a ≤ 2600000) (hg : gr k < 5) (h : cDC may gr wo li k (fun g => if g = gr k then v g - 1 else v g) l x) : xDC (fun f => cFE may gr (k + 1) v true f ∧ cLast f k = l) (cVl wo li (k + 1)) (x + a) (2600000 * ((k + 1 : Nat) : Int)) := by
  have hc : (2600000 * ((k + 1 : Nat) : Int)) = 2600000 * (k : Int) + 2600000 := by omega
  rw [hc]
  have hlast : ∀ f f' : Nat → Bool, (∀ i, i < k → f i = f' i) → cLast f k = cLast f' k := fun f f' q => by
    unfold cLast
    by_cases e : 0 < k
    · rw [q (k - 1) (by omega)]
    · rw [decide_eq_false e]; rfl
  have hval : ∀ f f' : Nat → Bool, (∀ i, i < k → f i = f' i) → f' k = true → cLast f k = l → cVl wo li (k + 1) f' = cVl wo li k f + a := fun f f' q hk' hl => by
    unfold cVl
    show 65536 * (bVal wo li f' k + _) - ((bSet f' k + _ : Nat) : Int) = _
    rw [hk', if_pos rfl, if_pos rfl, ← bVal_c k q, ← bSet_c k q, ha]
    have hl2 : cLast f' k = l := by rw [← hlast f f' q]; exact hl
    have e3 : (if 0 < k ∧ f' (k - 1) = true then li k else 0) = if l = true then li k else 0 := by
      unfold cLast at hl2
      rw [← hl2]
      by_cases e : 0 < k
      · rw [decide_eq_true e]
        cases f' (k - 1)
        · simp
        · simp [e]
      · rw [decide_eq_false e]; simp [e]
    rw [e3]
    cases l
    · simp; omega
    · simp; omega
  refine xDC_map h (fun f j => f j || decide (j = k)) (fun f j => f j && !decide (j = k)) (fun f hf => ?_) (fun f hf => ?_) hb
  · have q : ∀ i, i < k → f i = (f i || decide (i = k)) := fun i hi => by rw [decide_eq_false (by omega), Bool.or_false]
    have hk' : (f k || decide (k = k)) = true := by rw [decide_eq_true rfl, Bool.or_true]
    refine ⟨⟨⟨fun i hi => ?_, fun g hg' => ?_, ?_⟩, ?_⟩, hval f _ q hk' hf.2.2⟩
    · by_cases e : i = k
      · exact ⟨by omega, by rw [e]; exact hm⟩
      · have hi : (f i || decide (i = k)) = true := hi
        rw [decide_eq_false e, Bool.or_false] at hi
        exact ⟨by have := (hf.1 i hi).1; omega, (hf.1 i hi).2⟩
    · show bCnt gr _ g k + _ = _
      have h2 : bCnt gr f g k = if g = gr k then v g - 1 else v g := hf.2.1 g hg'
      rw [← bCnt_c k q, h2]
      by_cases e : g = gr k
      · rw [if_pos e, if_pos ⟨hk', e.symm⟩, e]; omega
      · rw [if_neg e, if_neg (fun q => e q.2.symm)]; omega
    · unfold cLast
      rw [decide_eq_true (Nat.succ_pos k)]
      exact hk'
    · rw [← hlast f _ q]; exact hf.2.2
  · obtain ⟨hf, hl⟩ := hf
    have hk' : f k = true := by
      have := hf.2.2
      unfold cLast at this
      rw [decide_eq_true (Nat.succ_pos k)] at this
      exact this
    have q : ∀ i, i < k → (f i && !decide (i = k)) = f i := fun i hi => by rw [decide_eq_false (by omega)]; simp
    refine ⟨⟨fun i hi => ?_, fun g hg' => ?_, ?_⟩, hval _ f q hk' (by rw [hlast _ f q]; exact hl)⟩
    · have hi := Bool.and_eq_true_iff.1 hi
      have e : ¬ i = k := by simpa using hi.2
      exact ⟨by have := (hf.1 i hi.1).1; omega, (hf.1 i hi.1).2⟩
    · show bCnt gr _ g k = if g = gr k then v g - 1 else v g
      rw [bCnt_c k q]
      have h2 : bCnt gr f g k + _ = _ := hf.2.1 g hg'
      by_cases e : g = gr k
      · rw [if_pos ⟨hk', e.symm⟩] at h2
        rw [if_pos e]; omega
      · rw [if_neg (fun q => e q.2.symm)] at h2
        rw [if_neg e]; omega
    · rw [hlast _ f q]; exact hl
theorem cDC_V (hw : ∀ i, may i = true → 1 ≤ wo i ∧ wo i ≤ 30) (hl : ∀ i, may i = true → 0 ≤ li i ∧ li i ≤ 9) {k : Nat} (hk : k < 16) (hm : may k = true) {v : Nat → Nat} (hv : 0 < v (gr k)) {x y : Int} (hg : gr k < 5) (hx : cDC may gr wo li k (fun g => if g = gr k then v g - 1 else v g) false x) (hy : cDC may gr wo li k (fun g => if g = gr k then v g - 1 else v g) true y) : cDC may gr wo li (k + 1) v true (max (x + (65536 * wo k - (2 ^ k : Nat))) (y + (65536 * wo k + 65536 * li k - (2 ^ k : Nat)))) := by
  have h1 := hw k hm
  have h2 := hl k hm
  have h3 := c2pow hk
  have h4 : (0 : Int) ≤ ((2 ^ k : Nat) : Int) := Int.natCast_nonneg _
  have a1 := cDC_1 (wo := wo) (li := li) hk hm hv (l := false) (a := 65536 * wo k - (2 ^ k : Nat)) (by simp) (by omega) hg hx
  have a2 := cDC_1 (wo := wo) (li := li) hk hm hv (l := true) (a := 65536 * wo k + 65536 * li k - (2 ^ k : Nat)) (by simp) (by omega) hg hy
  refine xDC_iff (xDC_max a1 a2 (fun f h => ?_) (by show -1073741824 + 2600000 * ((k + 1 : Nat) : Int) < 0; omega)) (fun f => ⟨fun h => ?_, fun h => ?_⟩) (fun _ _ => rfl) (Int.le_refl _)
  · have h : cFE may gr (k + 1) v true f := by
      rcases h with h | h
      · exact h.1
      · exact h.1
    exact (cVl_b hw hl (k + 1) (by omega) fun i _ hi => (h.1 i hi).2).1
  · rcases h with h | h
    · exact h.1
    · exact h.1
  · rcases Bool.eq_false_or_eq_true (cLast f k) with e | e
    · exact .inr ⟨h, e⟩
    · exact .inl ⟨h, e⟩
end CDP
