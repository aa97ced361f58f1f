/-! ===== ints as whole numbers ===== -/
theorem gt_b {x : Int32} : -2147483648 ≤ x.toInt ∧ x.toInt < 2147483648 := ⟨Int32.le_toInt x, Int32.toInt_lt x⟩
theorem gt_bm {z : Int} (h : -2147483648 ≤ z ∧ z < 2147483648) : z.bmod (2 ^ 32) = z := Int.bmod_eq_of_le (by omega) (by omega)
theorem gt_add {x y : Int32} (h : -2147483648 ≤ x.toInt + y.toInt ∧ x.toInt + y.toInt < 2147483648) : (x + y).toInt = x.toInt + y.toInt := by rw [Int32.toInt_add, gt_bm h]
theorem gt_sub {x y : Int32} (h : -2147483648 ≤ x.toInt - y.toInt ∧ x.toInt - y.toInt < 2147483648) : (x - y).toInt = x.toInt - y.toInt := by rw [Int32.toInt_sub, gt_bm h]
theorem gt_mul {x y : Int32} (h : -2147483648 ≤ x.toInt * y.toInt ∧ x.toInt * y.toInt < 2147483648) : (x * y).toInt = x.toInt * y.toInt := by rw [Int32.toInt_mul, gt_bm h]
theorem gn_sub {a b : Nat} (h : b ≤ a) : Int32.ofNat a - Int32.ofNat b = Int32.ofNat (a - b) := by
  obtain ⟨k, rfl⟩ : ∃ k, a = k + b := ⟨a - b, by omega⟩
  rw [Int32.ofNat_add, Int32.add_sub_cancel, Nat.add_sub_cancel]
theorem gn_mul {a b : Nat} : Int32.ofNat a * Int32.ofNat b = Int32.ofNat (a * b) := by rw [Int32.ofNat_mul]
theorem gn_div {a b : Nat} (ha : a < 2147483648) (hb : b < 2147483648) : Int32.ofNat a / Int32.ofNat b = Int32.ofNat (a / b) := by
  have hd : a / b ≤ a := Nat.div_le_self a b
  have h0 : (0 : Int) ≤ ((a / b : Nat) : Int) := Int.natCast_nonneg _
  have h1 : ((a / b : Nat) : Int) ≤ (a : Int) := Int.ofNat_le.2 hd
  apply Int32.toInt_inj.1
  rw [Int32.toInt_div, gn_toInt ha, gn_toInt hb, gn_toInt (by omega), ← Int.ofNat_tdiv, gt_bm (by omega)]
theorem gn_mod {a b : Nat} (ha : a < 2147483648) (hb : b < 2147483648) : Int32.ofNat a - Int32.ofNat a / Int32.ofNat b * Int32.ofNat b = Int32.ofNat (a % b) := by
  rw [gn_div ha hb, gn_mul, gn_sub (Nat.div_mul_le_self a b)]
  congr 1
  have := Nat.div_add_mod a b
  rw [Nat.mul_comm] at this
  omega
theorem gn_1 : Int32.ofNat 1 = 1 := rfl
theorem gn_0 : Int32.ofNat 0 = 0 := rfl
def gMx (x y : Int32) : Int32 := if x < y then y else x
theorem gMx_t {x y : Int32} : (gMx x y).toInt = max x.toInt y.toInt := by
  unfold gMx
  by_cases h : x < y
  · rw [if_pos h]; have := Int32.lt_iff_toInt_lt.1 h; omega
  · rw [if_neg h]; have : ¬ x.toInt < y.toInt := fun q => h (Int32.lt_iff_toInt_lt.2 q)
    omega
theorem c_max (x y : Int32) (m : gd_M) : gd_call 125 [.int x, .int y] m = some (.int (gMx x y), m) := by
  rw [q_Ma_max]; unfold gMx
  by_cases h : x < y
  · rw [if_pos h, if_pos h]
  · rw [if_neg h, if_neg h]
theorem gMx_1 {k : Nat} (h : 0 < k) (hk : k < 2147483648) : gMx 1 (Int32.ofNat k) = Int32.ofNat k := by
  unfold gMx
  by_cases e : k = 1
  · subst e; rfl
  · rw [if_pos ((gnla_1 (by decide) hk).2 (by omega))]
theorem c_min_l {a b : Nat} (h : a ≤ b) (hb : b < 2147483648) (m : gd_M) : gd_call 27 [.int (Int32.ofNat a), .int (Int32.ofNat b)] m = some (.int (Int32.ofNat a), m) := by
  rw [q_Ma_min, if_neg (fun q => by have := (gn_lt hb (by omega)).1 q; omega)]
theorem gn_shl : ∀ i < 16, (1 : Int32) <<< (Int32.ofNat i &&& 31) = Int32.ofNat (2 ^ i) := by decide +kernel
/-! ===== the chooser's own cells ===== -/
def oC (m m1 : gd_M) : Prop := m1.2 = m.2 ∧ ∀ a, (a < 15 ∨ 19 < a) → gI m1 a = gI m a
theorem oC_refl {m : gd_M} : oC m m := ⟨rfl, fun _ _ => rfl⟩
theorem oC_w {m m1 : gd_M} {a k : Nat} {x : Int32} (h : oC m m1) (ha : 15 ≤ a ∧ a ≤ 19) : oC m (wI m1 a k x) := ⟨h.1, fun b hb => by rw [← h.2 b hb]; funext j; exact if_neg fun q => by omega⟩
theorem oC_tr {m m1 m2 : gd_M} (h : oC m m1) (h2 : oC m1 m2) : oC m m2 := ⟨h2.1.trans h.1, fun b hb => (h2.2 b hb).trans (h.2 b hb)⟩
theorem oC_fl {a : Nat} {x : Int32} (ha : 15 ≤ a ∧ a ≤ 19) : ∀ j k (m m1 : gd_M), oC m m1 → oC m (wFl m1 a k x j) := by
  intro j
  induction j with
  | zero => intro k m m1 h; exact h
  | succ j ih => intro k m m1 h; exact ih (k + 1) m _ (oC_w h ha)
/-- the code and a row's entries, as the class has them -/
def cSt (c : Nat) (A : gd_C) (r l : Nat) (e : Nat → Int32) (m : gd_M) : Prop := cCd c (gI m) A ∧ gI m (58 + 4 * r) 6 = Int32.ofNat l ∧ ∀ i < 16, gI m (59 + 4 * r) i = e i
theorem cSt_o {c : Nat} {A : gd_C} {r l : Nat} {e : Nat → Int32} {m m1 : gd_M} (hc : c = 32 ∨ c = 45) (h : cSt c A r l e m) (o : oC m m1) : cSt c A r l e m1 := by
  refine ⟨cCd_c h.1 fun k hk => o.2 _ (by omega), ?_, fun i hi => ?_⟩
  · rw [o.2 _ (by omega)]; exact h.2.1
  · rw [o.2 _ (by omega)]; exact h.2.2 i hi
/-- sizes behind the first i entries -/
def zS (may : Nat → Bool) (gr : Nat → Nat) (lim : Nat → Int32) : Nat → Nat → Nat
  | 0, _ => 1
  | i + 1, g => if may i = true ∧ gr i = g ∧ (lim g = -1 ∨ zS may gr lim i g ≤ gn (lim g)) then zS may gr lim i g + 1 else zS may gr lim i g
section ZS
variable {may : Nat → Bool} {gr : Nat → Nat} {lim : Nat → Int32}
theorem zS_b : ∀ i g, 1 ≤ zS may gr lim i g ∧ zS may gr lim i g ≤ i + 1 := by
  intro i
  induction i with
  | zero => intro g; exact ⟨Nat.le_refl 1, Nat.le_refl 1⟩
  | succ i ih =>
    intro g
    have := ih g
    show 1 ≤ (if _ then _ else _) ∧ (if _ then _ else _) ≤ _
    by_cases h : may i = true ∧ gr i = g ∧ (lim g = -1 ∨ zS may gr lim i g ≤ gn (lim g))
    · rw [if_pos h]; omega
    · rw [if_neg h]; omega
theorem zS_lim {g : Nat} (hg : lim g ≠ -1) : ∀ i, zS may gr lim i g ≤ gn (lim g) + 1 := by
  intro i
  induction i with
  | zero => exact Nat.succ_le_succ (Nat.zero_le _)
  | succ i ih =>
    show (if _ then _ else _) ≤ _
    by_cases h : may i = true ∧ gr i = g ∧ (lim g = -1 ∨ zS may gr lim i g ≤ gn (lim g))
    · rw [if_pos h]; have := h.2.2.resolve_left hg; omega
    · rw [if_neg h]; exact ih
theorem zS_cnt {f : Nat → Bool} (hf : ∀ i, f i = true → may i = true) (g : Nat) : ∀ i, bCnt gr f g i + 1 ≤ zS may gr lim i g ∨ (lim g ≠ -1 ∧ gn (lim g) + 1 ≤ zS may gr lim i g) := by
  intro i
  induction i with
  | zero => exact .inl (Nat.le_refl 1)
  | succ i ih =>
    show bCnt gr f g i + _ + 1 ≤ (if _ then _ else _) ∨ (_ ∧ _ ≤ (if _ then _ else _))
    by_cases h : may i = true ∧ gr i = g ∧ (lim g = -1 ∨ zS may gr lim i g ≤ gn (lim g))
    · rw [if_pos h]
      rcases ih with ih | ih
      · left
        by_cases h1 : f i = true ∧ gr i = g
        · rw [if_pos h1]; omega
        · rw [if_neg h1]; omega
      · exact .inr ⟨ih.1, by omega⟩
    · rw [if_neg h]
      rcases ih with ih | ih
      · by_cases h1 : f i = true ∧ gr i = g
        · right
          have h2 : ¬ (lim g = -1 ∨ zS may gr lim i g ≤ gn (lim g)) := fun q => h ⟨hf i h1.1, h1.2, q⟩
          exact ⟨fun q => h2 (.inl q), by have : ¬ zS may gr lim i g ≤ gn (lim g) := fun q => h2 (.inr q)
                                          omega⟩
        · rw [if_neg h1]; exact .inl ih
      · exact .inr ih
theorem zS_sum : ∀ i, dSm (zS may gr lim i) 5 ≤ i := by
  intro i
  induction i with
  | zero => exact Nat.le_refl 0
  | succ i ih =>
    have h : ∀ g, zS may gr lim (i + 1) g ≤ zS may gr lim i g + (if gr i = g then 1 else 0) := fun g => by
      show (if _ then _ else _) ≤ _
      by_cases h : may i = true ∧ gr i = g ∧ (lim g = -1 ∨ zS may gr lim i g ≤ gn (lim g))
      · rw [if_pos h, if_pos h.2.1]; exact Nat.le_refl _
      · rw [if_neg h]; omega
    have h0 := h 0
    have h1 := h 1
    have h2 := h 2
    have h3 := h 3
    have h4 := h 4
    have b0 := (zS_b (may := may) (gr := gr) (lim := lim) i 0).1
    have b1 := (zS_b (may := may) (gr := gr) (lim := lim) i 1).1
    have b2 := (zS_b (may := may) (gr := gr) (lim := lim) i 2).1
    have b3 := (zS_b (may := may) (gr := gr) (lim := lim) i 3).1
    have b4 := (zS_b (may := may) (gr := gr) (lim := lim) i 4).1
    have c0 := (zS_b (may := may) (gr := gr) (lim := lim) (i + 1) 0).1
    have c1 := (zS_b (may := may) (gr := gr) (lim := lim) (i + 1) 1).1
    have c2 := (zS_b (may := may) (gr := gr) (lim := lim) (i + 1) 2).1
    have c3 := (zS_b (may := may) (gr := gr) (lim := lim) (i + 1) 3).1
    have c4 := (zS_b (may := may) (gr := gr) (lim := lim) (i + 1) 4).1
    have ih : 0 + (zS may gr lim i 0 - 1) + (zS may gr lim i 1 - 1) + (zS may gr lim i 2 - 1) + (zS may gr lim i 3 - 1) + (zS may gr lim i 4 - 1) ≤ i := ih
    show 0 + (zS may gr lim (i + 1) 0 - 1) + (zS may gr lim (i + 1) 1 - 1) + (zS may gr lim (i + 1) 2 - 1) + (zS may gr lim (i + 1) 3 - 1) + (zS may gr lim (i + 1) 4 - 1) ≤ i + 1
    by_cases e0 : gr i = 0
    · rw [e0] at h0 h1 h2 h3 h4; simp at h0 h1 h2 h3 h4; omega
    · by_cases e1 : gr i = 1
      · rw [e1] at h0 h1 h2 h3 h4; simp at h0 h1 h2 h3 h4; omega
      · by_cases e2 : gr i = 2
        · rw [e2] at h0 h1 h2 h3 h4; simp at h0 h1 h2 h3 h4; omega
        · by_cases e3 : gr i = 3
          · rw [e3] at h0 h1 h2 h3 h4; simp at h0 h1 h2 h3 h4; omega
          · rw [if_neg e0] at h0; rw [if_neg e1] at h1; rw [if_neg e2] at h2; rw [if_neg e3] at h3
            by_cases e4 : gr i = 4
            · rw [if_pos e4] at h4; omega
            · rw [if_neg e4] at h4; omega
end ZS
