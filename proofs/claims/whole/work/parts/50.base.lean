/-! ===== contracts over the small machine ===== -/
def gW (o : Option (Value × gd_M)) (Q : Value → gd_M → Prop) : Prop := ∃ v m', o = some (v, m') ∧ Q v m'
def qI (P : Int32 → gd_M → Prop) (v : Value) (m : gd_M) : Prop := ∃ x, v = .int x ∧ P x m
def qJ (P : Int64 → gd_M → Prop) (v : Value) (m : gd_M) : Prop := ∃ x, v = .long x ∧ P x m
def qR (P : Nat → gd_M → Prop) (v : Value) (m : gd_M) : Prop := ∃ x, v = .ref x ∧ P x m
def qV (P : gd_M → Prop) (v : Value) (m : gd_M) : Prop := v = .null ∧ P m
/-- .. or thrown -/
def qIT (P : Int32 → gd_M → Prop) (T : gd_M → Prop) (v : Value) (m : gd_M) : Prop := (∃ x, v = .int x ∧ P x m) ∨ (v = .retAddr 0 ∧ T m)
def qVT (P : gd_M → Prop) (T : gd_M → Prop) (v : Value) (m : gd_M) : Prop := (v = .null ∧ P m) ∨ (v = .retAddr 0 ∧ T m)
theorem gW_ret {v : Value} {m : gd_M} {Q : Value → gd_M → Prop} (h : Q v m) : gW (some (v, m)) Q := ⟨v, m, rfl, h⟩
theorem gW_retI {x : Int32} {m : gd_M} {P : Int32 → gd_M → Prop} (h : P x m) : gW (some (.int x, m)) (qI P) := ⟨.int x, m, rfl, x, rfl, h⟩
theorem gW_retJ {x : Int64} {m : gd_M} {P : Int64 → gd_M → Prop} (h : P x m) : gW (some (.long x, m)) (qJ P) := ⟨.long x, m, rfl, x, rfl, h⟩
theorem gW_retR {x : Nat} {m : gd_M} {P : Nat → gd_M → Prop} (h : P x m) : gW (some (.ref x, m)) (qR P) := ⟨.ref x, m, rfl, x, rfl, h⟩
theorem gW_retV {m : gd_M} {P : gd_M → Prop} (h : P m) : gW (some (.null, m)) (qV P) := ⟨.null, m, rfl, rfl, h⟩
theorem gW_retIT {x : Int32} {m : gd_M} {P : Int32 → gd_M → Prop} {T : gd_M → Prop} (h : P x m) : gW (some (.int x, m)) (qIT P T) := ⟨.int x, m, rfl, .inl ⟨x, rfl, h⟩⟩
theorem gW_retVT {m : gd_M} {P T : gd_M → Prop} (h : P m) : gW (some (.null, m)) (qVT P T) := ⟨.null, m, rfl, .inl ⟨rfl, h⟩⟩
theorem gW_g {c : Prop} {dc : Decidable c} {o : Option (Value × gd_M)} {Q : Value → gd_M → Prop} (hc : c) (h : gW o Q) : gW (if c then o else none) Q := by
  rw [if_pos hc]; exact h
theorem gW_t {c : Prop} {dc : Decidable c} {o p : Option (Value × gd_M)} {Q : Value → gd_M → Prop} (hc : c) (h : gW o Q) : gW (if c then o else p) Q := by
  rw [if_pos hc]; exact h
theorem gW_f {c : Prop} {dc : Decidable c} {o p : Option (Value × gd_M)} {Q : Value → gd_M → Prop} (hc : ¬ c) (h : gW p Q) : gW (if c then o else p) Q := by
  rw [if_neg hc]; exact h
theorem gW_if {c : Prop} {dc : Decidable c} {a b : Option (Value × gd_M)} {Q : Value → gd_M → Prop} (h1 : c → gW a Q) (h2 : ¬ c → gW b Q) : gW (if c then a else b) Q := by
  by_cases h : c
  · rw [if_pos h]; exact h1 h
  · rw [if_neg h]; exact h2 h
theorem gW_mono {o : Option (Value × gd_M)} {Q Q' : Value → gd_M → Prop} (h : gW o Q) (hq : ∀ v m, Q v m → Q' v m) : gW o Q' := by
  obtain ⟨v, m, e, q⟩ := h; exact ⟨v, m, e, hq v m q⟩
theorem gW_eq {o o' : Option (Value × gd_M)} {Q : Value → gd_M → Prop} (e : o = o') (h : gW o' Q) : gW o Q := by
  rw [e]; exact h
theorem gW_monoI {o : Option (Value × gd_M)} {P P' : Int32 → gd_M → Prop} (h : gW o (qI P)) (hq : ∀ x m, P x m → P' x m) : gW o (qI P') := by
  obtain ⟨v, m, e, x, hv, q⟩ := h; exact ⟨v, m, e, x, hv, hq x m q⟩
theorem gW_monoV {o : Option (Value × gd_M)} {P P' : gd_M → Prop} (h : gW o (qV P)) (hq : ∀ m, P m → P' m) : gW o (qV P') := by
  obtain ⟨v, m, e, hv, q⟩ := h; exact ⟨v, m, e, hv, hq m q⟩
section GWK
variable {o : Option (Value × gd_M)} {Q : Value → gd_M → Prop}
theorem gW_kI {f : Int32 → gd_M → Option (Value × gd_M)} {P : Int32 → gd_M → Prop} (h : gW o (qI P)) (hf : ∀ x m, P x m → gW (f x m) Q) : gW (o.bind (gd_kI f)) Q := by
  obtain ⟨v, m, rfl, x, rfl, q⟩ := h; exact hf x m q
theorem gW_k0I {f : Int32 → gd_M → Option (Value × gd_M)} {P : Int32 → gd_M → Prop} (h : gW o (qI P)) (hf : ∀ x m, P x m → gW (f x m) Q) : gW (o.bind (gd_k0I f)) Q := by
  obtain ⟨v, m, rfl, x, rfl, q⟩ := h; exact hf x m q
theorem gW_kJ {f : Int64 → gd_M → Option (Value × gd_M)} {P : Int64 → gd_M → Prop} (h : gW o (qJ P)) (hf : ∀ x m, P x m → gW (f x m) Q) : gW (o.bind (gd_kJ f)) Q := by
  obtain ⟨v, m, rfl, x, rfl, q⟩ := h; exact hf x m q
theorem gW_kR {f : Nat → gd_M → Option (Value × gd_M)} {P : Nat → gd_M → Prop} (h : gW o (qR P)) (hf : ∀ x m, P x m → gW (f x m) Q) : gW (o.bind (gd_kR f)) Q := by
  obtain ⟨v, m, rfl, x, rfl, q⟩ := h; exact hf x m q
theorem gW_kV {f : gd_M → Option (Value × gd_M)} {P : gd_M → Prop} (h : gW o (qV P)) (hf : ∀ m, P m → gW (f m) Q) : gW (o.bind (gd_kV f)) Q := by
  obtain ⟨v, m, rfl, rfl, q⟩ := h; exact hf m q
theorem gW_k0V {f : gd_M → Option (Value × gd_M)} {P : gd_M → Prop} (h : gW o (qV P)) (hf : ∀ m, P m → gW (f m) Q) : gW (o.bind (gd_k0V f)) Q := by
  obtain ⟨v, m, rfl, rfl, q⟩ := h; exact hf m q
theorem gW_kIT {f : Int32 → gd_M → Option (Value × gd_M)} {P : Int32 → gd_M → Prop} {T : gd_M → Prop} (h : gW o (qIT P T)) (hf : ∀ x m, P x m → gW (f x m) Q) (ht : ∀ m, T m → Q (.retAddr 0) m) : gW (o.bind (gd_kI f)) Q := by
  obtain ⟨v, m, rfl, ⟨x, rfl, q⟩ | ⟨rfl, t⟩⟩ := h
  · exact hf x m q
  · exact gW_ret (ht m t)
theorem gW_kVT {f : gd_M → Option (Value × gd_M)} {P T : gd_M → Prop} (h : gW o (qVT P T)) (hf : ∀ m, P m → gW (f m) Q) (ht : ∀ m, T m → Q (.retAddr 0) m) : gW (o.bind (gd_kV f)) Q := by
  obtain ⟨v, m, rfl, ⟨rfl, q⟩ | ⟨rfl, t⟩⟩ := h
  · exact hf m q
  · exact gW_ret (ht m t)
theorem gW_khV {f g : gd_M → Option (Value × gd_M)} {P T : gd_M → Prop} (h : gW o (qVT P T)) (hf : ∀ m, P m → gW (f m) Q) (ht : ∀ m, T m → gW (g m) Q) : gW (o.bind (gd_khV f g)) Q := by
  obtain ⟨v, m, rfl, ⟨rfl, q⟩ | ⟨rfl, t⟩⟩ := h
  · exact hf m q
  · exact ht m t
theorem gW_kIe {f : Int32 → gd_M → Option (Value × gd_M)} {x : Int32} {m : gd_M} (e : o = some (.int x, m)) (h : gW (f x m) Q) : gW (o.bind (gd_kI f)) Q := by subst e; exact h
theorem gW_kRe {f : Nat → gd_M → Option (Value × gd_M)} {x : Nat} {m : gd_M} (e : o = some (.ref x, m)) (h : gW (f x m) Q) : gW (o.bind (gd_kR f)) Q := by subst e; exact h
theorem gW_kJe {f : Int64 → gd_M → Option (Value × gd_M)} {x : Int64} {m : gd_M} (e : o = some (.long x, m)) (h : gW (f x m) Q) : gW (o.bind (gd_kJ f)) Q := by subst e; exact h
theorem gW_kVe {f : gd_M → Option (Value × gd_M)} {m : gd_M} (e : o = some (.null, m)) (h : gW (f m) Q) : gW (o.bind (gd_kV f)) Q := by subst e; exact h
end GWK
/-! ===== reads behind writes ===== -/
section GSS
variable {m : gd_M} {a k b j : Nat} {x : Int32} {y : Int64} {z : Nat}
theorem gI_wI : gI (wI m a k x) b j = if b = a ∧ j = k then x else gI m b j := rfl
theorem gI_wI_s : gI (wI m a k x) a k = x := if_pos ⟨rfl, rfl⟩
theorem gI_wI_a (h : b ≠ a) : gI (wI m a k x) b j = gI m b j := if_neg fun q => h q.1
theorem gI_wI_k (h : j ≠ k) : gI (wI m a k x) b j = gI m b j := if_neg fun q => h q.2
theorem gI_wJ : gI (wJ m a k y) b j = gI m b j := rfl
theorem gI_wR : gI (wR m a k z) b j = gI m b j := rfl
theorem gI_al : gI (gd_al m z) b j = gI m b j := rfl
theorem gJ_wJ : gJ (wJ m a k y) b j = if b = a ∧ j = k then y else gJ m b j := rfl
theorem gJ_wI : gJ (wI m a k x) b j = gJ m b j := rfl
theorem gJ_wR : gJ (wR m a k z) b j = gJ m b j := rfl
theorem gJ_al : gJ (gd_al m z) b j = gJ m b j := rfl
theorem gR_wR : gR (wR m a k z) b j = if b = a ∧ j = k then z else gR m b j := rfl
theorem gR_wI : gR (wI m a k x) b j = gR m b j := rfl
theorem gR_wJ : gR (wJ m a k y) b j = gR m b j := rfl
theorem gR_al : gR (gd_al m z) b j = gR m b j := rfl
theorem gN_wI : gN (wI m a k x) = gN m := rfl
theorem gN_wJ : gN (wJ m a k y) = gN m := rfl
theorem gN_wR : gN (wR m a k z) = gN m := rfl
theorem gN_al : gN (gd_al m z) = gN m + 1 := rfl
theorem gU_wI : gU (wI m a k x) = gU m := rfl
theorem gU_wJ : gU (wJ m a k y) = gU m := rfl
theorem gU_wR : gU (wR m a k z) = gU m := rfl
theorem gU_al : gU (gd_al m z) = gU m + z := rfl
theorem gL_wI : gL (wI m a k x) = gL m := rfl
theorem gL_wJ : gL (wJ m a k y) = gL m := rfl
theorem gL_wR : gL (wR m a k z) = gL m := rfl
theorem gL_al : gL (gd_al m z) = gL m := rfl
end GSS
/-! ===== small whole numbers as ints ===== -/
theorem gn_toInt {n : Nat} (h : n < 2147483648) : (Int32.ofNat n).toInt = (n : Int) := Int32.toInt_ofNat_of_lt (by omega)
theorem gn_nat {n : Nat} (h : n < 2147483648) : (Int32.ofNat n).toNatClampNeg = n := by
  show (Int32.ofNat n).toInt.toNat = n
  rw [gn_toInt h]; exact Int.toNat_natCast n
theorem gn_nat0 : (0 : Int32).toNatClampNeg = 0 := rfl
theorem gn_lt {a b : Nat} (ha : a < 2147483648) (hb : b < 2147483648) : (Int32.ofNat a < Int32.ofNat b) ↔ a < b := by
  rw [Int32.lt_iff_toInt_lt, gn_toInt ha, gn_toInt hb]; omega
theorem gn_le {a b : Nat} (ha : a < 2147483648) (hb : b < 2147483648) : (Int32.ofNat a ≤ Int32.ofNat b) ↔ a ≤ b := by
  rw [Int32.le_iff_toInt_le, gn_toInt ha, gn_toInt hb]; omega
theorem gn_eq {a b : Nat} (ha : a < 2147483648) (hb : b < 2147483648) : (Int32.ofNat a = Int32.ofNat b) ↔ a = b := by
  constructor
  · intro h
    have := congrArg Int32.toInt h
    rw [gn_toInt ha, gn_toInt hb] at this; omega
  · intro h; rw [h]
theorem gn_add {a b : Nat} : Int32.ofNat a + Int32.ofNat b = Int32.ofNat (a + b) := by
  rw [Int32.ofNat_add]
theorem gn_succ {a : Nat} : Int32.ofNat a + 1 = Int32.ofNat (a + 1) := by
  rw [Int32.ofNat_add]; rfl
theorem gn_in {a n : Nat} (ha : a < 2147483648) (h : a < n) : gd_in (Int32.ofNat a) n = true := by
  unfold gd_in
  have h1 : ¬ (Int32.ofNat a < 0) := by
    rw [Int32.lt_iff_toInt_lt, gn_toInt ha]; simp
  have h2 : ¬ (n ≤ (Int32.ofNat a).toNatClampNeg) := by rw [gn_nat ha]; omega
  rw [decide_eq_false h1, decide_eq_false h2]; rfl
/-- a number that isn't below 0 is a small whole number -/
theorem gn_pos {x : Int32} (h : 0 ≤ x) : ∃ n : Nat, n < 2147483648 ∧ x = Int32.ofNat n := by
  have h1 : 0 ≤ x.toInt := by have := (Int32.le_iff_toInt_le).1 h; simpa using this
  have h2 := Int32.toInt_lt x
  refine ⟨x.toInt.toNat, by omega, ?_⟩
  apply Int32.toInt_inj.1
  rw [gn_toInt (by omega)]; omega
theorem gd_ok_t {n a k : Nat} (h1 : gd_KD a = k) (h2 : a < n) : gd_ok n a k = true := by
  unfold gd_ok
  subst h1
  rw [decide_eq_true h2, Nat.beq_refl]; rfl
theorem gd_okA_t {n a k l : Nat} {i : Int32} (h1 : gd_KD a = k) (h2 : a < n) (h3 : gd_LN a = l) (h4 : gd_in i l = true) : gd_okA n a k i = true := by
  unfold gd_okA
  subst h1
  rw [decide_eq_true h2, Nat.beq_refl, h3, h4]; rfl
/-- a routine's row and its arrays -/
theorem gd_KD_row {r : Nat} (h : r < 160) : gd_KD (58 + 4 * r) = 4 ∧ gd_KD (59 + 4 * r) = 10 ∧ gd_KD (60 + 4 * r) = 10 ∧ gd_KD (61 + 4 * r) = 10 := by
  have := (show ∀ r < 160, gd_KD (58 + 4 * r) = 4 ∧ gd_KD (59 + 4 * r) = 10 ∧ gd_KD (60 + 4 * r) = 10 ∧ gd_KD (61 + 4 * r) = 10 from by decide +kernel)
  exact this r h
theorem gd_LN_row {r : Nat} (h : r < 160) : gd_LN (59 + 4 * r) = 16 ∧ gd_LN (60 + 4 * r) = 6 ∧ gd_LN (61 + 4 * r) = 10 := by
  have := (show ∀ r < 160, gd_LN (59 + 4 * r) = 16 ∧ gd_LN (60 + 4 * r) = 6 ∧ gd_LN (61 + 4 * r) = 10 from by decide +kernel)
  exact this r h
