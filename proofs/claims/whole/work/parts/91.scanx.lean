/-! ===== scanning, the class ===== -/
theorem gK_S {c d n p : Nat} {m m1 : gd_M} (h : gK c d n p m) (e : m1.2.2 = m.2.2) (q : ∀ w < 19, gJ m1 12 w = gJ m 12 w) : gK c d n p m1 := by
  obtain ⟨I, J, t⟩ := m
  obtain ⟨I1, J1, t1⟩ := m1
  have e' : t1 = t := e
  subst e'
  exact ⟨(by have q := gK_N h; exact q), (by have q := gK_U h; exact q), (by have q := gK_L h; exact q), (by have q := gK_C h; exact q), (by have q := gK_M h; exact q), (by have q := gK_8_0 h; exact q), (by have q := gK_8_1 h; exact q), (by have q := gK_8_2 h; exact q), (by have q := gK_8_3 h; exact q), (by have q := gK_8_4 h; exact q), (by have q := gK_8_5 h; exact q), (by have q := gK_8_6 h; exact q), (by have q := gK_8_7 h; exact q), (by have q := gK_8_8 h; exact q), (by have q := gK_10_0 h; exact q), (by have q := gK_10_1 h; exact q), (by have q := gK_10_2 h; exact q), (by have q := gK_11_0 h; exact q), (by have q := gK_15_0 h; exact q), (by have q := gK_15_1 h; exact q), (by have q := gK_15_2 h; exact q), (by have q := gK_15_3 h; exact q), (by have q := gK_20_0 h; exact q), (by have q := gK_20_1 h; exact q), (by have q := gK_20_2 h; exact q), (by have q := gK_20_3 h; exact q), (by have q := gK_20_4 h; exact q), (by have q := gK_20_5 h; exact q), (by have q := gK_698_0 h; exact q), (by have q := gK_698_3 h; exact q), (by have q := gK_698_16 h; exact q), (by have q := gK_698_17 h; exact q), (by have q := gK_698_20 h; exact q), (by have q := gK_698_21 h; exact q), (by have q := gK_698_22 h; exact q), (by have q := gK_698_23 h; exact q), (by have q := gK_698_24 h; exact q), (by have q := gK_698_25 h; exact q), (by have q := gK_698_26 h; exact q), (by have q := gK_698_27 h; exact q), (by have q := gK_698_28 h; exact q), (by have q := gK_698_29 h; exact q), (by have q := gK_698_30 h; exact q), (by have q := gK_698_31 h; exact q), (by have q := gK_698_32 h; exact q), (by have q := gK_698_33 h; exact q), (by have q := gK_698_34 h; exact q), (by have q := gK_698_35 h; exact q), (by have q := gK_698_36 h; exact q), (by have q := gK_698_37 h; exact q), (by have q := gK_698_38 h; exact q), (by have q := gK_698_39 h; exact q), (by have q := gK_698_41 h; exact q), (by have q := gK_698_42 h; exact q), (by have q := gK_698_44 h; exact q), (by have q := gK_c h; exact q), (by have q := gK_d h; exact q), (by have q := gK_n h; exact q), (by have q := gK_p h; exact q), (by have q := gK_co h; exact q), (by have q := gK_mc h; exact q), (by have q := gK_rw h; exact q), fun w hw => (q w hw).trans (gK_qt h w hw)⟩
theorem gK_wR {c d n p a k z : Nat} {m : gd_M} (h : gK c d n p m) (ha : (a = 10 ∧ k = 3) ∨ (a = 11 ∧ k = 1)) : gK c d n p (wR m a k z) := by
  have hc := gK_c1 h
  have e : ∀ x y, ¬ (x = a ∧ y = k) → gR (wR m a k z) x y = gR m x y := fun x y q => if_neg q
  refine ⟨(by have q := gK_N h; exact q), (by have q := gK_U h; exact q), (by have q := gK_L h; exact q), (by have q := gK_C h; exact q), (by have q := gK_M h; exact q), (e 8 0 (by omega)).trans (gK_8_0 h), (e 8 1 (by omega)).trans (gK_8_1 h), (e 8 2 (by omega)).trans (gK_8_2 h), (e 8 3 (by omega)).trans (gK_8_3 h), (e 8 4 (by omega)).trans (gK_8_4 h), (e 8 5 (by omega)).trans (gK_8_5 h), (e 8 6 (by omega)).trans (gK_8_6 h), (e 8 7 (by omega)).trans (gK_8_7 h), (e 8 8 (by omega)).trans (gK_8_8 h), (e 10 0 (by omega)).trans (gK_10_0 h), (e 10 1 (by omega)).trans (gK_10_1 h), (e 10 2 (by omega)).trans (gK_10_2 h), (e 11 0 (by omega)).trans (gK_11_0 h), (e 15 0 (by omega)).trans (gK_15_0 h), (e 15 1 (by omega)).trans (gK_15_1 h), (e 15 2 (by omega)).trans (gK_15_2 h), (e 15 3 (by omega)).trans (gK_15_3 h), (e 20 0 (by omega)).trans (gK_20_0 h), (e 20 1 (by omega)).trans (gK_20_1 h), (e 20 2 (by omega)).trans (gK_20_2 h), (e 20 3 (by omega)).trans (gK_20_3 h), (e 20 4 (by omega)).trans (gK_20_4 h), (e 20 5 (by omega)).trans (gK_20_5 h), (e 698 0 (by omega)).trans (gK_698_0 h), (e 698 3 (by omega)).trans (gK_698_3 h), (e 698 16 (by omega)).trans (gK_698_16 h), (e 698 17 (by omega)).trans (gK_698_17 h), (e 698 20 (by omega)).trans (gK_698_20 h), (e 698 21 (by omega)).trans (gK_698_21 h), (e 698 22 (by omega)).trans (gK_698_22 h), (e 698 23 (by omega)).trans (gK_698_23 h), (e 698 24 (by omega)).trans (gK_698_24 h), (e 698 25 (by omega)).trans (gK_698_25 h), (e 698 26 (by omega)).trans (gK_698_26 h), (e 698 27 (by omega)).trans (gK_698_27 h), (e 698 28 (by omega)).trans (gK_698_28 h), (e 698 29 (by omega)).trans (gK_698_29 h), (e 698 30 (by omega)).trans (gK_698_30 h), (e 698 31 (by omega)).trans (gK_698_31 h), (e 698 32 (by omega)).trans (gK_698_32 h), (e 698 33 (by omega)).trans (gK_698_33 h), (e 698 34 (by omega)).trans (gK_698_34 h), (e 698 35 (by omega)).trans (gK_698_35 h), (e 698 36 (by omega)).trans (gK_698_36 h), (e 698 37 (by omega)).trans (gK_698_37 h), (e 698 38 (by omega)).trans (gK_698_38 h), (e 698 39 (by omega)).trans (gK_698_39 h), (e 698 41 (by omega)).trans (gK_698_41 h), (e 698 42 (by omega)).trans (gK_698_42 h), (e 698 44 (by omega)).trans (gK_698_44 h), (e _ _ (by omega)).trans (gK_c h), (e _ _ (by omega)).trans (gK_d h), (e _ _ (by omega)).trans (gK_n h), (e _ _ (by omega)).trans (gK_p h), fun x hx k' hk => (e _ _ (by omega)).trans (gK_co h x hx k' hk), fun x hx k' hk => (e _ _ (by omega)).trans (gK_mc h x hx k' hk), fun r hr => ⟨(e _ _ (by omega)).trans (gK_rw h r hr).1, (e _ _ (by omega)).trans (gK_rw h r hr).2.1, (e _ _ (by omega)).trans (gK_rw h r hr).2.2.1, (e _ _ (by omega)).trans (gK_rw h r hr).2.2.2⟩, (by have q := gK_qt h; exact q)⟩
theorem gK_swX {c d n p : Nat} {m : gd_M} (h : gK c d n p m) : gK d c n p (wR (wR m 8 10 c) 8 9 d) := by
  have hc := gK_c1 h
  have e : ∀ x y, ¬ (x = 8 ∧ (y = 9 ∨ y = 10)) → gR (wR (wR m 8 10 c) 8 9 d) x y = gR m x y := fun x y q => (if_neg (by omega)).trans (if_neg (by omega))
  refine ⟨(by have q := gK_N h; exact q), (by have q := gK_U h; exact q), (by have q := gK_L h; exact q), (by have q := gK_C h; unfold isC at q ⊢; omega), (by have q := gK_M h; exact q), (e 8 0 (by omega)).trans (gK_8_0 h), (e 8 1 (by omega)).trans (gK_8_1 h), (e 8 2 (by omega)).trans (gK_8_2 h), (e 8 3 (by omega)).trans (gK_8_3 h), (e 8 4 (by omega)).trans (gK_8_4 h), (e 8 5 (by omega)).trans (gK_8_5 h), (e 8 6 (by omega)).trans (gK_8_6 h), (e 8 7 (by omega)).trans (gK_8_7 h), (e 8 8 (by omega)).trans (gK_8_8 h), (e 10 0 (by omega)).trans (gK_10_0 h), (e 10 1 (by omega)).trans (gK_10_1 h), (e 10 2 (by omega)).trans (gK_10_2 h), (e 11 0 (by omega)).trans (gK_11_0 h), (e 15 0 (by omega)).trans (gK_15_0 h), (e 15 1 (by omega)).trans (gK_15_1 h), (e 15 2 (by omega)).trans (gK_15_2 h), (e 15 3 (by omega)).trans (gK_15_3 h), (e 20 0 (by omega)).trans (gK_20_0 h), (e 20 1 (by omega)).trans (gK_20_1 h), (e 20 2 (by omega)).trans (gK_20_2 h), (e 20 3 (by omega)).trans (gK_20_3 h), (e 20 4 (by omega)).trans (gK_20_4 h), (e 20 5 (by omega)).trans (gK_20_5 h), (e 698 0 (by omega)).trans (gK_698_0 h), (e 698 3 (by omega)).trans (gK_698_3 h), (e 698 16 (by omega)).trans (gK_698_16 h), (e 698 17 (by omega)).trans (gK_698_17 h), (e 698 20 (by omega)).trans (gK_698_20 h), (e 698 21 (by omega)).trans (gK_698_21 h), (e 698 22 (by omega)).trans (gK_698_22 h), (e 698 23 (by omega)).trans (gK_698_23 h), (e 698 24 (by omega)).trans (gK_698_24 h), (e 698 25 (by omega)).trans (gK_698_25 h), (e 698 26 (by omega)).trans (gK_698_26 h), (e 698 27 (by omega)).trans (gK_698_27 h), (e 698 28 (by omega)).trans (gK_698_28 h), (e 698 29 (by omega)).trans (gK_698_29 h), (e 698 30 (by omega)).trans (gK_698_30 h), (e 698 31 (by omega)).trans (gK_698_31 h), (e 698 32 (by omega)).trans (gK_698_32 h), (e 698 33 (by omega)).trans (gK_698_33 h), (e 698 34 (by omega)).trans (gK_698_34 h), (e 698 35 (by omega)).trans (gK_698_35 h), (e 698 36 (by omega)).trans (gK_698_36 h), (e 698 37 (by omega)).trans (gK_698_37 h), (e 698 38 (by omega)).trans (gK_698_38 h), (e 698 39 (by omega)).trans (gK_698_39 h), (e 698 41 (by omega)).trans (gK_698_41 h), (e 698 42 (by omega)).trans (gK_698_42 h), (e 698 44 (by omega)).trans (gK_698_44 h), rfl, rfl, (e _ _ (by omega)).trans (gK_n h), (e _ _ (by omega)).trans (gK_p h), fun x hx k' hk => (e _ _ (by omega)).trans (gK_co h x hx k' hk), fun x hx k' hk => (e _ _ (by omega)).trans (gK_mc h x hx k' hk), fun r hr => ⟨(e _ _ (by omega)).trans (gK_rw h r hr).1, (e _ _ (by omega)).trans (gK_rw h r hr).2.1, (e _ _ (by omega)).trans (gK_rw h r hr).2.2.1, (e _ _ (by omega)).trans (gK_rw h r hr).2.2.2⟩, (by have q := gK_qt h; exact q)⟩
theorem gK_swM {c d n p : Nat} {m : gd_M} (h : gK c d n p m) : gK c d p n (wR (wR m 698 1 p) 698 2 n) := by
  have hc := gK_n1 h
  have e : ∀ x y, ¬ (x = 698 ∧ (y = 1 ∨ y = 2)) → gR (wR (wR m 698 1 p) 698 2 n) x y = gR m x y := fun x y q => (if_neg (by omega)).trans (if_neg (by omega))
  refine ⟨(by have q := gK_N h; exact q), (by have q := gK_U h; exact q), (by have q := gK_L h; exact q), (by have q := gK_C h; exact q), (by have q := gK_M h; unfold isM at q ⊢; omega), (e 8 0 (by omega)).trans (gK_8_0 h), (e 8 1 (by omega)).trans (gK_8_1 h), (e 8 2 (by omega)).trans (gK_8_2 h), (e 8 3 (by omega)).trans (gK_8_3 h), (e 8 4 (by omega)).trans (gK_8_4 h), (e 8 5 (by omega)).trans (gK_8_5 h), (e 8 6 (by omega)).trans (gK_8_6 h), (e 8 7 (by omega)).trans (gK_8_7 h), (e 8 8 (by omega)).trans (gK_8_8 h), (e 10 0 (by omega)).trans (gK_10_0 h), (e 10 1 (by omega)).trans (gK_10_1 h), (e 10 2 (by omega)).trans (gK_10_2 h), (e 11 0 (by omega)).trans (gK_11_0 h), (e 15 0 (by omega)).trans (gK_15_0 h), (e 15 1 (by omega)).trans (gK_15_1 h), (e 15 2 (by omega)).trans (gK_15_2 h), (e 15 3 (by omega)).trans (gK_15_3 h), (e 20 0 (by omega)).trans (gK_20_0 h), (e 20 1 (by omega)).trans (gK_20_1 h), (e 20 2 (by omega)).trans (gK_20_2 h), (e 20 3 (by omega)).trans (gK_20_3 h), (e 20 4 (by omega)).trans (gK_20_4 h), (e 20 5 (by omega)).trans (gK_20_5 h), (e 698 0 (by omega)).trans (gK_698_0 h), (e 698 3 (by omega)).trans (gK_698_3 h), (e 698 16 (by omega)).trans (gK_698_16 h), (e 698 17 (by omega)).trans (gK_698_17 h), (e 698 20 (by omega)).trans (gK_698_20 h), (e 698 21 (by omega)).trans (gK_698_21 h), (e 698 22 (by omega)).trans (gK_698_22 h), (e 698 23 (by omega)).trans (gK_698_23 h), (e 698 24 (by omega)).trans (gK_698_24 h), (e 698 25 (by omega)).trans (gK_698_25 h), (e 698 26 (by omega)).trans (gK_698_26 h), (e 698 27 (by omega)).trans (gK_698_27 h), (e 698 28 (by omega)).trans (gK_698_28 h), (e 698 29 (by omega)).trans (gK_698_29 h), (e 698 30 (by omega)).trans (gK_698_30 h), (e 698 31 (by omega)).trans (gK_698_31 h), (e 698 32 (by omega)).trans (gK_698_32 h), (e 698 33 (by omega)).trans (gK_698_33 h), (e 698 34 (by omega)).trans (gK_698_34 h), (e 698 35 (by omega)).trans (gK_698_35 h), (e 698 36 (by omega)).trans (gK_698_36 h), (e 698 37 (by omega)).trans (gK_698_37 h), (e 698 38 (by omega)).trans (gK_698_38 h), (e 698 39 (by omega)).trans (gK_698_39 h), (e 698 41 (by omega)).trans (gK_698_41 h), (e 698 42 (by omega)).trans (gK_698_42 h), (e 698 44 (by omega)).trans (gK_698_44 h), (e _ _ (by omega)).trans (gK_c h), (e _ _ (by omega)).trans (gK_d h), rfl, rfl, fun x hx k' hk => (e _ _ (by omega)).trans (gK_co h x hx k' hk), fun x hx k' hk => (e _ _ (by omega)).trans (gK_mc h x hx k' hk), fun r hr => ⟨(e _ _ (by omega)).trans (gK_rw h r hr).1, (e _ _ (by omega)).trans (gK_rw h r hr).2.1, (e _ _ (by omega)).trans (gK_rw h r hr).2.2.1, (e _ _ (by omega)).trans (gK_rw h r hr).2.2.2⟩, (by have q := gK_qt h; exact q)⟩
theorem gl_10 {x : Nat} (hx : x < 2147483648) : (10 < Int32.ofNat x) ↔ 10 < x := gn_lt (b := x) (a := 10) (by decide) hx
theorem gl_3 {x : Nat} (hx : x < 2147483648) : (3 < Int32.ofNat x) ↔ 3 < x := gn_lt (b := x) (a := 3) (by decide) hx
theorem gSma_i {α : Type} {x : Int32} {A B : α} : (if x < 97 then A else if 122 < x then A else B) = if gSma x = true then B else A := by
  unfold gSma
  by_cases h : x < 97
  · rw [if_pos h, decide_eq_true h]; rfl
  · rw [if_neg h, decide_eq_false h]
    by_cases h2 : 122 < x
    · rw [if_pos h2, decide_eq_true h2]; rfl
    · rw [if_neg h2, decide_eq_false h2]; rfl
theorem gDig_i {α : Type} {x : Int32} {A B : α} : (if x < 48 then A else if 57 < x then A else B) = if gDig x = true then B else A := by
  unfold gDig
  by_cases h : x < 48
  · rw [if_pos h, decide_eq_true h]; rfl
  · rw [if_neg h, decide_eq_false h]
    by_cases h2 : 57 < x
    · rw [if_pos h2, decide_eq_true h2]; rfl
    · rw [if_neg h2, decide_eq_false h2]; rfl
/-- only the class's scanner has changed -/
def oS (m m1 : gd_M) : Prop := m1.2.2 = m.2.2 ∧ (∀ a, a ≠ 11 → gI m1 a = gI m a) ∧ (∀ a, a ≠ 11 → gJ m1 a = gJ m a) ∧ gI m1 11 2 = gI m 11 2
theorem oS_refl {m : gd_M} : oS m m := ⟨rfl, fun _ _ => rfl, fun _ _ => rfl, rfl⟩
theorem oS_tr {m m1 m2 : gd_M} (h : oS m m1) (h2 : oS m1 m2) : oS m m2 := ⟨h2.1.trans h.1, fun a q => (h2.2.1 a q).trans (h.2.1 a q), fun a q => (h2.2.2.1 a q).trans (h.2.2.1 a q), h2.2.2.2.trans h.2.2.2⟩
theorem oS_w {m m1 : gd_M} {k : Nat} {x : Int32} (h : oS m m1) (hk : k ≠ 2) : oS m (wI m1 11 k x) := ⟨h.1, fun a q => by rw [gI_wI_f q]; exact h.2.1 a q, h.2.2.1, by rw [gI_wI_k (Ne.symm hk)]; exact h.2.2.2⟩
theorem gJ_wJ_f {m : gd_M} {a b k : Nat} {x : Int64} (h : b ≠ a) : gJ (wJ m a k x) b = gJ m b := funext fun j => if_neg fun q => h q.1
theorem gJ_wJ_s {m : gd_M} {a k : Nat} {x : Int64} : gJ (wJ m a k x) a k = x := if_pos ⟨rfl, rfl⟩
theorem gJ_wJ_k {m : gd_M} {a k b j : Nat} {x : Int64} (h : j ≠ k) : gJ (wJ m a k x) b j = gJ m b j := if_neg fun q => h q.2
theorem oS_J {m m1 : gd_M} {k : Nat} {x : Int64} (h : oS m m1) : oS m (wJ m1 11 k x) := ⟨h.1, h.2.1, fun a q => by rw [gJ_wJ_f q]; exact h.2.2.1 a q, h.2.2.2⟩
theorem gK_oS {c d n p : Nat} {m m1 : gd_M} (h : gK c d n p m) (o : oS m m1) : gK c d n p m1 := gK_S h o.1 fun w _ => by rw [o.2.2.1 12 (by decide)]
/-- the text, as the class's scanner has it -/
def xT (t : Nat → Int32) (T : Nat) (m : gd_M) : Prop := (∀ i, gI m 9 i = t i) ∧ gI m 11 2 = Int32.ofNat T ∧ gR m 11 1 = 9
theorem xT_S {t : Nat → Int32} {T : Nat} {m m1 : gd_M} (h : xT t T m) (o : oS m m1) : xT t T m1 := ⟨fun i => by rw [o.2.1 9 (by decide)]; exact h.1 i, o.2.2.2.trans h.2.1, by
  have e : gR m1 11 1 = gR m 11 1 := by unfold gR; rw [o.1]
  exact e.trans h.2.2⟩
def xTy (y : Nat) : Int32 := if y = 0 then 0 else if y ≤ 2 then 1 else if y = 3 then 2 else if y = 4 then 3 else 4
/-- the class's latest token -/
def tkX (t : Nat → Int32) (T s k : Nat) (m : gd_M) : Prop := gI m 11 3 = Int32.ofNat (kEn t T s) ∧ gI m 11 6 = Int32.ofNat s ∧ gI m 11 4 = Int32.ofNat (if T ≤ s then k else k + 1) ∧ gI m 11 5 = xTy (kTy t T s) ∧ gI m 11 9 = (if kTy t T s = 2 then Int32.ofNat (kWd t T s) else -1) ∧ (kTy t T s = 3 → gI m 11 7 = kVa t T s) ∧ ((kTy t T s = 1 ∨ kTy t T s = 2) → gJ m 11 8 = gC5 (kL t T s) (kLn t T s))
section P91
variable {c d n p : Nat} {m : gd_M} {t : Nat → Int32} {T st k : Nat}
theorem gSe_i {i : Nat} (h : i < T) : gSe t T i = t i &&& 255 := if_pos h
theorem d32 (m : gd_M) : gd_Den (32, 0, [.ref 11], [], m) = gd_call 32 [.ref 11] m := by unfold gd_call gd_ent; rw [gk_ml32]; rfl
theorem c_word_5 (hB : ∀ i, isB (t i)) (hT : T ≤ 3000) : ∀ j i (m : gd_M), i + j = T → gK c d n p m → xT t T m → gI m 11 3 = Int32.ofNat i → gI m 11 6 = Int32.ofNat st → st ≤ i → gJ m 11 8 = gC5 (fun x => gSe t T (st + x)) (i - st) → ∃ m', gd_Den (29, 5, [.ref 11], [], m) = some (.null, m') ∧ oS m m' ∧ gI m' 11 3 = Int32.ofNat (gWh (fun i => gSma (gSe t T i)) j i) ∧ gJ m' 11 8 = gC5 (fun x => gSe t T (st + x)) (gWh (fun i => gSma (gSe t T i)) j i - st) ∧ gI m' 11 5 = (if gWh (fun i => gSma (gSe t T i)) j i - st ≤ 10 then 1 else 4) ∧ ∀ q, q ≠ 3 → q ≠ 5 → gI m' 11 q = gI m 11 q := by
  intro j
  have fin : ∀ i (m : gd_M), i ≤ T → st ≤ i → gI m 11 3 = Int32.ofNat i → gI m 11 6 = Int32.ofNat st → gJ m 11 8 = gC5 (fun x => gSe t T (st + x)) (i - st) → ∃ m', (if (10 < (Int32.ofNat i - Int32.ofNat st) : Prop) then some (Value.null, wI m 11 5 4) else some (Value.null, wI m 11 5 1)) = some (.null, m') ∧ oS m m' ∧ gI m' 11 3 = Int32.ofNat i ∧ gJ m' 11 8 = gC5 (fun x => gSe t T (st + x)) (i - st) ∧ gI m' 11 5 = (if i - st ≤ 10 then 1 else 4) ∧ ∀ q, q ≠ 3 → q ≠ 5 → gI m' 11 q = gI m 11 q := fun i m h1 h2 h3 h6 h8 => by
    rw [gn_sub h2]
    by_cases h : 10 < i - st
    · rw [if_pos ((gl_10 (by omega)).2 h), if_neg (by omega)]
      exact ⟨_, rfl, oS_w oS_refl (by decide), by rw [gI_wI_k (by decide)]; exact h3, h8, gI_wI_s, fun q _ q5 => gI_wI_k q5⟩
    · rw [if_neg (fun q => h ((gl_10 (by omega)).1 q)), if_pos (by omega)]
      exact ⟨_, rfl, oS_w oS_refl (by decide), by rw [gI_wI_k (by decide)]; exact h3, h8, gI_wI_s, fun q _ q5 => gI_wI_k q5⟩
  induction j with
  | zero =>
    intro i m h K X h3 h6 hst h8
    rw [q_Sc_nextWord_5]
    simp only [gK_N K, gK_8_0 K, gK_8_1 K, gK_8_2 K, gK_8_3 K, gK_8_4 K, gK_8_5 K, gK_8_6 K, gK_8_7 K, gK_8_8 K, gK_10_0 K, gK_10_1 K, gK_10_2 K, gK_11_0 K, gK_15_0 K, gK_15_1 K, gK_15_2 K, gK_15_3 K, gK_20_0 K, gK_20_1 K, gK_20_2 K, gK_20_3 K, gK_20_4 K, gK_20_5 K, gK_698_0 K, gK_698_3 K, gK_698_16 K, gK_698_17 K, gK_698_20 K, gK_698_21 K, gK_698_22 K, gK_698_23 K, gK_698_24 K, gK_698_25 K, gK_698_26 K, gK_698_27 K, gK_698_28 K, gK_698_29 K, gK_698_30 K, gK_698_31 K, gK_698_32 K, gK_698_33 K, gK_698_34 K, gK_698_35 K, gK_698_36 K, gK_698_37 K, gK_698_38 K, gK_698_39 K, gK_698_41 K, gK_698_42 K, gK_698_44 K, gK_c K, gK_d K, gK_n K, gK_p K, gok_8, gok_10, gok_11, gok_15, gok_20, gok_698, gok_699, goA_9, goA_12, goA_13, goA_14, goA_16, goA_17, goA_18, goA_19, goA_21, goA_22, goA_23, goA_24, goA_25, goA_26, goA_27, goA_28, goA_29, goA_30, goA_31, goA_732, goA_733, goA_734, goA_735, goA_736, goA_737, goA_738, goA_739, goA_740, goA_741, goA_742, goA_743, goA_744, goA_745, goA_746, goA_747, goA_748, goA_749, goA_750, goA_751, goA_752, goA_753, goA_754, goA_755, goA_756, goA_757, gN_wI, gR_wI, gL_wI, if_true, eq_self]
    rw [h3, h6, X.2.1, if_neg (fun q => by have := (gn_lt (by omega) (by omega)).1 q; omega)]
    exact fin i m (by omega) hst h3 h6 h8
  | succ j ih =>
    intro i m h K X h3 h6 hst h8
    obtain ⟨b1, b2, b3, b4, b5, b6, b7⟩ := isB_ok (hB i)
    have hs : gSe t T i = t i &&& 255 := gSe_i (by omega)
    rw [q_Sc_nextWord_5]
    simp only [gK_N K, gK_8_0 K, gK_8_1 K, gK_8_2 K, gK_8_3 K, gK_8_4 K, gK_8_5 K, gK_8_6 K, gK_8_7 K, gK_8_8 K, gK_10_0 K, gK_10_1 K, gK_10_2 K, gK_11_0 K, gK_15_0 K, gK_15_1 K, gK_15_2 K, gK_15_3 K, gK_20_0 K, gK_20_1 K, gK_20_2 K, gK_20_3 K, gK_20_4 K, gK_20_5 K, gK_698_0 K, gK_698_3 K, gK_698_16 K, gK_698_17 K, gK_698_20 K, gK_698_21 K, gK_698_22 K, gK_698_23 K, gK_698_24 K, gK_698_25 K, gK_698_26 K, gK_698_27 K, gK_698_28 K, gK_698_29 K, gK_698_30 K, gK_698_31 K, gK_698_32 K, gK_698_33 K, gK_698_34 K, gK_698_35 K, gK_698_36 K, gK_698_37 K, gK_698_38 K, gK_698_39 K, gK_698_41 K, gK_698_42 K, gK_698_44 K, gK_c K, gK_d K, gK_n K, gK_p K, gok_8, gok_10, gok_11, gok_15, gok_20, gok_698, gok_699, goA_9, goA_12, goA_13, goA_14, goA_16, goA_17, goA_18, goA_19, goA_21, goA_22, goA_23, goA_24, goA_25, goA_26, goA_27, goA_28, goA_29, goA_30, goA_31, goA_732, goA_733, goA_734, goA_735, goA_736, goA_737, goA_738, goA_739, goA_740, goA_741, goA_742, goA_743, goA_744, goA_745, goA_746, goA_747, goA_748, goA_749, goA_750, goA_751, goA_752, goA_753, goA_754, goA_755, goA_756, goA_757, gN_wI, gR_wI, gL_wI, if_true, eq_self]
    rw [h3, h6, X.2.1, X.2.2, if_pos ((gn_lt (by omega) (by omega)).2 (by omega))]
    simp only [gK_N K, gK_8_0 K, gK_8_1 K, gK_8_2 K, gK_8_3 K, gK_8_4 K, gK_8_5 K, gK_8_6 K, gK_8_7 K, gK_8_8 K, gK_10_0 K, gK_10_1 K, gK_10_2 K, gK_11_0 K, gK_15_0 K, gK_15_1 K, gK_15_2 K, gK_15_3 K, gK_20_0 K, gK_20_1 K, gK_20_2 K, gK_20_3 K, gK_20_4 K, gK_20_5 K, gK_698_0 K, gK_698_3 K, gK_698_16 K, gK_698_17 K, gK_698_20 K, gK_698_21 K, gK_698_22 K, gK_698_23 K, gK_698_24 K, gK_698_25 K, gK_698_26 K, gK_698_27 K, gK_698_28 K, gK_698_29 K, gK_698_30 K, gK_698_31 K, gK_698_32 K, gK_698_33 K, gK_698_34 K, gK_698_35 K, gK_698_36 K, gK_698_37 K, gK_698_38 K, gK_698_39 K, gK_698_41 K, gK_698_42 K, gK_698_44 K, gK_c K, gK_d K, gK_n K, gK_p K, gok_8, gok_10, gok_11, gok_15, gok_20, gok_698, gok_699, goA_9, goA_12, goA_13, goA_14, goA_16, goA_17, goA_18, goA_19, goA_21, goA_22, goA_23, goA_24, goA_25, goA_26, goA_27, goA_28, goA_29, goA_30, goA_31, goA_732, goA_733, goA_734, goA_735, goA_736, goA_737, goA_738, goA_739, goA_740, goA_741, goA_742, goA_743, goA_744, goA_745, goA_746, goA_747, goA_748, goA_749, goA_750, goA_751, goA_752, goA_753, goA_754, goA_755, goA_756, goA_757, gN_wI, gR_wI, gL_wI, if_true, eq_self]
    rw [gn_in (by omega) (show i < 3000 by omega), if_pos rfl, gn_nat (by omega), X.1 i, gSma_i]
    cases q : gSma (t i) with
    | false =>
      have e : gWh (fun i => gSma (gSe t T i)) (j + 1) i = i := gWh_n (by show gSma (gSe t T i) = false; rw [hs, b1]; exact q)
      rw [if_neg (by decide), e]
      exact fin i m (by omega) hst h3 h6 h8
    | true =>
      have e : gWh (fun i => gSma (gSe t T i)) (j + 1) i = gWh (fun i => gSma (gSe t T i)) j (i + 1) := gWh_y (by show gSma (gSe t T i) = true; rw [hs, b1]; exact q)
      rw [if_pos rfl, e, h8, gn_succ]
      have o1 : oS m (wI (wJ m 11 8 (gC5 (fun x => gSe t T (st + x)) (i - st) <<< ((5 : Int32).toInt64 &&& 63) ||| (t i - 96).toInt64)) 11 3 (Int32.ofNat (i + 1))) := oS_w (oS_J oS_refl) (by decide)
      have e8 : gC5 (fun x => gSe t T (st + x)) (i + 1 - st) = (gC5 (fun x => gSe t T (st + x)) (i - st) <<< ((5 : Int32).toInt64 &&& 63) ||| (t i - 96).toInt64) := by
        rw [show i + 1 - st = i - st + 1 by omega]
        show _ ||| ((gSe t T (st + (i - st)) - 96 : Int32)).toInt64 = _
        rw [show st + (i - st) = i by omega, hs, b5 q]
      obtain ⟨m', a1, a2, a3, a4, a5, a6⟩ := ih (i + 1) _ (by omega) (gK_oS K o1) (xT_S X o1) gI_wI_s (by rw [gI_wI_k (by decide)]; exact h6) (by omega) (by rw [e8]; exact gJ_wJ_s)
      exact ⟨m', a1, oS_tr o1 a2, a3, a4, a5, fun q q3 q5 => (a6 q q3 q5).trans (gI_wI_k q3)⟩
theorem c_num_5 (hB : ∀ i, isB (t i)) (hT : T ≤ 3000) : ∀ j i (m : gd_M), i + j = T → gK c d n p m → xT t T m → gI m 11 3 = Int32.ofNat i → gI m 11 6 = Int32.ofNat st → st ≤ i → gI m 11 7 = gNu (fun x => gSe t T (st + x)) (i - st) → ∃ m', gd_Den (31, 5, [.ref 11], [], m) = some (.null, m') ∧ oS m m' ∧ gI m' 11 3 = Int32.ofNat (gWh (fun i => gDig (gSe t T i)) j i) ∧ gI m' 11 7 = gNu (fun x => gSe t T (st + x)) (gWh (fun i => gDig (gSe t T i)) j i - st) ∧ gI m' 11 5 = (if gWh (fun i => gDig (gSe t T i)) j i - st ≤ 3 then 2 else 4) ∧ ∀ q, q ≠ 3 → q ≠ 5 → q ≠ 7 → gI m' 11 q = gI m 11 q := by
  intro j
  have fin : ∀ i (m : gd_M), i ≤ T → st ≤ i → gI m 11 3 = Int32.ofNat i → gI m 11 6 = Int32.ofNat st → gI m 11 7 = gNu (fun x => gSe t T (st + x)) (i - st) → ∃ m', (if (3 < (Int32.ofNat i - Int32.ofNat st) : Prop) then some (Value.null, wI m 11 5 4) else some (Value.null, wI m 11 5 2)) = some (.null, m') ∧ oS m m' ∧ gI m' 11 3 = Int32.ofNat i ∧ gI m' 11 7 = gNu (fun x => gSe t T (st + x)) (i - st) ∧ gI m' 11 5 = (if i - st ≤ 3 then 2 else 4) ∧ ∀ q, q ≠ 3 → q ≠ 5 → q ≠ 7 → gI m' 11 q = gI m 11 q := fun i m h1 h2 h3 h6 h8 => by
    rw [gn_sub h2]
    by_cases h : 3 < i - st
    · rw [if_pos ((gl_3 (by omega)).2 h), if_neg (by omega)]
      exact ⟨_, rfl, oS_w oS_refl (by decide), by rw [gI_wI_k (by decide)]; exact h3, by rw [gI_wI_k (by decide)]; exact h8, gI_wI_s, fun q _ q5 _ => gI_wI_k q5⟩
    · rw [if_neg (fun q => h ((gl_3 (by omega)).1 q)), if_pos (by omega)]
      exact ⟨_, rfl, oS_w oS_refl (by decide), by rw [gI_wI_k (by decide)]; exact h3, by rw [gI_wI_k (by decide)]; exact h8, gI_wI_s, fun q _ q5 _ => gI_wI_k q5⟩
  induction j with
  | zero =>
    intro i m h K X h3 h6 hst h8
    rw [q_Sc_nextNumber_5]
    simp only [gK_N K, gK_8_0 K, gK_8_1 K, gK_8_2 K, gK_8_3 K, gK_8_4 K, gK_8_5 K, gK_8_6 K, gK_8_7 K, gK_8_8 K, gK_10_0 K, gK_10_1 K, gK_10_2 K, gK_11_0 K, gK_15_0 K, gK_15_1 K, gK_15_2 K, gK_15_3 K, gK_20_0 K, gK_20_1 K, gK_20_2 K, gK_20_3 K, gK_20_4 K, gK_20_5 K, gK_698_0 K, gK_698_3 K, gK_698_16 K, gK_698_17 K, gK_698_20 K, gK_698_21 K, gK_698_22 K, gK_698_23 K, gK_698_24 K, gK_698_25 K, gK_698_26 K, gK_698_27 K, gK_698_28 K, gK_698_29 K, gK_698_30 K, gK_698_31 K, gK_698_32 K, gK_698_33 K, gK_698_34 K, gK_698_35 K, gK_698_36 K, gK_698_37 K, gK_698_38 K, gK_698_39 K, gK_698_41 K, gK_698_42 K, gK_698_44 K, gK_c K, gK_d K, gK_n K, gK_p K, gok_8, gok_10, gok_11, gok_15, gok_20, gok_698, gok_699, goA_9, goA_12, goA_13, goA_14, goA_16, goA_17, goA_18, goA_19, goA_21, goA_22, goA_23, goA_24, goA_25, goA_26, goA_27, goA_28, goA_29, goA_30, goA_31, goA_732, goA_733, goA_734, goA_735, goA_736, goA_737, goA_738, goA_739, goA_740, goA_741, goA_742, goA_743, goA_744, goA_745, goA_746, goA_747, goA_748, goA_749, goA_750, goA_751, goA_752, goA_753, goA_754, goA_755, goA_756, goA_757, gN_wI, gR_wI, gL_wI, if_true, eq_self]
    rw [h3, h6, X.2.1, if_neg (fun q => by have := (gn_lt (by omega) (by omega)).1 q; omega)]
    exact fin i m (by omega) hst h3 h6 h8
  | succ j ih =>
    intro i m h K X h3 h6 hst h8
    obtain ⟨b1, b2, b3, b4, b5, b6, b7⟩ := isB_ok (hB i)
    have hs : gSe t T i = t i &&& 255 := gSe_i (by omega)
    have r3 : ∀ x, gI (wI m 11 7 x) 11 3 = Int32.ofNat i := fun x => (gI_wI_k (by decide)).trans h3
    rw [q_Sc_nextNumber_5]
    simp only [gK_N K, gK_8_0 K, gK_8_1 K, gK_8_2 K, gK_8_3 K, gK_8_4 K, gK_8_5 K, gK_8_6 K, gK_8_7 K, gK_8_8 K, gK_10_0 K, gK_10_1 K, gK_10_2 K, gK_11_0 K, gK_15_0 K, gK_15_1 K, gK_15_2 K, gK_15_3 K, gK_20_0 K, gK_20_1 K, gK_20_2 K, gK_20_3 K, gK_20_4 K, gK_20_5 K, gK_698_0 K, gK_698_3 K, gK_698_16 K, gK_698_17 K, gK_698_20 K, gK_698_21 K, gK_698_22 K, gK_698_23 K, gK_698_24 K, gK_698_25 K, gK_698_26 K, gK_698_27 K, gK_698_28 K, gK_698_29 K, gK_698_30 K, gK_698_31 K, gK_698_32 K, gK_698_33 K, gK_698_34 K, gK_698_35 K, gK_698_36 K, gK_698_37 K, gK_698_38 K, gK_698_39 K, gK_698_41 K, gK_698_42 K, gK_698_44 K, gK_c K, gK_d K, gK_n K, gK_p K, gok_8, gok_10, gok_11, gok_15, gok_20, gok_698, gok_699, goA_9, goA_12, goA_13, goA_14, goA_16, goA_17, goA_18, goA_19, goA_21, goA_22, goA_23, goA_24, goA_25, goA_26, goA_27, goA_28, goA_29, goA_30, goA_31, goA_732, goA_733, goA_734, goA_735, goA_736, goA_737, goA_738, goA_739, goA_740, goA_741, goA_742, goA_743, goA_744, goA_745, goA_746, goA_747, goA_748, goA_749, goA_750, goA_751, goA_752, goA_753, goA_754, goA_755, goA_756, goA_757, gN_wI, gR_wI, gL_wI, if_true, eq_self]
    rw [r3, h3, h6, X.2.1, X.2.2, if_pos ((gn_lt (by omega) (by omega)).2 (by omega))]
    simp only [gK_N K, gK_8_0 K, gK_8_1 K, gK_8_2 K, gK_8_3 K, gK_8_4 K, gK_8_5 K, gK_8_6 K, gK_8_7 K, gK_8_8 K, gK_10_0 K, gK_10_1 K, gK_10_2 K, gK_11_0 K, gK_15_0 K, gK_15_1 K, gK_15_2 K, gK_15_3 K, gK_20_0 K, gK_20_1 K, gK_20_2 K, gK_20_3 K, gK_20_4 K, gK_20_5 K, gK_698_0 K, gK_698_3 K, gK_698_16 K, gK_698_17 K, gK_698_20 K, gK_698_21 K, gK_698_22 K, gK_698_23 K, gK_698_24 K, gK_698_25 K, gK_698_26 K, gK_698_27 K, gK_698_28 K, gK_698_29 K, gK_698_30 K, gK_698_31 K, gK_698_32 K, gK_698_33 K, gK_698_34 K, gK_698_35 K, gK_698_36 K, gK_698_37 K, gK_698_38 K, gK_698_39 K, gK_698_41 K, gK_698_42 K, gK_698_44 K, gK_c K, gK_d K, gK_n K, gK_p K, gok_8, gok_10, gok_11, gok_15, gok_20, gok_698, gok_699, goA_9, goA_12, goA_13, goA_14, goA_16, goA_17, goA_18, goA_19, goA_21, goA_22, goA_23, goA_24, goA_25, goA_26, goA_27, goA_28, goA_29, goA_30, goA_31, goA_732, goA_733, goA_734, goA_735, goA_736, goA_737, goA_738, goA_739, goA_740, goA_741, goA_742, goA_743, goA_744, goA_745, goA_746, goA_747, goA_748, goA_749, goA_750, goA_751, goA_752, goA_753, goA_754, goA_755, goA_756, goA_757, gN_wI, gR_wI, gL_wI, if_true, eq_self]
    rw [gn_in (by omega) (show i < 3000 by omega), if_pos rfl, gn_nat (by omega), X.1 i, gDig_i]
    cases q : gDig (t i) with
    | false =>
      have e : gWh (fun i => gDig (gSe t T i)) (j + 1) i = i := gWh_n (by show gDig (gSe t T i) = false; rw [hs, b2]; exact q)
      rw [if_neg (by decide), e]
      exact fin i m (by omega) hst h3 h6 h8
    | true =>
      have e : gWh (fun i => gDig (gSe t T i)) (j + 1) i = gWh (fun i => gDig (gSe t T i)) j (i + 1) := gWh_y (by show gDig (gSe t T i) = true; rw [hs, b2]; exact q)
      rw [if_pos rfl, e, h8, gn_succ]
      have o1 : oS m (wI (wI m 11 7 (gNu (fun x => gSe t T (st + x)) (i - st) * 10 + (t i - 48))) 11 3 (Int32.ofNat (i + 1))) := oS_w (oS_w oS_refl (by decide)) (by decide)
      have e8 : gNu (fun x => gSe t T (st + x)) (i + 1 - st) = gNu (fun x => gSe t T (st + x)) (i - st) * 10 + (t i - 48) := by
        rw [show i + 1 - st = i - st + 1 by omega]
        show gNu (fun x => gSe t T (st + x)) (i - st) * 10 + (gSe t T (st + (i - st)) - 48) = _
        rw [show st + (i - st) = i by omega, hs, b6 q]
      obtain ⟨m', a1, a2, a3, a4, a5, a6⟩ := ih (i + 1) _ (by omega) (gK_oS K o1) (xT_S X o1) gI_wI_s (by rw [gI_wI_k (by decide), gI_wI_k (by decide)]; exact h6) (by omega) (by rw [e8, gI_wI_k (by decide)]; exact gI_wI_s)
      exact ⟨m', a1, oS_tr o1 a2, a3, a4, a5, fun q q3 q5 q7 => (a6 q q3 q5 q7).trans ((gI_wI_k q3).trans (gI_wI_k q7))⟩
/-- the class looks a word up -/
theorem c_findQ_2 {W : Int64} {Q : Nat} (hQ : ∀ w < 19, gQ w = W ↔ w = Q) : ∀ j w (m : gd_M), w + j = 19 → gK c d n p m → gI m 11 5 = 1 → gJ m 11 8 = W → gI m 11 9 = (if Q < w then Int32.ofNat Q else -1) → ∃ m', gd_Den (30, 2, [.ref 11, .int (Int32.ofNat w)], [], m) = some (.null, m') ∧ oS m m' ∧ gI m' 11 9 = (if Q < 19 then Int32.ofNat Q else -1) ∧ (∀ q, q ≠ 9 → gI m' 11 q = gI m 11 q) ∧ gJ m' 11 8 = W := by
  intro j
  induction j with
  | zero =>
    intro w m h K h5 h8 h9
    have : w = 19 := by omega
    subst this
    refine ⟨m, ?_, oS_refl, h9, fun _ _ => rfl, h8⟩
    rw [q_Sc_findQuoted_2, if_neg (show ¬ Int32.ofNat 19 < 19 by decide)]
  | succ j ih =>
    intro w m h K h5 h8 h9
    have hw : w < 19 := by omega
    rw [q_Sc_findQuoted_2, if_pos ((gnlb_19 (by omega) (by decide)).2 hw)]
    simp only [gK_N K, gK_8_0 K, gK_8_1 K, gK_8_2 K, gK_8_3 K, gK_8_4 K, gK_8_5 K, gK_8_6 K, gK_8_7 K, gK_8_8 K, gK_10_0 K, gK_10_1 K, gK_10_2 K, gK_11_0 K, gK_15_0 K, gK_15_1 K, gK_15_2 K, gK_15_3 K, gK_20_0 K, gK_20_1 K, gK_20_2 K, gK_20_3 K, gK_20_4 K, gK_20_5 K, gK_698_0 K, gK_698_3 K, gK_698_16 K, gK_698_17 K, gK_698_20 K, gK_698_21 K, gK_698_22 K, gK_698_23 K, gK_698_24 K, gK_698_25 K, gK_698_26 K, gK_698_27 K, gK_698_28 K, gK_698_29 K, gK_698_30 K, gK_698_31 K, gK_698_32 K, gK_698_33 K, gK_698_34 K, gK_698_35 K, gK_698_36 K, gK_698_37 K, gK_698_38 K, gK_698_39 K, gK_698_41 K, gK_698_42 K, gK_698_44 K, gK_c K, gK_d K, gK_n K, gK_p K, gok_8, gok_10, gok_11, gok_15, gok_20, gok_698, gok_699, goA_9, goA_12, goA_13, goA_14, goA_16, goA_17, goA_18, goA_19, goA_21, goA_22, goA_23, goA_24, goA_25, goA_26, goA_27, goA_28, goA_29, goA_30, goA_31, goA_732, goA_733, goA_734, goA_735, goA_736, goA_737, goA_738, goA_739, goA_740, goA_741, goA_742, goA_743, goA_744, goA_745, goA_746, goA_747, goA_748, goA_749, goA_750, goA_751, goA_752, goA_753, goA_754, goA_755, goA_756, goA_757, gN_wI, gR_wI, gL_wI, if_true, eq_self]
    rw [h5, if_pos rfl, gn_in (by omega) hw, if_pos rfl, gn_nat (by omega), gK_qt K w hw, h8, gn_succ]
    by_cases q : w = Q
    · rw [if_pos (lg_cmp0.2 ((hQ w hw).2 q))]
      obtain ⟨m', a1, a2, a3, a4, a5⟩ := ih (w + 1) (wI m 11 9 (Int32.ofNat w)) (by omega) K (by rw [gI_wI_k (by decide)]; exact h5) h8 (by rw [gI_wI_s, if_pos (by omega), q])
      exact ⟨m', a1, oS_tr (oS_w oS_refl (by decide)) a2, a3, fun q q9 => (a4 q q9).trans (gI_wI_k q9), a5⟩
    · rw [if_neg (fun t => q ((hQ w hw).1 (lg_cmp0.1 t)))]
      refine ih (w + 1) m (by omega) K h5 h8 ?_
      rw [h9]
      by_cases q2 : Q < w
      · rw [if_pos q2, if_pos (by omega)]
      · rw [if_neg q2, if_neg (by omega)]
theorem kSt_y {e : Nat} (he : e < T) (h : gBla (gSe t T e) = true) : kSt t T e = kSt t T (e + 1) := by
  unfold kSt
  rw [show T - e = T - (e + 1) + 1 by omega]
  exact gWh_y h
theorem kSt_n {e : Nat} (he : e < T) (h : gBla (gSe t T e) = false) : kSt t T e = e := by
  unfold kSt
  rw [show T - e = T - (e + 1) + 1 by omega]
  exact gWh_n h
theorem kSt_T : kSt t T T = T := by
  unfold kSt
  rw [Nat.sub_self]; rfl
theorem c_next (hB : ∀ i, isB (t i)) (hT : T ≤ 3000) (hk : k ≤ 1000) : ∀ j e (m : gd_M), e + j = T → gK c d n p m → xT t T m → gI m 11 3 = Int32.ofNat e → gI m 11 4 = Int32.ofNat k → ∃ m', gd_call 32 [.ref 11] m = some (.null, m') ∧ oS m m' ∧ tkX t T (kSt t T e) k m' := by
  intro j
  induction j with
  | zero =>
    intro e m h K X h3 h4
    have : e = T := by omega
    subst this
    have r3 : ∀ x y, gI (wI (wI m 11 6 x) 11 9 y) 11 3 = Int32.ofNat e := fun x y => (gI_wI_k (by decide)).trans ((gI_wI_k (by decide)).trans h3)
    have r2 : ∀ x y, gI (wI (wI m 11 6 x) 11 9 y) 11 2 = Int32.ofNat e := fun x y => (gI_wI_k (by decide)).trans ((gI_wI_k (by decide)).trans X.2.1)
    refine ⟨wI (wI (wI m 11 6 (Int32.ofNat e)) 11 9 (-1)) 11 5 0, ?_, oS_w (oS_w (oS_w oS_refl (by decide)) (by decide)) (by decide), ?_⟩
    · rw [q_Sc_next]
      simp only [gK_N K, gK_8_0 K, gK_8_1 K, gK_8_2 K, gK_8_3 K, gK_8_4 K, gK_8_5 K, gK_8_6 K, gK_8_7 K, gK_8_8 K, gK_10_0 K, gK_10_1 K, gK_10_2 K, gK_11_0 K, gK_15_0 K, gK_15_1 K, gK_15_2 K, gK_15_3 K, gK_20_0 K, gK_20_1 K, gK_20_2 K, gK_20_3 K, gK_20_4 K, gK_20_5 K, gK_698_0 K, gK_698_3 K, gK_698_16 K, gK_698_17 K, gK_698_20 K, gK_698_21 K, gK_698_22 K, gK_698_23 K, gK_698_24 K, gK_698_25 K, gK_698_26 K, gK_698_27 K, gK_698_28 K, gK_698_29 K, gK_698_30 K, gK_698_31 K, gK_698_32 K, gK_698_33 K, gK_698_34 K, gK_698_35 K, gK_698_36 K, gK_698_37 K, gK_698_38 K, gK_698_39 K, gK_698_41 K, gK_698_42 K, gK_698_44 K, gK_c K, gK_d K, gK_n K, gK_p K, gok_8, gok_10, gok_11, gok_15, gok_20, gok_698, gok_699, goA_9, goA_12, goA_13, goA_14, goA_16, goA_17, goA_18, goA_19, goA_21, goA_22, goA_23, goA_24, goA_25, goA_26, goA_27, goA_28, goA_29, goA_30, goA_31, goA_732, goA_733, goA_734, goA_735, goA_736, goA_737, goA_738, goA_739, goA_740, goA_741, goA_742, goA_743, goA_744, goA_745, goA_746, goA_747, goA_748, goA_749, goA_750, goA_751, goA_752, goA_753, goA_754, goA_755, goA_756, goA_757, gN_wI, gR_wI, gL_wI, if_true, eq_self]
      rw [r3, r2, h3, X.2.1, if_neg Int32.lt_irrefl, if_neg Int32.lt_irrefl]
    · rw [kSt_T]
      have e1 : kEn t e e = e := if_pos (Nat.le_refl e)
      have e2 : kTy t e e = 0 := if_pos (Nat.le_refl e)
      refine ⟨?_, ?_, ?_, ?_, ?_, fun q => ?_, fun q => ?_⟩
      · rw [e1, gI_wI_k (by decide), gI_wI_k (by decide), gI_wI_k (by decide)]; exact h3
      · rw [gI_wI_k (by decide), gI_wI_k (by decide)]; exact gI_wI_s
      · rw [if_pos (Nat.le_refl e), gI_wI_k (by decide), gI_wI_k (by decide), gI_wI_k (by decide)]; exact h4
      · rw [e2]; exact gI_wI_s
      · rw [e2, if_neg (by decide), gI_wI_k (by decide)]; exact gI_wI_s
      · rw [e2] at q; exact absurd q (by decide)
      · rw [e2] at q; omega
  | succ j ih =>
    intro e m h K X h3 h4
    have he : e < T := by omega
    obtain ⟨b1, b2, b3, b4, b5, b6, b7⟩ := isB_ok (hB e)
    have hs : gSe t T e = t e &&& 255 := gSe_i he
    have r3 : ∀ x y, gI (wI (wI m 11 6 x) 11 9 y) 11 3 = Int32.ofNat e := fun x y => (gI_wI_k (by decide)).trans ((gI_wI_k (by decide)).trans h3)
    have r2 : ∀ x y, gI (wI (wI m 11 6 x) 11 9 y) 11 2 = Int32.ofNat T := fun x y => (gI_wI_k (by decide)).trans ((gI_wI_k (by decide)).trans X.2.1)
    have r4 : ∀ x y, gI (wI (wI m 11 6 x) 11 9 y) 11 4 = Int32.ofNat k := fun x y => (gI_wI_k (by decide)).trans ((gI_wI_k (by decide)).trans h4)
    have s3 : ∀ x y z, gI (wI (wI (wI m 11 6 x) 11 9 y) 11 4 z) 11 3 = Int32.ofNat e := fun x y z => (gI_wI_k (by decide)).trans (r3 x y)
    have s9 : ∀ x y z i, gI (wI (wI (wI m 11 6 x) 11 9 y) 11 4 z) 9 i = t i := fun x y z i => (gI_wI_a (by decide)).trans ((gI_wI_a (by decide)).trans ((gI_wI_a (by decide)).trans (X.1 i)))
    have i1 : gd_in (Int32.ofNat e) 3000 = true := gn_in (by omega) (by omega)
    have n1 : (Int32.ofNat e).toNatClampNeg = e := gn_nat (by omega)
    have hlt : Int32.ofNat e < Int32.ofNat T := (gn_lt (by omega) (by omega)).2 he
    rw [q_Sc_next]
    simp only [gK_N K, gK_8_0 K, gK_8_1 K, gK_8_2 K, gK_8_3 K, gK_8_4 K, gK_8_5 K, gK_8_6 K, gK_8_7 K, gK_8_8 K, gK_10_0 K, gK_10_1 K, gK_10_2 K, gK_11_0 K, gK_15_0 K, gK_15_1 K, gK_15_2 K, gK_15_3 K, gK_20_0 K, gK_20_1 K, gK_20_2 K, gK_20_3 K, gK_20_4 K, gK_20_5 K, gK_698_0 K, gK_698_3 K, gK_698_16 K, gK_698_17 K, gK_698_20 K, gK_698_21 K, gK_698_22 K, gK_698_23 K, gK_698_24 K, gK_698_25 K, gK_698_26 K, gK_698_27 K, gK_698_28 K, gK_698_29 K, gK_698_30 K, gK_698_31 K, gK_698_32 K, gK_698_33 K, gK_698_34 K, gK_698_35 K, gK_698_36 K, gK_698_37 K, gK_698_38 K, gK_698_39 K, gK_698_41 K, gK_698_42 K, gK_698_44 K, gK_c K, gK_d K, gK_n K, gK_p K, gok_8, gok_10, gok_11, gok_15, gok_20, gok_698, gok_699, goA_9, goA_12, goA_13, goA_14, goA_16, goA_17, goA_18, goA_19, goA_21, goA_22, goA_23, goA_24, goA_25, goA_26, goA_27, goA_28, goA_29, goA_30, goA_31, goA_732, goA_733, goA_734, goA_735, goA_736, goA_737, goA_738, goA_739, goA_740, goA_741, goA_742, goA_743, goA_744, goA_745, goA_746, goA_747, goA_748, goA_749, goA_750, goA_751, goA_752, goA_753, goA_754, goA_755, goA_756, goA_757, gN_wI, gR_wI, gL_wI, if_true, eq_self, X.2.2, h3, X.2.1, r3, r2, r4, s3, s9, i1, n1, X.1 e, hlt, gn_succ]
    by_cases q : gBla (t e) = true
    · have hb : gBla (gSe t T e) = true := by rw [hs, b3]; exact q
      have o1 : oS m (wI m 11 3 (Int32.ofNat (e + 1))) := oS_w oS_refl (by decide)
      obtain ⟨m', a1, a2, a3⟩ := ih (e + 1) (wI m 11 3 (Int32.ofNat (e + 1))) (by omega) (gK_oS K o1) (xT_S X o1) gI_wI_s (by rw [gI_wI_k (by decide)]; exact h4)
      refine ⟨m', ?_, oS_tr o1 a2, by rw [kSt_y he hb]; exact a3⟩
      by_cases q1 : t e = 32
      · rw [if_pos q1, d32]; exact a1
      · have q2 : t e = 10 := by
          unfold gBla at q
          rw [decide_eq_false q1, Bool.false_or] at q
          exact of_decide_eq_true q
        rw [if_neg q1, if_pos q2, d32]; exact a1
    · have hb : gBla (gSe t T e) = false := by rw [hs, b3]; exact Bool.not_eq_true _ ▸ q
      have q1 : ¬ t e = 32 := fun u => q (by unfold gBla; rw [decide_eq_true u]; rfl)
      have q2 : ¬ t e = 10 := fun u => q (by unfold gBla; rw [decide_eq_true u, Bool.or_true])
      rw [kSt_n he hb, if_neg q1, if_neg q2, gSma_i]
      have o1 : oS m (wI (wI (wI m 11 6 (Int32.ofNat e)) 11 9 (-1)) 11 4 (Int32.ofNat (k + 1))) := oS_w (oS_w (oS_w oS_refl (by decide)) (by decide)) (by decide)
      have K1 := gK_oS K o1
      have X1 := xT_S X o1
      have z3 := s3 (Int32.ofNat e) (-1) (Int32.ofNat (k + 1))
      have z6 : gI (wI (wI (wI m 11 6 (Int32.ofNat e)) 11 9 (-1)) 11 4 (Int32.ofNat (k + 1))) 11 6 = Int32.ofNat e := by rw [gI_wI_k (by decide), gI_wI_k (by decide)]; exact gI_wI_s
      have z9 : gI (wI (wI (wI m 11 6 (Int32.ofNat e)) 11 9 (-1)) 11 4 (Int32.ofNat (k + 1))) 11 9 = -1 := by rw [gI_wI_k (by decide)]; exact gI_wI_s
      have z4 : gI (wI (wI (wI m 11 6 (Int32.ofNat e)) 11 9 (-1)) 11 4 (Int32.ofNat (k + 1))) 11 4 = Int32.ofNat (k + 1) := gI_wI_s
      generalize wI (wI (wI m 11 6 (Int32.ofNat e)) 11 9 (-1)) 11 4 (Int32.ofNat (k + 1)) = mz at *
      have hTs : ¬ T ≤ e := by omega
      cases qs : gSma (t e) with
      | true =>
        have hsm : gSma (gSe t T e) = true := by rw [hs, b1]; exact qs
        have eE : kEn t T e = gWh (fun i => gSma (gSe t T i)) (T - e) e := by unfold kEn; rw [if_neg hTs, if_pos hsm]
        have oz : oS mz (wJ mz 11 8 0) := oS_J oS_refl
        obtain ⟨m2, a1, a2, a3, a4, a5, a6⟩ := c_word_5 (c := c) (d := d) (n := n) (p := p) (st := e) hB hT (T - e) e (wJ mz 11 8 0) (by omega) (gK_oS K1 oz) (xT_S X1 oz) z3 z6 (Nat.le_refl e) (by rw [gJ_wJ_s, Nat.sub_self]; rfl)
        have o2 := oS_tr oz a2
        have K2 := gK_oS K1 o2
        have hln : gWh (fun i => gSma (gSe t T i)) (T - e) e - e = kLn t T e := by unfold kLn; rw [eE]
        rw [← eE] at a3
        rw [hln] at a4 a5
        have hlt2 := kL_lt hTs hsm
        rw [if_pos rfl, q_Sc_nextWord]
        simp only [gK_N K1, gK_8_0 K1, gK_8_1 K1, gK_8_2 K1, gK_8_3 K1, gK_8_4 K1, gK_8_5 K1, gK_8_6 K1, gK_8_7 K1, gK_8_8 K1, gK_10_0 K1, gK_10_1 K1, gK_10_2 K1, gK_11_0 K1, gK_15_0 K1, gK_15_1 K1, gK_15_2 K1, gK_15_3 K1, gK_20_0 K1, gK_20_1 K1, gK_20_2 K1, gK_20_3 K1, gK_20_4 K1, gK_20_5 K1, gK_698_0 K1, gK_698_3 K1, gK_698_16 K1, gK_698_17 K1, gK_698_20 K1, gK_698_21 K1, gK_698_22 K1, gK_698_23 K1, gK_698_24 K1, gK_698_25 K1, gK_698_26 K1, gK_698_27 K1, gK_698_28 K1, gK_698_29 K1, gK_698_30 K1, gK_698_31 K1, gK_698_32 K1, gK_698_33 K1, gK_698_34 K1, gK_698_35 K1, gK_698_36 K1, gK_698_37 K1, gK_698_38 K1, gK_698_39 K1, gK_698_41 K1, gK_698_42 K1, gK_698_44 K1, gK_c K1, gK_d K1, gK_n K1, gK_p K1, gok_8, gok_10, gok_11, gok_15, gok_20, gok_698, gok_699, goA_9, goA_12, goA_13, goA_14, goA_16, goA_17, goA_18, goA_19, goA_21, goA_22, goA_23, goA_24, goA_25, goA_26, goA_27, goA_28, goA_29, goA_30, goA_31, goA_732, goA_733, goA_734, goA_735, goA_736, goA_737, goA_738, goA_739, goA_740, goA_741, goA_742, goA_743, goA_744, goA_745, goA_746, goA_747, goA_748, goA_749, goA_750, goA_751, goA_752, goA_753, goA_754, goA_755, goA_756, goA_757, gN_wI, gR_wI, gL_wI, if_true, eq_self]
        rw [a1]
        simp only [gK_N K2, gK_8_0 K2, gK_8_1 K2, gK_8_2 K2, gK_8_3 K2, gK_8_4 K2, gK_8_5 K2, gK_8_6 K2, gK_8_7 K2, gK_8_8 K2, gK_10_0 K2, gK_10_1 K2, gK_10_2 K2, gK_11_0 K2, gK_15_0 K2, gK_15_1 K2, gK_15_2 K2, gK_15_3 K2, gK_20_0 K2, gK_20_1 K2, gK_20_2 K2, gK_20_3 K2, gK_20_4 K2, gK_20_5 K2, gK_698_0 K2, gK_698_3 K2, gK_698_16 K2, gK_698_17 K2, gK_698_20 K2, gK_698_21 K2, gK_698_22 K2, gK_698_23 K2, gK_698_24 K2, gK_698_25 K2, gK_698_26 K2, gK_698_27 K2, gK_698_28 K2, gK_698_29 K2, gK_698_30 K2, gK_698_31 K2, gK_698_32 K2, gK_698_33 K2, gK_698_34 K2, gK_698_35 K2, gK_698_36 K2, gK_698_37 K2, gK_698_38 K2, gK_698_39 K2, gK_698_41 K2, gK_698_42 K2, gK_698_44 K2, gK_c K2, gK_d K2, gK_n K2, gK_p K2, gok_8, gok_10, gok_11, gok_15, gok_20, gok_698, gok_699, goA_9, goA_12, goA_13, goA_14, goA_16, goA_17, goA_18, goA_19, goA_21, goA_22, goA_23, goA_24, goA_25, goA_26, goA_27, goA_28, goA_29, goA_30, goA_31, goA_732, goA_733, goA_734, goA_735, goA_736, goA_737, goA_738, goA_739, goA_740, goA_741, goA_742, goA_743, goA_744, goA_745, goA_746, goA_747, goA_748, goA_749, goA_750, goA_751, goA_752, goA_753, goA_754, goA_755, goA_756, goA_757, gN_wI, gR_wI, gL_wI, if_true, eq_self, Option.bind_some, gd_kV_v]
        rw [q_Sc_findQuoted]
        by_cases h10 : kLn t T e ≤ 10
        · rw [if_pos h10] at a5
          obtain ⟨m3, f1, f2, f3, f4, f5⟩ := c_findQ_2 (c := c) (d := d) (n := n) (p := p) (W := gC5 (kL t T e) (kLn t T e)) (Q := kWd t T e) (fun w hw => kKey_q hlt2 h10 hw) 19 0 m2 (by omega) K2 a5 a4 (by rw [if_neg (Nat.not_lt_zero _), a6 9 (by decide) (by decide)]; exact z9)
          rw [gn_0] at f1
          refine ⟨m3, ?_, oS_tr o1 (oS_tr o2 f2), ?_, ?_, ?_, ?_, ?_, fun u => ?_, fun _ => f5⟩
          · rw [f1]; rfl
          · rw [f4 3 (by decide)]; exact a3
          · rw [f4 6 (by decide), a6 6 (by decide) (by decide)]; exact z6
          · rw [if_neg hTs, f4 4 (by decide), a6 4 (by decide) (by decide)]; exact z4
          · rw [f4 5 (by decide), a5]
            unfold kTy
            rw [if_neg hTs, if_pos hsm]
            by_cases hw : kWd t T e < 19
            · rw [if_pos hw]; rfl
            · rw [if_neg hw, if_pos h10]; rfl
          · rw [f3]
            unfold kTy
            rw [if_neg hTs, if_pos hsm]
            by_cases hw : kWd t T e < 19
            · rw [if_pos hw, if_pos hw, if_pos rfl]
            · rw [if_neg hw, if_neg hw, if_pos h10, if_neg (by decide)]
          · unfold kTy at u
            rw [if_neg hTs, if_pos hsm] at u
            by_cases hw : kWd t T e < 19
            · rw [if_pos hw] at u; omega
            · rw [if_neg hw, if_pos h10] at u; omega
        · rw [if_neg h10] at a5
          have h19 : ¬ kWd t T e < 19 := by unfold kWd; rw [kKey_10 (by omega)]; omega
          have eT : kTy t T e = 5 := by unfold kTy; rw [if_neg hTs, if_pos hsm, if_neg h19, if_neg h10]
          refine ⟨m2, ?_, oS_tr o1 o2, a3, ?_, ?_, ?_, ?_, fun u => ?_, fun u => ?_⟩
          · rw [q_Sc_findQuoted_2, if_pos (by decide)]
            simp only [gK_N K2, gK_8_0 K2, gK_8_1 K2, gK_8_2 K2, gK_8_3 K2, gK_8_4 K2, gK_8_5 K2, gK_8_6 K2, gK_8_7 K2, gK_8_8 K2, gK_10_0 K2, gK_10_1 K2, gK_10_2 K2, gK_11_0 K2, gK_15_0 K2, gK_15_1 K2, gK_15_2 K2, gK_15_3 K2, gK_20_0 K2, gK_20_1 K2, gK_20_2 K2, gK_20_3 K2, gK_20_4 K2, gK_20_5 K2, gK_698_0 K2, gK_698_3 K2, gK_698_16 K2, gK_698_17 K2, gK_698_20 K2, gK_698_21 K2, gK_698_22 K2, gK_698_23 K2, gK_698_24 K2, gK_698_25 K2, gK_698_26 K2, gK_698_27 K2, gK_698_28 K2, gK_698_29 K2, gK_698_30 K2, gK_698_31 K2, gK_698_32 K2, gK_698_33 K2, gK_698_34 K2, gK_698_35 K2, gK_698_36 K2, gK_698_37 K2, gK_698_38 K2, gK_698_39 K2, gK_698_41 K2, gK_698_42 K2, gK_698_44 K2, gK_c K2, gK_d K2, gK_n K2, gK_p K2, gok_8, gok_10, gok_11, gok_15, gok_20, gok_698, gok_699, goA_9, goA_12, goA_13, goA_14, goA_16, goA_17, goA_18, goA_19, goA_21, goA_22, goA_23, goA_24, goA_25, goA_26, goA_27, goA_28, goA_29, goA_30, goA_31, goA_732, goA_733, goA_734, goA_735, goA_736, goA_737, goA_738, goA_739, goA_740, goA_741, goA_742, goA_743, goA_744, goA_745, goA_746, goA_747, goA_748, goA_749, goA_750, goA_751, goA_752, goA_753, goA_754, goA_755, goA_756, goA_757, gN_wI, gR_wI, gL_wI, if_true, eq_self]
            rw [a5, if_neg (by decide)]; rfl
          · rw [a6 6 (by decide) (by decide)]; exact z6
          · rw [if_neg hTs, a6 4 (by decide) (by decide)]; exact z4
          · rw [a5, eT]; rfl
          · rw [eT, if_neg (by decide), a6 9 (by decide) (by decide)]; exact z9
          · rw [eT] at u; omega
          · rw [eT] at u; omega
      | false =>
        have hsm : ¬ gSma (gSe t T e) = true := by rw [hs, b1, qs]; decide
        rw [if_neg (by decide), q_Sc_next_131]
        simp only [gK_N K1, gK_8_0 K1, gK_8_1 K1, gK_8_2 K1, gK_8_3 K1, gK_8_4 K1, gK_8_5 K1, gK_8_6 K1, gK_8_7 K1, gK_8_8 K1, gK_10_0 K1, gK_10_1 K1, gK_10_2 K1, gK_11_0 K1, gK_15_0 K1, gK_15_1 K1, gK_15_2 K1, gK_15_3 K1, gK_20_0 K1, gK_20_1 K1, gK_20_2 K1, gK_20_3 K1, gK_20_4 K1, gK_20_5 K1, gK_698_0 K1, gK_698_3 K1, gK_698_16 K1, gK_698_17 K1, gK_698_20 K1, gK_698_21 K1, gK_698_22 K1, gK_698_23 K1, gK_698_24 K1, gK_698_25 K1, gK_698_26 K1, gK_698_27 K1, gK_698_28 K1, gK_698_29 K1, gK_698_30 K1, gK_698_31 K1, gK_698_32 K1, gK_698_33 K1, gK_698_34 K1, gK_698_35 K1, gK_698_36 K1, gK_698_37 K1, gK_698_38 K1, gK_698_39 K1, gK_698_41 K1, gK_698_42 K1, gK_698_44 K1, gK_c K1, gK_d K1, gK_n K1, gK_p K1, gok_8, gok_10, gok_11, gok_15, gok_20, gok_698, gok_699, goA_9, goA_12, goA_13, goA_14, goA_16, goA_17, goA_18, goA_19, goA_21, goA_22, goA_23, goA_24, goA_25, goA_26, goA_27, goA_28, goA_29, goA_30, goA_31, goA_732, goA_733, goA_734, goA_735, goA_736, goA_737, goA_738, goA_739, goA_740, goA_741, goA_742, goA_743, goA_744, goA_745, goA_746, goA_747, goA_748, goA_749, goA_750, goA_751, goA_752, goA_753, goA_754, goA_755, goA_756, goA_757, gN_wI, gR_wI, gL_wI, if_true, eq_self, X1.2.2]
        rw [z3, gn_in (by omega) (show e < 3000 by omega), if_pos rfl, gn_nat (by omega), X1.1 e, gDig_i]
        cases qd : gDig (t e) with
        | true =>
          have hdg : gDig (gSe t T e) = true := by rw [hs, b2]; exact qd
          have eE : kEn t T e = gWh (fun i => gDig (gSe t T i)) (T - e) e := by unfold kEn; rw [if_neg hTs, if_neg hsm, if_pos hdg]
          have oz : oS mz (wI mz 11 7 0) := oS_w oS_refl (by decide)
          obtain ⟨m2, a1, a2, a3, a4, a5, a6⟩ := c_num_5 (c := c) (d := d) (n := n) (p := p) (st := e) hB hT (T - e) e (wI mz 11 7 0) (by omega) (gK_oS K1 oz) (xT_S X1 oz) (by rw [gI_wI_k (by decide)]; exact z3) (by rw [gI_wI_k (by decide)]; exact z6) (Nat.le_refl e) (by rw [gI_wI_s, Nat.sub_self]; rfl)
          have hln : gWh (fun i => gDig (gSe t T i)) (T - e) e - e = kLn t T e := by unfold kLn; rw [eE]
          rw [← eE] at a3
          rw [hln] at a4 a5
          have eT : kTy t T e = if kLn t T e ≤ 3 then 3 else 5 := by unfold kTy; rw [if_neg hTs, if_neg hsm, if_pos hdg]
          have ne2 : ¬ kTy t T e = 2 := by
            rw [eT]
            by_cases h3 : kLn t T e ≤ 3
            · rw [if_pos h3]; decide
            · rw [if_neg h3]; decide
          refine ⟨m2, ?_, oS_tr o1 (oS_tr oz a2), a3, ?_, ?_, ?_, ?_, fun _ => a4, fun u => ?_⟩
          · rw [if_pos rfl, q_Sc_nextNumber]
            simp only [gK_N K1, gK_8_0 K1, gK_8_1 K1, gK_8_2 K1, gK_8_3 K1, gK_8_4 K1, gK_8_5 K1, gK_8_6 K1, gK_8_7 K1, gK_8_8 K1, gK_10_0 K1, gK_10_1 K1, gK_10_2 K1, gK_11_0 K1, gK_15_0 K1, gK_15_1 K1, gK_15_2 K1, gK_15_3 K1, gK_20_0 K1, gK_20_1 K1, gK_20_2 K1, gK_20_3 K1, gK_20_4 K1, gK_20_5 K1, gK_698_0 K1, gK_698_3 K1, gK_698_16 K1, gK_698_17 K1, gK_698_20 K1, gK_698_21 K1, gK_698_22 K1, gK_698_23 K1, gK_698_24 K1, gK_698_25 K1, gK_698_26 K1, gK_698_27 K1, gK_698_28 K1, gK_698_29 K1, gK_698_30 K1, gK_698_31 K1, gK_698_32 K1, gK_698_33 K1, gK_698_34 K1, gK_698_35 K1, gK_698_36 K1, gK_698_37 K1, gK_698_38 K1, gK_698_39 K1, gK_698_41 K1, gK_698_42 K1, gK_698_44 K1, gK_c K1, gK_d K1, gK_n K1, gK_p K1, gok_8, gok_10, gok_11, gok_15, gok_20, gok_698, gok_699, goA_9, goA_12, goA_13, goA_14, goA_16, goA_17, goA_18, goA_19, goA_21, goA_22, goA_23, goA_24, goA_25, goA_26, goA_27, goA_28, goA_29, goA_30, goA_31, goA_732, goA_733, goA_734, goA_735, goA_736, goA_737, goA_738, goA_739, goA_740, goA_741, goA_742, goA_743, goA_744, goA_745, goA_746, goA_747, goA_748, goA_749, goA_750, goA_751, goA_752, goA_753, goA_754, goA_755, goA_756, goA_757, gN_wI, gR_wI, gL_wI, if_true, eq_self]
            rw [a1]
            rfl
          · rw [a6 6 (by decide) (by decide) (by decide), gI_wI_k (by decide)]; exact z6
          · rw [if_neg hTs, a6 4 (by decide) (by decide) (by decide), gI_wI_k (by decide)]; exact z4
          · rw [a5, eT]
            by_cases h3 : kLn t T e ≤ 3
            · rw [if_pos h3, if_pos h3]; rfl
            · rw [if_neg h3, if_neg h3]; rfl
          · rw [if_neg ne2, a6 9 (by decide) (by decide) (by decide), gI_wI_k (by decide)]; exact z9
          · exfalso
            rw [eT] at u
            by_cases h3 : kLn t T e ≤ 3
            · rw [if_pos h3] at u; omega
            · rw [if_neg h3] at u; omega
        | false =>
          have hdg : ¬ gDig (gSe t T e) = true := by rw [hs, b2, qd]; decide
          have eE : kEn t T e = e + 1 := by unfold kEn; rw [if_neg hTs, if_neg hsm, if_neg hdg]
          rw [if_neg (by decide)]
          by_cases h59 : t e = 59
          · have eT : kTy t T e = 4 := by unfold kTy; rw [if_neg hTs, if_neg hsm, if_neg hdg, if_pos (by rw [hs]; exact b4.2 h59)]
            rw [if_pos h59]
            refine ⟨_, rfl, oS_tr o1 (oS_w (oS_w oS_refl (by decide)) (by decide)), ?_, ?_, ?_, ?_, ?_, fun u => ?_, fun u => ?_⟩
            · rw [gI_wI_s, gI_wI_k (by decide), z3, gn_succ, eE]
            · rw [gI_wI_k (by decide), gI_wI_k (by decide)]; exact z6
            · rw [if_neg hTs, gI_wI_k (by decide), gI_wI_k (by decide)]; exact z4
            · rw [gI_wI_k (by decide), gI_wI_s, eT]; rfl
            · rw [eT, if_neg (by decide), gI_wI_k (by decide), gI_wI_k (by decide)]; exact z9
            · rw [eT] at u; omega
            · rw [eT] at u; omega
          · have eT : kTy t T e = 5 := by unfold kTy; rw [if_neg hTs, if_neg hsm, if_neg hdg, if_neg (by rw [hs]; exact fun u => h59 (b4.1 u))]
            rw [if_neg h59]
            refine ⟨_, rfl, oS_tr o1 (oS_w (oS_w oS_refl (by decide)) (by decide)), ?_, ?_, ?_, ?_, ?_, fun u => ?_, fun u => ?_⟩
            · rw [gI_wI_s, gI_wI_k (by decide), z3, gn_succ, eE]
            · rw [gI_wI_k (by decide), gI_wI_k (by decide)]; exact z6
            · rw [if_neg hTs, gI_wI_k (by decide), gI_wI_k (by decide)]; exact z4
            · rw [gI_wI_k (by decide), gI_wI_s, eT]; rfl
            · rw [eT, if_neg (by decide), gI_wI_k (by decide), gI_wI_k (by decide)]; exact z9
            · rw [eT] at u; omega
            · rw [eT] at u; omega
end P91
