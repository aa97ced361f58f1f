/-! ===== the reference tries all sets ===== -/
def tb (s : Nat) : Nat → Bool := fun i => s.testBit i
/-- counts of groups stand in inGroup -/
def gG (A : gd_C) (e : Nat → Int32) (f : Nat → Bool) (i : Nat) (m : gd_M) : Prop := ∀ g < 5, gI m 750 g = Int32.ofNat (bCnt (eGr A e) f g i)
theorem bNum_le {f : Nat → Bool} : ∀ k, bNum f k ≤ k := by
  intro k
  induction k with
  | zero => exact Nat.le_refl 0
  | succ k ih =>
    show bNum f k + _ ≤ k + 1
    cases f k
    · rw [if_neg (by decide)]; omega
    · rw [if_pos rfl]; omega
theorem bCnt_le {gr : Nat → Nat} {f : Nat → Bool} {g : Nat} : ∀ k, bCnt gr f g k ≤ k := by
  intro k
  induction k with
  | zero => exact Nat.le_refl 0
  | succ k ih =>
    show bCnt gr f g k + _ ≤ k + 1
    by_cases h : f k = true ∧ gr k = g
    · rw [if_pos h]; omega
    · rw [if_neg h]; omega
theorem gG_s {A : gd_C} {e : Nat → Int32} {f : Nat → Bool} {i : Nat} {m : gd_M} (h : gG A e f i m) (hf : f i = true) : gG A e f (i + 1) (wI m 750 (eGr A e i) (Int32.ofNat (bCnt (eGr A e) f (eGr A e i) i + 1))) := by
  intro g hg
  rw [gI_wI_m]
  show _ = Int32.ofNat (bCnt (eGr A e) f g i + _)
  by_cases q : g = eGr A e i
  · rw [if_pos q, if_pos ⟨hf, q.symm⟩, q]
  · rw [if_neg q, if_neg (fun t => q t.2.symm)]; exact h g hg
theorem gG_n {A : gd_C} {e : Nat → Int32} {f : Nat → Bool} {i : Nat} {m : gd_M} (h : gG A e f i m) (hf : f i = false) : gG A e f (i + 1) m := by
  intro g hg
  show _ = Int32.ofNat (bCnt (eGr A e) f g i + _)
  rw [hf, if_neg (fun t => absurd t.1 (by decide))]; exact h g hg
section P68
variable {c d n p : Nat} {m : gd_M} {A : gd_C} {r l : Nat} {e : Nat → Int32}
theorem c_isLawful_5 {x1 x2 : Int32} : ∀ j i (m : gd_M), i + j = 5 → gK c d n p m → gd_Den (139, 5, [.ref 698, .int x1, .int x2, .int 0, .int (Int32.ofNat i), .null], [], m) = gd_Den (139, 28, [.ref 698, .int x1, .int x2, .int 0, .int 0, .null], [], wFl m 750 i 0 j) := by
  intro j
  induction j with
  | zero =>
    intro i m h K
    have : i = 5 := by omega
    subst this
    rw [q_Mo_isLawful_5]; rfl
  | succ j ih =>
    intro i m h K
    rw [q_Mo_isLawful_5]
    simp only [gK_N K, gK_8_0 K, gK_8_1 K, gK_8_2 K, gK_8_3 K, gK_8_4 K, gK_8_5 K, gK_8_6 K, gK_8_7 K, gK_8_8 K, gK_10_0 K, gK_10_1 K, gK_10_2 K, gK_11_0 K, gK_15_0 K, gK_15_1 K, gK_15_2 K, gK_15_3 K, gK_20_0 K, gK_20_1 K, gK_20_2 K, gK_20_3 K, gK_20_4 K, gK_20_5 K, gK_698_0 K, gK_698_3 K, gK_698_16 K, gK_698_17 K, gK_698_20 K, gK_698_21 K, gK_698_22 K, gK_698_23 K, gK_698_24 K, gK_698_25 K, gK_698_26 K, gK_698_27 K, gK_698_28 K, gK_698_29 K, gK_698_30 K, gK_698_31 K, gK_698_32 K, gK_698_33 K, gK_698_34 K, gK_698_35 K, gK_698_36 K, gK_698_37 K, gK_698_38 K, gK_698_39 K, gK_698_41 K, gK_698_42 K, gK_698_44 K, gK_c K, gK_d K, gK_n K, gK_p K, gok_8, gok_10, gok_11, gok_15, gok_20, gok_698, gok_699, goA_9, goA_12, goA_13, goA_14, goA_16, goA_17, goA_18, goA_19, goA_21, goA_22, goA_23, goA_24, goA_25, goA_26, goA_27, goA_28, goA_29, goA_30, goA_31, goA_732, goA_733, goA_734, goA_735, goA_736, goA_737, goA_738, goA_739, goA_740, goA_741, goA_742, goA_743, goA_744, goA_745, goA_746, goA_747, goA_748, goA_749, goA_750, goA_751, goA_752, goA_753, goA_754, goA_755, goA_756, goA_757, gN_wI, gR_wI, gL_wI, if_true, eq_self, gn_succ]
    rw [if_pos ((gnlb_5 (by omega) (by decide)).2 (by omega)), gn_in (by omega) (by omega), if_pos rfl, gn_nat (by omega)]
    exact ih (i + 1) _ (by omega) K
theorem c_isLawful_110 (K : gK c d n p m) (Id : iCd A) (hl : l ≤ 16) (St : rSt A n r l e m) {f : Nat → Bool} (G : gG A e f l m) {x1 x2 x3 : Int32} : ∀ j g x4, g + j = 5 → (x4 = 0 ∨ x4 = 1) → ∃ z, gd_Den (139, 110, [.ref 698, .int x1, .int x2, .int x3, .int x4, .int (Int32.ofNat g)], [], m) = some (.int z, m) ∧ (z ≠ 0 ↔ x4 ≠ 0 ∧ ∀ h, g ≤ h → h < 5 → A 15 h = -1 ∨ bCnt (eGr A e) f h l ≤ gn (A 15 h)) := by
  intro j
  induction j with
  | zero =>
    intro g x4 h hx
    have : g = 5 := by omega
    subst this
    refine ⟨x4, ?_, ⟨fun t => ⟨t, fun h h1 h2 => by omega⟩, fun t => t.1⟩⟩
    rw [q_Mo_isLawful_110, if_neg (by decide)]
    rcases hx with rfl | rfl
    · rfl
    · rfl
  | succ j ih =>
    intro g x4 h hx
    rw [q_Mo_isLawful_110, if_pos ((gnlb_5 (by omega) (by decide)).2 (by omega)), gn_succ]
    have hcl := bCnt_le (gr := eGr A e) (f := f) (g := g) l
    have hall : ∀ P : Prop, (P ↔ (A 15 g = -1 ∨ bCnt (eGr A e) f g l ≤ gn (A 15 g))) → ((P ∧ ∀ h, g + 1 ≤ h → h < 5 → A 15 h = -1 ∨ bCnt (eGr A e) f h l ≤ gn (A 15 h)) ↔ ∀ h, g ≤ h → h < 5 → A 15 h = -1 ∨ bCnt (eGr A e) f h l ≤ gn (A 15 h)) := fun P hP => by
      constructor
      · intro t h h1 h2
        by_cases q : h = g
        · rw [q]; exact hP.1 t.1
        · exact t.2 h (by omega) h2
      · intro t
        exact ⟨hP.2 (t g (Nat.le_refl g) (by omega)), fun h h1 h2 => t h (by omega) h2⟩
    rcases hx with rfl | rfl
    · rw [if_pos rfl]
      obtain ⟨z, z1, z2⟩ := ih (g + 1) 0 (by omega) (.inl rfl)
      exact ⟨z, z1, ⟨fun t => absurd rfl (z2.1 t).1, fun t => absurd rfl t.1⟩⟩
    · rw [if_neg (by decide)]
      simp only [gK_N K, gK_8_0 K, gK_8_1 K, gK_8_2 K, gK_8_3 K, gK_8_4 K, gK_8_5 K, gK_8_6 K, gK_8_7 K, gK_8_8 K, gK_10_0 K, gK_10_1 K, gK_10_2 K, gK_11_0 K, gK_15_0 K, gK_15_1 K, gK_15_2 K, gK_15_3 K, gK_20_0 K, gK_20_1 K, gK_20_2 K, gK_20_3 K, gK_20_4 K, gK_20_5 K, gK_698_0 K, gK_698_3 K, gK_698_16 K, gK_698_17 K, gK_698_20 K, gK_698_21 K, gK_698_22 K, gK_698_23 K, gK_698_24 K, gK_698_25 K, gK_698_26 K, gK_698_27 K, gK_698_28 K, gK_698_29 K, gK_698_30 K, gK_698_31 K, gK_698_32 K, gK_698_33 K, gK_698_34 K, gK_698_35 K, gK_698_36 K, gK_698_37 K, gK_698_38 K, gK_698_39 K, gK_698_41 K, gK_698_42 K, gK_698_44 K, gK_c K, gK_d K, gK_n K, gK_p K, gok_8, gok_10, gok_11, gok_15, gok_20, gok_698, gok_699, goA_9, goA_12, goA_13, goA_14, goA_16, goA_17, goA_18, goA_19, goA_21, goA_22, goA_23, goA_24, goA_25, goA_26, goA_27, goA_28, goA_29, goA_30, goA_31, goA_732, goA_733, goA_734, goA_735, goA_736, goA_737, goA_738, goA_739, goA_740, goA_741, goA_742, goA_743, goA_744, goA_745, goA_746, goA_747, goA_748, goA_749, goA_750, goA_751, goA_752, goA_753, goA_754, goA_755, goA_756, goA_757, gN_wI, gR_wI, gL_wI, if_true, eq_self, gok_c K, gok_d K, gok_n K, gok_p K, gK_c_0 K, gK_c_1 K, gK_c_2 K, gK_c_3 K, gK_c_4 K, gK_c_5 K, gK_c_6 K, gK_c_7 K, gK_c_8 K, gK_c_9 K, gK_c_10 K, gK_c_11 K, gK_n_3 K, gK_n_4 K, gK_n_5 K, gK_n_6 K, gK_n_7 K, gK_n_8 K, gK_n_9 K, gK_n_10 K, gK_n_11 K, gK_n_12 K, gK_n_13 K, gK_n_14 K, gK_n_15 K, gK_n_16 K, gK_n_17 K, goA_c1 K, goA_c2 K, goA_c3 K, goA_c4 K, goA_c5 K, goA_c6 K, goA_c7 K, goA_c8 K, goA_c9 K, goA_c10 K, goA_c11 K, goA_c12 K, goA_n1 K, goA_n2 K, goA_n3 K, goA_n4 K, goA_n5 K, goA_n6 K, goA_n7 K, goA_n8 K, goA_n9 K, goA_n10 K, goA_n11 K, goA_n12 K, goA_n13 K, goA_n14 K, goA_n15 K]
      rw [gn_in (by omega) (show g < 5 by omega), if_pos rfl, if_pos rfl, gn_nat (by omega), St.2.2.2 15 (by decide) (by decide), G g (by omega)]
      by_cases h1 : A 15 g = -1
      · rw [if_pos h1]
        obtain ⟨z, z1, z2⟩ := ih (g + 1) 1 (by omega) (.inr rfl)
        refine ⟨z, z1, z2.trans ⟨fun t => ⟨t.1, (hall True ⟨fun _ => .inl h1, fun _ => trivial⟩).1 ⟨trivial, t.2⟩⟩, fun t => ⟨t.1, ((hall True ⟨fun _ => .inl h1, fun _ => trivial⟩).2 t.2).2⟩⟩⟩
      · rw [if_neg h1]
        obtain ⟨L, -, hL, hLe⟩ := (iCd_lim Id g (by omega)).resolve_left h1
        have hgL : gn (A 15 g) = L := by rw [hLe, gn_of (by omega)]
        rw [hLe]
        by_cases h2 : L < bCnt (eGr A e) f g l
        · rw [if_pos ((gn_lt (by omega) (by omega)).2 h2)]
          obtain ⟨z, z1, z2⟩ := ih (g + 1) 0 (by omega) (.inl rfl)
          refine ⟨z, z1, ⟨fun t => absurd rfl (z2.1 t).1, fun t => ?_⟩⟩
          rcases t.2 g (Nat.le_refl g) (by omega) with q | q
          · exact absurd q h1
          · omega
        · rw [if_neg (fun t => h2 ((gn_lt (by omega) (by omega)).1 t))]
          obtain ⟨z, z1, z2⟩ := ih (g + 1) 1 (by omega) (.inr rfl)
          have hT : A 15 g = -1 ∨ bCnt (eGr A e) f g l ≤ gn (A 15 g) := .inr (by omega)
          refine ⟨z, z1, z2.trans ⟨fun t => ⟨t.1, (hall True ⟨fun _ => hT, fun _ => trivial⟩).1 ⟨trivial, t.2⟩⟩, fun t => ⟨t.1, ((hall True ⟨fun _ => hT, fun _ => trivial⟩).2 t.2).2⟩⟩⟩
theorem c_isLawful_28 (hr : r < 160) (Id : iCd A) (hE : eOk A e l) {s : Nat} (hs : s < 65536) (hf : ∀ i, tb s i = true → eMay A e l i = true) : ∀ j i (m : gd_M), i + j = l → gK c d n p m → rSt A n r l e m → gG A e (tb s) i m → ∃ m' z, gd_Den (139, 28, [.ref 698, .int (Int32.ofNat r), .int (Int32.ofNat s), .int (Int32.ofNat (bNum (tb s) i)), .int (Int32.ofNat i), .null], [], m) = some (.int z, m') ∧ oG m m' ∧ (z ≠ 0 ↔ bNum (tb s) l ≤ gn (A 0 18) ∧ ∀ g < 5, A 15 g = -1 ∨ bCnt (eGr A e) (tb s) g l ≤ gn (A 15 g)) := by
  have h16 := hE.1
  have hCl := bC_le (e := e) l
  obtain ⟨N, -, hN, hNe⟩ := iCd_pts Id
  have hgN : gn (A 0 0) = N := by rw [hNe, gn_of (by omega)]
  obtain ⟨cn, -, hcn, hcne⟩ := iCd_cnt Id
  have h18 : gn (A 0 18) = cn := by rw [hcne, gn_of (by omega)]
  intro j
  induction j with
  | zero =>
    intro i m h K St G
    have : i = l := by omega
    subst this
    have hnl := bNum_le (f := tb s) i
    have hgc : gn (Int32.ofNat cn) = cn := gn_of (by omega)
    rw [q_Mo_isLawful_28]
    simp only [gK_N K, gK_8_0 K, gK_8_1 K, gK_8_2 K, gK_8_3 K, gK_8_4 K, gK_8_5 K, gK_8_6 K, gK_8_7 K, gK_8_8 K, gK_10_0 K, gK_10_1 K, gK_10_2 K, gK_11_0 K, gK_15_0 K, gK_15_1 K, gK_15_2 K, gK_15_3 K, gK_20_0 K, gK_20_1 K, gK_20_2 K, gK_20_3 K, gK_20_4 K, gK_20_5 K, gK_698_0 K, gK_698_3 K, gK_698_16 K, gK_698_17 K, gK_698_20 K, gK_698_21 K, gK_698_22 K, gK_698_23 K, gK_698_24 K, gK_698_25 K, gK_698_26 K, gK_698_27 K, gK_698_28 K, gK_698_29 K, gK_698_30 K, gK_698_31 K, gK_698_32 K, gK_698_33 K, gK_698_34 K, gK_698_35 K, gK_698_36 K, gK_698_37 K, gK_698_38 K, gK_698_39 K, gK_698_41 K, gK_698_42 K, gK_698_44 K, gK_c K, gK_d K, gK_n K, gK_p K, gok_8, gok_10, gok_11, gok_15, gok_20, gok_698, gok_699, goA_9, goA_12, goA_13, goA_14, goA_16, goA_17, goA_18, goA_19, goA_21, goA_22, goA_23, goA_24, goA_25, goA_26, goA_27, goA_28, goA_29, goA_30, goA_31, goA_732, goA_733, goA_734, goA_735, goA_736, goA_737, goA_738, goA_739, goA_740, goA_741, goA_742, goA_743, goA_744, goA_745, goA_746, goA_747, goA_748, goA_749, goA_750, goA_751, goA_752, goA_753, goA_754, goA_755, goA_756, goA_757, gN_wI, gR_wI, gL_wI, if_true, eq_self, gok_c K, gok_d K, gok_n K, gok_p K, gK_c_0 K, gK_c_1 K, gK_c_2 K, gK_c_3 K, gK_c_4 K, gK_c_5 K, gK_c_6 K, gK_c_7 K, gK_c_8 K, gK_c_9 K, gK_c_10 K, gK_c_11 K, gK_n_3 K, gK_n_4 K, gK_n_5 K, gK_n_6 K, gK_n_7 K, gK_n_8 K, gK_n_9 K, gK_n_10 K, gK_n_11 K, gK_n_12 K, gK_n_13 K, gK_n_14 K, gK_n_15 K, gK_n_16 K, gK_n_17 K, goA_c1 K, goA_c2 K, goA_c3 K, goA_c4 K, goA_c5 K, goA_c6 K, goA_c7 K, goA_c8 K, goA_c9 K, goA_c10 K, goA_c11 K, goA_c12 K, goA_n1 K, goA_n2 K, goA_n3 K, goA_n4 K, goA_n5 K, goA_n6 K, goA_n7 K, goA_n8 K, goA_n9 K, goA_n10 K, goA_n11 K, goA_n12 K, goA_n13 K, goA_n14 K, goA_n15 K]
    rw [gn_in (by omega) hr, if_pos rfl, gn_nat (by omega), St.1, if_neg (fun t => by have := (gn_lt (by omega) (by omega)).1 t; omega), St.2.2.1, hcne]
    by_cases h1 : cn < bNum (tb s) i
    · rw [if_pos ((gn_lt (by omega) (by omega)).2 h1)]
      obtain ⟨z, z1, z2⟩ := c_isLawful_110 K Id h16 St G (x1 := Int32.ofNat r) (x2 := Int32.ofNat s) (x3 := Int32.ofNat (bNum (tb s) i)) 5 0 0 rfl (.inl rfl)
      exact ⟨m, z, z1, oG_refl, ⟨fun t => absurd rfl (z2.1 t).1, fun t => by have := t.1; omega⟩⟩
    · rw [if_neg (fun t => h1 ((gn_lt (by omega) (by omega)).1 t))]
      obtain ⟨z, z1, z2⟩ := c_isLawful_110 K Id h16 St G (x1 := Int32.ofNat r) (x2 := Int32.ofNat s) (x3 := Int32.ofNat (bNum (tb s) i)) 5 0 1 rfl (.inr rfl)
      exact ⟨m, z, z1, oG_refl, ⟨fun t => ⟨by omega, fun g hg => (z2.1 t).2 g (Nat.zero_le g) hg⟩, fun t => z2.2 ⟨by decide, fun g _ hg => t.2 g hg⟩⟩⟩
  | succ j ih =>
    intro i m h K St G
    have hsi : gb (Int32.ofNat s) i = tb s i := gb_nat (by omega)
    have hnl := bNum_le (f := tb s) i
    have hnum : bNum (tb s) (i + 1) = bNum (tb s) i + if tb s i = true then 1 else 0 := rfl
    rw [q_Mo_isLawful_28]
    simp only [gK_N K, gK_8_0 K, gK_8_1 K, gK_8_2 K, gK_8_3 K, gK_8_4 K, gK_8_5 K, gK_8_6 K, gK_8_7 K, gK_8_8 K, gK_10_0 K, gK_10_1 K, gK_10_2 K, gK_11_0 K, gK_15_0 K, gK_15_1 K, gK_15_2 K, gK_15_3 K, gK_20_0 K, gK_20_1 K, gK_20_2 K, gK_20_3 K, gK_20_4 K, gK_20_5 K, gK_698_0 K, gK_698_3 K, gK_698_16 K, gK_698_17 K, gK_698_20 K, gK_698_21 K, gK_698_22 K, gK_698_23 K, gK_698_24 K, gK_698_25 K, gK_698_26 K, gK_698_27 K, gK_698_28 K, gK_698_29 K, gK_698_30 K, gK_698_31 K, gK_698_32 K, gK_698_33 K, gK_698_34 K, gK_698_35 K, gK_698_36 K, gK_698_37 K, gK_698_38 K, gK_698_39 K, gK_698_41 K, gK_698_42 K, gK_698_44 K, gK_c K, gK_d K, gK_n K, gK_p K, gok_8, gok_10, gok_11, gok_15, gok_20, gok_698, gok_699, goA_9, goA_12, goA_13, goA_14, goA_16, goA_17, goA_18, goA_19, goA_21, goA_22, goA_23, goA_24, goA_25, goA_26, goA_27, goA_28, goA_29, goA_30, goA_31, goA_732, goA_733, goA_734, goA_735, goA_736, goA_737, goA_738, goA_739, goA_740, goA_741, goA_742, goA_743, goA_744, goA_745, goA_746, goA_747, goA_748, goA_749, goA_750, goA_751, goA_752, goA_753, goA_754, goA_755, goA_756, goA_757, gN_wI, gR_wI, gL_wI, if_true, eq_self, gok_c K, gok_d K, gok_n K, gok_p K, gK_c_0 K, gK_c_1 K, gK_c_2 K, gK_c_3 K, gK_c_4 K, gK_c_5 K, gK_c_6 K, gK_c_7 K, gK_c_8 K, gK_c_9 K, gK_c_10 K, gK_c_11 K, gK_n_3 K, gK_n_4 K, gK_n_5 K, gK_n_6 K, gK_n_7 K, gK_n_8 K, gK_n_9 K, gK_n_10 K, gK_n_11 K, gK_n_12 K, gK_n_13 K, gK_n_14 K, gK_n_15 K, gK_n_16 K, gK_n_17 K, goA_c1 K, goA_c2 K, goA_c3 K, goA_c4 K, goA_c5 K, goA_c6 K, goA_c7 K, goA_c8 K, goA_c9 K, goA_c10 K, goA_c11 K, goA_c12 K, goA_n1 K, goA_n2 K, goA_n3 K, goA_n4 K, goA_n5 K, goA_n6 K, goA_n7 K, goA_n8 K, goA_n9 K, goA_n10 K, goA_n11 K, goA_n12 K, goA_n13 K, goA_n14 K, goA_n15 K]
    rw [gn_in (by omega) hr, if_pos rfl, gn_nat (show r < 2147483648 by omega), St.1, if_pos ((gn_lt (by omega) (by omega)).2 (by omega))]
    cases hb : tb s i with
    | false =>
      rw [if_pos ((gb_tst (by omega)).2 (by rw [hsi, hb])), gn_succ]
      have hI := ih (i + 1) m (by omega) K St (gG_n G hb)
      rw [hnum, hb, if_neg (by decide), Nat.add_zero] at hI
      exact hI
    | true =>
      have hm := e_may (hf i hb)
      obtain ⟨k, γ, hk30, hkN, hek, hγe, hγ, hgr⟩ := e_part Id hE hm.1
      have hcl := bCnt_le (gr := eGr A e) (f := tb s) (g := γ) i
      obtain ⟨x1, x2, x3⟩ := r_ent K hr (show i < 16 by omega)
      rw [if_neg (fun t => by have := (gb_tst (by omega)).1 t; rw [hsi, hb] at this; exact absurd this (by decide)), x1, x2, if_pos rfl, x3, St.2.1 i (by omega), hek, gn_in (by omega) (show k < 31 by omega), if_pos rfl, gn_nat (show k < 2147483648 by omega), St.2.2.2 6 (by decide) (by decide), hγe, gn_in (by omega) hγ, if_pos rfl, gn_nat (show γ < 2147483648 by omega), G γ hγ, gn_succ, gn_succ, gn_succ]
      have hG := gG_s G hb
      rw [hgr] at hG
      have o1 : oG m (wI m 750 γ (Int32.ofNat (bCnt (eGr A e) (tb s) γ i + 1))) := oG_w oG_refl
      have hI := ih (i + 1) _ (by omega) (gK_o K o1.1) (rSt_o (gK_n1 K) St (oG_T o1)) hG
      rw [hnum, hb, if_pos rfl] at hI
      obtain ⟨m', z, a1, a2, a3⟩ := hI
      exact ⟨m', z, a1, oG_tr o1 a2, a3⟩
theorem c_isLawful (K : gK c d n p m) (hr : r < 160) (Id : iCd A) (hE : eOk A e l) (St : rSt A n r l e m) {s : Nat} (hs : s < 65536) (hf : ∀ i, tb s i = true → eMay A e l i = true) : ∃ m' z, gd_call 139 [.ref 698, .int (Int32.ofNat r), .int (Int32.ofNat s)] m = some (.int z, m') ∧ oG m m' ∧ (z ≠ 0 ↔ bNum (tb s) l ≤ gn (A 0 18) ∧ ∀ g < 5, A 15 g = -1 ∨ bCnt (eGr A e) (tb s) g l ≤ gn (A 15 g)) := by
  have o1 : oG m (wFl m 750 0 0 5) := oG_fl _ _ _ _ oG_refl
  obtain ⟨m', z, a1, a2, a3⟩ := c_isLawful_28 hr Id hE hs hf l 0 (wFl m 750 0 0 5) (by omega) (gK_o K o1.1) (rSt_o (gK_n1 K) St (oG_T o1)) fun g hg => by
    rw [gI_wFl, gUr_m, if_pos (by omega)]; rfl
  refine ⟨m', z, ?_, oG_tr o1 a2, a3⟩
  rw [q_Mo_isLawful]
  exact (c_isLawful_5 5 0 m rfl K).trans a1
theorem c_worthOf_8 {x1 x2 : Int32} : ∀ j i (m : gd_M), i + j = 5 → gK c d n p m → gd_Den (140, 8, [.ref 698, .int x1, .int x2, .int 0, .int 0, .int (Int32.ofNat i), .null, .null, .null], [], m) = gd_Den (140, 31, [.ref 698, .int x1, .int x2, .int 0, .int 0, .int 0, .null, .null, .null], [], wFl m 750 i 0 j) := by
  intro j
  induction j with
  | zero =>
    intro i m h K
    have : i = 5 := by omega
    subst this
    rw [q_Mo_worthOf_8]; rfl
  | succ j ih =>
    intro i m h K
    rw [q_Mo_worthOf_8]
    simp only [gK_N K, gK_8_0 K, gK_8_1 K, gK_8_2 K, gK_8_3 K, gK_8_4 K, gK_8_5 K, gK_8_6 K, gK_8_7 K, gK_8_8 K, gK_10_0 K, gK_10_1 K, gK_10_2 K, gK_11_0 K, gK_15_0 K, gK_15_1 K, gK_15_2 K, gK_15_3 K, gK_20_0 K, gK_20_1 K, gK_20_2 K, gK_20_3 K, gK_20_4 K, gK_20_5 K, gK_698_0 K, gK_698_3 K, gK_698_16 K, gK_698_17 K, gK_698_20 K, gK_698_21 K, gK_698_22 K, gK_698_23 K, gK_698_24 K, gK_698_25 K, gK_698_26 K, gK_698_27 K, gK_698_28 K, gK_698_29 K, gK_698_30 K, gK_698_31 K, gK_698_32 K, gK_698_33 K, gK_698_34 K, gK_698_35 K, gK_698_36 K, gK_698_37 K, gK_698_38 K, gK_698_39 K, gK_698_41 K, gK_698_42 K, gK_698_44 K, gK_c K, gK_d K, gK_n K, gK_p K, gok_8, gok_10, gok_11, gok_15, gok_20, gok_698, gok_699, goA_9, goA_12, goA_13, goA_14, goA_16, goA_17, goA_18, goA_19, goA_21, goA_22, goA_23, goA_24, goA_25, goA_26, goA_27, goA_28, goA_29, goA_30, goA_31, goA_732, goA_733, goA_734, goA_735, goA_736, goA_737, goA_738, goA_739, goA_740, goA_741, goA_742, goA_743, goA_744, goA_745, goA_746, goA_747, goA_748, goA_749, goA_750, goA_751, goA_752, goA_753, goA_754, goA_755, goA_756, goA_757, gN_wI, gR_wI, gL_wI, if_true, eq_self, gn_succ]
    rw [if_pos ((gnlb_5 (by omega) (by decide)).2 (by omega)), gn_in (by omega) (by omega), if_pos rfl, gn_nat (by omega)]
    exact ih (i + 1) _ (by omega) K
theorem bLk_k (Id : iCd A) (a b : Int32) : ∀ k, k ≤ gn (A 0 1) → 0 ≤ bLk A a b k ∧ bLk A a b k ≤ 9 * (k : Int) := by
  intro k
  induction k with
  | zero =>
    intro _
    show (0 : Int) ≤ 0 ∧ (0 : Int) ≤ 9 * ((0 : Nat) : Int)
    exact ⟨by decide, by decide⟩
  | succ k ih =>
    intro hk
    have := ih (by omega)
    obtain ⟨w, hw1, hw2, hw⟩ := iCd_lwo Id k (by omega)
    show 0 ≤ bLk A a b k + _ ∧ bLk A a b k + _ ≤ _
    rw [hw, gn_toInt (by omega)]
    by_cases q : A 8 k = a ∧ A 9 k = b
    · rw [if_pos q]; omega
    · rw [if_neg q]; omega
theorem c_worthOf_141 (K : gK c d n p m) (Id : iCd A) (St : rSt A n r l e m) {x1 x2 x4 x5 a b : Int32} {base : Int} (hb : -10000 ≤ base ∧ base ≤ 10000) : ∀ j q x3, q + j = gn (A 0 1) → x3.toInt = base + bLk A a b q → ∃ y, gd_Den (140, 141, [.ref 698, .int x1, .int x2, .int x3, .int x4, .int x5, .int b, .int a, .int (Int32.ofNat q)], [], m) = gd_Den (140, 31, [.ref 698, .int x1, .int x2, .int y, .int x4, .int (x5 + 1), .int b, .int a, .int (Int32.ofNat (gn (A 0 1)))], [], m) ∧ y.toInt = base + bLk A a b (gn (A 0 1)) := by
  obtain ⟨N, -, hN, hNe⟩ := iCd_lks Id
  have hgN : gn (A 0 1) = N := by rw [hNe, gn_of (by omega)]
  rw [hgN]
  intro j
  induction j with
  | zero =>
    intro q x3 h hx
    have : q = N := by omega
    subst this
    refine ⟨x3, ?_, hx⟩
    rw [q_Mo_worthOf_141]
    simp only [gK_N K, gK_8_0 K, gK_8_1 K, gK_8_2 K, gK_8_3 K, gK_8_4 K, gK_8_5 K, gK_8_6 K, gK_8_7 K, gK_8_8 K, gK_10_0 K, gK_10_1 K, gK_10_2 K, gK_11_0 K, gK_15_0 K, gK_15_1 K, gK_15_2 K, gK_15_3 K, gK_20_0 K, gK_20_1 K, gK_20_2 K, gK_20_3 K, gK_20_4 K, gK_20_5 K, gK_698_0 K, gK_698_3 K, gK_698_16 K, gK_698_17 K, gK_698_20 K, gK_698_21 K, gK_698_22 K, gK_698_23 K, gK_698_24 K, gK_698_25 K, gK_698_26 K, gK_698_27 K, gK_698_28 K, gK_698_29 K, gK_698_30 K, gK_698_31 K, gK_698_32 K, gK_698_33 K, gK_698_34 K, gK_698_35 K, gK_698_36 K, gK_698_37 K, gK_698_38 K, gK_698_39 K, gK_698_41 K, gK_698_42 K, gK_698_44 K, gK_c K, gK_d K, gK_n K, gK_p K, gok_8, gok_10, gok_11, gok_15, gok_20, gok_698, gok_699, goA_9, goA_12, goA_13, goA_14, goA_16, goA_17, goA_18, goA_19, goA_21, goA_22, goA_23, goA_24, goA_25, goA_26, goA_27, goA_28, goA_29, goA_30, goA_31, goA_732, goA_733, goA_734, goA_735, goA_736, goA_737, goA_738, goA_739, goA_740, goA_741, goA_742, goA_743, goA_744, goA_745, goA_746, goA_747, goA_748, goA_749, goA_750, goA_751, goA_752, goA_753, goA_754, goA_755, goA_756, goA_757, gN_wI, gR_wI, gL_wI, if_true, eq_self, gok_c K, gok_d K, gok_n K, gok_p K, gK_c_0 K, gK_c_1 K, gK_c_2 K, gK_c_3 K, gK_c_4 K, gK_c_5 K, gK_c_6 K, gK_c_7 K, gK_c_8 K, gK_c_9 K, gK_c_10 K, gK_c_11 K, gK_n_3 K, gK_n_4 K, gK_n_5 K, gK_n_6 K, gK_n_7 K, gK_n_8 K, gK_n_9 K, gK_n_10 K, gK_n_11 K, gK_n_12 K, gK_n_13 K, gK_n_14 K, gK_n_15 K, gK_n_16 K, gK_n_17 K, goA_c1 K, goA_c2 K, goA_c3 K, goA_c4 K, goA_c5 K, goA_c6 K, goA_c7 K, goA_c8 K, goA_c9 K, goA_c10 K, goA_c11 K, goA_c12 K, goA_n1 K, goA_n2 K, goA_n3 K, goA_n4 K, goA_n5 K, goA_n6 K, goA_n7 K, goA_n8 K, goA_n9 K, goA_n10 K, goA_n11 K, goA_n12 K, goA_n13 K, goA_n14 K, goA_n15 K]
    rw [St.2.2.1, hNe, if_neg (fun t => by have := (gn_lt (by omega) (by omega)).1 t; omega)]
  | succ j ih =>
    intro q x3 h hx
    have hbk := bLk_k Id a b q (by omega)
    obtain ⟨w, hw1, hw2, hw⟩ := iCd_lwo Id q (by omega)
    have hs : bLk A a b (q + 1) = bLk A a b q + if A 8 q = a ∧ A 9 q = b then (A 10 q).toInt else 0 := rfl
    have hwt : (A 10 q).toInt = (w : Int) := by rw [hw, gn_toInt (by omega)]
    rw [q_Mo_worthOf_141]
    simp only [gK_N K, gK_8_0 K, gK_8_1 K, gK_8_2 K, gK_8_3 K, gK_8_4 K, gK_8_5 K, gK_8_6 K, gK_8_7 K, gK_8_8 K, gK_10_0 K, gK_10_1 K, gK_10_2 K, gK_11_0 K, gK_15_0 K, gK_15_1 K, gK_15_2 K, gK_15_3 K, gK_20_0 K, gK_20_1 K, gK_20_2 K, gK_20_3 K, gK_20_4 K, gK_20_5 K, gK_698_0 K, gK_698_3 K, gK_698_16 K, gK_698_17 K, gK_698_20 K, gK_698_21 K, gK_698_22 K, gK_698_23 K, gK_698_24 K, gK_698_25 K, gK_698_26 K, gK_698_27 K, gK_698_28 K, gK_698_29 K, gK_698_30 K, gK_698_31 K, gK_698_32 K, gK_698_33 K, gK_698_34 K, gK_698_35 K, gK_698_36 K, gK_698_37 K, gK_698_38 K, gK_698_39 K, gK_698_41 K, gK_698_42 K, gK_698_44 K, gK_c K, gK_d K, gK_n K, gK_p K, gok_8, gok_10, gok_11, gok_15, gok_20, gok_698, gok_699, goA_9, goA_12, goA_13, goA_14, goA_16, goA_17, goA_18, goA_19, goA_21, goA_22, goA_23, goA_24, goA_25, goA_26, goA_27, goA_28, goA_29, goA_30, goA_31, goA_732, goA_733, goA_734, goA_735, goA_736, goA_737, goA_738, goA_739, goA_740, goA_741, goA_742, goA_743, goA_744, goA_745, goA_746, goA_747, goA_748, goA_749, goA_750, goA_751, goA_752, goA_753, goA_754, goA_755, goA_756, goA_757, gN_wI, gR_wI, gL_wI, if_true, eq_self, gok_c K, gok_d K, gok_n K, gok_p K, gK_c_0 K, gK_c_1 K, gK_c_2 K, gK_c_3 K, gK_c_4 K, gK_c_5 K, gK_c_6 K, gK_c_7 K, gK_c_8 K, gK_c_9 K, gK_c_10 K, gK_c_11 K, gK_n_3 K, gK_n_4 K, gK_n_5 K, gK_n_6 K, gK_n_7 K, gK_n_8 K, gK_n_9 K, gK_n_10 K, gK_n_11 K, gK_n_12 K, gK_n_13 K, gK_n_14 K, gK_n_15 K, gK_n_16 K, gK_n_17 K, goA_c1 K, goA_c2 K, goA_c3 K, goA_c4 K, goA_c5 K, goA_c6 K, goA_c7 K, goA_c8 K, goA_c9 K, goA_c10 K, goA_c11 K, goA_c12 K, goA_n1 K, goA_n2 K, goA_n3 K, goA_n4 K, goA_n5 K, goA_n6 K, goA_n7 K, goA_n8 K, goA_n9 K, goA_n10 K, goA_n11 K, goA_n12 K, goA_n13 K, goA_n14 K, goA_n15 K]
    rw [St.2.2.1, hNe, if_pos ((gn_lt (by omega) (by omega)).2 (by omega)), gn_in (by omega) (show q < 21 by omega), if_pos rfl, if_pos rfl, if_pos rfl, gn_nat (by omega), St.2.2.2 8 (by decide) (by decide), St.2.2.2 9 (by decide) (by decide), St.2.2.2 10 (by decide) (by decide), gn_succ, Int32.add_zero]
    by_cases h1 : A 8 q = a
    · rw [if_pos h1]
      by_cases h2 : A 9 q = b
      · rw [if_pos h2]
        exact ih (q + 1) _ (by omega) (by rw [hs, if_pos ⟨h1, h2⟩, gt_add (by rw [hx, hwt]; omega), hx]; omega)
      · rw [if_neg h2]
        exact ih (q + 1) x3 (by omega) (by rw [hs, if_neg (fun t => h2 t.2), hx]; omega)
    · rw [if_neg h1]
      exact ih (q + 1) x3 (by omega) (by rw [hs, if_neg (fun t => h1 t.1), hx]; omega)
theorem bVal_b {may : Nat → Bool} {wo li : Nat → Int} (hw : ∀ i, may i = true → 1 ≤ wo i ∧ wo i ≤ 30) (hl : ∀ i, 0 ≤ li i ∧ li i ≤ 9) {f : Nat → Bool} (hf : ∀ i, f i = true → may i = true) : ∀ k, 0 ≤ bVal wo li f k ∧ bVal wo li f k ≤ 39 * (k : Int) := by
  intro k
  induction k with
  | zero =>
    show (0 : Int) ≤ 0 ∧ (0 : Int) ≤ 39 * ((0 : Nat) : Int)
    exact ⟨by decide, by decide⟩
  | succ k ih =>
    show 0 ≤ bVal wo li f k + _ ∧ bVal wo li f k + _ ≤ _
    cases e1 : f k with
    | false => rw [if_neg (by decide)]; omega
    | true =>
      rw [if_pos rfl]
      have := hw k (hf k e1)
      have := hl k
      by_cases h : 0 < k ∧ f (k - 1) = true
      · rw [if_pos h]; omega
      · rw [if_neg h]; omega
theorem c_worthOf_31 (hr : r < 160) (Id : iCd A) (hE : eOk A e l) {s : Nat} (hs : s < 65536) (hf : ∀ i, tb s i = true → eMay A e l i = true) : ∀ j i (m : gd_M) x3 v6 v7 v8, i + j = l → gK c d n p m → rSt A n r l e m → gG A e (tb s) i m → x3.toInt = bVal (bWo A e) (bLi A e) (tb s) i → ∃ m' y v6' v7' v8', gd_Den (140, 31, [.ref 698, .int (Int32.ofNat r), .int (Int32.ofNat s), .int x3, .int (Int32.ofNat (bNum (tb s) i)), .int (Int32.ofNat i), v6, v7, v8], [], m) = gd_Den (140, 215, [.ref 698, .int (Int32.ofNat r), .int (Int32.ofNat s), .int y, .int (Int32.ofNat (bNum (tb s) l)), .int 0, v6', v7', v8'], [], m') ∧ oG m m' ∧ gG A e (tb s) l m' ∧ y.toInt = bVal (bWo A e) (bLi A e) (tb s) l := by
  have h16 := hE.1
  have hCl := bC_le (e := e) l
  have hbv := bVal_b (e_wo Id hE) (fun i => bLk_b Id (e (i - 1)) (e i)) (li := bLi A e) hf
  intro j
  induction j with
  | zero =>
    intro i m x3 v6 v7 v8 h K St G hx
    have : i = l := by omega
    subst this
    refine ⟨m, x3, v6, v7, v8, ?_, oG_refl, G, hx⟩
    rw [q_Mo_worthOf_31]
    simp only [gK_N K, gK_8_0 K, gK_8_1 K, gK_8_2 K, gK_8_3 K, gK_8_4 K, gK_8_5 K, gK_8_6 K, gK_8_7 K, gK_8_8 K, gK_10_0 K, gK_10_1 K, gK_10_2 K, gK_11_0 K, gK_15_0 K, gK_15_1 K, gK_15_2 K, gK_15_3 K, gK_20_0 K, gK_20_1 K, gK_20_2 K, gK_20_3 K, gK_20_4 K, gK_20_5 K, gK_698_0 K, gK_698_3 K, gK_698_16 K, gK_698_17 K, gK_698_20 K, gK_698_21 K, gK_698_22 K, gK_698_23 K, gK_698_24 K, gK_698_25 K, gK_698_26 K, gK_698_27 K, gK_698_28 K, gK_698_29 K, gK_698_30 K, gK_698_31 K, gK_698_32 K, gK_698_33 K, gK_698_34 K, gK_698_35 K, gK_698_36 K, gK_698_37 K, gK_698_38 K, gK_698_39 K, gK_698_41 K, gK_698_42 K, gK_698_44 K, gK_c K, gK_d K, gK_n K, gK_p K, gok_8, gok_10, gok_11, gok_15, gok_20, gok_698, gok_699, goA_9, goA_12, goA_13, goA_14, goA_16, goA_17, goA_18, goA_19, goA_21, goA_22, goA_23, goA_24, goA_25, goA_26, goA_27, goA_28, goA_29, goA_30, goA_31, goA_732, goA_733, goA_734, goA_735, goA_736, goA_737, goA_738, goA_739, goA_740, goA_741, goA_742, goA_743, goA_744, goA_745, goA_746, goA_747, goA_748, goA_749, goA_750, goA_751, goA_752, goA_753, goA_754, goA_755, goA_756, goA_757, gN_wI, gR_wI, gL_wI, if_true, eq_self, gok_c K, gok_d K, gok_n K, gok_p K, gK_c_0 K, gK_c_1 K, gK_c_2 K, gK_c_3 K, gK_c_4 K, gK_c_5 K, gK_c_6 K, gK_c_7 K, gK_c_8 K, gK_c_9 K, gK_c_10 K, gK_c_11 K, gK_n_3 K, gK_n_4 K, gK_n_5 K, gK_n_6 K, gK_n_7 K, gK_n_8 K, gK_n_9 K, gK_n_10 K, gK_n_11 K, gK_n_12 K, gK_n_13 K, gK_n_14 K, gK_n_15 K, gK_n_16 K, gK_n_17 K, goA_c1 K, goA_c2 K, goA_c3 K, goA_c4 K, goA_c5 K, goA_c6 K, goA_c7 K, goA_c8 K, goA_c9 K, goA_c10 K, goA_c11 K, goA_c12 K, goA_n1 K, goA_n2 K, goA_n3 K, goA_n4 K, goA_n5 K, goA_n6 K, goA_n7 K, goA_n8 K, goA_n9 K, goA_n10 K, goA_n11 K, goA_n12 K, goA_n13 K, goA_n14 K, goA_n15 K]
    rw [gn_in (by omega) hr, if_pos rfl, gn_nat (by omega), St.1, if_neg (fun t => by have := (gn_lt (by omega) (by omega)).1 t; omega)]
  | succ j ih =>
    intro i m x3 v6 v7 v8 h K St G hx
    have hsi : ∀ t, gb (Int32.ofNat s) t = tb s t := fun t => gb_nat (by omega)
    have hnum : bNum (tb s) (i + 1) = bNum (tb s) i + if tb s i = true then 1 else 0 := rfl
    have hval : bVal (bWo A e) (bLi A e) (tb s) (i + 1) = bVal (bWo A e) (bLi A e) (tb s) i + if tb s i = true then bWo A e i + (if 0 < i ∧ tb s (i - 1) = true then bLi A e i else 0) else 0 := rfl
    have hb0 := hbv i
    rw [q_Mo_worthOf_31]
    simp only [gK_N K, gK_8_0 K, gK_8_1 K, gK_8_2 K, gK_8_3 K, gK_8_4 K, gK_8_5 K, gK_8_6 K, gK_8_7 K, gK_8_8 K, gK_10_0 K, gK_10_1 K, gK_10_2 K, gK_11_0 K, gK_15_0 K, gK_15_1 K, gK_15_2 K, gK_15_3 K, gK_20_0 K, gK_20_1 K, gK_20_2 K, gK_20_3 K, gK_20_4 K, gK_20_5 K, gK_698_0 K, gK_698_3 K, gK_698_16 K, gK_698_17 K, gK_698_20 K, gK_698_21 K, gK_698_22 K, gK_698_23 K, gK_698_24 K, gK_698_25 K, gK_698_26 K, gK_698_27 K, gK_698_28 K, gK_698_29 K, gK_698_30 K, gK_698_31 K, gK_698_32 K, gK_698_33 K, gK_698_34 K, gK_698_35 K, gK_698_36 K, gK_698_37 K, gK_698_38 K, gK_698_39 K, gK_698_41 K, gK_698_42 K, gK_698_44 K, gK_c K, gK_d K, gK_n K, gK_p K, gok_8, gok_10, gok_11, gok_15, gok_20, gok_698, gok_699, goA_9, goA_12, goA_13, goA_14, goA_16, goA_17, goA_18, goA_19, goA_21, goA_22, goA_23, goA_24, goA_25, goA_26, goA_27, goA_28, goA_29, goA_30, goA_31, goA_732, goA_733, goA_734, goA_735, goA_736, goA_737, goA_738, goA_739, goA_740, goA_741, goA_742, goA_743, goA_744, goA_745, goA_746, goA_747, goA_748, goA_749, goA_750, goA_751, goA_752, goA_753, goA_754, goA_755, goA_756, goA_757, gN_wI, gR_wI, gL_wI, if_true, eq_self, gok_c K, gok_d K, gok_n K, gok_p K, gK_c_0 K, gK_c_1 K, gK_c_2 K, gK_c_3 K, gK_c_4 K, gK_c_5 K, gK_c_6 K, gK_c_7 K, gK_c_8 K, gK_c_9 K, gK_c_10 K, gK_c_11 K, gK_n_3 K, gK_n_4 K, gK_n_5 K, gK_n_6 K, gK_n_7 K, gK_n_8 K, gK_n_9 K, gK_n_10 K, gK_n_11 K, gK_n_12 K, gK_n_13 K, gK_n_14 K, gK_n_15 K, gK_n_16 K, gK_n_17 K, goA_c1 K, goA_c2 K, goA_c3 K, goA_c4 K, goA_c5 K, goA_c6 K, goA_c7 K, goA_c8 K, goA_c9 K, goA_c10 K, goA_c11 K, goA_c12 K, goA_n1 K, goA_n2 K, goA_n3 K, goA_n4 K, goA_n5 K, goA_n6 K, goA_n7 K, goA_n8 K, goA_n9 K, goA_n10 K, goA_n11 K, goA_n12 K, goA_n13 K, goA_n14 K, goA_n15 K]
    rw [gn_in (by omega) hr, if_pos rfl, gn_nat (show r < 2147483648 by omega), St.1, if_pos ((gn_lt (by omega) (by omega)).2 (by omega))]
    cases hb : tb s i with
    | false =>
      rw [if_pos ((gb_tst (by omega)).2 (by rw [hsi, hb])), gn_succ]
      have hI := ih (i + 1) m x3 v6 v7 v8 (by omega) K St (gG_n G hb) (by rw [hval, hb, if_neg (by decide), hx]; omega)
      rw [hnum, hb, if_neg (by decide), Nat.add_zero] at hI
      exact hI
    | true =>
      have hm := e_may (hf i hb)
      obtain ⟨k, γ, hk30, hkN, hek, hγe, hγ, hgr⟩ := e_part Id hE hm.1
      have hcl := bCnt_le (gr := eGr A e) (f := tb s) (g := γ) i
      obtain ⟨w, hw1, hw2, hwe⟩ := iCd_wor Id k hkN
      have hbw : bWo A e i = (w : Int) := by unfold bWo; rw [hek, gn_of (by omega), hwe, gn_toInt (by omega)]
      obtain ⟨x1, x2, x3'⟩ := r_ent K hr (show i < 16 by omega)
      have hG := gG_s G hb
      rw [hgr] at hG
      have o1 : oG m (wI m 750 γ (Int32.ofNat (bCnt (eGr A e) (tb s) γ i + 1))) := oG_w oG_refl
      have hsum : (x3 + Int32.ofNat w).toInt = bVal (bWo A e) (bLi A e) (tb s) i + bWo A e i := by
        rw [gt_add (by rw [hx, gn_toInt (by omega)]; omega), hx, gn_toInt (by omega), hbw]
      rw [if_neg (fun t => by have := (gb_tst (by omega)).1 t; rw [hsi, hb] at this; exact absurd this (by decide)), x1, x2, if_pos rfl, x3', St.2.1 i (by omega), hek, gn_in (by omega) (show k < 31 by omega), if_pos rfl, if_pos rfl, gn_nat (show k < 2147483648 by omega), St.2.2.2 5 (by decide) (by decide), St.2.2.2 6 (by decide) (by decide), hγe, hwe, gn_in (by omega) hγ, if_pos rfl, gn_nat (show γ < 2147483648 by omega), G γ hγ, gn_succ, gn_succ, gn_succ]
      by_cases h0 : i = 0
      · subst h0
        rw [if_pos (show Int32.ofNat 0 = 0 from rfl)]
        have hI := ih 1 _ (x3 + Int32.ofNat w) (.int (Int32.ofNat k)) v7 v8 (by omega) (gK_o K o1.1) (rSt_o (gK_n1 K) St (oG_T o1)) hG (by rw [hval, hb, if_pos rfl, if_neg (fun t => absurd t.1 (by decide)), hsum]; omega)
        rw [hnum, hb, if_pos rfl] at hI
        obtain ⟨m', y, v6', v7', v8', a1, a2, a3⟩ := hI
        exact ⟨m', y, v6', v7', v8', a1, oG_tr o1 a2, a3⟩
      · rw [if_neg (fun t => h0 ((gneb_0 (by omega) (by decide)).1 t)), gn_pred (show 0 < i by omega)]
        cases hb2 : tb s (i - 1) with
        | false =>
          rw [if_pos ((gb_tst (by omega)).2 (by rw [hsi, hb2]))]
          have hI := ih (i + 1) _ (x3 + Int32.ofNat w) (.int (Int32.ofNat k)) v7 v8 (by omega) (gK_o K o1.1) (rSt_o (gK_n1 K) St (oG_T o1)) hG (by rw [hval, hb, if_pos rfl, hb2, if_neg (fun t => absurd t.2 (by decide)), hsum]; omega)
          rw [hnum, hb, if_pos rfl] at hI
          obtain ⟨m', y, v6', v7', v8', a1, a2, a3⟩ := hI
          exact ⟨m', y, v6', v7', v8', a1, oG_tr o1 a2, a3⟩
        | true =>
          obtain ⟨y1, y2, y3⟩ := r_ent K hr (show i - 1 < 16 by omega)
          have hpr : Int32.ofNat (16 * r + i) - 1 = Int32.ofNat (16 * r + (i - 1)) := by rw [gn_pred (by omega)]; congr 1; omega
          rw [if_neg (fun t => by have := (gb_tst (by omega)).1 t; rw [hsi, hb2] at this; exact absurd this (by decide)), hpr, y2, if_pos rfl, y3, gI_wI_a (by decide), St.2.1 (i - 1) (by omega)]
          have hbl := bLk_b Id (e (i - 1)) (Int32.ofNat k)
          obtain ⟨y, z1, z2⟩ := c_worthOf_141 (c := c) (d := d) (n := n) (p := p) (m := wI m 750 γ (Int32.ofNat (bCnt (eGr A e) (tb s) γ i + 1))) (gK_o K o1.1) Id (rSt_o (gK_n1 K) St (oG_T o1)) (x1 := Int32.ofNat r) (x2 := Int32.ofNat s) (x4 := Int32.ofNat (bNum (tb s) i + 1)) (x5 := Int32.ofNat i) (a := e (i - 1)) (b := Int32.ofNat k) (base := bVal (bWo A e) (bLi A e) (tb s) i + bWo A e i) (by omega) (gn (A 0 1)) 0 (x3 + Int32.ofNat w) (by omega) (by rw [hsum]; exact (Int.add_zero _).symm)
          have hI := ih (i + 1) _ y (.int (Int32.ofNat k)) (.int (e (i - 1))) (.int (Int32.ofNat (gn (A 0 1)))) (by omega) (gK_o K o1.1) (rSt_o (gK_n1 K) St (oG_T o1)) hG (by
            rw [hval, hb, if_pos rfl, hb2, if_pos ⟨by omega, rfl⟩, z2]
            show _ = _ + (_ + bLk A (e (i - 1)) (e i) (gn (A 0 1)))
            rw [hek]; omega)
          rw [hnum, hb, if_pos rfl] at hI
          obtain ⟨m', y', v6', v7', v8', a1, a2, a3⟩ := hI
          rw [gn_succ] at z1
          exact ⟨m', y', v6', v7', v8', z1.trans a1, oG_tr o1 a2, a3⟩
theorem c_worthOf_215 (K : gK c d n p m) (Id : iCd A) (hl : l ≤ 16) (St : rSt A n r l e m) {f : Nat → Bool} (G : gG A e f l m) {x1 x2 : Int32} {base : Int} (hb : -10000 ≤ base ∧ base ≤ 10000) : ∀ j g x3 v6 v7 v8, g + j = 5 → x3.toInt = base + bNd A (fun h => bCnt (eGr A e) f h l) g → ∃ y, gd_Den (140, 215, [.ref 698, .int x1, .int x2, .int x3, .int (Int32.ofNat (bNum f l)), .int (Int32.ofNat g), v6, v7, v8], [], m) = some (.int y, m) ∧ y.toInt = base + bExt A (fun h => bCnt (eGr A e) f h l) (bNum f l) := by
  intro j
  induction j with
  | zero =>
    intro g x3 v6 v7 v8 h hx
    have : g = 5 := by omega
    subst this
    have hnl := bNum_le (f := f) l
    have hbd := bNd_b Id (v := fun h => bCnt (eGr A e) f h l) 5 (Nat.le_refl 5)
    obtain ⟨sh, -, hsh, hshe⟩ := iCd_sho Id
    obtain ⟨le, -, hle, hlee⟩ := iCd_les Id
    have h19 : gn (A 0 19) = sh := by rw [hshe, gn_of (by omega)]
    have hlt : (A 0 20).toInt = (le : Int) := by rw [hlee, gn_toInt (by omega)]
    unfold bExt
    rw [h19, hlt, q_Mo_worthOf_215, if_neg (by decide)]
    simp only [gK_N K, gK_8_0 K, gK_8_1 K, gK_8_2 K, gK_8_3 K, gK_8_4 K, gK_8_5 K, gK_8_6 K, gK_8_7 K, gK_8_8 K, gK_10_0 K, gK_10_1 K, gK_10_2 K, gK_11_0 K, gK_15_0 K, gK_15_1 K, gK_15_2 K, gK_15_3 K, gK_20_0 K, gK_20_1 K, gK_20_2 K, gK_20_3 K, gK_20_4 K, gK_20_5 K, gK_698_0 K, gK_698_3 K, gK_698_16 K, gK_698_17 K, gK_698_20 K, gK_698_21 K, gK_698_22 K, gK_698_23 K, gK_698_24 K, gK_698_25 K, gK_698_26 K, gK_698_27 K, gK_698_28 K, gK_698_29 K, gK_698_30 K, gK_698_31 K, gK_698_32 K, gK_698_33 K, gK_698_34 K, gK_698_35 K, gK_698_36 K, gK_698_37 K, gK_698_38 K, gK_698_39 K, gK_698_41 K, gK_698_42 K, gK_698_44 K, gK_c K, gK_d K, gK_n K, gK_p K, gok_8, gok_10, gok_11, gok_15, gok_20, gok_698, gok_699, goA_9, goA_12, goA_13, goA_14, goA_16, goA_17, goA_18, goA_19, goA_21, goA_22, goA_23, goA_24, goA_25, goA_26, goA_27, goA_28, goA_29, goA_30, goA_31, goA_732, goA_733, goA_734, goA_735, goA_736, goA_737, goA_738, goA_739, goA_740, goA_741, goA_742, goA_743, goA_744, goA_745, goA_746, goA_747, goA_748, goA_749, goA_750, goA_751, goA_752, goA_753, goA_754, goA_755, goA_756, goA_757, gN_wI, gR_wI, gL_wI, if_true, eq_self, gok_c K, gok_d K, gok_n K, gok_p K, gK_c_0 K, gK_c_1 K, gK_c_2 K, gK_c_3 K, gK_c_4 K, gK_c_5 K, gK_c_6 K, gK_c_7 K, gK_c_8 K, gK_c_9 K, gK_c_10 K, gK_c_11 K, gK_n_3 K, gK_n_4 K, gK_n_5 K, gK_n_6 K, gK_n_7 K, gK_n_8 K, gK_n_9 K, gK_n_10 K, gK_n_11 K, gK_n_12 K, gK_n_13 K, gK_n_14 K, gK_n_15 K, gK_n_16 K, gK_n_17 K, goA_c1 K, goA_c2 K, goA_c3 K, goA_c4 K, goA_c5 K, goA_c6 K, goA_c7 K, goA_c8 K, goA_c9 K, goA_c10 K, goA_c11 K, goA_c12 K, goA_n1 K, goA_n2 K, goA_n3 K, goA_n4 K, goA_n5 K, goA_n6 K, goA_n7 K, goA_n8 K, goA_n9 K, goA_n10 K, goA_n11 K, goA_n12 K, goA_n13 K, goA_n14 K, goA_n15 K]
    rw [St.2.2.1, St.2.2.1, hshe]
    by_cases h1 : bNum f l < sh
    · rw [if_pos ((gn_lt (by omega) (by omega)).2 h1), if_pos h1]
      refine ⟨_, rfl, ?_⟩
      rw [gt_sub (by rw [hx, hlt]; omega), hx, hlt]; omega
    · rw [if_neg (fun t => h1 ((gn_lt (by omega) (by omega)).1 t)), if_neg h1]
      exact ⟨_, rfl, by rw [hx]; omega⟩
  | succ j ih =>
    intro g x3 v6 v7 v8 h hx
    have hbd := bNd_b Id (v := fun h => bCnt (eGr A e) f h l) g (by omega)
    have hcl := bCnt_le (gr := eGr A e) (f := f) (g := g) l
    obtain ⟨nd, -, hnd, hnde⟩ := iCd_nds Id g (by omega)
    obtain ⟨w, -, hw2, hwe⟩ := iCd_wth Id g (by omega)
    have h13 : gn (A 13 g) = nd := by rw [hnde, gn_of (by omega)]
    have hbn : bNd A (fun h => bCnt (eGr A e) f h l) (g + 1) = bNd A (fun h => bCnt (eGr A e) f h l) g + if 0 < nd ∧ nd ≤ bCnt (eGr A e) f g l then (w : Int) else 0 := by
      show bNd A (fun h => bCnt (eGr A e) f h l) g + (if 0 < gn (A 13 g) ∧ gn (A 13 g) ≤ bCnt (eGr A e) f g l then (A 14 g).toInt else 0) = _
      rw [h13, hwe, gn_toInt (by omega)]
    rw [q_Mo_worthOf_215, if_pos ((gnlb_5 (by omega) (by decide)).2 (by omega))]
    simp only [gK_N K, gK_8_0 K, gK_8_1 K, gK_8_2 K, gK_8_3 K, gK_8_4 K, gK_8_5 K, gK_8_6 K, gK_8_7 K, gK_8_8 K, gK_10_0 K, gK_10_1 K, gK_10_2 K, gK_11_0 K, gK_15_0 K, gK_15_1 K, gK_15_2 K, gK_15_3 K, gK_20_0 K, gK_20_1 K, gK_20_2 K, gK_20_3 K, gK_20_4 K, gK_20_5 K, gK_698_0 K, gK_698_3 K, gK_698_16 K, gK_698_17 K, gK_698_20 K, gK_698_21 K, gK_698_22 K, gK_698_23 K, gK_698_24 K, gK_698_25 K, gK_698_26 K, gK_698_27 K, gK_698_28 K, gK_698_29 K, gK_698_30 K, gK_698_31 K, gK_698_32 K, gK_698_33 K, gK_698_34 K, gK_698_35 K, gK_698_36 K, gK_698_37 K, gK_698_38 K, gK_698_39 K, gK_698_41 K, gK_698_42 K, gK_698_44 K, gK_c K, gK_d K, gK_n K, gK_p K, gok_8, gok_10, gok_11, gok_15, gok_20, gok_698, gok_699, goA_9, goA_12, goA_13, goA_14, goA_16, goA_17, goA_18, goA_19, goA_21, goA_22, goA_23, goA_24, goA_25, goA_26, goA_27, goA_28, goA_29, goA_30, goA_31, goA_732, goA_733, goA_734, goA_735, goA_736, goA_737, goA_738, goA_739, goA_740, goA_741, goA_742, goA_743, goA_744, goA_745, goA_746, goA_747, goA_748, goA_749, goA_750, goA_751, goA_752, goA_753, goA_754, goA_755, goA_756, goA_757, gN_wI, gR_wI, gL_wI, if_true, eq_self, gok_c K, gok_d K, gok_n K, gok_p K, gK_c_0 K, gK_c_1 K, gK_c_2 K, gK_c_3 K, gK_c_4 K, gK_c_5 K, gK_c_6 K, gK_c_7 K, gK_c_8 K, gK_c_9 K, gK_c_10 K, gK_c_11 K, gK_n_3 K, gK_n_4 K, gK_n_5 K, gK_n_6 K, gK_n_7 K, gK_n_8 K, gK_n_9 K, gK_n_10 K, gK_n_11 K, gK_n_12 K, gK_n_13 K, gK_n_14 K, gK_n_15 K, gK_n_16 K, gK_n_17 K, goA_c1 K, goA_c2 K, goA_c3 K, goA_c4 K, goA_c5 K, goA_c6 K, goA_c7 K, goA_c8 K, goA_c9 K, goA_c10 K, goA_c11 K, goA_c12 K, goA_n1 K, goA_n2 K, goA_n3 K, goA_n4 K, goA_n5 K, goA_n6 K, goA_n7 K, goA_n8 K, goA_n9 K, goA_n10 K, goA_n11 K, goA_n12 K, goA_n13 K, goA_n14 K, goA_n15 K]
    rw [gn_in (by omega) (show g < 5 by omega), if_pos rfl, if_pos rfl, if_pos rfl, gn_nat (by omega), St.2.2.2 13 (by decide) (by decide), St.2.2.2 14 (by decide) (by decide), G g (by omega), hnde, hwe, gn_succ, Int32.add_zero]
    by_cases h1 : 0 < nd
    · rw [if_pos ((gnla_0 (by decide) (by omega)).2 h1)]
      by_cases h2 : bCnt (eGr A e) f g l < nd
      · rw [if_pos ((gn_lt (by omega) (by omega)).2 h2)]
        exact ih (g + 1) x3 _ _ _ (by omega) (by rw [hbn, if_neg (by omega), hx]; omega)
      · rw [if_neg (fun t => h2 ((gn_lt (by omega) (by omega)).1 t))]
        exact ih (g + 1) _ _ _ _ (by omega) (by rw [hbn, if_pos (by omega), gt_add (by rw [hx, gn_toInt (by omega)]; omega), hx, gn_toInt (by omega)]; omega)
    · rw [if_neg (fun t => h1 ((gnla_0 (by decide) (by omega)).1 t))]
      exact ih (g + 1) x3 _ _ _ (by omega) (by rw [hbn, if_neg (by omega), hx]; omega)
theorem c_worthOf (K : gK c d n p m) (hr : r < 160) (Id : iCd A) (hE : eOk A e l) (St : rSt A n r l e m) {s : Nat} (hs : s < 65536) (hf : ∀ i, tb s i = true → eMay A e l i = true) : ∃ m' y, gd_call 140 [.ref 698, .int (Int32.ofNat r), .int (Int32.ofNat s)] m = some (.int y, m') ∧ oG m m' ∧ y.toInt = bVal (bWo A e) (bLi A e) (tb s) l + bExt A (fun h => bCnt (eGr A e) (tb s) h l) (bNum (tb s) l) := by
  have h16 := hE.1
  have o1 : oG m (wFl m 750 0 0 5) := oG_fl _ _ _ _ oG_refl
  have hbv := bVal_b (e_wo Id hE) (fun i => bLk_b Id (e (i - 1)) (e i)) (li := bLi A e) hf l
  obtain ⟨m1, y, v6, v7, v8, a1, a2, a3, a4⟩ := c_worthOf_31 hr Id hE hs hf l 0 (wFl m 750 0 0 5) 0 .null .null .null (by omega) (gK_o K o1.1) (rSt_o (gK_n1 K) St (oG_T o1)) (fun g hg => by
    rw [gI_wFl, gUr_m, if_pos (by omega)]; rfl) rfl
  have o2 := oG_tr o1 a2
  obtain ⟨y', b1, b2⟩ := c_worthOf_215 (c := c) (d := d) (n := n) (p := p) (gK_o K o2.1) Id h16 (rSt_o (gK_n1 K) St (oG_T o2)) a3 (x1 := Int32.ofNat r) (x2 := Int32.ofNat s) (base := bVal (bWo A e) (bLi A e) (tb s) l) (by omega) 5 0 y v6 v7 v8 rfl (by rw [a4]; exact (Int.add_zero _).symm)
  refine ⟨m1, y', ?_, o2, b2⟩
  rw [q_Mo_worthOf]
  exact (c_worthOf_8 5 0 m rfl K).trans (a1.trans b1)
end P68
