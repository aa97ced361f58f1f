/-! ===== lists: the reference's ===== -/
theorem gRl_hi {n a j : Nat} (hn : n = 700 ∨ n = 716) (h : 747 ≤ a) : gRl n a j = false := by
  unfold gRl
  have e1 : Nat.ble a 746 = false := by
    cases e : Nat.ble a 746 with
    | false => rfl
    | true => have := Nat.le_of_ble_eq_true e; omega
  have e2 : Nat.beq a 732 = false := by
    cases e : Nat.beq a 732 with
    | false => rfl
    | true => have := Nat.eq_of_beq_eq_true e; omega
  have e3 : Nat.beq a 698 = false := by
    cases e : Nat.beq a 698 with
    | false => rfl
    | true => have := Nat.eq_of_beq_eq_true e; omega
  have e4 : Nat.ble a (n + 15) = false := by
    cases e : Nat.ble a (n + 15) with
    | false => rfl
    | true => have := Nat.le_of_ble_eq_true e; omega
  rw [e1, e2, e3, e4]
  simp
theorem gRl_40 {n : Nat} (hn : n = 700 ∨ n = 716) : gRl n 698 40 = false := by rcases hn with rfl | rfl <;> rfl
theorem gRl_43 {n : Nat} (hn : n = 700 ∨ n = 716) : gRl n 698 43 = false := by rcases hn with rfl | rfl <;> rfl
/-- only the reference's lists have changed -/
def oI (m m1 : gd_M) : Prop := m1.2 = m.2 ∧ (∀ a, (a < 751 ∨ 757 < a) → a ≠ 698 → gI m1 a = gI m a) ∧ ∀ j, j ≠ 40 → j ≠ 43 → gI m1 698 j = gI m 698 j
theorem oI_refl {m : gd_M} : oI m m := ⟨rfl, fun _ _ _ => rfl, fun _ _ _ => rfl⟩
theorem oI_tr {m m1 m2 : gd_M} (h : oI m m1) (h2 : oI m1 m2) : oI m m2 := ⟨h2.1.trans h.1, fun b hb hn => (h2.2.1 b hb hn).trans (h.2.1 b hb hn), fun j h3 h4 => (h2.2.2 j h3 h4).trans (h.2.2 j h3 h4)⟩
theorem oI_w {m m1 : gd_M} {a k : Nat} {x : Int32} (h : oI m m1) (ha : 751 ≤ a ∧ a ≤ 757) : oI m (wI m1 a k x) := ⟨h.1, fun b hb hn => by rw [gI_wI_f (by omega)]; exact h.2.1 b hb hn, fun j h3 h4 => by rw [gI_wI_a (by omega)]; exact h.2.2 j h3 h4⟩
theorem oI_x {m m1 : gd_M} {k : Nat} {x : Int32} (h : oI m m1) (hk : k = 40 ∨ k = 43) : oI m (wI m1 698 k x) := ⟨h.1, fun b hb hn => by rw [gI_wI_f hn]; exact h.2.1 b hb hn, fun j h3 h4 => by rw [gI_wI_k (by omega)]; exact h.2.2 j h3 h4⟩
theorem oI_M {m m1 : gd_M} (h : oI m m1) : oM m m1 := ⟨h.1, fun a ha => h.2.1 a (by omega) (by omega)⟩
theorem gSm_oI {n : Nat} {m m1 : gd_M} {s : gd_C} (hn : n = 700 ∨ n = 716) (h : gSm n (gI m) s) (o : oI m m1) : gSm n (gI m1) s := fun a j q => by
  by_cases h1 : a = 698
  · subst h1
    by_cases h2 : j = 40
    · subst h2; rw [gRl_40 hn] at q; exact absurd q (by decide)
    · by_cases h3 : j = 43
      · subst h3; rw [gRl_43 hn] at q; exact absurd q (by decide)
      · rw [o.2.2 j h2 h3]; exact h 698 j q
  · by_cases h2 : 747 ≤ a
    · rw [gRl_hi hn h2] at q; exact absurd q (by decide)
    · rw [o.2.1 a (by omega) h1]; exact h a j q
theorem gCh_oI {n : Nat} {m m1 : gd_M} {s : gd_C} (h : gCh n (gI m) s) (o : oI m m1) : gCh n (gI m1) s := fun r hr q1 q2 => by
  rw [o.2.1 747 (by decide) (by decide), o.2.1 748 (by decide) (by decide)]
  rw [o.2.1 749 (by decide) (by decide)] at q2
  exact h r hr q1 q2
/-- what stays of the reference -/
def rK (n : Nat) (s : gd_C) (m m1 : gd_M) : Prop := oM m m1 ∧ gSm n (gI m1) s ∧ gCh n (gI m1) s
theorem rK_I {n : Nat} {s : gd_C} {m m1 m2 : gd_M} (hn : n = 700 ∨ n = 716) (h : rK n s m m1) (o : oI m1 m2) : rK n s m m2 := ⟨oM_tr h.1 (oI_M o), gSm_oI hn h.2.1 o, gCh_oI h.2.2 o⟩
theorem rK_T {n : Nat} {s : gd_C} {m m1 m2 : gd_M} (h : rK n s m m1) (o : oT m1 m2) (S : gSm n (gI m2) s) (H : gCh n (gI m2) s) : rK n s m m2 := ⟨oM_tr h.1 (oT_M o), S, H⟩
theorem rK_tr {n : Nat} {s : gd_C} {m m1 m2 : gd_M} (h : rK n s m m1) (h2 : rK n s m1 m2) : rK n s m m2 := ⟨oM_tr h.1 h2.1, h2.2⟩
/-- the reference's list in the memory -/
def mEn (n : Nat) (s : gd_C) (a j g : Nat) (m : gd_M) : Prop := gI m 751 j = Int32.ofNat g ∧ gI m 752 j = kS n s a g ∧ gI m 753 j = kE n s a g ∧ gI m 754 j = kD n s a g
def mLs (n : Nat) (s : gd_C) (a len : Nat) (L : Nat → Nat) (m : gd_M) : Prop := gI m 698 40 = Int32.ofNat len ∧ ∀ j < len, mEn n s a j (L j) m
theorem mEn_T {n : Nat} {s : gd_C} {a j g : Nat} {m m1 : gd_M} (h : mEn n s a j g m) (o : oT m m1) : mEn n s a j g m1 := by
  unfold mEn at h ⊢
  rw [o.2 751 (by decide), o.2 752 (by decide), o.2 753 (by decide), o.2 754 (by decide)]; exact h
theorem mLs_T {n : Nat} {s : gd_C} {a len : Nat} {L : Nat → Nat} {m m1 : gd_M} (h : mLs n s a len L m) (o : oT m m1) : mLs n s a len L m1 := ⟨by rw [o.2 698 (by decide)]; exact h.1, fun j hj => mEn_T (h.2 j hj) o⟩
/-- four cells written at once -/
def w4 (m : gd_M) (i : Nat) (x y z u : Int32) : gd_M := wI (wI (wI (wI m 751 i x) 752 i y) 753 i z) 754 i u
theorem w4_o {m : gd_M} {i : Nat} {x y z u : Int32} : oI m (w4 m i x y z u) := oI_w (oI_w (oI_w (oI_w oI_refl (by decide)) (by decide)) (by decide)) (by decide)
theorem w4_698 {m : gd_M} {i j : Nat} {x y z u : Int32} : gI (w4 m i x y z u) 698 j = gI m 698 j := by
  unfold w4; rw [gI_wI_a (by decide), gI_wI_a (by decide), gI_wI_a (by decide), gI_wI_a (by decide)]
theorem w4_s {n : Nat} {s : gd_C} {a i g : Nat} {m : gd_M} : mEn n s a i g (w4 m i (Int32.ofNat g) (kS n s a g) (kE n s a g) (kD n s a g)) := by
  unfold mEn w4
  refine ⟨?_, ?_, ?_, gI_wI_s⟩
  · rw [gI_wI_a (by decide), gI_wI_a (by decide), gI_wI_a (by decide), gI_wI_s]
  · rw [gI_wI_a (by decide), gI_wI_a (by decide), gI_wI_s]
  · rw [gI_wI_a (by decide), gI_wI_s]
theorem w4_k {n : Nat} {s : gd_C} {a i j g : Nat} {m : gd_M} {x y z u : Int32} (h : mEn n s a j g m) (hj : j ≠ i) : mEn n s a j g (w4 m i x y z u) := by
  obtain ⟨h1, h2, h3, h4⟩ := h
  unfold mEn w4
  refine ⟨?_, ?_, ?_, ?_⟩
  · rw [gI_wI_a (by decide), gI_wI_a (by decide), gI_wI_a (by decide), gI_wI_k hj]; exact h1
  · rw [gI_wI_a (by decide), gI_wI_a (by decide), gI_wI_k hj, gI_wI_a (by decide)]; exact h2
  · rw [gI_wI_a (by decide), gI_wI_k hj, gI_wI_a (by decide), gI_wI_a (by decide)]; exact h3
  · rw [gI_wI_k hj, gI_wI_a (by decide), gI_wI_a (by decide), gI_wI_a (by decide)]; exact h4
theorem mEn_x {n : Nat} {s : gd_C} {a j g k : Nat} {m : gd_M} {x : Int32} (h : mEn n s a j g m) : mEn n s a j g (wI m 698 k x) := h
section P86
variable {c d n p : Nat} {m : gd_M} {s : gd_C} {a g len : Nat} {L : Nat → Nat}
theorem c_isListed_34 (K : gK c d n p m) (S : gSm n (gI m) s) (hg : g < 40) {x2 : Int32} : ∀ j b, b + j = 4 → lP 4 (fun b => gPo s (4 * g + b)) b = true → gd_Den (166, 34, [.ref 698, .int (Int32.ofNat g), .int x2, .int (Int32.ofNat (4 * g + b))], [], m) = some (.int (gB (lP 4 (fun b => gPo s (4 * g + b)) 4)), m) := by
  intro j
  induction j with
  | zero =>
    intro b h hQ
    have : b = 4 := by omega
    subst this
    rw [q_Mo_isListed_34, gm4, show Int32.ofNat (4 * g) + 4 = Int32.ofNat (4 * g + 4) from gn_add (b := 4), if_neg Int32.lt_irrefl, hQ]; rfl
  | succ j ih =>
    intro b h hQ
    have hr : 4 * g + b < 160 := by omega
    have e1 : lP 4 (fun b => gPo s (4 * g + b)) (b + 1) = (lP 4 (fun b => gPo s (4 * g + b)) b && (lSk 4 b || gPo s (4 * g + b))) := rfl
    rw [hQ, lSk_4, Bool.false_or, Bool.true_and] at e1
    rw [q_Mo_isListed_34, gm4, show Int32.ofNat (4 * g) + 4 = Int32.ofNat (4 * g + 4) from gn_add (b := 4), if_pos ((gn_lt (by omega) (by omega)).2 (by omega))]
    simp only [gK_N K, gK_8_0 K, gK_8_1 K, gK_8_2 K, gK_8_3 K, gK_8_4 K, gK_8_5 K, gK_8_6 K, gK_8_7 K, gK_8_8 K, gK_10_0 K, gK_10_1 K, gK_10_2 K, gK_11_0 K, gK_15_0 K, gK_15_1 K, gK_15_2 K, gK_15_3 K, gK_20_0 K, gK_20_1 K, gK_20_2 K, gK_20_3 K, gK_20_4 K, gK_20_5 K, gK_698_0 K, gK_698_3 K, gK_698_16 K, gK_698_17 K, gK_698_20 K, gK_698_21 K, gK_698_22 K, gK_698_23 K, gK_698_24 K, gK_698_25 K, gK_698_26 K, gK_698_27 K, gK_698_28 K, gK_698_29 K, gK_698_30 K, gK_698_31 K, gK_698_32 K, gK_698_33 K, gK_698_34 K, gK_698_35 K, gK_698_36 K, gK_698_37 K, gK_698_38 K, gK_698_39 K, gK_698_41 K, gK_698_42 K, gK_698_44 K, gK_c K, gK_d K, gK_n K, gK_p K, gok_8, gok_10, gok_11, gok_15, gok_20, gok_698, gok_699, goA_9, goA_12, goA_13, goA_14, goA_16, goA_17, goA_18, goA_19, goA_21, goA_22, goA_23, goA_24, goA_25, goA_26, goA_27, goA_28, goA_29, goA_30, goA_31, goA_732, goA_733, goA_734, goA_735, goA_736, goA_737, goA_738, goA_739, goA_740, goA_741, goA_742, goA_743, goA_744, goA_745, goA_746, goA_747, goA_748, goA_749, goA_750, goA_751, goA_752, goA_753, goA_754, goA_755, goA_756, goA_757, gN_wI, gR_wI, gL_wI, if_true, eq_self]
    rw [c_MisPosted K hr S]
    simp only [gK_N K, gK_8_0 K, gK_8_1 K, gK_8_2 K, gK_8_3 K, gK_8_4 K, gK_8_5 K, gK_8_6 K, gK_8_7 K, gK_8_8 K, gK_10_0 K, gK_10_1 K, gK_10_2 K, gK_11_0 K, gK_15_0 K, gK_15_1 K, gK_15_2 K, gK_15_3 K, gK_20_0 K, gK_20_1 K, gK_20_2 K, gK_20_3 K, gK_20_4 K, gK_20_5 K, gK_698_0 K, gK_698_3 K, gK_698_16 K, gK_698_17 K, gK_698_20 K, gK_698_21 K, gK_698_22 K, gK_698_23 K, gK_698_24 K, gK_698_25 K, gK_698_26 K, gK_698_27 K, gK_698_28 K, gK_698_29 K, gK_698_30 K, gK_698_31 K, gK_698_32 K, gK_698_33 K, gK_698_34 K, gK_698_35 K, gK_698_36 K, gK_698_37 K, gK_698_38 K, gK_698_39 K, gK_698_41 K, gK_698_42 K, gK_698_44 K, gK_c K, gK_d K, gK_n K, gK_p K, gok_8, gok_10, gok_11, gok_15, gok_20, gok_698, gok_699, goA_9, goA_12, goA_13, goA_14, goA_16, goA_17, goA_18, goA_19, goA_21, goA_22, goA_23, goA_24, goA_25, goA_26, goA_27, goA_28, goA_29, goA_30, goA_31, goA_732, goA_733, goA_734, goA_735, goA_736, goA_737, goA_738, goA_739, goA_740, goA_741, goA_742, goA_743, goA_744, goA_745, goA_746, goA_747, goA_748, goA_749, goA_750, goA_751, goA_752, goA_753, goA_754, goA_755, goA_756, goA_757, gN_wI, gR_wI, gL_wI, if_true, eq_self, Option.bind_some, gd_kI_i, gB_0]
    cases q : gPo s (4 * g + b) with
    | false =>
      rw [q] at e1
      have h4 := lP_f e1 (4 - (b + 1))
      rw [show b + 1 + (4 - (b + 1)) = 4 by omega] at h4
      rw [h4]; rfl
    | true =>
      rw [q] at e1
      rw [if_neg (by decide), gn_succ]
      exact ih (b + 1) (by omega) e1
theorem c_isListed (K : gK c d n p m) (S : gSm n (gI m) s) (hg : g < 40) (ha : a < 5) : gd_call 166 [.ref 698, .int (Int32.ofNat g), .int (Int32.ofNat a)] m = some (.int (gB (lIn s a g)), m) := by
  rw [q_Mo_isListed]
  simp only [gK_N K, gK_8_0 K, gK_8_1 K, gK_8_2 K, gK_8_3 K, gK_8_4 K, gK_8_5 K, gK_8_6 K, gK_8_7 K, gK_8_8 K, gK_10_0 K, gK_10_1 K, gK_10_2 K, gK_11_0 K, gK_15_0 K, gK_15_1 K, gK_15_2 K, gK_15_3 K, gK_20_0 K, gK_20_1 K, gK_20_2 K, gK_20_3 K, gK_20_4 K, gK_20_5 K, gK_698_0 K, gK_698_3 K, gK_698_16 K, gK_698_17 K, gK_698_20 K, gK_698_21 K, gK_698_22 K, gK_698_23 K, gK_698_24 K, gK_698_25 K, gK_698_26 K, gK_698_27 K, gK_698_28 K, gK_698_29 K, gK_698_30 K, gK_698_31 K, gK_698_32 K, gK_698_33 K, gK_698_34 K, gK_698_35 K, gK_698_36 K, gK_698_37 K, gK_698_38 K, gK_698_39 K, gK_698_41 K, gK_698_42 K, gK_698_44 K, gK_c K, gK_d K, gK_n K, gK_p K, gok_8, gok_10, gok_11, gok_15, gok_20, gok_698, gok_699, goA_9, goA_12, goA_13, goA_14, goA_16, goA_17, goA_18, goA_19, goA_21, goA_22, goA_23, goA_24, goA_25, goA_26, goA_27, goA_28, goA_29, goA_30, goA_31, goA_732, goA_733, goA_734, goA_735, goA_736, goA_737, goA_738, goA_739, goA_740, goA_741, goA_742, goA_743, goA_744, goA_745, goA_746, goA_747, goA_748, goA_749, goA_750, goA_751, goA_752, goA_753, goA_754, goA_755, goA_756, goA_757, gN_wI, gR_wI, gL_wI, if_true, eq_self, gS_n K S, gS_n5 K S, gS_n6 K S, gS_n7 K S, gS_n8 K S, gS_n9 K S, gS_n10 K S, gS_n11 K S, gS_n12 K S, gS_n13 K S, gS_n14 K S, gS_n15 K S, gS_732 S, gS_735 S, gS_736 S, gS_737 S, gS_738 S, gS_739 S, gS_740 S, gS_741 S, gS_742 S, gS_743 S, gS_744 S, gS_745 S, gS_746 S, gS_698_4 S, gS_698_14 S, gS_698_15 S, gS_698_18 S, gS_698_19 S, gm5, gn_add]
  rw [gn_in (by omega) (show 5 * g + a < 200 by omega), if_pos rfl, gn_nat (show 5 * g + a < 2147483648 by omega)]
  unfold lIn
  by_cases q : s 737 (5 * g + a) = 0
  · rw [if_pos q, decide_eq_true q, Bool.true_and]
    by_cases h4 : a < 4
    · rw [if_pos ((gnlb_4 (by omega) (by decide)).2 h4), gm4, gn_add, c_MisPosted K (by omega) S, lP_1 h4]
      simp only [Option.bind_some, gd_kI_i]
      rw [if_pos gB_bo]
    · have : a = 4 := by omega
      subst this
      rw [if_neg (show ¬ Int32.ofNat 4 < 4 by decide), gm4]
      exact c_isListed_34 K S hg 4 0 (by omega) rfl
  · rw [if_neg q, decide_eq_false q]; rfl
theorem c_makeList_38 (I : iAll n s) (hg : g < 40) (ha : a < 5) (hQ : lP a (fun b => gPo s (4 * g + b)) 4 = true) : ∀ j b (m : gd_M), b + j = 4 → gK c d n p m → gSm n (gI m) s → gCh n (gI m) s → ∃ m', gd_Den (167, 38, [.ref 698, .int (Int32.ofNat a), .int (Int32.ofNat g), .int (lS a (fun b => lScr n s (4 * g + b)) b), .int (lS a (fun b => lExe n s (4 * g + b)) b), .int (lS a (fun b => lDif n s (4 * g + b)) b), .int (Int32.ofNat b)], [], m) = gd_Den (167, 113, [.ref 698, .int (Int32.ofNat a), .int (Int32.ofNat g), .int (kS n s a g), .int (kE n s a g), .int (kD n s a g), .int (gI m' 698 40)], [], m') ∧ oT m m' ∧ gSm n (gI m') s ∧ gCh n (gI m') s := by
  intro j
  induction j with
  | zero =>
    intro b m h K S H
    have : b = 4 := by omega
    subst this
    refine ⟨m, ?_, oT_refl, S, H⟩
    rw [q_Mo_makeList_38, if_neg (show ¬ Int32.ofNat 4 < 4 by decide)]
    simp only [gK_N K, gK_8_0 K, gK_8_1 K, gK_8_2 K, gK_8_3 K, gK_8_4 K, gK_8_5 K, gK_8_6 K, gK_8_7 K, gK_8_8 K, gK_10_0 K, gK_10_1 K, gK_10_2 K, gK_11_0 K, gK_15_0 K, gK_15_1 K, gK_15_2 K, gK_15_3 K, gK_20_0 K, gK_20_1 K, gK_20_2 K, gK_20_3 K, gK_20_4 K, gK_20_5 K, gK_698_0 K, gK_698_3 K, gK_698_16 K, gK_698_17 K, gK_698_20 K, gK_698_21 K, gK_698_22 K, gK_698_23 K, gK_698_24 K, gK_698_25 K, gK_698_26 K, gK_698_27 K, gK_698_28 K, gK_698_29 K, gK_698_30 K, gK_698_31 K, gK_698_32 K, gK_698_33 K, gK_698_34 K, gK_698_35 K, gK_698_36 K, gK_698_37 K, gK_698_38 K, gK_698_39 K, gK_698_41 K, gK_698_42 K, gK_698_44 K, gK_c K, gK_d K, gK_n K, gK_p K, gok_8, gok_10, gok_11, gok_15, gok_20, gok_698, gok_699, goA_9, goA_12, goA_13, goA_14, goA_16, goA_17, goA_18, goA_19, goA_21, goA_22, goA_23, goA_24, goA_25, goA_26, goA_27, goA_28, goA_29, goA_30, goA_31, goA_732, goA_733, goA_734, goA_735, goA_736, goA_737, goA_738, goA_739, goA_740, goA_741, goA_742, goA_743, goA_744, goA_745, goA_746, goA_747, goA_748, goA_749, goA_750, goA_751, goA_752, goA_753, goA_754, goA_755, goA_756, goA_757, gN_wI, gR_wI, gL_wI, if_true, eq_self]
    rfl
  | succ j ih =>
    intro b m h K S H
    have hr : 4 * g + b < 160 := by omega
    have s1 : ∀ S, lS a S (b + 1) = if lSk a b = true then lS a S b else lS a S b + S b := fun S => rfl
    have hgo : lSk a b = false → ∃ m', ((gd_call 144 [.ref 698, .int (Int32.ofNat (4 * g + b))] m).bind (gd_kI fun z10 m8 => if gd_ok (gN m8) 698 9 = true then ((gd_call 143 [.ref 698, .int (Int32.ofNat (4 * g + b))] m8).bind (gd_kI fun z14 m12 => if gd_ok (gN m12) 698 9 = true then ((gd_call 142 [.ref 698, .int (Int32.ofNat (4 * g + b))] m12).bind (gd_kI fun z18 m16 => gd_Den (167, 38, [.ref 698, .int (Int32.ofNat a), .int (Int32.ofNat g), .int ((lS a (fun b => lScr n s (4 * g + b)) b) + z10), .int ((lS a (fun b => lExe n s (4 * g + b)) b) + z14), .int ((lS a (fun b => lDif n s (4 * g + b)) b) + z18), .int (Int32.ofNat (b + 1))], [], m16))) else none)) else none)) = gd_Den (167, 113, [.ref 698, .int (Int32.ofNat a), .int (Int32.ofNat g), .int (kS n s a g), .int (kE n s a g), .int (kD n s a g), .int (gI m' 698 40)], [], m') ∧ oT m m' ∧ gSm n (gI m') s ∧ gCh n (gI m') s := fun hsk => by
      have hb1 : s 738 (4 * g + b) ≠ 0 := by
        have : gPo s (4 * g + b) = true := by
          cases q : gPo s (4 * g + b) with
          | true => rfl
          | false =>
            have e1 : lP a (fun b => gPo s (4 * g + b)) (b + 1) = (lP a (fun b => gPo s (4 * g + b)) b && (lSk a b || gPo s (4 * g + b))) := rfl
            rw [hsk, q, Bool.false_or, Bool.and_false] at e1
            have h4 := lP_f e1 (4 - (b + 1))
            rw [show b + 1 + (4 - (b + 1)) = 4 by omega, hQ] at h4
            exact absurd h4 (by decide)
        exact (gPo_t this).1
      obtain ⟨m1, a1, a2, a3, a4⟩ := c_scoreK K S H I hr hb1
      have K1 := gK_o K a2.1
      obtain ⟨m2, b1, b2, b3, b4⟩ := c_diffK K1 a3 a4 I hr hb1
      have K2 := gK_o K1 b2.1
      obtain ⟨m', d1, d2, d3, d4⟩ := ih (b + 1) m2 (by omega) K2 b3 b4
      refine ⟨m', ?_, oT_tr a2 (oT_tr b2 d2), d3, d4⟩
      rw [s1, s1, s1, if_neg (by rw [hsk]; decide), if_neg (by rw [hsk]; decide), if_neg (by rw [hsk]; decide)] at d1
      rw [a1]
      simp only [gK_N K1, gK_8_0 K1, gK_8_1 K1, gK_8_2 K1, gK_8_3 K1, gK_8_4 K1, gK_8_5 K1, gK_8_6 K1, gK_8_7 K1, gK_8_8 K1, gK_10_0 K1, gK_10_1 K1, gK_10_2 K1, gK_11_0 K1, gK_15_0 K1, gK_15_1 K1, gK_15_2 K1, gK_15_3 K1, gK_20_0 K1, gK_20_1 K1, gK_20_2 K1, gK_20_3 K1, gK_20_4 K1, gK_20_5 K1, gK_698_0 K1, gK_698_3 K1, gK_698_16 K1, gK_698_17 K1, gK_698_20 K1, gK_698_21 K1, gK_698_22 K1, gK_698_23 K1, gK_698_24 K1, gK_698_25 K1, gK_698_26 K1, gK_698_27 K1, gK_698_28 K1, gK_698_29 K1, gK_698_30 K1, gK_698_31 K1, gK_698_32 K1, gK_698_33 K1, gK_698_34 K1, gK_698_35 K1, gK_698_36 K1, gK_698_37 K1, gK_698_38 K1, gK_698_39 K1, gK_698_41 K1, gK_698_42 K1, gK_698_44 K1, gK_c K1, gK_d K1, gK_n K1, gK_p K1, gok_8, gok_10, gok_11, gok_15, gok_20, gok_698, gok_699, goA_9, goA_12, goA_13, goA_14, goA_16, goA_17, goA_18, goA_19, goA_21, goA_22, goA_23, goA_24, goA_25, goA_26, goA_27, goA_28, goA_29, goA_30, goA_31, goA_732, goA_733, goA_734, goA_735, goA_736, goA_737, goA_738, goA_739, goA_740, goA_741, goA_742, goA_743, goA_744, goA_745, goA_746, goA_747, goA_748, goA_749, goA_750, goA_751, goA_752, goA_753, goA_754, goA_755, goA_756, goA_757, gN_wI, gR_wI, gL_wI, if_true, eq_self, Option.bind_some, gd_kI_i]
      rw [c_judged K1 a3 I hr]
      simp only [gK_N K1, gK_8_0 K1, gK_8_1 K1, gK_8_2 K1, gK_8_3 K1, gK_8_4 K1, gK_8_5 K1, gK_8_6 K1, gK_8_7 K1, gK_8_8 K1, gK_10_0 K1, gK_10_1 K1, gK_10_2 K1, gK_11_0 K1, gK_15_0 K1, gK_15_1 K1, gK_15_2 K1, gK_15_3 K1, gK_20_0 K1, gK_20_1 K1, gK_20_2 K1, gK_20_3 K1, gK_20_4 K1, gK_20_5 K1, gK_698_0 K1, gK_698_3 K1, gK_698_16 K1, gK_698_17 K1, gK_698_20 K1, gK_698_21 K1, gK_698_22 K1, gK_698_23 K1, gK_698_24 K1, gK_698_25 K1, gK_698_26 K1, gK_698_27 K1, gK_698_28 K1, gK_698_29 K1, gK_698_30 K1, gK_698_31 K1, gK_698_32 K1, gK_698_33 K1, gK_698_34 K1, gK_698_35 K1, gK_698_36 K1, gK_698_37 K1, gK_698_38 K1, gK_698_39 K1, gK_698_41 K1, gK_698_42 K1, gK_698_44 K1, gK_c K1, gK_d K1, gK_n K1, gK_p K1, gok_8, gok_10, gok_11, gok_15, gok_20, gok_698, gok_699, goA_9, goA_12, goA_13, goA_14, goA_16, goA_17, goA_18, goA_19, goA_21, goA_22, goA_23, goA_24, goA_25, goA_26, goA_27, goA_28, goA_29, goA_30, goA_31, goA_732, goA_733, goA_734, goA_735, goA_736, goA_737, goA_738, goA_739, goA_740, goA_741, goA_742, goA_743, goA_744, goA_745, goA_746, goA_747, goA_748, goA_749, goA_750, goA_751, goA_752, goA_753, goA_754, goA_755, goA_756, goA_757, gN_wI, gR_wI, gL_wI, if_true, eq_self, Option.bind_some, gd_kI_i]
      rw [b1]
      simp only [Option.bind_some, gd_kI_i]
      exact d1
    rw [q_Mo_makeList_38, if_pos ((gnlb_4 (by omega) (by decide)).2 (by omega)), gm4, gn_add, gn_succ]
    simp only [gK_N K, gK_8_0 K, gK_8_1 K, gK_8_2 K, gK_8_3 K, gK_8_4 K, gK_8_5 K, gK_8_6 K, gK_8_7 K, gK_8_8 K, gK_10_0 K, gK_10_1 K, gK_10_2 K, gK_11_0 K, gK_15_0 K, gK_15_1 K, gK_15_2 K, gK_15_3 K, gK_20_0 K, gK_20_1 K, gK_20_2 K, gK_20_3 K, gK_20_4 K, gK_20_5 K, gK_698_0 K, gK_698_3 K, gK_698_16 K, gK_698_17 K, gK_698_20 K, gK_698_21 K, gK_698_22 K, gK_698_23 K, gK_698_24 K, gK_698_25 K, gK_698_26 K, gK_698_27 K, gK_698_28 K, gK_698_29 K, gK_698_30 K, gK_698_31 K, gK_698_32 K, gK_698_33 K, gK_698_34 K, gK_698_35 K, gK_698_36 K, gK_698_37 K, gK_698_38 K, gK_698_39 K, gK_698_41 K, gK_698_42 K, gK_698_44 K, gK_c K, gK_d K, gK_n K, gK_p K, gok_8, gok_10, gok_11, gok_15, gok_20, gok_698, gok_699, goA_9, goA_12, goA_13, goA_14, goA_16, goA_17, goA_18, goA_19, goA_21, goA_22, goA_23, goA_24, goA_25, goA_26, goA_27, goA_28, goA_29, goA_30, goA_31, goA_732, goA_733, goA_734, goA_735, goA_736, goA_737, goA_738, goA_739, goA_740, goA_741, goA_742, goA_743, goA_744, goA_745, goA_746, goA_747, goA_748, goA_749, goA_750, goA_751, goA_752, goA_753, goA_754, goA_755, goA_756, goA_757, gN_wI, gR_wI, gL_wI, if_true, eq_self]
    by_cases h4 : a < 4
    · rw [if_pos ((gnlb_4 (by omega) (by decide)).2 h4)]
      by_cases e : b = a
      · rw [if_pos (by rw [e])]
        exact hgo (by rw [e]; exact lSk_a)
      · rw [if_neg (fun q => e ((gn_eq (by omega) (by omega)).1 q))]
        obtain ⟨m', d1, d2, d3, d4⟩ := ih (b + 1) m (by omega) K S H
        refine ⟨m', ?_, d2, d3, d4⟩
        rw [s1, s1, s1, if_pos (lSk_n h4 e), if_pos (lSk_n h4 e), if_pos (lSk_n h4 e)] at d1
        exact d1
    · have : a = 4 := by omega
      subst this
      rw [if_neg (show ¬ Int32.ofNat 4 < 4 by decide)]
      exact hgo lSk_4
theorem c_makeList_113 (hg : g < 40) (hlen : len ≤ g) (hL : ∀ j < len, L j < g) : ∀ i (m : gd_M), i ≤ len → gK c d n p m → gI m 698 40 = Int32.ofNat len → (∀ j < i, mEn n s a j (L j) m) → (∀ j, i < j → j ≤ len → mEn n s a j (L (j - 1)) m) → ∃ m' v3 v4 v5 v6, gd_Den (167, 113, [.ref 698, .int (Int32.ofNat a), .int (Int32.ofNat g), .int (kS n s a g), .int (kE n s a g), .int (kD n s a g), .int (Int32.ofNat i)], [], m) = gd_Den (167, 7, [.ref 698, .int (Int32.ofNat a), .int (Int32.ofNat (g + 1)), v3, v4, v5, v6], [], m') ∧ oI m m' ∧ mLs n s a (len + 1) (lNw L (lPs (fun i => lBt n s a g (L i)) i) g) m' := by
  intro i
  induction i with
  | zero =>
    intro m _ K h40 hlo hhi
    refine ⟨wI (w4 m 0 (Int32.ofNat g) (kS n s a g) (kE n s a g) (kD n s a g)) 698 40 (Int32.ofNat (len + 1)), .int (kS n s a g), .int (kE n s a g), .int (kD n s a g), .int (Int32.ofNat 0), ?_, oI_x w4_o (.inl rfl), gI_wI_s, fun j hj => mEn_x ?_⟩
    · rw [q_Mo_makeList_113, if_neg (show ¬ (0 : Int32) < Int32.ofNat 0 by decide)]
      simp only [gK_N K, gK_8_0 K, gK_8_1 K, gK_8_2 K, gK_8_3 K, gK_8_4 K, gK_8_5 K, gK_8_6 K, gK_8_7 K, gK_8_8 K, gK_10_0 K, gK_10_1 K, gK_10_2 K, gK_11_0 K, gK_15_0 K, gK_15_1 K, gK_15_2 K, gK_15_3 K, gK_20_0 K, gK_20_1 K, gK_20_2 K, gK_20_3 K, gK_20_4 K, gK_20_5 K, gK_698_0 K, gK_698_3 K, gK_698_16 K, gK_698_17 K, gK_698_20 K, gK_698_21 K, gK_698_22 K, gK_698_23 K, gK_698_24 K, gK_698_25 K, gK_698_26 K, gK_698_27 K, gK_698_28 K, gK_698_29 K, gK_698_30 K, gK_698_31 K, gK_698_32 K, gK_698_33 K, gK_698_34 K, gK_698_35 K, gK_698_36 K, gK_698_37 K, gK_698_38 K, gK_698_39 K, gK_698_41 K, gK_698_42 K, gK_698_44 K, gK_c K, gK_d K, gK_n K, gK_p K, gok_8, gok_10, gok_11, gok_15, gok_20, gok_698, gok_699, goA_9, goA_12, goA_13, goA_14, goA_16, goA_17, goA_18, goA_19, goA_21, goA_22, goA_23, goA_24, goA_25, goA_26, goA_27, goA_28, goA_29, goA_30, goA_31, goA_732, goA_733, goA_734, goA_735, goA_736, goA_737, goA_738, goA_739, goA_740, goA_741, goA_742, goA_743, goA_744, goA_745, goA_746, goA_747, goA_748, goA_749, goA_750, goA_751, goA_752, goA_753, goA_754, goA_755, goA_756, goA_757, gN_wI, gR_wI, gL_wI, if_true, eq_self]
      rw [gn_in (by decide) (by decide), if_pos rfl, gn_nat (by decide), gn_succ]
      have e : gI (wI (wI (wI (wI m 751 0 (Int32.ofNat g)) 752 0 (kS n s a g)) 753 0 (kE n s a g)) 754 0 (kD n s a g)) 698 40 + 1 = Int32.ofNat (len + 1) := by
        rw [gI_wI_a (by decide), gI_wI_a (by decide), gI_wI_a (by decide), gI_wI_a (by decide), h40, gn_succ]
      rw [e]; rfl
    · show mEn n s a j (if j < 0 then L j else if j = 0 then g else L (j - 1)) _
      rw [if_neg (Nat.not_lt_zero j)]
      by_cases e : j = 0
      · rw [if_pos e, e]; exact w4_s
      · rw [if_neg e]; exact w4_k (hhi j (by omega) (by omega)) e
  | succ i ih =>
    intro m hi K h40 hlo hhi
    obtain ⟨l1, l2, l3, l4⟩ := hlo i (by omega)
    have i0 : gd_in (Int32.ofNat i) 40 = true := gn_in (by omega) (by omega)
    have i1 : gd_in (Int32.ofNat (i + 1)) 40 = true := gn_in (by omega) (by omega)
    have n0 : (Int32.ofNat i).toNatClampNeg = i := gn_nat (by omega)
    have n1 : (Int32.ofNat (i + 1)).toNatClampNeg = i + 1 := gn_nat (by omega)
    have t2 : ∀ x, gI (wI m 751 (i + 1) x) 752 i = kS n s a (L i) := fun x => (gI_wI_a (by decide)).trans l2
    have t3 : ∀ x y, gI (wI (wI m 751 (i + 1) x) 752 (i + 1) y) 753 i = kE n s a (L i) := fun x y => (gI_wI_a (by decide)).trans ((gI_wI_a (by decide)).trans l3)
    have t4 : ∀ x y z, gI (wI (wI (wI m 751 (i + 1) x) 752 (i + 1) y) 753 (i + 1) z) 754 i = kD n s a (L i) := fun x y z => (gI_wI_a (by decide)).trans ((gI_wI_a (by decide)).trans ((gI_wI_a (by decide)).trans l4))
    have t5 : ∀ x y z u, gI (wI (wI (wI (wI m 751 (i + 1) x) 752 (i + 1) y) 753 (i + 1) z) 754 (i + 1) u) 698 40 = Int32.ofNat len := fun x y z u => (gI_wI_a (by decide)).trans ((gI_wI_a (by decide)).trans ((gI_wI_a (by decide)).trans ((gI_wI_a (by decide)).trans h40)))
    have hput : lBt n s a g (L i) = false → ∃ m' v3 v4 v5 v6, gd_Den (167, 7, [.ref 698, .int (Int32.ofNat a), .int (Int32.ofNat (g + 1)), .int (kS n s a g), .int (kE n s a g), .int (kD n s a g), .int (Int32.ofNat (i + 1))], [], wI (wI (wI (wI (wI m 751 (i + 1) (Int32.ofNat g)) 752 (i + 1) (kS n s a g)) 753 (i + 1) (kE n s a g)) 754 (i + 1) (kD n s a g)) 698 40 (Int32.ofNat (len + 1))) = gd_Den (167, 7, [.ref 698, .int (Int32.ofNat a), .int (Int32.ofNat (g + 1)), v3, v4, v5, v6], [], m') ∧ oI m m' ∧ mLs n s a (len + 1) (lNw L (lPs (fun i => lBt n s a g (L i)) (i + 1)) g) m' := fun hq => by
      refine ⟨wI (w4 m (i + 1) (Int32.ofNat g) (kS n s a g) (kE n s a g) (kD n s a g)) 698 40 (Int32.ofNat (len + 1)), _, _, _, _, rfl, oI_x w4_o (.inl rfl), gI_wI_s, fun j hj => mEn_x ?_⟩
      have eP : lPs (fun i => lBt n s a g (L i)) (i + 1) = i + 1 := if_neg (by show ¬ lBt n s a g (L i) = true; rw [hq]; decide)
      rw [eP]
      show mEn n s a j (if j < i + 1 then L j else if j = i + 1 then g else L (j - 1)) _
      by_cases e : j = i + 1
      · rw [if_neg (by omega), if_pos e, e]; exact w4_s
      · rw [if_neg e]
        by_cases e2 : j < i + 1
        · rw [if_pos e2]; exact w4_k (hlo j e2) e
        · rw [if_neg e2]; exact w4_k (hhi j (by omega) (by omega)) e
    have hmv : lBt n s a g (L i) = true → ∃ m' v3 v4 v5 v6, gd_Den (167, 113, [.ref 698, .int (Int32.ofNat a), .int (Int32.ofNat g), .int (kS n s a g), .int (kE n s a g), .int (kD n s a g), .int (Int32.ofNat i)], [], wI (wI (wI (wI m 751 (i + 1) (Int32.ofNat (L i))) 752 (i + 1) (kS n s a (L i))) 753 (i + 1) (kE n s a (L i))) 754 (i + 1) (kD n s a (L i))) = gd_Den (167, 7, [.ref 698, .int (Int32.ofNat a), .int (Int32.ofNat (g + 1)), v3, v4, v5, v6], [], m') ∧ oI m m' ∧ mLs n s a (len + 1) (lNw L (lPs (fun i => lBt n s a g (L i)) (i + 1)) g) m' := fun hq => by
      have eP : lPs (fun i => lBt n s a g (L i)) (i + 1) = lPs (fun i => lBt n s a g (L i)) i := if_pos (by show lBt n s a g (L i) = true; exact hq)
      rw [eP]
      obtain ⟨m', v3, v4, v5, v6, b1, b2, b3⟩ := ih (w4 m (i + 1) (Int32.ofNat (L i)) (kS n s a (L i)) (kE n s a (L i)) (kD n s a (L i))) (by omega) K (w4_698.trans h40) (fun j hj => w4_k (hlo j (by omega)) (by omega)) (fun j h1 h2 => by
        by_cases e : j = i + 1
        · rw [e]; exact w4_s
        · exact w4_k (hhi j (by omega) h2) e)
      exact ⟨m', v3, v4, v5, v6, b1, oI_tr w4_o b2, b3⟩
    rw [q_Mo_makeList_113, if_pos ((gnla_0 (by decide) (by omega)).2 (Nat.succ_pos i)), gn_s1, gn_m1, gn_succ]
    simp only [gK_N K, gK_8_0 K, gK_8_1 K, gK_8_2 K, gK_8_3 K, gK_8_4 K, gK_8_5 K, gK_8_6 K, gK_8_7 K, gK_8_8 K, gK_10_0 K, gK_10_1 K, gK_10_2 K, gK_11_0 K, gK_15_0 K, gK_15_1 K, gK_15_2 K, gK_15_3 K, gK_20_0 K, gK_20_1 K, gK_20_2 K, gK_20_3 K, gK_20_4 K, gK_20_5 K, gK_698_0 K, gK_698_3 K, gK_698_16 K, gK_698_17 K, gK_698_20 K, gK_698_21 K, gK_698_22 K, gK_698_23 K, gK_698_24 K, gK_698_25 K, gK_698_26 K, gK_698_27 K, gK_698_28 K, gK_698_29 K, gK_698_30 K, gK_698_31 K, gK_698_32 K, gK_698_33 K, gK_698_34 K, gK_698_35 K, gK_698_36 K, gK_698_37 K, gK_698_38 K, gK_698_39 K, gK_698_41 K, gK_698_42 K, gK_698_44 K, gK_c K, gK_d K, gK_n K, gK_p K, gok_8, gok_10, gok_11, gok_15, gok_20, gok_698, gok_699, goA_9, goA_12, goA_13, goA_14, goA_16, goA_17, goA_18, goA_19, goA_21, goA_22, goA_23, goA_24, goA_25, goA_26, goA_27, goA_28, goA_29, goA_30, goA_31, goA_732, goA_733, goA_734, goA_735, goA_736, goA_737, goA_738, goA_739, goA_740, goA_741, goA_742, goA_743, goA_744, goA_745, goA_746, goA_747, goA_748, goA_749, goA_750, goA_751, goA_752, goA_753, goA_754, goA_755, goA_756, goA_757, gN_wI, gR_wI, gL_wI, if_true, eq_self, i0, i1, n0, n1, l1, l2, l3, l4, t2, t3, t4, t5, gn_succ]
    by_cases q1 : kS n s a g = kS n s a (L i)
    · rw [if_pos q1]
      by_cases q2 : kE n s a g = kE n s a (L i)
      · rw [if_pos q2]
        by_cases q3 : kD n s a (L i) < kD n s a g
        · rw [if_pos q3]; exact hmv (by unfold lBt; rw [if_pos q1, if_pos q2, decide_eq_true q3])
        · rw [if_neg q3]; exact hput (by unfold lBt; rw [if_pos q1, if_pos q2, decide_eq_false q3])
      · rw [if_neg q2]
        by_cases q3 : kE n s a g < kE n s a (L i)
        · rw [if_pos q3]; exact hmv (by unfold lBt; rw [if_pos q1, if_neg q2, decide_eq_true q3])
        · rw [if_neg q3]; exact hput (by unfold lBt; rw [if_pos q1, if_neg q2, decide_eq_false q3])
    · rw [if_neg q1]
      by_cases q3 : kS n s a (L i) < kS n s a g
      · rw [if_pos q3]; exact hmv (by unfold lBt; rw [if_neg q1, decide_eq_true q3])
      · rw [if_neg q3]; exact hput (by unfold lBt; rw [if_neg q1, decide_eq_false q3])
theorem c_makeList_7 (I : iAll n s) {P : Nat} (hP : s 698 18 = Int32.ofNat P) (hP2 : P ≤ 40) (ha : a < 5) : ∀ j g (m : gd_M) v3 v4 v5 v6, g + j = P → gK c d n p m → gSm n (gI m) s → gCh n (gI m) s → mLs n s a (lLi n s a g).1 (lLi n s a g).2 m → ∃ m', gd_Den (167, 7, [.ref 698, .int (Int32.ofNat a), .int (Int32.ofNat g), v3, v4, v5, v6], [], m) = some (.null, m') ∧ rK n s m m' ∧ mLs n s a (lLi n s a P).1 (lLi n s a P).2 m' := by
  intro j
  induction j with
  | zero =>
    intro g m v3 v4 v5 v6 h K S H B
    have : g = P := by omega
    subst this
    refine ⟨m, ?_, ⟨oM_refl, S, H⟩, B⟩
    rw [q_Mo_makeList_7]
    simp only [gK_N K, gK_8_0 K, gK_8_1 K, gK_8_2 K, gK_8_3 K, gK_8_4 K, gK_8_5 K, gK_8_6 K, gK_8_7 K, gK_8_8 K, gK_10_0 K, gK_10_1 K, gK_10_2 K, gK_11_0 K, gK_15_0 K, gK_15_1 K, gK_15_2 K, gK_15_3 K, gK_20_0 K, gK_20_1 K, gK_20_2 K, gK_20_3 K, gK_20_4 K, gK_20_5 K, gK_698_0 K, gK_698_3 K, gK_698_16 K, gK_698_17 K, gK_698_20 K, gK_698_21 K, gK_698_22 K, gK_698_23 K, gK_698_24 K, gK_698_25 K, gK_698_26 K, gK_698_27 K, gK_698_28 K, gK_698_29 K, gK_698_30 K, gK_698_31 K, gK_698_32 K, gK_698_33 K, gK_698_34 K, gK_698_35 K, gK_698_36 K, gK_698_37 K, gK_698_38 K, gK_698_39 K, gK_698_41 K, gK_698_42 K, gK_698_44 K, gK_c K, gK_d K, gK_n K, gK_p K, gok_8, gok_10, gok_11, gok_15, gok_20, gok_698, gok_699, goA_9, goA_12, goA_13, goA_14, goA_16, goA_17, goA_18, goA_19, goA_21, goA_22, goA_23, goA_24, goA_25, goA_26, goA_27, goA_28, goA_29, goA_30, goA_31, goA_732, goA_733, goA_734, goA_735, goA_736, goA_737, goA_738, goA_739, goA_740, goA_741, goA_742, goA_743, goA_744, goA_745, goA_746, goA_747, goA_748, goA_749, goA_750, goA_751, goA_752, goA_753, goA_754, goA_755, goA_756, goA_757, gN_wI, gR_wI, gL_wI, if_true, eq_self, gS_n K S, gS_n5 K S, gS_n6 K S, gS_n7 K S, gS_n8 K S, gS_n9 K S, gS_n10 K S, gS_n11 K S, gS_n12 K S, gS_n13 K S, gS_n14 K S, gS_n15 K S, gS_732 S, gS_735 S, gS_736 S, gS_737 S, gS_738 S, gS_739 S, gS_740 S, gS_741 S, gS_742 S, gS_743 S, gS_744 S, gS_745 S, gS_746 S, gS_698_4 S, gS_698_14 S, gS_698_15 S, gS_698_18 S, gS_698_19 S]
    rw [hP, if_neg (fun q => by have := (gn_lt (by omega) (by omega)).1 q; omega)]
  | succ j ih =>
    intro g m v3 v4 v5 v6 h K S H B
    have hn := gK_n1 K
    have hlt := lLi_lt (n := n) (s := s) (a := a) g
    rw [q_Mo_makeList_7]
    simp only [gK_N K, gK_8_0 K, gK_8_1 K, gK_8_2 K, gK_8_3 K, gK_8_4 K, gK_8_5 K, gK_8_6 K, gK_8_7 K, gK_8_8 K, gK_10_0 K, gK_10_1 K, gK_10_2 K, gK_11_0 K, gK_15_0 K, gK_15_1 K, gK_15_2 K, gK_15_3 K, gK_20_0 K, gK_20_1 K, gK_20_2 K, gK_20_3 K, gK_20_4 K, gK_20_5 K, gK_698_0 K, gK_698_3 K, gK_698_16 K, gK_698_17 K, gK_698_20 K, gK_698_21 K, gK_698_22 K, gK_698_23 K, gK_698_24 K, gK_698_25 K, gK_698_26 K, gK_698_27 K, gK_698_28 K, gK_698_29 K, gK_698_30 K, gK_698_31 K, gK_698_32 K, gK_698_33 K, gK_698_34 K, gK_698_35 K, gK_698_36 K, gK_698_37 K, gK_698_38 K, gK_698_39 K, gK_698_41 K, gK_698_42 K, gK_698_44 K, gK_c K, gK_d K, gK_n K, gK_p K, gok_8, gok_10, gok_11, gok_15, gok_20, gok_698, gok_699, goA_9, goA_12, goA_13, goA_14, goA_16, goA_17, goA_18, goA_19, goA_21, goA_22, goA_23, goA_24, goA_25, goA_26, goA_27, goA_28, goA_29, goA_30, goA_31, goA_732, goA_733, goA_734, goA_735, goA_736, goA_737, goA_738, goA_739, goA_740, goA_741, goA_742, goA_743, goA_744, goA_745, goA_746, goA_747, goA_748, goA_749, goA_750, goA_751, goA_752, goA_753, goA_754, goA_755, goA_756, goA_757, gN_wI, gR_wI, gL_wI, if_true, eq_self, gS_n K S, gS_n5 K S, gS_n6 K S, gS_n7 K S, gS_n8 K S, gS_n9 K S, gS_n10 K S, gS_n11 K S, gS_n12 K S, gS_n13 K S, gS_n14 K S, gS_n15 K S, gS_732 S, gS_735 S, gS_736 S, gS_737 S, gS_738 S, gS_739 S, gS_740 S, gS_741 S, gS_742 S, gS_743 S, gS_744 S, gS_745 S, gS_746 S, gS_698_4 S, gS_698_14 S, gS_698_15 S, gS_698_18 S, gS_698_19 S]
    rw [hP, if_pos ((gn_lt (by omega) (by omega)).2 (by omega)), c_isListed K S (by omega) ha]
    simp only [Option.bind_some, gd_kI_i, gB_0]
    cases q : lIn s a g with
    | false =>
      have e : lLi n s a (g + 1) = lLi n s a g := if_neg (by rw [q]; decide)
      rw [if_pos rfl, gn_succ]
      exact ih (g + 1) m v3 v4 v5 v6 (by omega) K S H (by rw [e]; exact B)
    | true =>
      have e : lLi n s a (g + 1) = ((lLi n s a g).1 + 1, lNw (lLi n s a g).2 (lPs (fun i => lBt n s a g ((lLi n s a g).2 i)) (lLi n s a g).1) g) := if_pos q
      have hQ : lP a (fun b => gPo s (4 * g + b)) 4 = true := (Bool.and_eq_true_iff.1 q).2
      rw [if_neg (by decide)]
      obtain ⟨m1, a1, a2, a3, a4⟩ := c_makeList_38 I (show g < 40 by omega) ha hQ 4 0 m (by omega) K S H
      have K1 := gK_o K a2.1
      have B1 := mLs_T B a2
      obtain ⟨m2, w3, w4, w5, w6, b1, b2, b3⟩ := c_makeList_113 (s := s) (n := n) (a := a) (show g < 40 by omega) hlt.1 hlt.2 (lLi n s a g).1 m1 (Nat.le_refl _) K1 B1.1 (fun j hj => B1.2 j hj) (fun j h1 h2 => by omega)
      have K2 := gK_o K1 b2.1
      obtain ⟨m', d1, d2, d3⟩ := ih (g + 1) m2 w3 w4 w5 w6 (by omega) K2 (gSm_oI hn a3 b2) (gCh_oI a4 b2) (by rw [e]; exact b3)
      refine ⟨m', ?_, rK_tr (rK_I hn ⟨oT_M a2, a3, a4⟩ b2) d2, d3⟩
      refine Eq.trans a1 ?_
      rw [B1.1]
      exact b1.trans d1
theorem c_makeList (K : gK c d n p m) (S : gSm n (gI m) s) (H : gCh n (gI m) s) (I : iAll n s) {P : Nat} (hP : s 698 18 = Int32.ofNat P) (hP2 : P ≤ 40) (ha : a < 5) : ∃ m', gd_call 167 [.ref 698, .int (Int32.ofNat a)] m = some (.null, m') ∧ rK n s m m' ∧ mLs n s a (lLi n s a P).1 (lLi n s a P).2 m' := by
  have hn := gK_n1 K
  have o1 : oI m (wI m 698 40 0) := oI_x oI_refl (.inl rfl)
  obtain ⟨m', a1, a2, a3⟩ := c_makeList_7 (c := c) (d := d) (p := p) I hP hP2 ha P 0 (wI m 698 40 0) .null .null .null .null (by omega) K (gSm_oI hn S o1) (gCh_oI H o1) ⟨gI_wI_s, fun j hj => absurd hj (Nat.not_lt_zero j)⟩
  refine ⟨m', ?_, rK_tr ⟨oI_M o1, gSm_oI hn S o1, gCh_oI H o1⟩ a2, a3⟩
  rw [q_Mo_makeList]
  simp only [gK_N K, gK_8_0 K, gK_8_1 K, gK_8_2 K, gK_8_3 K, gK_8_4 K, gK_8_5 K, gK_8_6 K, gK_8_7 K, gK_8_8 K, gK_10_0 K, gK_10_1 K, gK_10_2 K, gK_11_0 K, gK_15_0 K, gK_15_1 K, gK_15_2 K, gK_15_3 K, gK_20_0 K, gK_20_1 K, gK_20_2 K, gK_20_3 K, gK_20_4 K, gK_20_5 K, gK_698_0 K, gK_698_3 K, gK_698_16 K, gK_698_17 K, gK_698_20 K, gK_698_21 K, gK_698_22 K, gK_698_23 K, gK_698_24 K, gK_698_25 K, gK_698_26 K, gK_698_27 K, gK_698_28 K, gK_698_29 K, gK_698_30 K, gK_698_31 K, gK_698_32 K, gK_698_33 K, gK_698_34 K, gK_698_35 K, gK_698_36 K, gK_698_37 K, gK_698_38 K, gK_698_39 K, gK_698_41 K, gK_698_42 K, gK_698_44 K, gK_c K, gK_d K, gK_n K, gK_p K, gok_8, gok_10, gok_11, gok_15, gok_20, gok_698, gok_699, goA_9, goA_12, goA_13, goA_14, goA_16, goA_17, goA_18, goA_19, goA_21, goA_22, goA_23, goA_24, goA_25, goA_26, goA_27, goA_28, goA_29, goA_30, goA_31, goA_732, goA_733, goA_734, goA_735, goA_736, goA_737, goA_738, goA_739, goA_740, goA_741, goA_742, goA_743, goA_744, goA_745, goA_746, goA_747, goA_748, goA_749, goA_750, goA_751, goA_752, goA_753, goA_754, goA_755, goA_756, goA_757, gN_wI, gR_wI, gL_wI, if_true, eq_self]
  exact a1
end P86
