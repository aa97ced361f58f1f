/-! ===== finals ===== -/
/-- how many of each land, how many, who: of the first k of the list -/
def fN (la L : Nat → Nat) (most mol : Nat) : Nat → (Nat → Nat) × Nat × (Nat → Nat)
  | 0 => (fun _ => 0, 0, fun _ => 0)
  | k + 1 => if (fN la L most mol k).2.1 < most ∧ (fN la L most mol k).1 (la (L k)) < mol then (fun l => if l = la (L k) then (fN la L most mol k).1 l + 1 else (fN la L most mol k).1 l, (fN la L most mol k).2.1 + 1, fun j => if j = (fN la L most mol k).2.1 then L k else (fN la L most mol k).2.2 j) else fN la L most mol k
theorem fN_y {la L : Nat → Nat} {most mol k : Nat} (h1 : (fN la L most mol k).2.1 < most) (h2 : (fN la L most mol k).1 (la (L k)) < mol) : fN la L most mol (k + 1) = (fun l => if l = la (L k) then (fN la L most mol k).1 l + 1 else (fN la L most mol k).1 l, (fN la L most mol k).2.1 + 1, fun j => if j = (fN la L most mol k).2.1 then L k else (fN la L most mol k).2.2 j) := if_pos ⟨h1, h2⟩
theorem fN_n {la L : Nat → Nat} {most mol k : Nat} (h : ¬ ((fN la L most mol k).2.1 < most ∧ (fN la L most mol k).1 (la (L k)) < mol)) : fN la L most mol (k + 1) = fN la L most mol k := if_neg h
theorem fN_b {la L : Nat → Nat} {most mol : Nat} : ∀ k, (fN la L most mol k).2.1 ≤ k ∧ (fN la L most mol k).2.1 ≤ most ∧ ∀ l, (fN la L most mol k).1 l ≤ mol := by
  intro k
  induction k with
  | zero => exact ⟨Nat.le_refl 0, Nat.zero_le _, fun _ => Nat.zero_le _⟩
  | succ k ih =>
    obtain ⟨i1, i2, i3⟩ := ih
    by_cases h : (fN la L most mol k).2.1 < most ∧ (fN la L most mol k).1 (la (L k)) < mol
    · rw [fN_y h.1 h.2]
      refine ⟨Nat.succ_le_succ i1, h.1, fun l => ?_⟩
      show (if l = la (L k) then (fN la L most mol k).1 l + 1 else (fN la L most mol k).1 l) ≤ mol
      by_cases e : l = la (L k)
      · rw [if_pos e, e]; exact h.2
      · rw [if_neg e]; exact i3 l
    · rw [fN_n h]
      exact ⟨by omega, i2, i3⟩
theorem fN_stop {la L : Nat → Nat} {most mol k : Nat} (h : ¬ (fN la L most mol k).2.1 < most) : ∀ j, fN la L most mol (k + j) = fN la L most mol k := by
  intro j
  induction j with
  | zero => rfl
  | succ j ih =>
    have e : fN la L most mol (k + j + 1) = fN la L most mol (k + j) := fN_n (by rw [ih]; exact fun q => h q.1)
    show fN la L most mol (k + j + 1) = _
    rw [e, ih]
/-- the class's final: of each land, how many, who -/
def cFi (la L : Nat → Nat) (most mol k : Nat) (m : gd_M) : Prop := gI m 20 7 = Int32.ofNat (fN la L most mol k).2.1 ∧ (∀ l < 10, gI m 26 l = Int32.ofNat ((fN la L most mol k).1 l)) ∧ ∀ j < (fN la L most mol k).2.1, gI m 25 j = Int32.ofNat ((fN la L most mol k).2.2 j)
def mFi (la L : Nat → Nat) (most mol k : Nat) (m : gd_M) : Prop := gI m 698 43 = Int32.ofNat (fN la L most mol k).2.1 ∧ (∀ l < 10, gI m 755 l = Int32.ofNat ((fN la L most mol k).1 l)) ∧ ∀ j < (fN la L most mol k).2.1, gI m 756 j = Int32.ofNat ((fN la L most mol k).2.2 j)
section P87
variable {c d n p : Nat} {m : gd_M} {s : gd_C} {a len most mol : Nat} {L la : Nat → Nat}
theorem c_fin_3 (hm : most ≤ 10) {x2 : Int32} : ∀ j i (m : gd_M), i + j = 10 → gK c d n p m → gd_Den (170, 3, [.ref 20, .int (Int32.ofNat most), .int x2, .ref 28, .int (Int32.ofNat i), .null, .null], [], m) = gd_Den (170, 40, [.ref 20, .int (Int32.ofNat most), .int x2, .ref 28, .int (Int32.ofNat most), .int 0, .null], [], wI (wFl m 26 i 0 j) 20 7 0) := by
  intro j
  induction j with
  | zero =>
    intro i m h K
    have : i = 10 := by omega
    subst this
    have K1 : gK c d n p (wI m 20 7 0) := K
    rw [q_Ra_callFinal_3, if_neg (show ¬ Int32.ofNat 10 < 10 by decide)]
    simp only [gK_N K, gK_8_0 K, gK_8_1 K, gK_8_2 K, gK_8_3 K, gK_8_4 K, gK_8_5 K, gK_8_6 K, gK_8_7 K, gK_8_8 K, gK_10_0 K, gK_10_1 K, gK_10_2 K, gK_11_0 K, gK_15_0 K, gK_15_1 K, gK_15_2 K, gK_15_3 K, gK_20_0 K, gK_20_1 K, gK_20_2 K, gK_20_3 K, gK_20_4 K, gK_20_5 K, gK_698_0 K, gK_698_3 K, gK_698_16 K, gK_698_17 K, gK_698_20 K, gK_698_21 K, gK_698_22 K, gK_698_23 K, gK_698_24 K, gK_698_25 K, gK_698_26 K, gK_698_27 K, gK_698_28 K, gK_698_29 K, gK_698_30 K, gK_698_31 K, gK_698_32 K, gK_698_33 K, gK_698_34 K, gK_698_35 K, gK_698_36 K, gK_698_37 K, gK_698_38 K, gK_698_39 K, gK_698_41 K, gK_698_42 K, gK_698_44 K, gK_c K, gK_d K, gK_n K, gK_p K, gok_8, gok_10, gok_11, gok_15, gok_20, gok_698, gok_699, goA_9, goA_12, goA_13, goA_14, goA_16, goA_17, goA_18, goA_19, goA_21, goA_22, goA_23, goA_24, goA_25, goA_26, goA_27, goA_28, goA_29, goA_30, goA_31, goA_732, goA_733, goA_734, goA_735, goA_736, goA_737, goA_738, goA_739, goA_740, goA_741, goA_742, goA_743, goA_744, goA_745, goA_746, goA_747, goA_748, goA_749, goA_750, goA_751, goA_752, goA_753, goA_754, goA_755, goA_756, goA_757, gN_wI, gR_wI, gL_wI, if_true, eq_self]
    rw [q_Ma_min, if_neg (fun q : (10 : Int32) < Int32.ofNat most => by have := (gn_lt (b := most) (a := 10) (by decide) (by omega)).1 (show Int32.ofNat 10 < Int32.ofNat most from q); omega)]
    rfl
  | succ j ih =>
    intro i m h K
    rw [q_Ra_callFinal_3, if_pos ((gnlb_10 (by omega) (by decide)).2 (by omega))]
    simp only [gK_N K, gK_8_0 K, gK_8_1 K, gK_8_2 K, gK_8_3 K, gK_8_4 K, gK_8_5 K, gK_8_6 K, gK_8_7 K, gK_8_8 K, gK_10_0 K, gK_10_1 K, gK_10_2 K, gK_11_0 K, gK_15_0 K, gK_15_1 K, gK_15_2 K, gK_15_3 K, gK_20_0 K, gK_20_1 K, gK_20_2 K, gK_20_3 K, gK_20_4 K, gK_20_5 K, gK_698_0 K, gK_698_3 K, gK_698_16 K, gK_698_17 K, gK_698_20 K, gK_698_21 K, gK_698_22 K, gK_698_23 K, gK_698_24 K, gK_698_25 K, gK_698_26 K, gK_698_27 K, gK_698_28 K, gK_698_29 K, gK_698_30 K, gK_698_31 K, gK_698_32 K, gK_698_33 K, gK_698_34 K, gK_698_35 K, gK_698_36 K, gK_698_37 K, gK_698_38 K, gK_698_39 K, gK_698_41 K, gK_698_42 K, gK_698_44 K, gK_c K, gK_d K, gK_n K, gK_p K, gok_8, gok_10, gok_11, gok_15, gok_20, gok_698, gok_699, goA_9, goA_12, goA_13, goA_14, goA_16, goA_17, goA_18, goA_19, goA_21, goA_22, goA_23, goA_24, goA_25, goA_26, goA_27, goA_28, goA_29, goA_30, goA_31, goA_732, goA_733, goA_734, goA_735, goA_736, goA_737, goA_738, goA_739, goA_740, goA_741, goA_742, goA_743, goA_744, goA_745, goA_746, goA_747, goA_748, goA_749, goA_750, goA_751, goA_752, goA_753, goA_754, goA_755, goA_756, goA_757, gN_wI, gR_wI, gL_wI, if_true, eq_self]
    rw [gn_in (by omega) (show i < 10 by omega), if_pos rfl, gn_nat (by omega), gn_succ]
    exact ih (i + 1) _ (by omega) K
theorem c_fin_40 (hm : most ≤ 10) (hmol : mol ≤ 10) (hlen : len ≤ 40) (hL : ∀ j < len, L j < 40) (hla : ∀ g, la g < 10) {x1 : Int32} : ∀ j k (m : gd_M) v, k + j = len → gK c d n p m → gI m 20 6 = Int32.ofNat len → (∀ j < len, gI m 21 j = Int32.ofNat (L j)) → (∀ g, gI m 28 g = Int32.ofNat (la g)) → cFi la L most mol k m → ∃ m', gd_Den (170, 40, [.ref 20, .int x1, .int (Int32.ofNat mol), .ref 28, .int (Int32.ofNat most), .int (Int32.ofNat k), v], [], m) = some (.null, m') ∧ m'.2 = m.2 ∧ (∀ q, q ≠ 20 → q ≠ 25 → q ≠ 26 → gI m' q = gI m q) ∧ gI m' 20 6 = Int32.ofNat len ∧ cFi la L most mol len m' := by
  intro j
  induction j with
  | zero =>
    intro k m v h K h6 h21 h28 F
    have : k = len := by omega
    subst this
    refine ⟨m, ?_, rfl, fun _ _ _ _ => rfl, h6, F⟩
    rw [q_Ra_callFinal_40]
    simp only [gK_N K, gK_8_0 K, gK_8_1 K, gK_8_2 K, gK_8_3 K, gK_8_4 K, gK_8_5 K, gK_8_6 K, gK_8_7 K, gK_8_8 K, gK_10_0 K, gK_10_1 K, gK_10_2 K, gK_11_0 K, gK_15_0 K, gK_15_1 K, gK_15_2 K, gK_15_3 K, gK_20_0 K, gK_20_1 K, gK_20_2 K, gK_20_3 K, gK_20_4 K, gK_20_5 K, gK_698_0 K, gK_698_3 K, gK_698_16 K, gK_698_17 K, gK_698_20 K, gK_698_21 K, gK_698_22 K, gK_698_23 K, gK_698_24 K, gK_698_25 K, gK_698_26 K, gK_698_27 K, gK_698_28 K, gK_698_29 K, gK_698_30 K, gK_698_31 K, gK_698_32 K, gK_698_33 K, gK_698_34 K, gK_698_35 K, gK_698_36 K, gK_698_37 K, gK_698_38 K, gK_698_39 K, gK_698_41 K, gK_698_42 K, gK_698_44 K, gK_c K, gK_d K, gK_n K, gK_p K, gok_8, gok_10, gok_11, gok_15, gok_20, gok_698, gok_699, goA_9, goA_12, goA_13, goA_14, goA_16, goA_17, goA_18, goA_19, goA_21, goA_22, goA_23, goA_24, goA_25, goA_26, goA_27, goA_28, goA_29, goA_30, goA_31, goA_732, goA_733, goA_734, goA_735, goA_736, goA_737, goA_738, goA_739, goA_740, goA_741, goA_742, goA_743, goA_744, goA_745, goA_746, goA_747, goA_748, goA_749, goA_750, goA_751, goA_752, goA_753, goA_754, goA_755, goA_756, goA_757, gN_wI, gR_wI, gL_wI, if_true, eq_self]
    rw [h6, if_neg Int32.lt_irrefl]
  | succ j ih =>
    intro k m v h K h6 h21 h28 F
    obtain ⟨F1, F2, F3⟩ := F
    obtain ⟨b1, b2, b3⟩ := fN_b (la := la) (L := L) (most := most) (mol := mol) k
    have hk : k < len := by omega
    have hLk := hL k hk
    have hlk := hla (L k)
    have hck := b3 (la (L k))
    have f1 := h21 k hk
    have f2 := h28 (L k)
    have f3 := F2 (la (L k)) hlk
    have i1 : gd_in (Int32.ofNat k) 40 = true := gn_in (by omega) (by omega)
    have n1 : (Int32.ofNat k).toNatClampNeg = k := gn_nat (by omega)
    have i2 : gd_in (Int32.ofNat (L k)) 40 = true := gn_in (by omega) (by omega)
    have n2 : (Int32.ofNat (L k)).toNatClampNeg = L k := gn_nat (by omega)
    have i3 : gd_in (Int32.ofNat (la (L k))) 10 = true := gn_in (by omega) (by omega)
    have n3 : (Int32.ofNat (la (L k))).toNatClampNeg = la (L k) := gn_nat (by omega)
    rw [q_Ra_callFinal_40]
    simp only [gK_N K, gK_8_0 K, gK_8_1 K, gK_8_2 K, gK_8_3 K, gK_8_4 K, gK_8_5 K, gK_8_6 K, gK_8_7 K, gK_8_8 K, gK_10_0 K, gK_10_1 K, gK_10_2 K, gK_11_0 K, gK_15_0 K, gK_15_1 K, gK_15_2 K, gK_15_3 K, gK_20_0 K, gK_20_1 K, gK_20_2 K, gK_20_3 K, gK_20_4 K, gK_20_5 K, gK_698_0 K, gK_698_3 K, gK_698_16 K, gK_698_17 K, gK_698_20 K, gK_698_21 K, gK_698_22 K, gK_698_23 K, gK_698_24 K, gK_698_25 K, gK_698_26 K, gK_698_27 K, gK_698_28 K, gK_698_29 K, gK_698_30 K, gK_698_31 K, gK_698_32 K, gK_698_33 K, gK_698_34 K, gK_698_35 K, gK_698_36 K, gK_698_37 K, gK_698_38 K, gK_698_39 K, gK_698_41 K, gK_698_42 K, gK_698_44 K, gK_c K, gK_d K, gK_n K, gK_p K, gok_8, gok_10, gok_11, gok_15, gok_20, gok_698, gok_699, goA_9, goA_12, goA_13, goA_14, goA_16, goA_17, goA_18, goA_19, goA_21, goA_22, goA_23, goA_24, goA_25, goA_26, goA_27, goA_28, goA_29, goA_30, goA_31, goA_732, goA_733, goA_734, goA_735, goA_736, goA_737, goA_738, goA_739, goA_740, goA_741, goA_742, goA_743, goA_744, goA_745, goA_746, goA_747, goA_748, goA_749, goA_750, goA_751, goA_752, goA_753, goA_754, goA_755, goA_756, goA_757, gN_wI, gR_wI, gL_wI, if_true, eq_self]
    rw [h6, if_pos ((gn_lt (by omega) (by omega)).2 hk), F1]
    by_cases hlt : (fN la L most mol k).2.1 < most
    · rw [if_pos ((gn_lt (by omega) (by omega)).2 hlt)]
      have i4 : gd_in (Int32.ofNat (fN la L most mol k).2.1) 10 = true := gn_in (by omega) (by omega)
      have n4 : (Int32.ofNat (fN la L most mol k).2.1).toNatClampNeg = (fN la L most mol k).2.1 := gn_nat (by omega)
      have t1 : ∀ x, gI (wI m 26 (la (L k)) x) 20 7 = Int32.ofNat (fN la L most mol k).2.1 := fun x => (gI_wI_a (by decide)).trans F1
      have t2 : ∀ x y, gI (wI (wI m 26 (la (L k)) x) 25 (fN la L most mol k).2.1 y) 20 7 = Int32.ofNat (fN la L most mol k).2.1 := fun x y => (gI_wI_a (by decide)).trans ((gI_wI_a (by decide)).trans F1)
      simp only [i1, n1, f1, i2, n2, f2, i3, n3, f3, t1, i4, n4, t2, gn_succ, if_true]
      by_cases hc : (fN la L most mol k).1 (la (L k)) < mol
      · rw [if_pos ((gn_lt (by omega) (by omega)).2 hc)]
        have eF := fN_y hlt hc
        have u : ∀ q, q ≠ 20 → q ≠ 25 → q ≠ 26 → gI (wI (wI (wI m 26 (la (L k)) (Int32.ofNat ((fN la L most mol k).1 (la (L k)) + 1))) 25 (fN la L most mol k).2.1 (Int32.ofNat (L k))) 20 7 (Int32.ofNat ((fN la L most mol k).2.1 + 1))) q = gI m q := fun q q1 q2 q3 => by rw [gI_wI_f q1, gI_wI_f q2, gI_wI_f q3]
        have u6 : gI (wI (wI (wI m 26 (la (L k)) (Int32.ofNat ((fN la L most mol k).1 (la (L k)) + 1))) 25 (fN la L most mol k).2.1 (Int32.ofNat (L k))) 20 7 (Int32.ofNat ((fN la L most mol k).2.1 + 1))) 20 6 = gI m 20 6 := by rw [gI_wI_k (by decide), gI_wI_a (by decide), gI_wI_a (by decide)]
        obtain ⟨m', a1, a2, a3, a4, a5⟩ := ih (k + 1) (wI (wI (wI m 26 (la (L k)) (Int32.ofNat ((fN la L most mol k).1 (la (L k)) + 1))) 25 (fN la L most mol k).2.1 (Int32.ofNat (L k))) 20 7 (Int32.ofNat ((fN la L most mol k).2.1 + 1))) (.int (Int32.ofNat (L k))) (by omega) K (u6.trans h6) (fun j hj => by rw [u 21 (by decide) (by decide) (by decide)]; exact h21 j hj) (fun g => by rw [u 28 (by decide) (by decide) (by decide)]; exact h28 g) (by
          unfold cFi
          rw [eF]
          refine ⟨gI_wI_s, fun l hl => ?_, fun j hj => ?_⟩
          · rw [gI_wI_a (by decide), gI_wI_a (by decide), gI_wI_m]
            show _ = Int32.ofNat (if l = la (L k) then (fN la L most mol k).1 l + 1 else (fN la L most mol k).1 l)
            by_cases e : l = la (L k)
            · rw [if_pos e, if_pos e, e]
            · rw [if_neg e, if_neg e]; exact F2 l hl
          · rw [gI_wI_a (by decide), gI_wI_m]
            show _ = Int32.ofNat (if j = (fN la L most mol k).2.1 then L k else (fN la L most mol k).2.2 j)
            by_cases e : j = (fN la L most mol k).2.1
            · rw [if_pos e, if_pos e]
            · rw [if_neg e, if_neg e, gI_wI_a (by decide)]
              have hj : j < (fN la L most mol k).2.1 + 1 := hj
              exact F3 j (by omega))
        exact ⟨m', a1, a2, fun q q1 q2 q3 => (a3 q q1 q2 q3).trans (u q q1 q2 q3), a4, a5⟩
      · rw [if_neg (fun q => hc ((gn_lt (by omega) (by omega)).1 q))]
        have eF := fN_n (la := la) (L := L) (most := most) (mol := mol) (k := k) (fun q => hc q.2)
        exact ih (k + 1) m _ (by omega) K h6 h21 h28 (by unfold cFi; rw [eF]; exact ⟨F1, F2, F3⟩)
    · rw [if_neg (fun q => hlt ((gn_lt (by omega) (by omega)).1 q))]
      have eF := fN_stop hlt (len - k)
      rw [show k + (len - k) = len by omega] at eF
      exact ⟨m, rfl, rfl, fun _ _ _ _ => rfl, h6, by unfold cFi; rw [eF]; exact ⟨F1, F2, F3⟩⟩
def gLa (s : gd_C) (g : Nat) : Nat := gn (s 735 g)
theorem gLa_e (I : iAll n s) (g : Nat) : s 735 g = Int32.ofNat (gLa s g) ∧ gLa s g < 10 := by
  obtain ⟨l, -, hl, hle⟩ := iAll_lan I g
  unfold gLa
  rw [hle, gn_of (by omega)]; exact ⟨rfl, by omega⟩
def gFi (n : Nat) (s : gd_C) : Nat := gn (gCd n s 0 25)
def gMo (n : Nat) (s : gd_C) : Nat := gn (gCd n s 0 26)
theorem gFi_e (I : iAll n s) : gCd n s 0 25 = Int32.ofNat (gFi n s) ∧ gFi n s ≤ 10 := by
  obtain ⟨l, -, hl, hle⟩ := iCd_fin (iAll_cod I)
  unfold gFi
  rw [hle, gn_of (by omega)]; exact ⟨rfl, hl⟩
theorem gMo_e (I : iAll n s) : gCd n s 0 26 = Int32.ofNat (gMo n s) ∧ gMo n s ≤ 10 := by
  obtain ⟨l, -, hl, hle⟩ := iCd_lnd (iAll_cod I)
  unfold gMo
  rw [hle, gn_of (by omega)]; exact ⟨rfl, hl⟩
theorem c_callFinal (K : gK c d n p m) (C : cAll c n (gI m) s) (I : iAll n s) (hlen : len ≤ 40) (h6 : gI m 20 6 = Int32.ofNat len) (h21 : ∀ j < len, gI m 21 j = Int32.ofNat (L j)) (hL : ∀ j < len, L j < 40) : ∃ m', gd_call 171 [.ref 8] m = some (.null, m') ∧ oL m m' ∧ (∀ q, q ≠ 20 → q ≠ 25 → q ≠ 26 → gI m' q = gI m q) ∧ gI m' 20 6 = gI m 20 6 ∧ cFi (gLa s) L (gFi n s) (gMo n s) len m' := by
  obtain ⟨e1, e2⟩ := gFi_e I
  obtain ⟨e3, e4⟩ := gMo_e I
  obtain ⟨mz, hz, z2, zq, z26⟩ : ∃ mz, wFl m 26 0 0 10 = mz ∧ mz.2 = m.2 ∧ (∀ q, q ≠ 26 → gI mz q = gI m q) ∧ ∀ l < 10, gI mz 26 l = 0 := ⟨_, rfl, wFl_2 10 0 m, fun q hq => by rw [gI_wFl, gUr_f hq], fun l hl => by rw [gI_wFl, gUr_m, if_pos ⟨Nat.zero_le l, by omega⟩]⟩
  have a0 := c_fin_3 (x2 := Int32.ofNat (gMo n s)) e2 10 0 m (by omega) K
  rw [gn_0, hz] at a0
  have hu : ∀ q, q ≠ 20 → q ≠ 26 → gI (wI mz 20 7 0) q = gI m q := fun q q1 q2 => by
    rw [gI_wI_f q1, zq q q2]
  have K1 : gK c d n p (wI mz 20 7 0) := gK_o K z2
  have F0 : cFi (gLa s) L (gFi n s) (gMo n s) 0 (wI mz 20 7 0) := by
    refine ⟨?_, fun l hl => ?_, fun j hj => absurd hj (Nat.not_lt_zero j)⟩
    · rw [gI_wI_s]; rfl
    · rw [gI_wI_a (by decide), z26 l hl]; rfl
  have h6' : gI (wI mz 20 7 0) 20 6 = Int32.ofNat len := by rw [gI_wI_k (by decide), zq 20 (by decide)]; exact h6
  obtain ⟨m', a1, a2, a3, a4, a5⟩ := c_fin_40 (c := c) (d := d) (n := n) (p := p) (most := gFi n s) (mol := gMo n s) (la := gLa s) (x1 := Int32.ofNat (gFi n s)) e2 e4 hlen hL (fun g => (gLa_e I g).2) len 0 (wI mz 20 7 0) .null (by omega) K1 h6' (fun j hj => by rw [hu 21 (by decide) (by decide)]; exact h21 j hj) (fun g => by rw [hu 28 (by decide) (by decide), cMt_lan (cAll_mt C)]; exact (gLa_e I g).1) F0
  have a6 : ∀ q, q ≠ 20 → q ≠ 25 → q ≠ 26 → gI m' q = gI m q := fun q q1 q2 q3 => (a3 q q1 q2 q3).trans (hu q q1 q3)
  refine ⟨m', ?_, ⟨a2.trans z2, fun q hq => a6 q (by omega) (by omega) (by omega)⟩, a6, a4.trans h6.symm, a5⟩
  rw [q_X_callFinal]
  simp only [gK_N K, gK_8_0 K, gK_8_1 K, gK_8_2 K, gK_8_3 K, gK_8_4 K, gK_8_5 K, gK_8_6 K, gK_8_7 K, gK_8_8 K, gK_10_0 K, gK_10_1 K, gK_10_2 K, gK_11_0 K, gK_15_0 K, gK_15_1 K, gK_15_2 K, gK_15_3 K, gK_20_0 K, gK_20_1 K, gK_20_2 K, gK_20_3 K, gK_20_4 K, gK_20_5 K, gK_698_0 K, gK_698_3 K, gK_698_16 K, gK_698_17 K, gK_698_20 K, gK_698_21 K, gK_698_22 K, gK_698_23 K, gK_698_24 K, gK_698_25 K, gK_698_26 K, gK_698_27 K, gK_698_28 K, gK_698_29 K, gK_698_30 K, gK_698_31 K, gK_698_32 K, gK_698_33 K, gK_698_34 K, gK_698_35 K, gK_698_36 K, gK_698_37 K, gK_698_38 K, gK_698_39 K, gK_698_41 K, gK_698_42 K, gK_698_44 K, gK_c K, gK_d K, gK_n K, gK_p K, gok_8, gok_10, gok_11, gok_15, gok_20, gok_698, gok_699, goA_9, goA_12, goA_13, goA_14, goA_16, goA_17, goA_18, goA_19, goA_21, goA_22, goA_23, goA_24, goA_25, goA_26, goA_27, goA_28, goA_29, goA_30, goA_31, goA_732, goA_733, goA_734, goA_735, goA_736, goA_737, goA_738, goA_739, goA_740, goA_741, goA_742, goA_743, goA_744, goA_745, goA_746, goA_747, goA_748, goA_749, goA_750, goA_751, goA_752, goA_753, goA_754, goA_755, goA_756, goA_757, gN_wI, gR_wI, gL_wI, if_true, eq_self, gok_c K, gok_d K, gok_n K, gok_p K, gK_c_0 K, gK_c_1 K, gK_c_2 K, gK_c_3 K, gK_c_4 K, gK_c_5 K, gK_c_6 K, gK_c_7 K, gK_c_8 K, gK_c_9 K, gK_c_10 K, gK_c_11 K, gK_n_3 K, gK_n_4 K, gK_n_5 K, gK_n_6 K, gK_n_7 K, gK_n_8 K, gK_n_9 K, gK_n_10 K, gK_n_11 K, gK_n_12 K, gK_n_13 K, gK_n_14 K, gK_n_15 K, gK_n_16 K, gK_n_17 K, goA_c1 K, goA_c2 K, goA_c3 K, goA_c4 K, goA_c5 K, goA_c6 K, goA_c7 K, goA_c8 K, goA_c9 K, goA_c10 K, goA_c11 K, goA_c12 K, goA_n1 K, goA_n2 K, goA_n3 K, goA_n4 K, goA_n5 K, goA_n6 K, goA_n7 K, goA_n8 K, goA_n9 K, goA_n10 K, goA_n11 K, goA_n12 K, goA_n13 K, goA_n14 K, goA_n15 K]
  rw [show gd_in 10 12 = true from rfl, show gd_in 11 12 = true from rfl, if_pos rfl, if_pos rfl, show (10 : Int32).toNatClampNeg = 10 from rfl, show (11 : Int32).toNatClampNeg = 11 from rfl, cCd_fin (cAll_cd C), cCd_lnd (cAll_cd C), e1, e3, q_Ra_callFinal, a0]
  rw [gn_0] at a1
  rw [a1]
  rfl
/-! the reference's -/
theorem c_mfin_12 {x1 : Int32} : ∀ j i (m : gd_M), i + j = 10 → gK c d n p m → gd_Den (174, 12, [.ref 698, .int x1, .int (Int32.ofNat i), .null], [], m) = gd_Den (174, 33, [.ref 698, .int x1, .int 0, .null], [], wFl m 755 i 0 j) := by
  intro j
  induction j with
  | zero =>
    intro i m h K
    have : i = 10 := by omega
    subst this
    rw [q_Mo_makeFinal_12, if_neg (show ¬ Int32.ofNat 10 < 10 by decide)]; rfl
  | succ j ih =>
    intro i m h K
    rw [q_Mo_makeFinal_12, if_pos ((gnlb_10 (by omega) (by decide)).2 (by omega))]
    simp only [gK_N K, gK_8_0 K, gK_8_1 K, gK_8_2 K, gK_8_3 K, gK_8_4 K, gK_8_5 K, gK_8_6 K, gK_8_7 K, gK_8_8 K, gK_10_0 K, gK_10_1 K, gK_10_2 K, gK_11_0 K, gK_15_0 K, gK_15_1 K, gK_15_2 K, gK_15_3 K, gK_20_0 K, gK_20_1 K, gK_20_2 K, gK_20_3 K, gK_20_4 K, gK_20_5 K, gK_698_0 K, gK_698_3 K, gK_698_16 K, gK_698_17 K, gK_698_20 K, gK_698_21 K, gK_698_22 K, gK_698_23 K, gK_698_24 K, gK_698_25 K, gK_698_26 K, gK_698_27 K, gK_698_28 K, gK_698_29 K, gK_698_30 K, gK_698_31 K, gK_698_32 K, gK_698_33 K, gK_698_34 K, gK_698_35 K, gK_698_36 K, gK_698_37 K, gK_698_38 K, gK_698_39 K, gK_698_41 K, gK_698_42 K, gK_698_44 K, gK_c K, gK_d K, gK_n K, gK_p K, gok_8, gok_10, gok_11, gok_15, gok_20, gok_698, gok_699, goA_9, goA_12, goA_13, goA_14, goA_16, goA_17, goA_18, goA_19, goA_21, goA_22, goA_23, goA_24, goA_25, goA_26, goA_27, goA_28, goA_29, goA_30, goA_31, goA_732, goA_733, goA_734, goA_735, goA_736, goA_737, goA_738, goA_739, goA_740, goA_741, goA_742, goA_743, goA_744, goA_745, goA_746, goA_747, goA_748, goA_749, goA_750, goA_751, goA_752, goA_753, goA_754, goA_755, goA_756, goA_757, gN_wI, gR_wI, gL_wI, if_true, eq_self]
    rw [gn_in (by omega) (show i < 10 by omega), if_pos rfl, gn_nat (by omega), gn_succ]
    exact ih (i + 1) _ (by omega) K
theorem c_mfin_33 (hm : most ≤ 10) (hmol : mol ≤ 10) (hlen : len ≤ 40) (hL : ∀ j < len, L j < 40) (hla : ∀ g, la g < 10) {x1 : Int32} : ∀ j k (m : gd_M) v, k + j = len → gK c d n p m → gI m 698 40 = Int32.ofNat len → (∀ j < len, gI m 751 j = Int32.ofNat (L j)) → (∀ g, gI m 735 g = Int32.ofNat (la g)) → gI m n 25 = Int32.ofNat most → gI m n 26 = Int32.ofNat mol → mFi la L most mol k m → ∃ m', gd_Den (174, 33, [.ref 698, .int x1, .int (Int32.ofNat k), v], [], m) = some (.null, m') ∧ oI m m' ∧ (∀ q, 751 ≤ q → q ≤ 754 → gI m' q = gI m q) ∧ gI m' 698 40 = Int32.ofNat len ∧ mFi la L most mol len m' := by
  intro j
  induction j with
  | zero =>
    intro k m v h K h6 h21 h28 h25 h26 F
    have : k = len := by omega
    subst this
    refine ⟨m, ?_, oI_refl, fun _ _ _ => rfl, h6, F⟩
    rw [q_Mo_makeFinal_33]
    simp only [gK_N K, gK_8_0 K, gK_8_1 K, gK_8_2 K, gK_8_3 K, gK_8_4 K, gK_8_5 K, gK_8_6 K, gK_8_7 K, gK_8_8 K, gK_10_0 K, gK_10_1 K, gK_10_2 K, gK_11_0 K, gK_15_0 K, gK_15_1 K, gK_15_2 K, gK_15_3 K, gK_20_0 K, gK_20_1 K, gK_20_2 K, gK_20_3 K, gK_20_4 K, gK_20_5 K, gK_698_0 K, gK_698_3 K, gK_698_16 K, gK_698_17 K, gK_698_20 K, gK_698_21 K, gK_698_22 K, gK_698_23 K, gK_698_24 K, gK_698_25 K, gK_698_26 K, gK_698_27 K, gK_698_28 K, gK_698_29 K, gK_698_30 K, gK_698_31 K, gK_698_32 K, gK_698_33 K, gK_698_34 K, gK_698_35 K, gK_698_36 K, gK_698_37 K, gK_698_38 K, gK_698_39 K, gK_698_41 K, gK_698_42 K, gK_698_44 K, gK_c K, gK_d K, gK_n K, gK_p K, gok_8, gok_10, gok_11, gok_15, gok_20, gok_698, gok_699, goA_9, goA_12, goA_13, goA_14, goA_16, goA_17, goA_18, goA_19, goA_21, goA_22, goA_23, goA_24, goA_25, goA_26, goA_27, goA_28, goA_29, goA_30, goA_31, goA_732, goA_733, goA_734, goA_735, goA_736, goA_737, goA_738, goA_739, goA_740, goA_741, goA_742, goA_743, goA_744, goA_745, goA_746, goA_747, goA_748, goA_749, goA_750, goA_751, goA_752, goA_753, goA_754, goA_755, goA_756, goA_757, gN_wI, gR_wI, gL_wI, if_true, eq_self]
    rw [h6, if_neg Int32.lt_irrefl]
  | succ j ih =>
    intro k m v h K h6 h21 h28 h25 h26 F
    have hn := gK_n1 K
    obtain ⟨F1, F2, F3⟩ := F
    obtain ⟨b1, b2, b3⟩ := fN_b (la := la) (L := L) (most := most) (mol := mol) k
    have hk : k < len := by omega
    have hLk := hL k hk
    have hlk := hla (L k)
    have hck := b3 (la (L k))
    have f1 := h21 k hk
    have f2 := h28 (L k)
    have f3 := F2 (la (L k)) hlk
    have i1 : gd_in (Int32.ofNat k) 40 = true := gn_in (by omega) (by omega)
    have n1 : (Int32.ofNat k).toNatClampNeg = k := gn_nat (by omega)
    have i2 : gd_in (Int32.ofNat (L k)) 40 = true := gn_in (by omega) (by omega)
    have n2 : (Int32.ofNat (L k)).toNatClampNeg = L k := gn_nat (by omega)
    have i3 : gd_in (Int32.ofNat (la (L k))) 10 = true := gn_in (by omega) (by omega)
    have n3 : (Int32.ofNat (la (L k))).toNatClampNeg = la (L k) := gn_nat (by omega)
    rw [q_Mo_makeFinal_33]
    simp only [gK_N K, gK_8_0 K, gK_8_1 K, gK_8_2 K, gK_8_3 K, gK_8_4 K, gK_8_5 K, gK_8_6 K, gK_8_7 K, gK_8_8 K, gK_10_0 K, gK_10_1 K, gK_10_2 K, gK_11_0 K, gK_15_0 K, gK_15_1 K, gK_15_2 K, gK_15_3 K, gK_20_0 K, gK_20_1 K, gK_20_2 K, gK_20_3 K, gK_20_4 K, gK_20_5 K, gK_698_0 K, gK_698_3 K, gK_698_16 K, gK_698_17 K, gK_698_20 K, gK_698_21 K, gK_698_22 K, gK_698_23 K, gK_698_24 K, gK_698_25 K, gK_698_26 K, gK_698_27 K, gK_698_28 K, gK_698_29 K, gK_698_30 K, gK_698_31 K, gK_698_32 K, gK_698_33 K, gK_698_34 K, gK_698_35 K, gK_698_36 K, gK_698_37 K, gK_698_38 K, gK_698_39 K, gK_698_41 K, gK_698_42 K, gK_698_44 K, gK_c K, gK_d K, gK_n K, gK_p K, gok_8, gok_10, gok_11, gok_15, gok_20, gok_698, gok_699, goA_9, goA_12, goA_13, goA_14, goA_16, goA_17, goA_18, goA_19, goA_21, goA_22, goA_23, goA_24, goA_25, goA_26, goA_27, goA_28, goA_29, goA_30, goA_31, goA_732, goA_733, goA_734, goA_735, goA_736, goA_737, goA_738, goA_739, goA_740, goA_741, goA_742, goA_743, goA_744, goA_745, goA_746, goA_747, goA_748, goA_749, goA_750, goA_751, goA_752, goA_753, goA_754, goA_755, goA_756, goA_757, gN_wI, gR_wI, gL_wI, if_true, eq_self, gok_c K, gok_d K, gok_n K, gok_p K, gK_c_0 K, gK_c_1 K, gK_c_2 K, gK_c_3 K, gK_c_4 K, gK_c_5 K, gK_c_6 K, gK_c_7 K, gK_c_8 K, gK_c_9 K, gK_c_10 K, gK_c_11 K, gK_n_3 K, gK_n_4 K, gK_n_5 K, gK_n_6 K, gK_n_7 K, gK_n_8 K, gK_n_9 K, gK_n_10 K, gK_n_11 K, gK_n_12 K, gK_n_13 K, gK_n_14 K, gK_n_15 K, gK_n_16 K, gK_n_17 K, goA_c1 K, goA_c2 K, goA_c3 K, goA_c4 K, goA_c5 K, goA_c6 K, goA_c7 K, goA_c8 K, goA_c9 K, goA_c10 K, goA_c11 K, goA_c12 K, goA_n1 K, goA_n2 K, goA_n3 K, goA_n4 K, goA_n5 K, goA_n6 K, goA_n7 K, goA_n8 K, goA_n9 K, goA_n10 K, goA_n11 K, goA_n12 K, goA_n13 K, goA_n14 K, goA_n15 K]
    rw [h6, if_pos ((gn_lt (by omega) (by omega)).2 hk), F1, h25, h26]
    by_cases hlt : (fN la L most mol k).2.1 < most
    · rw [if_pos ((gn_lt (by omega) (by omega)).2 hlt)]
      have i4 : gd_in (Int32.ofNat (fN la L most mol k).2.1) 10 = true := gn_in (by omega) (by omega)
      have n4 : (Int32.ofNat (fN la L most mol k).2.1).toNatClampNeg = (fN la L most mol k).2.1 := gn_nat (by omega)
      have t1 : ∀ x, gI (wI m 755 (la (L k)) x) 698 43 = Int32.ofNat (fN la L most mol k).2.1 := fun x => (gI_wI_a (by decide)).trans F1
      have t3 : ∀ x, gI (wI m 755 (la (L k)) x) 751 k = Int32.ofNat (L k) := fun x => (gI_wI_a (by decide)).trans f1
      have t2 : ∀ x y, gI (wI (wI m 755 (la (L k)) x) 756 (fN la L most mol k).2.1 y) 698 43 = Int32.ofNat (fN la L most mol k).2.1 := fun x y => (gI_wI_a (by decide)).trans ((gI_wI_a (by decide)).trans F1)
      simp only [i1, n1, f1, i2, n2, f2, i3, n3, f3, t1, t3, i4, n4, t2, gn_succ, if_true]
      by_cases hc : (fN la L most mol k).1 (la (L k)) < mol
      · rw [if_neg (fun q => by have := (gn_eq (by omega) (by omega)).1 q; omega)]
        have eF := fN_y hlt hc
        have u : ∀ q, q ≠ 698 → q ≠ 755 → q ≠ 756 → gI (wI (wI (wI m 755 (la (L k)) (Int32.ofNat ((fN la L most mol k).1 (la (L k)) + 1))) 756 (fN la L most mol k).2.1 (Int32.ofNat (L k))) 698 43 (Int32.ofNat ((fN la L most mol k).2.1 + 1))) q = gI m q := fun q q1 q2 q3 => by rw [gI_wI_f q1, gI_wI_f q3, gI_wI_f q2]
        have u6 : gI (wI (wI (wI m 755 (la (L k)) (Int32.ofNat ((fN la L most mol k).1 (la (L k)) + 1))) 756 (fN la L most mol k).2.1 (Int32.ofNat (L k))) 698 43 (Int32.ofNat ((fN la L most mol k).2.1 + 1))) 698 40 = gI m 698 40 := by rw [gI_wI_k (by decide), gI_wI_a (by decide), gI_wI_a (by decide)]
        have oo : oI m (wI (wI (wI m 755 (la (L k)) (Int32.ofNat ((fN la L most mol k).1 (la (L k)) + 1))) 756 (fN la L most mol k).2.1 (Int32.ofNat (L k))) 698 43 (Int32.ofNat ((fN la L most mol k).2.1 + 1))) := oI_x (oI_w (oI_w oI_refl (by decide)) (by decide)) (.inr rfl)
        obtain ⟨m', a1, a2, a3, a4, a5⟩ := ih (k + 1) (wI (wI (wI m 755 (la (L k)) (Int32.ofNat ((fN la L most mol k).1 (la (L k)) + 1))) 756 (fN la L most mol k).2.1 (Int32.ofNat (L k))) 698 43 (Int32.ofNat ((fN la L most mol k).2.1 + 1))) (.int (Int32.ofNat (la (L k)))) (by omega) K (u6.trans h6) (fun j hj => by rw [u 751 (by decide) (by decide) (by decide)]; exact h21 j hj) (fun g => by rw [u 735 (by decide) (by decide) (by decide)]; exact h28 g) (by rw [u n (by omega) (by omega) (by omega)]; exact h25) (by rw [u n (by omega) (by omega) (by omega)]; exact h26) (by
          unfold mFi
          rw [eF]
          refine ⟨gI_wI_s, fun l hl => ?_, fun j hj => ?_⟩
          · rw [gI_wI_a (by decide), gI_wI_a (by decide), gI_wI_m]
            show _ = Int32.ofNat (if l = la (L k) then (fN la L most mol k).1 l + 1 else (fN la L most mol k).1 l)
            by_cases e : l = la (L k)
            · rw [if_pos e, if_pos e, e]
            · rw [if_neg e, if_neg e]; exact F2 l hl
          · rw [gI_wI_a (by decide), gI_wI_m]
            show _ = Int32.ofNat (if j = (fN la L most mol k).2.1 then L k else (fN la L most mol k).2.2 j)
            by_cases e : j = (fN la L most mol k).2.1
            · rw [if_pos e, if_pos e]
            · rw [if_neg e, if_neg e, gI_wI_a (by decide)]
              have hj : j < (fN la L most mol k).2.1 + 1 := hj
              exact F3 j (by omega))
        exact ⟨m', a1, oI_tr oo a2, fun q q1 q2 => (a3 q q1 q2).trans (u q (by omega) (by omega) (by omega)), a4, a5⟩
      · rw [if_pos (by rw [show (fN la L most mol k).1 (la (L k)) = mol by omega])]
        have eF := fN_n (la := la) (L := L) (most := most) (mol := mol) (k := k) (fun q => hc q.2)
        exact ih (k + 1) m _ (by omega) K h6 h21 h28 h25 h26 (by unfold mFi; rw [eF]; exact ⟨F1, F2, F3⟩)
    · rw [if_neg (fun q => hlt ((gn_lt (by omega) (by omega)).1 q))]
      have eF := fN_stop hlt (len - k)
      rw [show k + (len - k) = len by omega] at eF
      exact ⟨m, rfl, oI_refl, fun _ _ _ => rfl, h6, by unfold mFi; rw [eF]; exact ⟨F1, F2, F3⟩⟩
theorem mLs_c {m1 : gd_M} (h : mLs n s a len L m) (e : ∀ q, 751 ≤ q → q ≤ 754 → gI m1 q = gI m q) (e2 : gI m1 698 40 = gI m 698 40) : mLs n s a len L m1 := ⟨e2.trans h.1, fun j hj => by
  have := h.2 j hj
  unfold mEn at this ⊢
  rw [e 751 (by decide) (by decide), e 752 (by decide) (by decide), e 753 (by decide) (by decide), e 754 (by decide) (by decide)]; exact this⟩
theorem c_makeFinal (K : gK c d n p m) (S : gSm n (gI m) s) (H : gCh n (gI m) s) (I : iAll n s) {P : Nat} (hP : s 698 18 = Int32.ofNat P) (hP2 : P ≤ 40) (ha : a < 5) : ∃ m', gd_call 174 [.ref 698, .int (Int32.ofNat a)] m = some (.null, m') ∧ rK n s m m' ∧ mLs n s a (lLi n s a P).1 (lLi n s a P).2 m' ∧ mFi (gLa s) (lLi n s a P).2 (gFi n s) (gMo n s) (lLi n s a P).1 m' := by
  have hn := gK_n1 K
  obtain ⟨e1, e2⟩ := gFi_e I
  obtain ⟨e3, e4⟩ := gMo_e I
  have hlt := lLi_lt (n := n) (s := s) (a := a) P
  obtain ⟨m1, a1, a2, a3⟩ := c_makeList K S H I hP hP2 ha
  have K1 := gK_o K a2.1.1
  obtain ⟨mz, hz, z2, zq, z26⟩ : ∃ mz, wFl (wI m1 698 43 0) 755 0 0 10 = mz ∧ mz.2 = m1.2 ∧ (∀ q, q ≠ 755 → gI mz q = gI (wI m1 698 43 0) q) ∧ ∀ l < 10, gI mz 755 l = 0 := ⟨_, rfl, wFl_2 10 0 _, fun q hq => by rw [gI_wFl, gUr_f hq], fun l hl => by rw [gI_wFl, gUr_m, if_pos ⟨Nat.zero_le l, by omega⟩]⟩
  have a0 := c_mfin_12 (c := c) (d := d) (n := n) (p := p) (x1 := Int32.ofNat a) 10 0 (wI m1 698 43 0) (by omega) K1
  rw [gn_0, hz] at a0
  have K2 : gK c d n p mz := gK_o K1 z2
  have v : ∀ q, q ≠ 698 → q ≠ 755 → gI mz q = gI m1 q := fun q q1 q2 => by rw [zq q q2, gI_wI_f q1]
  have v40 : gI mz 698 40 = gI m1 698 40 := by rw [zq 698 (by decide), gI_wI_k (by decide)]
  have o1 : oI m1 mz := ⟨z2, fun q q1 q2 => v q q2 (by omega), fun j j1 j2 => by rw [zq 698 (by decide), gI_wI_k j2]⟩
  have S2 := gSm_oI hn a2.2.1 o1
  have L2 := mLs_c a3 (fun q q1 q2 => v q (by omega) (by omega)) v40
  have F0 : mFi (gLa s) (lLi n s a P).2 (gFi n s) (gMo n s) 0 mz := by
    refine ⟨?_, fun l hl => ?_, fun j hj => absurd hj (Nat.not_lt_zero j)⟩
    · rw [zq 698 (by decide), gI_wI_s]; rfl
    · rw [z26 l hl]; rfl
  obtain ⟨m', b1, b2, b3, b4, b5⟩ := c_mfin_33 (c := c) (d := d) (n := n) (p := p) (most := gFi n s) (mol := gMo n s) (la := gLa s) (x1 := Int32.ofNat a) e2 e4 (show (lLi n s a P).1 ≤ 40 by omega) (fun j hj => by have := hlt.2 j hj; omega) (fun g => (gLa_e I g).2) (lLi n s a P).1 0 mz .null (by omega) K2 L2.1 (fun j hj => (L2.2 j hj).1) (fun g => by rw [gS_735 S2]; exact (gLa_e I g).1) (by rw [gS_n K2 S2]; exact e1) (by rw [gS_n K2 S2]; exact e3) F0
  refine ⟨m', ?_, rK_I hn (rK_I hn a2 o1) b2, mLs_c L2 b3 (b4.trans L2.1.symm), b5⟩
  rw [q_Mo_makeFinal]
  simp only [gK_N K, gK_8_0 K, gK_8_1 K, gK_8_2 K, gK_8_3 K, gK_8_4 K, gK_8_5 K, gK_8_6 K, gK_8_7 K, gK_8_8 K, gK_10_0 K, gK_10_1 K, gK_10_2 K, gK_11_0 K, gK_15_0 K, gK_15_1 K, gK_15_2 K, gK_15_3 K, gK_20_0 K, gK_20_1 K, gK_20_2 K, gK_20_3 K, gK_20_4 K, gK_20_5 K, gK_698_0 K, gK_698_3 K, gK_698_16 K, gK_698_17 K, gK_698_20 K, gK_698_21 K, gK_698_22 K, gK_698_23 K, gK_698_24 K, gK_698_25 K, gK_698_26 K, gK_698_27 K, gK_698_28 K, gK_698_29 K, gK_698_30 K, gK_698_31 K, gK_698_32 K, gK_698_33 K, gK_698_34 K, gK_698_35 K, gK_698_36 K, gK_698_37 K, gK_698_38 K, gK_698_39 K, gK_698_41 K, gK_698_42 K, gK_698_44 K, gK_c K, gK_d K, gK_n K, gK_p K, gok_8, gok_10, gok_11, gok_15, gok_20, gok_698, gok_699, goA_9, goA_12, goA_13, goA_14, goA_16, goA_17, goA_18, goA_19, goA_21, goA_22, goA_23, goA_24, goA_25, goA_26, goA_27, goA_28, goA_29, goA_30, goA_31, goA_732, goA_733, goA_734, goA_735, goA_736, goA_737, goA_738, goA_739, goA_740, goA_741, goA_742, goA_743, goA_744, goA_745, goA_746, goA_747, goA_748, goA_749, goA_750, goA_751, goA_752, goA_753, goA_754, goA_755, goA_756, goA_757, gN_wI, gR_wI, gL_wI, if_true, eq_self]
  rw [a1]
  simp only [gK_N K1, gK_8_0 K1, gK_8_1 K1, gK_8_2 K1, gK_8_3 K1, gK_8_4 K1, gK_8_5 K1, gK_8_6 K1, gK_8_7 K1, gK_8_8 K1, gK_10_0 K1, gK_10_1 K1, gK_10_2 K1, gK_11_0 K1, gK_15_0 K1, gK_15_1 K1, gK_15_2 K1, gK_15_3 K1, gK_20_0 K1, gK_20_1 K1, gK_20_2 K1, gK_20_3 K1, gK_20_4 K1, gK_20_5 K1, gK_698_0 K1, gK_698_3 K1, gK_698_16 K1, gK_698_17 K1, gK_698_20 K1, gK_698_21 K1, gK_698_22 K1, gK_698_23 K1, gK_698_24 K1, gK_698_25 K1, gK_698_26 K1, gK_698_27 K1, gK_698_28 K1, gK_698_29 K1, gK_698_30 K1, gK_698_31 K1, gK_698_32 K1, gK_698_33 K1, gK_698_34 K1, gK_698_35 K1, gK_698_36 K1, gK_698_37 K1, gK_698_38 K1, gK_698_39 K1, gK_698_41 K1, gK_698_42 K1, gK_698_44 K1, gK_c K1, gK_d K1, gK_n K1, gK_p K1, gok_8, gok_10, gok_11, gok_15, gok_20, gok_698, gok_699, goA_9, goA_12, goA_13, goA_14, goA_16, goA_17, goA_18, goA_19, goA_21, goA_22, goA_23, goA_24, goA_25, goA_26, goA_27, goA_28, goA_29, goA_30, goA_31, goA_732, goA_733, goA_734, goA_735, goA_736, goA_737, goA_738, goA_739, goA_740, goA_741, goA_742, goA_743, goA_744, goA_745, goA_746, goA_747, goA_748, goA_749, goA_750, goA_751, goA_752, goA_753, goA_754, goA_755, goA_756, goA_757, gN_wI, gR_wI, gL_wI, if_true, eq_self, Option.bind_some, gd_kV_v]
  rw [a0]
  rw [gn_0] at b1
  exact b1
end P87
