/-! ===== begin ===== -/
theorem gd_up_m {s : gd_C} {a k j : Nat} {x : Int32} : gd_up s a k x a j = if j = k then x else s a j := by
  by_cases h : j = k
  · rw [if_pos h, h, gd_up_s]
  · rw [if_neg h, gd_up_k h]
theorem gUr_m {s : gd_C} {a k j i : Nat} {x : Int32} : gUr s a k x j a i = if k ≤ i ∧ i < k + j then x else s a i := by
  rw [gUr_e]
  by_cases h : k ≤ i ∧ i < k + j
  · rw [if_pos ⟨rfl, h⟩, if_pos h]
  · rw [if_neg (fun q => h q.2), if_neg h]
theorem gI_wI_m {m : gd_M} {a k j : Nat} {x : Int32} : gI (wI m a k x) a j = if j = k then x else gI m a j := gd_up_m
theorem gCt_set {s s' : gd_C} {k b : Nat} (hb : b < 4) (h0 : s 738 (4 * k + b) = 0) (e5 : ∀ g, s' 735 g = s 735 g) (e8 : ∀ g, s' 738 g = if g = 4 * k + b then 1 else s 738 g) (l : Int32) {a : Nat} (ha : a < 4) : ∀ K, gCt s' l a K = gCt s l a K + if k < K ∧ a = b ∧ s 735 k = l then 1 else 0 := by
  intro K
  induction K with
  | zero => rfl
  | succ K ih =>
    show gCt s' l a K + _ = gCt s l a K + _ + _
    rw [ih, e5, e8]
    by_cases e : 4 * K + a = 4 * k + b
    · have e1 : K = k := by omega
      have e2 : a = b := by omega
      subst e1; subst e2
      rw [if_pos rfl, h0, if_neg (fun q => absurd q.1 (Nat.lt_irrefl _)), if_neg (fun q : s 735 K = l ∧ (0 : Int32) ≠ 0 => q.2 rfl)]
      by_cases e3 : s 735 K = l
      · rw [if_pos ⟨e3, by decide⟩, if_pos ⟨Nat.lt_succ_self K, rfl, e3⟩]
      · rw [if_neg (fun q => e3 q.1), if_neg (fun q => e3 q.2.2)]
    · rw [if_neg e]
      have hif : (if k < K + 1 ∧ a = b ∧ s 735 k = l then 1 else 0 : Nat) = if k < K ∧ a = b ∧ s 735 k = l then 1 else 0 := by
        by_cases q : k < K ∧ a = b ∧ s 735 k = l
        · rw [if_pos q, if_pos ⟨by omega, q.2⟩]
        · rw [if_neg q, if_neg (fun t => q ⟨by have t1 := t.1; have t2 := t.2.1; omega, t.2⟩)]
      rw [hif]; omega
/-- a row begun -/
def sBeg (s : gd_C) (r : Nat) : gd_C := gUr (gUr (gd_up (gd_up (gd_up (gd_up (gd_up (gd_up s 738 r 1) 739 r 0) 742 r 0) 743 r 0) 745 r (-1)) 746 r 0) 741 (6 * r + 0) (-1) 6) 744 (160 * r + 0) 0 160
section P58
variable {c d n p : Nat} {m : gd_M} {s : gd_C} {P : Nat}
theorem c_routinesOf_5 (K : gK c d n p m) (C : cAll c n (gI m) s) (hP : s 698 18 = Int32.ofNat P) (hP2 : P ≤ 40) {l : Int32} {b : Nat} (hb : b < 4) : ∀ j i v, i + j = P → gd_Den (94, 5, [.ref 8, .int l, .int (Int32.ofNat b), .int (Int32.ofNat (gCt s l b i)), .int (Int32.ofNat i), v], [], m) = some (.int (Int32.ofNat (gCt s l b P)), m) := by
  intro j
  induction j with
  | zero =>
    intro i v h
    rw [q_X_routinesOf_5]
    simp only [gK_N K, gK_8_0 K, gK_8_1 K, gK_8_2 K, gK_8_3 K, gK_8_4 K, gK_8_5 K, gK_8_6 K, gK_8_7 K, gK_8_8 K, gK_10_0 K, gK_10_1 K, gK_10_2 K, gK_11_0 K, gK_15_0 K, gK_15_1 K, gK_15_2 K, gK_15_3 K, gK_20_0 K, gK_20_1 K, gK_20_2 K, gK_20_3 K, gK_20_4 K, gK_20_5 K, gK_698_0 K, gK_698_3 K, gK_698_16 K, gK_698_17 K, gK_698_20 K, gK_698_21 K, gK_698_22 K, gK_698_23 K, gK_698_24 K, gK_698_25 K, gK_698_26 K, gK_698_27 K, gK_698_28 K, gK_698_29 K, gK_698_30 K, gK_698_31 K, gK_698_32 K, gK_698_33 K, gK_698_34 K, gK_698_35 K, gK_698_36 K, gK_698_37 K, gK_698_38 K, gK_698_39 K, gK_698_41 K, gK_698_42 K, gK_698_44 K, gK_c K, gK_d K, gK_n K, gK_p K, gok_8, gok_10, gok_11, gok_15, gok_20, gok_698, gok_699, goA_9, goA_12, goA_13, goA_14, goA_16, goA_17, goA_18, goA_19, goA_21, goA_22, goA_23, goA_24, goA_25, goA_26, goA_27, goA_28, goA_29, goA_30, goA_31, goA_732, goA_733, goA_734, goA_735, goA_736, goA_737, goA_738, goA_739, goA_740, goA_741, goA_742, goA_743, goA_744, goA_745, goA_746, goA_747, goA_748, goA_749, goA_750, goA_751, goA_752, goA_753, goA_754, goA_755, goA_756, goA_757, gN_wI, gR_wI, gL_wI, if_true, eq_self, cMt_tpd (cAll_mt C), cMt_tap (cAll_mt C), cMt_fkd (cAll_mt C), cMt_fpl (cAll_mt C), cMt_ppl (cAll_mt C), cMt_lat (cAll_mt C), cMt_lan (cAll_mt C), cMt_pai (cAll_mt C), cMt_pos (cAll_mt C), cCd_pts (cAll_cd C), cCd_lks (cAll_cd C), cCd_fts (cAll_cd C), cCd_pan (cAll_cd C), cCd_spa (cAll_cd C), cCd_cnt (cAll_cd C), cCd_sho (cAll_cd C), cCd_les (cAll_cd C), cCd_tea (cAll_cd C), cCd_bst (cAll_cd C), cCd_fin (cAll_cd C), cCd_lnd (cAll_cd C), hP]
    have : i = P := by omega
    subst this
    rw [if_neg (fun q => by have := (gn_lt (by omega) (by omega)).1 q; omega)]
  | succ j ih =>
    intro i v h
    have hr : 4 * i + b < 160 := by omega
    rw [q_X_routinesOf_5]
    simp only [gK_N K, gK_8_0 K, gK_8_1 K, gK_8_2 K, gK_8_3 K, gK_8_4 K, gK_8_5 K, gK_8_6 K, gK_8_7 K, gK_8_8 K, gK_10_0 K, gK_10_1 K, gK_10_2 K, gK_11_0 K, gK_15_0 K, gK_15_1 K, gK_15_2 K, gK_15_3 K, gK_20_0 K, gK_20_1 K, gK_20_2 K, gK_20_3 K, gK_20_4 K, gK_20_5 K, gK_698_0 K, gK_698_3 K, gK_698_16 K, gK_698_17 K, gK_698_20 K, gK_698_21 K, gK_698_22 K, gK_698_23 K, gK_698_24 K, gK_698_25 K, gK_698_26 K, gK_698_27 K, gK_698_28 K, gK_698_29 K, gK_698_30 K, gK_698_31 K, gK_698_32 K, gK_698_33 K, gK_698_34 K, gK_698_35 K, gK_698_36 K, gK_698_37 K, gK_698_38 K, gK_698_39 K, gK_698_41 K, gK_698_42 K, gK_698_44 K, gK_c K, gK_d K, gK_n K, gK_p K, gok_8, gok_10, gok_11, gok_15, gok_20, gok_698, gok_699, goA_9, goA_12, goA_13, goA_14, goA_16, goA_17, goA_18, goA_19, goA_21, goA_22, goA_23, goA_24, goA_25, goA_26, goA_27, goA_28, goA_29, goA_30, goA_31, goA_732, goA_733, goA_734, goA_735, goA_736, goA_737, goA_738, goA_739, goA_740, goA_741, goA_742, goA_743, goA_744, goA_745, goA_746, goA_747, goA_748, goA_749, goA_750, goA_751, goA_752, goA_753, goA_754, goA_755, goA_756, goA_757, gN_wI, gR_wI, gL_wI, if_true, eq_self]
    rw [cMt_ppl (cAll_mt C), hP, if_pos ((gn_lt (by omega) (by omega)).2 (by omega)), c_rowOf_at K ((cMt_ppl (cAll_mt C)).trans hP) hP2 (show i < P by omega) hb]
    simp only [gK_N K, gK_8_0 K, gK_8_1 K, gK_8_2 K, gK_8_3 K, gK_8_4 K, gK_8_5 K, gK_8_6 K, gK_8_7 K, gK_8_8 K, gK_10_0 K, gK_10_1 K, gK_10_2 K, gK_11_0 K, gK_15_0 K, gK_15_1 K, gK_15_2 K, gK_15_3 K, gK_20_0 K, gK_20_1 K, gK_20_2 K, gK_20_3 K, gK_20_4 K, gK_20_5 K, gK_698_0 K, gK_698_3 K, gK_698_16 K, gK_698_17 K, gK_698_20 K, gK_698_21 K, gK_698_22 K, gK_698_23 K, gK_698_24 K, gK_698_25 K, gK_698_26 K, gK_698_27 K, gK_698_28 K, gK_698_29 K, gK_698_30 K, gK_698_31 K, gK_698_32 K, gK_698_33 K, gK_698_34 K, gK_698_35 K, gK_698_36 K, gK_698_37 K, gK_698_38 K, gK_698_39 K, gK_698_41 K, gK_698_42 K, gK_698_44 K, gK_c K, gK_d K, gK_n K, gK_p K, gok_8, gok_10, gok_11, gok_15, gok_20, gok_698, gok_699, goA_9, goA_12, goA_13, goA_14, goA_16, goA_17, goA_18, goA_19, goA_21, goA_22, goA_23, goA_24, goA_25, goA_26, goA_27, goA_28, goA_29, goA_30, goA_31, goA_732, goA_733, goA_734, goA_735, goA_736, goA_737, goA_738, goA_739, goA_740, goA_741, goA_742, goA_743, goA_744, goA_745, goA_746, goA_747, goA_748, goA_749, goA_750, goA_751, goA_752, goA_753, goA_754, goA_755, goA_756, goA_757, gN_wI, gR_wI, gL_wI, if_true, eq_self, cMt_tpd (cAll_mt C), cMt_tap (cAll_mt C), cMt_fkd (cAll_mt C), cMt_fpl (cAll_mt C), cMt_ppl (cAll_mt C), cMt_lat (cAll_mt C), cMt_lan (cAll_mt C), cMt_pai (cAll_mt C), cMt_pos (cAll_mt C), cCd_pts (cAll_cd C), cCd_lks (cAll_cd C), cCd_fts (cAll_cd C), cCd_pan (cAll_cd C), cCd_spa (cAll_cd C), cCd_cnt (cAll_cd C), cCd_sho (cAll_cd C), cCd_les (cAll_cd C), cCd_tea (cAll_cd C), cCd_bst (cAll_cd C), cCd_fin (cAll_cd C), cCd_lnd (cAll_cd C), cRw_bgn (cAll_rw C _ hr), cRw_len (cAll_rw C _ hr), cRw_mkd (cAll_rw C _ hr), cRw_ask (cAll_rw C _ hr), cRw_inq (cAll_rw C _ hr), gK_row K hr, gK_ent K hr, gK_mrk K hr, gK_sen K hr, gok_row hr, goA_ent hr, goA_mrk hr, goA_sen hr, gd_row0, gd_row8, if_false, Option.bind_some, gd_kR_r, gn_nat (show i < 2147483648 by omega), gn_in (show i < 2147483648 by omega) (show i < 40 by omega), gn_succ]
    have ih' := ih (i + 1) (.ref (58 + 4 * (4 * i + b))) (by omega)
    have e : gCt s l b (i + 1) = gCt s l b i + if s 735 i = l ∧ s 738 (4 * i + b) ≠ 0 then 1 else 0 := rfl
    rw [e] at ih'
    by_cases h1 : s 735 i = l
    · rw [if_pos h1]
      by_cases h2 : s 738 (4 * i + b) = 0
      · rw [if_pos h2]
        rw [if_neg (fun q => q.2 h2)] at ih'
        exact ih'
      · rw [if_neg h2]
        rw [if_pos ⟨h1, h2⟩] at ih'
        exact ih'
    · rw [if_neg h1]
      rw [if_neg (fun q => h1 q.1)] at ih'
      exact ih'
theorem c_routinesOf (K : gK c d n p m) (C : cAll c n (gI m) s) (hP : s 698 18 = Int32.ofNat P) (hP2 : P ≤ 40) {l : Int32} {b : Nat} (hb : b < 4) : gd_call 94 [.ref 8, .int l, .int (Int32.ofNat b)] m = some (.int (Int32.ofNat (gCt s l b P)), m) := by
  rw [q_X_routinesOf]
  exact c_routinesOf_5 K C hP hP2 hb P 0 _ (by omega)
theorem c_start_2 {r : Nat} (hr : r < 160) : ∀ j i (m : gd_M), i + j = 6 → gK c d n p m → gd_Den (95, 2, [.ref (58 + 4 * r), .int (Int32.ofNat i)], [], m) = gd_Den (95, 23, [.ref (58 + 4 * r), .int 0], [], wFl m (60 + 4 * r) i (-1) j) := by
  intro j
  induction j with
  | zero =>
    intro i m h K
    have : i = 6 := by omega
    subst this
    rw [q_Ro_start_2]; rfl
  | succ j ih =>
    intro i m h K
    rw [q_Ro_start_2]
    simp only [gK_N K, gK_8_0 K, gK_8_1 K, gK_8_2 K, gK_8_3 K, gK_8_4 K, gK_8_5 K, gK_8_6 K, gK_8_7 K, gK_8_8 K, gK_10_0 K, gK_10_1 K, gK_10_2 K, gK_11_0 K, gK_15_0 K, gK_15_1 K, gK_15_2 K, gK_15_3 K, gK_20_0 K, gK_20_1 K, gK_20_2 K, gK_20_3 K, gK_20_4 K, gK_20_5 K, gK_698_0 K, gK_698_3 K, gK_698_16 K, gK_698_17 K, gK_698_20 K, gK_698_21 K, gK_698_22 K, gK_698_23 K, gK_698_24 K, gK_698_25 K, gK_698_26 K, gK_698_27 K, gK_698_28 K, gK_698_29 K, gK_698_30 K, gK_698_31 K, gK_698_32 K, gK_698_33 K, gK_698_34 K, gK_698_35 K, gK_698_36 K, gK_698_37 K, gK_698_38 K, gK_698_39 K, gK_698_41 K, gK_698_42 K, gK_698_44 K, gK_c K, gK_d K, gK_n K, gK_p K, gok_8, gok_10, gok_11, gok_15, gok_20, gok_698, gok_699, goA_9, goA_12, goA_13, goA_14, goA_16, goA_17, goA_18, goA_19, goA_21, goA_22, goA_23, goA_24, goA_25, goA_26, goA_27, goA_28, goA_29, goA_30, goA_31, goA_732, goA_733, goA_734, goA_735, goA_736, goA_737, goA_738, goA_739, goA_740, goA_741, goA_742, goA_743, goA_744, goA_745, goA_746, goA_747, goA_748, goA_749, goA_750, goA_751, goA_752, goA_753, goA_754, goA_755, goA_756, goA_757, gN_wI, gR_wI, gL_wI, if_true, eq_self, gK_row K hr, gK_ent K hr, gK_mrk K hr, gK_sen K hr, gok_row hr, goA_ent hr, goA_mrk hr, goA_sen hr, gd_row0, gd_row8, if_false, gn_succ]
    rw [if_pos ((gnlb_6 (by omega) (by decide)).2 (by omega)), gn_in (by omega) (by omega), if_pos rfl, gn_nat (by omega)]
    exact ih (i + 1) _ (by omega) K
theorem c_start_23 {r : Nat} (hr : r < 160) : ∀ j i (m : gd_M), i + j = 10 → gK c d n p m → gd_Den (95, 23, [.ref (58 + 4 * r), .int (Int32.ofNat i)], [], m) = some (.null, wI (wI (wI (wI (wI (wI (wI (wFl m (61 + 4 * r) i 0 j) (58 + 4 * r) 3 1) (58 + 4 * r) 4 0) (58 + 4 * r) 5 1) (58 + 4 * r) 6 0) (58 + 4 * r) 7 0) (58 + 4 * r) 8 0) (58 + 4 * r) 14 0) := by
  intro j
  induction j with
  | zero =>
    intro i m h K
    have : i = 10 := by omega
    subst this
    rw [q_Ro_start_23]
    simp only [gK_N K, gK_8_0 K, gK_8_1 K, gK_8_2 K, gK_8_3 K, gK_8_4 K, gK_8_5 K, gK_8_6 K, gK_8_7 K, gK_8_8 K, gK_10_0 K, gK_10_1 K, gK_10_2 K, gK_11_0 K, gK_15_0 K, gK_15_1 K, gK_15_2 K, gK_15_3 K, gK_20_0 K, gK_20_1 K, gK_20_2 K, gK_20_3 K, gK_20_4 K, gK_20_5 K, gK_698_0 K, gK_698_3 K, gK_698_16 K, gK_698_17 K, gK_698_20 K, gK_698_21 K, gK_698_22 K, gK_698_23 K, gK_698_24 K, gK_698_25 K, gK_698_26 K, gK_698_27 K, gK_698_28 K, gK_698_29 K, gK_698_30 K, gK_698_31 K, gK_698_32 K, gK_698_33 K, gK_698_34 K, gK_698_35 K, gK_698_36 K, gK_698_37 K, gK_698_38 K, gK_698_39 K, gK_698_41 K, gK_698_42 K, gK_698_44 K, gK_c K, gK_d K, gK_n K, gK_p K, gok_8, gok_10, gok_11, gok_15, gok_20, gok_698, gok_699, goA_9, goA_12, goA_13, goA_14, goA_16, goA_17, goA_18, goA_19, goA_21, goA_22, goA_23, goA_24, goA_25, goA_26, goA_27, goA_28, goA_29, goA_30, goA_31, goA_732, goA_733, goA_734, goA_735, goA_736, goA_737, goA_738, goA_739, goA_740, goA_741, goA_742, goA_743, goA_744, goA_745, goA_746, goA_747, goA_748, goA_749, goA_750, goA_751, goA_752, goA_753, goA_754, goA_755, goA_756, goA_757, gN_wI, gR_wI, gL_wI, if_true, eq_self, gK_row K hr, gK_ent K hr, gK_mrk K hr, gK_sen K hr, gok_row hr, goA_ent hr, goA_mrk hr, goA_sen hr, gd_row0, gd_row8, if_false]
    rfl
  | succ j ih =>
    intro i m h K
    rw [q_Ro_start_23]
    simp only [gK_N K, gK_8_0 K, gK_8_1 K, gK_8_2 K, gK_8_3 K, gK_8_4 K, gK_8_5 K, gK_8_6 K, gK_8_7 K, gK_8_8 K, gK_10_0 K, gK_10_1 K, gK_10_2 K, gK_11_0 K, gK_15_0 K, gK_15_1 K, gK_15_2 K, gK_15_3 K, gK_20_0 K, gK_20_1 K, gK_20_2 K, gK_20_3 K, gK_20_4 K, gK_20_5 K, gK_698_0 K, gK_698_3 K, gK_698_16 K, gK_698_17 K, gK_698_20 K, gK_698_21 K, gK_698_22 K, gK_698_23 K, gK_698_24 K, gK_698_25 K, gK_698_26 K, gK_698_27 K, gK_698_28 K, gK_698_29 K, gK_698_30 K, gK_698_31 K, gK_698_32 K, gK_698_33 K, gK_698_34 K, gK_698_35 K, gK_698_36 K, gK_698_37 K, gK_698_38 K, gK_698_39 K, gK_698_41 K, gK_698_42 K, gK_698_44 K, gK_c K, gK_d K, gK_n K, gK_p K, gok_8, gok_10, gok_11, gok_15, gok_20, gok_698, gok_699, goA_9, goA_12, goA_13, goA_14, goA_16, goA_17, goA_18, goA_19, goA_21, goA_22, goA_23, goA_24, goA_25, goA_26, goA_27, goA_28, goA_29, goA_30, goA_31, goA_732, goA_733, goA_734, goA_735, goA_736, goA_737, goA_738, goA_739, goA_740, goA_741, goA_742, goA_743, goA_744, goA_745, goA_746, goA_747, goA_748, goA_749, goA_750, goA_751, goA_752, goA_753, goA_754, goA_755, goA_756, goA_757, gN_wI, gR_wI, gL_wI, if_true, eq_self, gK_row K hr, gK_ent K hr, gK_mrk K hr, gK_sen K hr, gok_row hr, goA_ent hr, goA_mrk hr, goA_sen hr, gd_row0, gd_row8, if_false, gn_succ]
    rw [if_pos ((gnlb_10 (by omega) (by decide)).2 (by omega)), gn_in (by omega) (by omega), if_pos rfl, gn_nat (by omega)]
    exact ih (i + 1) _ (by omega) K
theorem c_begin_35 (K : gK c d n p m) (S : gSm n (gI m) s) (hP : s 698 18 = Int32.ofNat P) (hP2 : P ≤ 40) {k b : Nat} (hk : k < P) (hb : b < 4) {x3 : Int32} : ∀ j i, i + j = P → gd_Den (99, 35, [.ref 698, .int (Int32.ofNat k), .int (Int32.ofNat b), .int x3, .int (Int32.ofNat (gCt s (s 735 k) b i)), .int (Int32.ofNat i)], [], m) = gd_Den (99, 35, [.ref 698, .int (Int32.ofNat k), .int (Int32.ofNat b), .int x3, .int (Int32.ofNat (gCt s (s 735 k) b P)), .int (Int32.ofNat P)], [], m) := by
  intro j
  induction j with
  | zero =>
    intro i h
    have : i = P := by omega
    subst this; rfl
  | succ j ih =>
    intro i h
    rw [q_Mo_begin_35]
    simp only [gK_N K, gK_8_0 K, gK_8_1 K, gK_8_2 K, gK_8_3 K, gK_8_4 K, gK_8_5 K, gK_8_6 K, gK_8_7 K, gK_8_8 K, gK_10_0 K, gK_10_1 K, gK_10_2 K, gK_11_0 K, gK_15_0 K, gK_15_1 K, gK_15_2 K, gK_15_3 K, gK_20_0 K, gK_20_1 K, gK_20_2 K, gK_20_3 K, gK_20_4 K, gK_20_5 K, gK_698_0 K, gK_698_3 K, gK_698_16 K, gK_698_17 K, gK_698_20 K, gK_698_21 K, gK_698_22 K, gK_698_23 K, gK_698_24 K, gK_698_25 K, gK_698_26 K, gK_698_27 K, gK_698_28 K, gK_698_29 K, gK_698_30 K, gK_698_31 K, gK_698_32 K, gK_698_33 K, gK_698_34 K, gK_698_35 K, gK_698_36 K, gK_698_37 K, gK_698_38 K, gK_698_39 K, gK_698_41 K, gK_698_42 K, gK_698_44 K, gK_c K, gK_d K, gK_n K, gK_p K, gok_8, gok_10, gok_11, gok_15, gok_20, gok_698, gok_699, goA_9, goA_12, goA_13, goA_14, goA_16, goA_17, goA_18, goA_19, goA_21, goA_22, goA_23, goA_24, goA_25, goA_26, goA_27, goA_28, goA_29, goA_30, goA_31, goA_732, goA_733, goA_734, goA_735, goA_736, goA_737, goA_738, goA_739, goA_740, goA_741, goA_742, goA_743, goA_744, goA_745, goA_746, goA_747, goA_748, goA_749, goA_750, goA_751, goA_752, goA_753, goA_754, goA_755, goA_756, goA_757, gN_wI, gR_wI, gL_wI, if_true, eq_self, gS_n K S, gS_n5 K S, gS_n6 K S, gS_n7 K S, gS_n8 K S, gS_n9 K S, gS_n10 K S, gS_n11 K S, gS_n12 K S, gS_n13 K S, gS_n14 K S, gS_n15 K S, gS_732 S, gS_735 S, gS_736 S, gS_737 S, gS_738 S, gS_739 S, gS_740 S, gS_741 S, gS_742 S, gS_743 S, gS_744 S, gS_745 S, gS_746 S, gS_698_4 S, gS_698_14 S, gS_698_15 S, gS_698_18 S, gS_698_19 S, hP, gm4, gn_add]
    rw [if_pos ((gn_lt (by omega) (by omega)).2 (by omega)), gn_in (by omega) (show i < 40 by omega), if_pos rfl, gn_in (by omega) (show k < 40 by omega), if_pos rfl, gn_nat (by omega), gn_nat (by omega), gn_in (by omega) (show 4 * i + b < 160 by omega), gn_nat (by omega), if_pos rfl, gn_succ]
    have ih' := ih (i + 1) (by omega)
    have e : gCt s (s 735 k) b (i + 1) = gCt s (s 735 k) b i + if s 735 i = s 735 k ∧ s 738 (4 * i + b) ≠ 0 then 1 else 0 := rfl
    rw [e] at ih'
    by_cases h1 : s 735 i = s 735 k
    · rw [if_pos h1]
      by_cases h2 : s 738 (4 * i + b) = 0
      · rw [if_pos h2, Int32.add_zero]
        rw [if_neg (fun q => q.2 h2)] at ih'
        exact ih'
      · rw [if_neg h2, gn_succ]
        rw [if_pos ⟨h1, h2⟩] at ih'
        exact ih'
    · rw [if_neg h1, Int32.add_zero]
      rw [if_neg (fun q => h1 q.1)] at ih'
      exact ih'
theorem c_begin_157 {x1 x2 x4 : Int32} {r : Nat} (hr : r < 160) : ∀ j i (m : gd_M), i + j = 6 → gK c d n p m → gd_Den (99, 157, [.ref 698, .int x1, .int x2, .int (Int32.ofNat r), .int x4, .int (Int32.ofNat i)], [], m) = gd_Den (99, 186, [.ref 698, .int x1, .int x2, .int (Int32.ofNat r), .int x4, .int 0], [], wFl m 741 (6 * r + i) (-1) j) := by
  intro j
  induction j with
  | zero =>
    intro i m h K
    have : i = 6 := by omega
    subst this
    rw [q_Mo_begin_157]; rfl
  | succ j ih =>
    intro i m h K
    rw [q_Mo_begin_157]
    simp only [gK_N K, gK_8_0 K, gK_8_1 K, gK_8_2 K, gK_8_3 K, gK_8_4 K, gK_8_5 K, gK_8_6 K, gK_8_7 K, gK_8_8 K, gK_10_0 K, gK_10_1 K, gK_10_2 K, gK_11_0 K, gK_15_0 K, gK_15_1 K, gK_15_2 K, gK_15_3 K, gK_20_0 K, gK_20_1 K, gK_20_2 K, gK_20_3 K, gK_20_4 K, gK_20_5 K, gK_698_0 K, gK_698_3 K, gK_698_16 K, gK_698_17 K, gK_698_20 K, gK_698_21 K, gK_698_22 K, gK_698_23 K, gK_698_24 K, gK_698_25 K, gK_698_26 K, gK_698_27 K, gK_698_28 K, gK_698_29 K, gK_698_30 K, gK_698_31 K, gK_698_32 K, gK_698_33 K, gK_698_34 K, gK_698_35 K, gK_698_36 K, gK_698_37 K, gK_698_38 K, gK_698_39 K, gK_698_41 K, gK_698_42 K, gK_698_44 K, gK_c K, gK_d K, gK_n K, gK_p K, gok_8, gok_10, gok_11, gok_15, gok_20, gok_698, gok_699, goA_9, goA_12, goA_13, goA_14, goA_16, goA_17, goA_18, goA_19, goA_21, goA_22, goA_23, goA_24, goA_25, goA_26, goA_27, goA_28, goA_29, goA_30, goA_31, goA_732, goA_733, goA_734, goA_735, goA_736, goA_737, goA_738, goA_739, goA_740, goA_741, goA_742, goA_743, goA_744, goA_745, goA_746, goA_747, goA_748, goA_749, goA_750, goA_751, goA_752, goA_753, goA_754, goA_755, goA_756, goA_757, gN_wI, gR_wI, gL_wI, if_true, eq_self, gm6, gn_add, gn_succ]
    rw [if_pos ((gnlb_6 (by omega) (by decide)).2 (by omega)), gn_in (by omega) (by omega), if_pos rfl, gn_nat (by omega)]
    exact ih (i + 1) _ (by omega) K
theorem c_begin_186 {x1 x2 x4 : Int32} {r : Nat} (hr : r < 160) : ∀ j i (m : gd_M), i + j = 160 → gK c d n p m → gd_Den (99, 186, [.ref 698, .int x1, .int x2, .int (Int32.ofNat r), .int x4, .int (Int32.ofNat i)], [], m) = some (.int (x4 + 1), wFl m 744 (160 * r + i) 0 j) := by
  intro j
  induction j with
  | zero =>
    intro i m h K
    have : i = 160 := by omega
    subst this
    rw [q_Mo_begin_186]; rfl
  | succ j ih =>
    intro i m h K
    rw [q_Mo_begin_186]
    simp only [gK_N K, gK_8_0 K, gK_8_1 K, gK_8_2 K, gK_8_3 K, gK_8_4 K, gK_8_5 K, gK_8_6 K, gK_8_7 K, gK_8_8 K, gK_10_0 K, gK_10_1 K, gK_10_2 K, gK_11_0 K, gK_15_0 K, gK_15_1 K, gK_15_2 K, gK_15_3 K, gK_20_0 K, gK_20_1 K, gK_20_2 K, gK_20_3 K, gK_20_4 K, gK_20_5 K, gK_698_0 K, gK_698_3 K, gK_698_16 K, gK_698_17 K, gK_698_20 K, gK_698_21 K, gK_698_22 K, gK_698_23 K, gK_698_24 K, gK_698_25 K, gK_698_26 K, gK_698_27 K, gK_698_28 K, gK_698_29 K, gK_698_30 K, gK_698_31 K, gK_698_32 K, gK_698_33 K, gK_698_34 K, gK_698_35 K, gK_698_36 K, gK_698_37 K, gK_698_38 K, gK_698_39 K, gK_698_41 K, gK_698_42 K, gK_698_44 K, gK_c K, gK_d K, gK_n K, gK_p K, gok_8, gok_10, gok_11, gok_15, gok_20, gok_698, gok_699, goA_9, goA_12, goA_13, goA_14, goA_16, goA_17, goA_18, goA_19, goA_21, goA_22, goA_23, goA_24, goA_25, goA_26, goA_27, goA_28, goA_29, goA_30, goA_31, goA_732, goA_733, goA_734, goA_735, goA_736, goA_737, goA_738, goA_739, goA_740, goA_741, goA_742, goA_743, goA_744, goA_745, goA_746, goA_747, goA_748, goA_749, goA_750, goA_751, goA_752, goA_753, goA_754, goA_755, goA_756, goA_757, gN_wI, gR_wI, gL_wI, if_true, eq_self, gm160, gn_add, gn_succ, gd_vn0]
    rw [if_pos ((gnlb_160 (by omega) (by decide)).2 (by omega)), gn_in (by omega) (by omega), if_pos rfl, gn_nat (by omega)]
    exact ih (i + 1) _ (by omega) K
end P58
