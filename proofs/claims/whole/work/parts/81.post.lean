/-! ===== post ===== -/
theorem iRow_l {A s s' : gd_C} {r : Nat} (h : iRow A s r) (e : rEq s s' r) (l : s 698 19 ≤ s' 698 19) : iRow A s' r := by
  have h5 := iRow_pst h
  obtain ⟨a1, a2, a3, a4, a5, a6, a7, a8, a9⟩ := e
  unfold iRow at h ⊢
  rw [a1, a2, a8, a9]
  obtain ⟨b1, b2, b3, b4, b5, b6⟩ := h
  refine ⟨b1, b2, fun q i hi => ?_, fun q j hj => ?_, fun q => ?_, b6⟩
  · obtain ⟨k, -, hk, e⟩ := b2
    rw [a3 i (by rw [e, gn_of (by omega)] at hi; omega)]; exact b3 q i hi
  · rw [a4 j hj]; exact b4 q j hj
  · rcases h5 q with t | t
    · exact .inl t
    · exact .inr ⟨t.1, Int32.le_trans t.2 l⟩
theorem gPc_set {s s' : gd_C} {r : Nat} (h0 : gPo s r = false) (h1 : gPo s' r = true) (h : ∀ q, q ≠ r → gPo s' q = gPo s q) : ∀ k, gPc s' k = gPc s k + if r < k then 1 else 0 := by
  intro k
  induction k with
  | zero => rfl
  | succ k ih =>
    show gPc s' k + (if gPo s' k = true then 1 else 0) = gPc s k + (if gPo s k = true then 1 else 0) + _
    rw [ih]
    by_cases e : k = r
    · subst e
      rw [h0, h1, if_pos rfl, if_neg (Nat.lt_irrefl k), if_neg (by decide), if_pos (Nat.lt_succ_self k)]
    · rw [h k e]
      have : (if r < k + 1 then 1 else 0 : Nat) = if r < k then 1 else 0 := by
        by_cases q : r < k
        · rw [if_pos q, if_pos (by omega)]
        · rw [if_neg q, if_neg (by omega)]
      rw [this]; omega
section P81
variable {c d n p : Nat} {m : gd_M} {s A : gd_C} {r : Nat}
/-- posting, in the class -/
def pPo (r : Nat) (time E Z : Int32) (m : gd_M) : gd_M := wI (wI (wI (wI m (58 + 4 * r) 4 1) (58 + 4 * r) 13 time) (58 + 4 * r) 11 E) (58 + 4 * r) 12 Z
theorem pPo_r {time E Z : Int32} {j : Nat} : gI (pPo r time E Z m) (58 + 4 * r) j = if j = 12 then Z else if j = 11 then E else if j = 13 then time else if j = 4 then 1 else gI m (58 + 4 * r) j := by
  unfold pPo
  rw [gI_wI_m, gI_wI_m, gI_wI_m, gI_wI_m]
theorem pPo_f {time E Z : Int32} {a : Nat} (h : a ≠ 58 + 4 * r) : gI (pPo r time E Z m) a = gI m a := by
  unfold pPo
  rw [gI_wI_f h, gI_wI_f h, gI_wI_f h, gI_wI_f h]
theorem c_putPosting (K : gK c d n p m) (C : cAll c n (gI m) s) (I : iAll n s) (hr : r < 160) (hb : s 738 r ≠ 0) (h5 : gI m (58 + 4 * r) 5 = 0) {time : Int32} : gd_call 136 [.ref (58 + 4 * r), .int time, .ref c] m = some (.null, pPo r time (gJd (gCd n s) (gMk s r)) (gSc (gCd n s) (s 739 r) (gEn s r) (gMk s r) (gSn s r)) m) := by
  obtain ⟨N, hN1, hN6, hNe⟩ := iCd_pan (iAll_cod I)
  have hc := gK_c1 K
  have W := cAll_rw C r hr
  have Cd := cAll_cd C
  have K2 : gK c d n p (wI (wI m (58 + 4 * r) 4 1) (58 + 4 * r) 13 time) := K
  have e1 : gI (wI (wI m (58 + 4 * r) 4 1) (58 + 4 * r) 13 time) (c + 12) 3 = Int32.ofNat N := by
    rw [gI_wI_a (by omega), gI_wI_a (by omega), cCd_pan Cd, hNe]
  rw [q_Ro_putPosting]
  simp only [gK_N K, gK_8_0 K, gK_8_1 K, gK_8_2 K, gK_8_3 K, gK_8_4 K, gK_8_5 K, gK_8_6 K, gK_8_7 K, gK_8_8 K, gK_10_0 K, gK_10_1 K, gK_10_2 K, gK_11_0 K, gK_15_0 K, gK_15_1 K, gK_15_2 K, gK_15_3 K, gK_20_0 K, gK_20_1 K, gK_20_2 K, gK_20_3 K, gK_20_4 K, gK_20_5 K, gK_698_0 K, gK_698_3 K, gK_698_16 K, gK_698_17 K, gK_698_20 K, gK_698_21 K, gK_698_22 K, gK_698_23 K, gK_698_24 K, gK_698_25 K, gK_698_26 K, gK_698_27 K, gK_698_28 K, gK_698_29 K, gK_698_30 K, gK_698_31 K, gK_698_32 K, gK_698_33 K, gK_698_34 K, gK_698_35 K, gK_698_36 K, gK_698_37 K, gK_698_38 K, gK_698_39 K, gK_698_41 K, gK_698_42 K, gK_698_44 K, gK_c K, gK_d K, gK_n K, gK_p K, gok_8, gok_10, gok_11, gok_15, gok_20, gok_698, gok_699, goA_9, goA_12, goA_13, goA_14, goA_16, goA_17, goA_18, goA_19, goA_21, goA_22, goA_23, goA_24, goA_25, goA_26, goA_27, goA_28, goA_29, goA_30, goA_31, goA_732, goA_733, goA_734, goA_735, goA_736, goA_737, goA_738, goA_739, goA_740, goA_741, goA_742, goA_743, goA_744, goA_745, goA_746, goA_747, goA_748, goA_749, goA_750, goA_751, goA_752, goA_753, goA_754, goA_755, goA_756, goA_757, gN_wI, gR_wI, gL_wI, if_true, eq_self, gok_c K, gok_d K, gok_n K, gok_p K, gK_c_0 K, gK_c_1 K, gK_c_2 K, gK_c_3 K, gK_c_4 K, gK_c_5 K, gK_c_6 K, gK_c_7 K, gK_c_8 K, gK_c_9 K, gK_c_10 K, gK_c_11 K, gK_n_3 K, gK_n_4 K, gK_n_5 K, gK_n_6 K, gK_n_7 K, gK_n_8 K, gK_n_9 K, gK_n_10 K, gK_n_11 K, gK_n_12 K, gK_n_13 K, gK_n_14 K, gK_n_15 K, gK_n_16 K, gK_n_17 K, goA_c1 K, goA_c2 K, goA_c3 K, goA_c4 K, goA_c5 K, goA_c6 K, goA_c7 K, goA_c8 K, goA_c9 K, goA_c10 K, goA_c11 K, goA_c12 K, goA_n1 K, goA_n2 K, goA_n3 K, goA_n4 K, goA_n5 K, goA_n6 K, goA_n7 K, goA_n8 K, goA_n9 K, goA_n10 K, goA_n11 K, goA_n12 K, goA_n13 K, goA_n14 K, goA_n15 K, gK_row K hr, gK_ent K hr, gK_mrk K hr, gK_sen K hr, gok_row hr, goA_ent hr, goA_mrk hr, goA_sen hr, gd_row0, gd_row8, if_false]
  rw [show gd_in 3 12 = true from rfl, if_pos rfl, show (3 : Int32).toNatClampNeg = 3 from rfl, e1, c_meanOff (A := gCd n s) K2 hr hN1 hN6 hNe (mk := gMk s r) (fun j hj => by rw [gI_wI_f (by omega), gI_wI_f (by omega), gMk_i hj]; exact cRw_mrk W j hj)]
  simp only [gK_N K2, gK_8_0 K2, gK_8_1 K2, gK_8_2 K2, gK_8_3 K2, gK_8_4 K2, gK_8_5 K2, gK_8_6 K2, gK_8_7 K2, gK_8_8 K2, gK_10_0 K2, gK_10_1 K2, gK_10_2 K2, gK_11_0 K2, gK_15_0 K2, gK_15_1 K2, gK_15_2 K2, gK_15_3 K2, gK_20_0 K2, gK_20_1 K2, gK_20_2 K2, gK_20_3 K2, gK_20_4 K2, gK_20_5 K2, gK_698_0 K2, gK_698_3 K2, gK_698_16 K2, gK_698_17 K2, gK_698_20 K2, gK_698_21 K2, gK_698_22 K2, gK_698_23 K2, gK_698_24 K2, gK_698_25 K2, gK_698_26 K2, gK_698_27 K2, gK_698_28 K2, gK_698_29 K2, gK_698_30 K2, gK_698_31 K2, gK_698_32 K2, gK_698_33 K2, gK_698_34 K2, gK_698_35 K2, gK_698_36 K2, gK_698_37 K2, gK_698_38 K2, gK_698_39 K2, gK_698_41 K2, gK_698_42 K2, gK_698_44 K2, gK_c K2, gK_d K2, gK_n K2, gK_p K2, gok_8, gok_10, gok_11, gok_15, gok_20, gok_698, gok_699, goA_9, goA_12, goA_13, goA_14, goA_16, goA_17, goA_18, goA_19, goA_21, goA_22, goA_23, goA_24, goA_25, goA_26, goA_27, goA_28, goA_29, goA_30, goA_31, goA_732, goA_733, goA_734, goA_735, goA_736, goA_737, goA_738, goA_739, goA_740, goA_741, goA_742, goA_743, goA_744, goA_745, goA_746, goA_747, goA_748, goA_749, goA_750, goA_751, goA_752, goA_753, goA_754, goA_755, goA_756, goA_757, gN_wI, gR_wI, gL_wI, if_true, eq_self, gK_row K2 hr, gK_ent K2 hr, gK_mrk K2 hr, gK_sen K2 hr, gok_row hr, goA_ent hr, goA_mrk hr, goA_sen hr, gd_row0, gd_row8, if_false, Option.bind_some, gd_kI_i]
  have K3 : gK c d n p (wI (wI (wI m (58 + 4 * r) 4 1) (58 + 4 * r) 13 time) (58 + 4 * r) 11 (gJd (gCd n s) (gMk s r))) := K
  have Cd3 : cCd c (gI (wI (wI (wI m (58 + 4 * r) 4 1) (58 + 4 * r) 13 time) (58 + 4 * r) 11 (gJd (gCd n s) (gMk s r)))) (gCd n s) := cCd_c Cd fun k hk => by rw [gI_wI_f (by omega), gI_wI_f (by omega), gI_wI_f (by omega)]
  rw [c_settleScore (D := gM0 (gBw (gCd n s) (s 739 r) (gEn s r))) (E := gJd (gCd n s) (gMk s r)) K3 hr Cd3 (iAll_cod I) (sn := gSn s r) (fun f hf i => by rw [gI_wI_f (by omega), gI_wI_f (by omega), gI_wI_f (by omega)]; exact cRw_sn W f hf i) (by rw [gI_wI_k (by decide), gI_wI_k (by decide), gI_wI_k (by decide)]; exact (cRw_sta W hb h5).1) gI_wI_s]
  rfl
/-- the state behind a posting -/
def sPo (s : gd_C) (r : Nat) (time : Int32) : gd_C := gd_up (gd_up s 745 r time) 698 19 time
theorem sPo_f {time : Int32} {q : Nat} (h : q ≠ 745 ∧ q ≠ 698) : sPo s r time q = s q := by
  unfold sPo; rw [gd_up_f (by omega), gd_up_f (by omega)]
theorem sPo_745 {time : Int32} {i : Nat} : sPo s r time 745 i = if i = r then time else s 745 i := by
  unfold sPo; rw [gd_up_a (by decide), gd_up_m]
theorem sPo_698 {time : Int32} {i : Nat} : sPo s r time 698 i = if i = 19 then time else s 698 i := by
  unfold sPo; rw [gd_up_m, gd_up_a (by decide)]
theorem sPo_e {time : Int32} {q : Nat} (h : q ≠ r) : rEq s (sPo s r time) q := by
  refine ⟨by rw [sPo_f (by decide)], by rw [sPo_f (by decide)], fun i _ => by rw [sPo_f (by decide)], fun i _ => by rw [sPo_f (by decide)], by rw [sPo_f (by decide)], by rw [sPo_f (by decide)], fun i _ => by rw [sPo_f (by decide)], by rw [sPo_745, if_neg h], by rw [sPo_f (by decide)]⟩
theorem sPo_c (hn : n = 700 ∨ n = 716) {time : Int32} : gCd n (sPo s r time) = gCd n s := gCd_c fun i hi => sPo_f (by omega)
theorem sPo_En {time : Int32} : gEn (sPo s r time) r = gEn s r := funext fun i => by unfold gEn; rw [sPo_f (by decide)]
theorem sPo_Mk {time : Int32} : gMk (sPo s r time) r = gMk s r := funext fun i => by unfold gMk; rw [sPo_f (by decide)]
theorem sPo_Sn {time : Int32} : gSn (sPo s r time) r = gSn s r := funext fun f => funext fun i => by unfold gSn; rw [sPo_f (by decide)]
theorem iAll_po (I : iAll n s) (hn : n = 700 ∨ n = 716) (hr : r < 160) {time : Int32} (ht : s 698 19 ≤ time) : iAll n (sPo s r time) := by
  have hcd := sPo_c (s := s) (r := r) hn (time := time)
  have h19 : sPo s r time 698 19 = time := by rw [sPo_698, if_pos rfl]
  have h18 : sPo s r time 698 18 = s 698 18 := by rw [sPo_698, if_neg (by decide)]
  have h4 : sPo s r time 698 4 = s 698 4 := by rw [sPo_698, if_neg (by decide)]
  have h0 : 0 ≤ time := Int32.le_trans (iAll_lat I) ht
  refine ⟨by rw [hcd]; exact iAll_cod I, by rw [h4]; exact iAll_tpd I, by rw [h18]; exact iAll_ppl I, by rw [h19]; exact h0, by rw [sPo_f (by decide)]; exact iAll_lan I, fun q hq h1 => ?_, fun q hq => ?_, fun l a ha => ?_, by rw [sPo_f (by decide)]; exact iAll_byt I⟩
  · rw [h18] at h1
    rw [sPo_f (by decide)]; exact iAll_out I q hq h1
  · rw [hcd]
    by_cases e : q = r
    · rw [e]
      have J := iAll_row I r hr
      refine ⟨by rw [sPo_f (by decide)]; exact iRow_bgn J, by rw [sPo_f (by decide)]; exact iRow_len J, fun t i hi => ?_, fun t i hi => ?_, fun t => ?_, fun t => ?_⟩
      · rw [sPo_f (by decide)] at t hi ⊢; exact iRow_ent J t i hi
      · rw [sPo_f (by decide)] at t ⊢; exact iRow_mrk J t i hi
      · rw [sPo_745, if_pos rfl, h19]; exact .inr ⟨h0, Int32.le_refl _⟩
      · rw [sPo_745, if_pos rfl]
        exact .inr fun q => by rw [q] at h0; exact absurd h0 (by decide)
    · exact iRow_l (iAll_row I q hq) (sPo_e e) (by rw [h19]; exact ht)
  · rw [hcd, h18, gCt_c _ fun g _ => ⟨by rw [sPo_f (by decide)], by rw [sPo_f (by decide)]⟩]
    exact iAll_tea I l a ha
theorem P_post (R : gRel c d n p m s) (g a x : Int32) : gPr 137 145 [.int g, .int a, .int x] m := by
  obtain ⟨K, I, C, S, H⟩ := id R
  obtain ⟨P, -, hP2, hP⟩ := iAll_ppl I
  have hn := gK_n1 K
  have hc := gK_c1 K
  obtain ⟨N, hN1, hN6, hNe⟩ := iCd_pan (iAll_cod I)
  cases h : gAt P g a with
  | false =>
    refine gPr_of R (v := -2) (s' := s) ⟨m, ?_, oX_refl, C⟩ (fun m1 K S H => ⟨m1, ?_, oM_refl, S, H⟩) I
    · rw [q_X_post, c_rowOf_no K ((cMt_ppl (cAll_mt C)).trans hP) h]
      simp only [gK_N K, gK_8_0 K, gK_8_1 K, gK_8_2 K, gK_8_3 K, gK_8_4 K, gK_8_5 K, gK_8_6 K, gK_8_7 K, gK_8_8 K, gK_10_0 K, gK_10_1 K, gK_10_2 K, gK_11_0 K, gK_15_0 K, gK_15_1 K, gK_15_2 K, gK_15_3 K, gK_20_0 K, gK_20_1 K, gK_20_2 K, gK_20_3 K, gK_20_4 K, gK_20_5 K, gK_698_0 K, gK_698_3 K, gK_698_16 K, gK_698_17 K, gK_698_20 K, gK_698_21 K, gK_698_22 K, gK_698_23 K, gK_698_24 K, gK_698_25 K, gK_698_26 K, gK_698_27 K, gK_698_28 K, gK_698_29 K, gK_698_30 K, gK_698_31 K, gK_698_32 K, gK_698_33 K, gK_698_34 K, gK_698_35 K, gK_698_36 K, gK_698_37 K, gK_698_38 K, gK_698_39 K, gK_698_41 K, gK_698_42 K, gK_698_44 K, gK_c K, gK_d K, gK_n K, gK_p K, gok_8, gok_10, gok_11, gok_15, gok_20, gok_698, gok_699, goA_9, goA_12, goA_13, goA_14, goA_16, goA_17, goA_18, goA_19, goA_21, goA_22, goA_23, goA_24, goA_25, goA_26, goA_27, goA_28, goA_29, goA_30, goA_31, goA_732, goA_733, goA_734, goA_735, goA_736, goA_737, goA_738, goA_739, goA_740, goA_741, goA_742, goA_743, goA_744, goA_745, goA_746, goA_747, goA_748, goA_749, goA_750, goA_751, goA_752, goA_753, goA_754, goA_755, goA_756, goA_757, gN_wI, gR_wI, gL_wI, if_true, eq_self, Option.bind_some, gd_kR_r]
    · rw [q_Mo_post, c_isAt_no K ((gS_698_18 S).trans hP) hP2 h]
      simp only [gK_N K, gK_8_0 K, gK_8_1 K, gK_8_2 K, gK_8_3 K, gK_8_4 K, gK_8_5 K, gK_8_6 K, gK_8_7 K, gK_8_8 K, gK_10_0 K, gK_10_1 K, gK_10_2 K, gK_11_0 K, gK_15_0 K, gK_15_1 K, gK_15_2 K, gK_15_3 K, gK_20_0 K, gK_20_1 K, gK_20_2 K, gK_20_3 K, gK_20_4 K, gK_20_5 K, gK_698_0 K, gK_698_3 K, gK_698_16 K, gK_698_17 K, gK_698_20 K, gK_698_21 K, gK_698_22 K, gK_698_23 K, gK_698_24 K, gK_698_25 K, gK_698_26 K, gK_698_27 K, gK_698_28 K, gK_698_29 K, gK_698_30 K, gK_698_31 K, gK_698_32 K, gK_698_33 K, gK_698_34 K, gK_698_35 K, gK_698_36 K, gK_698_37 K, gK_698_38 K, gK_698_39 K, gK_698_41 K, gK_698_42 K, gK_698_44 K, gK_c K, gK_d K, gK_n K, gK_p K, gok_8, gok_10, gok_11, gok_15, gok_20, gok_698, gok_699, goA_9, goA_12, goA_13, goA_14, goA_16, goA_17, goA_18, goA_19, goA_21, goA_22, goA_23, goA_24, goA_25, goA_26, goA_27, goA_28, goA_29, goA_30, goA_31, goA_732, goA_733, goA_734, goA_735, goA_736, goA_737, goA_738, goA_739, goA_740, goA_741, goA_742, goA_743, goA_744, goA_745, goA_746, goA_747, goA_748, goA_749, goA_750, goA_751, goA_752, goA_753, goA_754, goA_755, goA_756, goA_757, gN_wI, gR_wI, gL_wI, if_true, eq_self, Option.bind_some, gd_kI_i]
  | true =>
    obtain ⟨k, b, hk, hb, rfl, rfl⟩ := gAt_t hP2 h
    have hr : 4 * k + b < 160 := by omega
    have W := cAll_rw C (4 * k + b) hr
    have hX1 : gd_call 137 [.ref 8, .int (Int32.ofNat k), .int (Int32.ofNat b), .int x] m = if x < s 698 19 then some (.int (-2), m) else (if gOp s (4 * k + b) = true then (if s 742 (4 * k + b) < Int32.ofNat N then some (.int (-1), m) else (if s 743 (4 * k + b) = 0 then ((gd_call 133 [.ref 8, .ref (58 + 4 * (4 * k + b))] m).bind (gd_kV fun m25 => if gd_ok (gN m25) 8 6 = true then (if gd_ok (gN m25) (58 + 4 * (4 * k + b)) 4 = true then ((gd_call 136 [.ref (58 + 4 * (4 * k + b)), .int x, .ref (gR m25 8 9)] m25).bind (gd_kV fun m29 => if gd_ok (gN m29) 8 6 = true then (if gd_ok (gN m29) (58 + 4 * (4 * k + b)) 4 = true then (some (.int (gI (wI (wI m29 8 13 x) 8 14 ((gI (wI m29 8 13 x) 8 14) + 1)) (58 + 4 * (4 * k + b)) 12), (wI (wI m29 8 13 x) 8 14 ((gI (wI m29 8 13 x) 8 14) + 1)))) else none) else none)) else none) else none)) else some (.int (-1), m))) else some (.int (-1), m)) := by
      rw [q_X_post, c_rowOf_at K ((cMt_ppl (cAll_mt C)).trans hP) hP2 hk hb]
      simp only [Option.bind_some, gd_kR_r, gd_row0, gd_row8, if_false, if_true]
      rw [gK_N K, gok_8, if_pos rfl, if_pos rfl, cMt_lat (cAll_mt C), c_isOpen K hr W]
      by_cases h1 : x < s 698 19
      · rw [if_pos h1, if_pos h1]
      · rw [if_neg h1, if_neg h1, gok_row hr, if_pos rfl]
        simp only [Option.bind_some, gd_kI_i, gB_0]
        cases h2 : gOp s (4 * k + b) with
        | false => rfl
        | true =>
          rw [if_neg (show ¬ true = false by decide), if_pos rfl]
          simp only [gK_N K, gok_8, gok_row hr, gK_c K, gok_c K, gK_c_11 K, goA_c12 K, if_true]
          rw [show gd_in 3 12 = true from rfl, if_pos rfl, show (3 : Int32).toNatClampNeg = 3 from rfl, cCd_pan (cAll_cd C), hNe, cRw_mkd W, cRw_ask W]
    have hM1 : ∀ m1, gK c d n p m1 → gSm n (gI m1) s → gd_call 145 [.ref 698, .int (Int32.ofNat k), .int (Int32.ofNat b), .int x] m1 = if x < s 698 19 then some (.int (-2), m1) else (if gOp s (4 * k + b) = true then (if s 742 (4 * k + b) < Int32.ofNat N then some (.int (-1), m1) else (if s 743 (4 * k + b) = 0 then ((gd_call 144 [.ref 698, .int (Int32.ofNat (4 * k + b))] (wI (wI m1 745 (4 * k + b) x) 698 19 x)).bind (gd_kI fun z26 m24 => some (.int z26, m24))) else some (.int (-1), m1))) else some (.int (-1), m1)) := fun m1 K S => by
      rw [q_Mo_post, c_isAt_at K ((gS_698_18 S).trans hP) hP2 hk hb]
      simp only [gK_N K, gK_8_0 K, gK_8_1 K, gK_8_2 K, gK_8_3 K, gK_8_4 K, gK_8_5 K, gK_8_6 K, gK_8_7 K, gK_8_8 K, gK_10_0 K, gK_10_1 K, gK_10_2 K, gK_11_0 K, gK_15_0 K, gK_15_1 K, gK_15_2 K, gK_15_3 K, gK_20_0 K, gK_20_1 K, gK_20_2 K, gK_20_3 K, gK_20_4 K, gK_20_5 K, gK_698_0 K, gK_698_3 K, gK_698_16 K, gK_698_17 K, gK_698_20 K, gK_698_21 K, gK_698_22 K, gK_698_23 K, gK_698_24 K, gK_698_25 K, gK_698_26 K, gK_698_27 K, gK_698_28 K, gK_698_29 K, gK_698_30 K, gK_698_31 K, gK_698_32 K, gK_698_33 K, gK_698_34 K, gK_698_35 K, gK_698_36 K, gK_698_37 K, gK_698_38 K, gK_698_39 K, gK_698_41 K, gK_698_42 K, gK_698_44 K, gK_c K, gK_d K, gK_n K, gK_p K, gok_8, gok_10, gok_11, gok_15, gok_20, gok_698, gok_699, goA_9, goA_12, goA_13, goA_14, goA_16, goA_17, goA_18, goA_19, goA_21, goA_22, goA_23, goA_24, goA_25, goA_26, goA_27, goA_28, goA_29, goA_30, goA_31, goA_732, goA_733, goA_734, goA_735, goA_736, goA_737, goA_738, goA_739, goA_740, goA_741, goA_742, goA_743, goA_744, goA_745, goA_746, goA_747, goA_748, goA_749, goA_750, goA_751, goA_752, goA_753, goA_754, goA_755, goA_756, goA_757, gN_wI, gR_wI, gL_wI, if_true, eq_self, gS_n K S, gS_n5 K S, gS_n6 K S, gS_n7 K S, gS_n8 K S, gS_n9 K S, gS_n10 K S, gS_n11 K S, gS_n12 K S, gS_n13 K S, gS_n14 K S, gS_n15 K S, gS_732 S, gS_735 S, gS_736 S, gS_737 S, gS_738 S, gS_739 S, gS_740 S, gS_741 S, gS_742 S, gS_743 S, gS_744 S, gS_745 S, gS_746 S, gS_698_4 S, gS_698_14 S, gS_698_15 S, gS_698_18 S, gS_698_19 S, Option.bind_some, gd_kI_i, gm4, gn_add]
      rw [if_neg (show ¬ (1 : Int32) = 0 by decide)]
      by_cases h1 : x < s 698 19
      · rw [if_pos h1, if_pos h1]
      · rw [if_neg h1, if_neg h1, c_MisOpen K hr S]
        simp only [gK_N K, gK_8_0 K, gK_8_1 K, gK_8_2 K, gK_8_3 K, gK_8_4 K, gK_8_5 K, gK_8_6 K, gK_8_7 K, gK_8_8 K, gK_10_0 K, gK_10_1 K, gK_10_2 K, gK_11_0 K, gK_15_0 K, gK_15_1 K, gK_15_2 K, gK_15_3 K, gK_20_0 K, gK_20_1 K, gK_20_2 K, gK_20_3 K, gK_20_4 K, gK_20_5 K, gK_698_0 K, gK_698_3 K, gK_698_16 K, gK_698_17 K, gK_698_20 K, gK_698_21 K, gK_698_22 K, gK_698_23 K, gK_698_24 K, gK_698_25 K, gK_698_26 K, gK_698_27 K, gK_698_28 K, gK_698_29 K, gK_698_30 K, gK_698_31 K, gK_698_32 K, gK_698_33 K, gK_698_34 K, gK_698_35 K, gK_698_36 K, gK_698_37 K, gK_698_38 K, gK_698_39 K, gK_698_41 K, gK_698_42 K, gK_698_44 K, gK_c K, gK_d K, gK_n K, gK_p K, gok_8, gok_10, gok_11, gok_15, gok_20, gok_698, gok_699, goA_9, goA_12, goA_13, goA_14, goA_16, goA_17, goA_18, goA_19, goA_21, goA_22, goA_23, goA_24, goA_25, goA_26, goA_27, goA_28, goA_29, goA_30, goA_31, goA_732, goA_733, goA_734, goA_735, goA_736, goA_737, goA_738, goA_739, goA_740, goA_741, goA_742, goA_743, goA_744, goA_745, goA_746, goA_747, goA_748, goA_749, goA_750, goA_751, goA_752, goA_753, goA_754, goA_755, goA_756, goA_757, gN_wI, gR_wI, gL_wI, if_true, eq_self, gS_n K S, gS_n5 K S, gS_n6 K S, gS_n7 K S, gS_n8 K S, gS_n9 K S, gS_n10 K S, gS_n11 K S, gS_n12 K S, gS_n13 K S, gS_n14 K S, gS_n15 K S, gS_732 S, gS_735 S, gS_736 S, gS_737 S, gS_738 S, gS_739 S, gS_740 S, gS_741 S, gS_742 S, gS_743 S, gS_744 S, gS_745 S, gS_746 S, gS_698_4 S, gS_698_14 S, gS_698_15 S, gS_698_18 S, gS_698_19 S, Option.bind_some, gd_kI_i, gB_0]
        cases h2 : gOp s (4 * k + b) with
        | false => rfl
        | true =>
          rw [if_neg (show ¬ true = false by decide), if_pos rfl, gok_n K, gn_in (by omega) hr, if_pos rfl, if_pos rfl, gn_nat (show 4 * k + b < 2147483648 by omega), hNe, if_pos rfl]
          rfl
    by_cases h1 : x < s 698 19
    · exact gPr_of R (v := -2) (s' := s) ⟨m, by rw [hX1, if_pos h1], oX_refl, C⟩ (fun m1 K S H => ⟨m1, by rw [hM1 m1 K S, if_pos h1], oM_refl, S, H⟩) I
    · cases h2 : gOp s (4 * k + b) with
      | false => exact gPr_of R (v := -1) (s' := s) ⟨m, by rw [hX1, if_neg h1, h2]; rfl, oX_refl, C⟩ (fun m1 K S H => ⟨m1, by rw [hM1 m1 K S, if_neg h1, h2]; rfl, oM_refl, S, H⟩) I
      | true =>
        by_cases h3 : s 742 (4 * k + b) < Int32.ofNat N
        · exact gPr_of R (v := -1) (s' := s) ⟨m, by rw [hX1, if_neg h1, h2, if_pos rfl, if_pos h3], oX_refl, C⟩ (fun m1 K S H => ⟨m1, by rw [hM1 m1 K S, if_neg h1, h2, if_pos rfl, if_pos h3], oM_refl, S, H⟩) I
        · by_cases h4 : s 743 (4 * k + b) = 0
          · obtain ⟨hb1, hb2⟩ := gOp_t h2
            have hle := Int32.not_lt.1 h1
            have hI := iAll_po I hn hr (time := x) hle
            have hcd := sPo_c (s := s) (r := 4 * k + b) hn (time := x)
            have h0 : 0 ≤ x := Int32.le_trans (iAll_lat I) hle
            have hx1 : x ≠ -1 := fun q => by rw [q] at h0; exact absurd h0 (by decide)
            obtain ⟨m2, a1, a2, a3, a4⟩ := c_refresh K C I hr hb1
            have K2 := gK_o K a2.1
            have W2 := cAll_rw a3 (4 * k + b) hr
            have M2 := cAll_mt a3
            obtain ⟨E, hE⟩ : ∃ E, gJd (gCd n s) (gMk s (4 * k + b)) = E := ⟨_, rfl⟩
            obtain ⟨Z, hZ⟩ : ∃ Z, gSc (gCd n s) (s 739 (4 * k + b)) (gEn s (4 * k + b)) (gMk s (4 * k + b)) (gSn s (4 * k + b)) = Z := ⟨_, rfl⟩
            have a5 := c_putPosting K2 a3 I hr hb1 a4 (time := x)
            rw [hE, hZ] at a5
            have hcls : gd_call 137 [.ref 8, .int (Int32.ofNat k), .int (Int32.ofNat b), .int x] m = some (.int Z, wI (wI (pPo (4 * k + b) x E Z m2) 8 13 x) 8 14 (gI m2 8 14 + 1)) := by
              rw [hX1, if_neg h1, h2, if_pos rfl, if_neg h3, if_pos h4, a1]
              simp only [gK_N K2, gok_8, gok_row hr, gK_c K2, Option.bind_some, gd_kV_v, if_true]
              rw [a5]
              have K3 : gK c d n p (pPo (4 * k + b) x E Z m2) := K2
              simp only [gK_N K3, gok_8, gok_row hr, Option.bind_some, gd_kV_v, if_true]
              rw [gI_wI_k (show (14 : Nat) ≠ 13 by decide), gI_wI_a (show 58 + 4 * (4 * k + b) ≠ 8 by omega), gI_wI_a (show 58 + 4 * (4 * k + b) ≠ 8 by omega), pPo_r, if_pos rfl, pPo_f (show 8 ≠ 58 + 4 * (4 * k + b) by omega)]
            have u : ∀ q, q ≠ 8 → q ≠ 58 + 4 * (4 * k + b) → gI (wI (wI (pPo (4 * k + b) x E Z m2) 8 13 x) 8 14 (gI m2 8 14 + 1)) q = gI m2 q := fun q q1 q2 => by
              rw [gI_wI_f q1, gI_wI_f q1, pPo_f q2]
            have u8 : ∀ j, gI (wI (wI (pPo (4 * k + b) x E Z m2) 8 13 x) 8 14 (gI m2 8 14 + 1)) 8 j = if j = 14 then gI m2 8 14 + 1 else if j = 13 then x else gI m2 8 j := fun j => by
              rw [gI_wI_m, gI_wI_m, pPo_f (show 8 ≠ 58 + 4 * (4 * k + b) by omega)]
            have ur : ∀ j, gI (wI (wI (pPo (4 * k + b) x E Z m2) 8 13 x) 8 14 (gI m2 8 14 + 1)) (58 + 4 * (4 * k + b)) j = if j = 12 then Z else if j = 11 then E else if j = 13 then x else if j = 4 then 1 else gI m2 (58 + 4 * (4 * k + b)) j := fun j => by
              rw [gI_wI_a (by omega), gI_wI_a (by omega), pPo_r]
            have hcall : cAll c n (gI (wI (wI (pPo (4 * k + b) x E Z m2) 8 13 x) 8 14 (gI m2 8 14 + 1))) (sPo s (4 * k + b) x) := by
              refine cAll_row2 hc a3 hr (fun q q1 q2 => u q (by omega) (by omega)) hcd (fun q hq hne => sPo_e hne) ?_ ?_
              · refine ⟨?_, fun i => ?_, ?_, ?_, ?_, ?_, fun g => ?_, fun g hg a ha => ?_, fun l => ?_, ?_⟩
                · rw [u8, if_neg (by decide), if_neg (by decide), sPo_698, if_neg (by decide)]; exact cMt_tpd M2
                · rw [u 9 (by decide) (by omega), sPo_f (by decide)]; exact cMt_tap M2 i
                · rw [u 10 (by decide) (by omega), sPo_698, if_neg (by decide)]; exact cMt_fkd M2
                · rw [u 10 (by decide) (by omega), sPo_698, if_neg (by decide)]; exact cMt_fpl M2
                · rw [u8, if_neg (by decide), if_neg (by decide), sPo_698, if_neg (by decide)]; exact cMt_ppl M2
                · rw [u8, if_neg (by decide), if_pos rfl, sPo_698, if_pos rfl]
                · rw [u 28 (by decide) (by omega), sPo_f (by decide)]; exact cMt_lan M2 g
                · rw [u 29 (by decide) (by omega), sPo_f (by decide)]; exact cMt_gon M2 g hg a ha
                · rw [u 30 (by decide) (by omega), sPo_f (by decide)]; exact cMt_pai M2 l
                · rw [u8, if_pos rfl, sPo_698, if_neg (by decide), cMt_pos M2, hP, gn_of (by omega), gPc_set (s := s) (s' := sPo s (4 * k + b) x) (r := 4 * k + b) ?_ ?_ (fun q hq => ?_), if_pos (by omega), gn_succ]
                  · unfold gPo; rw [hb2]; cases decide (s 738 (4 * k + b) = 0) <;> rfl
                  · unfold gPo; rw [sPo_745, if_pos rfl, sPo_f (by decide), decide_eq_false hx1, decide_eq_false hb1]; rfl
                  · unfold gPo; rw [sPo_745, if_neg hq, sPo_f (by decide)]
              · refine ⟨?_, ?_, fun i hi => ?_, fun j hj => ?_, ?_, ?_, ?_, fun f hf i => ?_, fun q => ?_, fun q1 q2 => ?_, fun q1 q2 => ?_, fun q1 q2 => ?_⟩
                · rw [ur, sPo_f (by decide)]; exact cRw_bgn W2
                · rw [ur, sPo_f (by decide)]; exact cRw_len W2
                · rw [u _ (by omega) (by omega), sPo_f (by decide)]; exact cRw_ent W2 i hi
                · rw [u _ (by omega) (by omega), sPo_f (by decide)]; exact cRw_mrk W2 j hj
                · rw [ur, sPo_f (by decide)]; exact cRw_mkd W2
                · rw [ur, sPo_f (by decide)]; exact cRw_ask W2
                · rw [ur, sPo_f (by decide)]; exact cRw_inq W2
                · rw [u _ (by omega) (by omega), sPo_f (by decide)]; exact cRw_sen W2 f hf i
                · rw [sPo_745, if_pos (show 4 * k + b = 4 * k + b from rfl), ur, if_neg (by decide), if_neg (by decide), if_neg (by decide), if_pos rfl]
                  exact ⟨fun t => absurd t (by decide), fun t => absurd t hx1⟩
                · rw [sPo_745, if_pos (show 4 * k + b = 4 * k + b from rfl), ur]; rfl
                · rw [ur, ur, sPo_En, sPo_f (by decide)]
                  rw [sPo_f (by decide)] at q1
                  exact cRw_sta W2 q1 a4
                · rw [ur, ur, ur, sPo_En, sPo_Mk, sPo_Sn, sPo_f (by decide), hE, hZ]
                  exact ⟨a4, rfl, rfl⟩
            refine gPr_of R (v := Z) (s' := sPo s (4 * k + b) x) ⟨_, hcls, ⟨a2.1, fun q hq => ?_⟩, hcall⟩ (fun m1 K S H => ?_) hI
            · rw [u q (by omega) (by omega)]; exact a2.2 q hq
            · have S3 : gSm n (gI (wI (wI m1 745 (4 * k + b) x) 698 19 x)) (sPo s (4 * k + b) x) := gSm_w (gSm_w S)
              have H3 : gCh n (gI (wI (wI m1 745 (4 * k + b) x) 698 19 x)) (sPo s (4 * k + b) x) := gCh_e H hcd (sPo_f (by decide)) (sPo_f (by decide)) (sPo_f (by decide)) (by rw [gI_wI_f (by decide), gI_wI_f (by decide)]) (by rw [gI_wI_f (by decide), gI_wI_f (by decide)]) (by rw [gI_wI_f (by decide), gI_wI_f (by decide)])
              have K3 : gK c d n p (wI (wI m1 745 (4 * k + b) x) 698 19 x) := K
              obtain ⟨m3, b1, b2, b3, b4⟩ := c_scoreK K3 S3 H3 hI hr (by rw [sPo_f (by decide)]; exact hb1)
              rw [hcd, sPo_En, sPo_Mk, sPo_Sn, sPo_f (by decide), hZ] at b1
              refine ⟨m3, ?_, oM_tr (oM_w (oM_w oM_refl (by decide)) (by decide)) (oT_M b2), b3, b4⟩
              rw [hM1 m1 K S, if_neg h1, h2, if_pos rfl, if_neg h3, if_pos h4, b1]
              rfl
          · exact gPr_of R (v := -1) (s' := s) ⟨m, by rw [hX1, if_neg h1, h2, if_pos rfl, if_neg h3, if_neg h4], oX_refl, C⟩ (fun m1 K S H => ⟨m1, by rw [hM1 m1 K S, if_neg h1, h2, if_pos rfl, if_neg h3, if_neg h4], oM_refl, S, H⟩) I
end P81
