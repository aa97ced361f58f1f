theorem gPc_g {s s' : gd_C} : ∀ k, (∀ r < k, gPo s' r = gPo s r) → gPc s' k = gPc s k := by
  intro k
  induction k with
  | zero => intro _; rfl
  | succ k ih =>
    intro h
    show gPc s' k + _ = gPc s k + _
    rw [ih fun g hg => h g (by omega), h k (by omega)]
section SBG
variable {s : gd_C} {r : Nat}
theorem sBeg_738 {g : Nat} : sBeg s r 738 g = if g = r then 1 else s 738 g := by
  unfold sBeg; simp (disch := decide) only [gUr_a, gd_up_a, gd_up_m]
theorem sBeg_739 {g : Nat} : sBeg s r 739 g = if g = r then 0 else s 739 g := by
  unfold sBeg; simp (disch := decide) only [gUr_a, gd_up_a, gd_up_m]
theorem sBeg_742 {g : Nat} : sBeg s r 742 g = if g = r then 0 else s 742 g := by
  unfold sBeg; simp (disch := decide) only [gUr_a, gd_up_a, gd_up_m]
theorem sBeg_743 {g : Nat} : sBeg s r 743 g = if g = r then 0 else s 743 g := by
  unfold sBeg; simp (disch := decide) only [gUr_a, gd_up_a, gd_up_m]
theorem sBeg_745 {g : Nat} : sBeg s r 745 g = if g = r then -1 else s 745 g := by
  unfold sBeg; simp (disch := decide) only [gUr_a, gd_up_a, gd_up_m]
theorem sBeg_746 {g : Nat} : sBeg s r 746 g = if g = r then 0 else s 746 g := by
  unfold sBeg; simp (disch := decide) only [gUr_a, gd_up_a, gd_up_m]
theorem sBeg_740 {g : Nat} : sBeg s r 740 g = s 740 g := by
  unfold sBeg; simp (disch := decide) only [gUr_a, gd_up_a, gd_up_m]
theorem sBeg_741 {g : Nat} : sBeg s r 741 g = if 6 * r + 0 ≤ g ∧ g < 6 * r + 0 + 6 then -1 else s 741 g := by
  unfold sBeg; simp (disch := decide) only [gUr_a, gd_up_a, gUr_m]
theorem sBeg_744 {g : Nat} : sBeg s r 744 g = if 160 * r + 0 ≤ g ∧ g < 160 * r + 0 + 160 then 0 else s 744 g := by
  unfold sBeg; simp (disch := decide) only [gUr_a, gd_up_a, gUr_m]
theorem sBeg_f {b : Nat} (h : b < 738 ∨ 746 < b) : sBeg s r b = s b := by
  unfold sBeg
  rw [gUr_f (by omega), gUr_f (by omega), gd_up_f (by omega), gd_up_f (by omega), gd_up_f (by omega), gd_up_f (by omega), gd_up_f (by omega), gd_up_f (by omega)]
theorem sBeg_r {r' : Nat} (h : r' ≠ r) (hr : r' < 160) : rEq s (sBeg s r) r' := by
  refine ⟨?_, ?_, fun i _ => sBeg_740, fun i hi => ?_, ?_, ?_, fun i hi => ?_, ?_, ?_⟩
  · rw [sBeg_738, if_neg h]
  · rw [sBeg_739, if_neg h]
  · rw [sBeg_741, if_neg (by omega)]
  · rw [sBeg_742, if_neg h]
  · rw [sBeg_743, if_neg h]
  · rw [sBeg_744, if_neg (by omega)]
  · rw [sBeg_745, if_neg h]
  · rw [sBeg_746, if_neg h]
end SBG
/-- the class's row begun; the reference's -/
def mBeg (m : gd_M) (r : Nat) : gd_M := wI (wI (wI (wI (wI (wI (wI (wFl (wFl m (60 + 4 * r) 0 (-1) 6) (61 + 4 * r) 0 0 10) (58 + 4 * r) 3 1) (58 + 4 * r) 4 0) (58 + 4 * r) 5 1) (58 + 4 * r) 6 0) (58 + 4 * r) 7 0) (58 + 4 * r) 8 0) (58 + 4 * r) 14 0
def nBeg (m : gd_M) (r : Nat) : gd_M := wFl (wFl (wI (wI (wI (wI (wI (wI (wI m 738 r 1) 739 r 0) 742 r 0) 743 r 0) 745 r (-1)) 746 r 0) 749 r 0) 741 (6 * r + 0) (-1) 6) 744 (160 * r + 0) 0 160
theorem wI_2 {m : gd_M} {a k : Nat} {x : Int32} : (wI m a k x).2 = m.2 := rfl
theorem mBeg_2 {m : gd_M} {r : Nat} : (mBeg m r).2 = m.2 := by
  unfold mBeg
  rw [wI_2, wI_2, wI_2, wI_2, wI_2, wI_2, wI_2, wFl_2, wFl_2]
theorem mBeg_f {m : gd_M} {r a : Nat} (h : a < 58 + 4 * r ∨ 61 + 4 * r < a) : gI (mBeg m r) a = gI m a := by
  unfold mBeg
  rw [gI_wI_f (by omega), gI_wI_f (by omega), gI_wI_f (by omega), gI_wI_f (by omega), gI_wI_f (by omega), gI_wI_f (by omega), gI_wI_f (by omega), gI_wFl, gUr_f (by omega), gI_wFl, gUr_f (by omega)]
theorem mBeg_e {m : gd_M} {r : Nat} : gI (mBeg m r) (59 + 4 * r) = gI m (59 + 4 * r) := by
  unfold mBeg
  rw [gI_wI_f (by omega), gI_wI_f (by omega), gI_wI_f (by omega), gI_wI_f (by omega), gI_wI_f (by omega), gI_wI_f (by omega), gI_wI_f (by omega), gI_wFl, gUr_f (by omega), gI_wFl, gUr_f (by omega)]
theorem mBeg_m {m : gd_M} {r j : Nat} (h : j < 6) : gI (mBeg m r) (60 + 4 * r) j = -1 := by
  unfold mBeg
  rw [gI_wI_a (by omega), gI_wI_a (by omega), gI_wI_a (by omega), gI_wI_a (by omega), gI_wI_a (by omega), gI_wI_a (by omega), gI_wI_a (by omega), gI_wFl, gUr_a (by omega), gI_wFl, gUr_m, if_pos (by omega)]
theorem mBeg_s {m : gd_M} {r j : Nat} (h : j < 10) : gI (mBeg m r) (61 + 4 * r) j = 0 := by
  unfold mBeg
  rw [gI_wI_a (by omega), gI_wI_a (by omega), gI_wI_a (by omega), gI_wI_a (by omega), gI_wI_a (by omega), gI_wI_a (by omega), gI_wI_a (by omega), gI_wFl, gUr_m, if_pos (by omega)]
theorem mBeg_k {m : gd_M} {r : Nat} : gI (mBeg m r) (58 + 4 * r) 3 = 1 ∧ gI (mBeg m r) (58 + 4 * r) 4 = 0 ∧ gI (mBeg m r) (58 + 4 * r) 5 = 1 ∧ gI (mBeg m r) (58 + 4 * r) 6 = 0 ∧ gI (mBeg m r) (58 + 4 * r) 7 = 0 ∧ gI (mBeg m r) (58 + 4 * r) 8 = 0 ∧ gI (mBeg m r) (58 + 4 * r) 14 = 0 := by
  unfold mBeg
  refine ⟨?_, ?_, ?_, ?_, ?_, ?_, gI_wI_s⟩
  · rw [gI_wI_k (by decide), gI_wI_k (by decide), gI_wI_k (by decide), gI_wI_k (by decide), gI_wI_k (by decide), gI_wI_k (by decide), gI_wI_s]
  · rw [gI_wI_k (by decide), gI_wI_k (by decide), gI_wI_k (by decide), gI_wI_k (by decide), gI_wI_k (by decide), gI_wI_s]
  · rw [gI_wI_k (by decide), gI_wI_k (by decide), gI_wI_k (by decide), gI_wI_k (by decide), gI_wI_s]
  · rw [gI_wI_k (by decide), gI_wI_k (by decide), gI_wI_k (by decide), gI_wI_s]
  · rw [gI_wI_k (by decide), gI_wI_k (by decide), gI_wI_s]
  · rw [gI_wI_k (by decide), gI_wI_s]
section P59
variable {c d n p : Nat} {m : gd_M} {s : gd_C}
theorem c_start (K : gK c d n p m) {r : Nat} (hr : r < 160) : gd_call 95 [.ref (58 + 4 * r)] m = some (.null, mBeg m r) := by
  rw [q_Ro_start]
  exact (c_start_2 hr 6 0 m rfl K).trans (c_start_23 hr 10 0 _ rfl (gK_o K (wFl_2 _ _ _)))
theorem iAll_beg (I : iAll n s) (hn : n = 700 ∨ n = 716) {P T k b : Nat} (hP : s 698 18 = Int32.ofNat P) (hP2 : P ≤ 40) (hk : k < P) (hb : b < 4) (h0 : s 738 (4 * k + b) = 0) (hT : gCd n s 0 23 = Int32.ofNat T) (hT6 : T ≤ 6) (ht : gCt s (s 735 k) b P < T) : iAll n (sBeg s (4 * k + b)) := by
  have hcd : gCd n (sBeg s (4 * k + b)) = gCd n s := gCd_c fun i hi => sBeg_f (by omega)
  have hgP : gn (s 698 18) = P := by rw [hP, gn_of (by omega)]
  have e698 : sBeg s (4 * k + b) 698 = s 698 := sBeg_f (by omega)
  have e735 : sBeg s (4 * k + b) 735 = s 735 := sBeg_f (by omega)
  refine ⟨by rw [hcd]; exact iAll_cod I, by rw [e698]; exact iAll_tpd I, by rw [e698]; exact iAll_ppl I, by rw [e698]; exact iAll_lat I, by rw [e735]; exact iAll_lan I, fun r hr h1 => ?_, fun r hr => ?_, fun l a ha => ?_, fun i => by rw [show sBeg s (4 * k + b) 732 = s 732 from sBeg_f (by omega)]; exact iAll_byt I i⟩
  · rw [e698, hgP] at h1
    rw [sBeg_738, if_neg (by omega)]
    exact iAll_out I r hr (by rw [hgP]; exact h1)
  · rw [hcd]
    by_cases e : r = 4 * k + b
    · subst e
      refine ⟨.inr (by rw [sBeg_738, if_pos rfl]), ?_, fun _ i hi => ?_, fun _ j hj => ?_, fun _ => ?_, fun _ => ?_⟩
      · rw [sBeg_739, if_pos rfl]; exact isN_i (k := 0) (by decide) (by decide)
      · rw [sBeg_739, if_pos rfl] at hi
        exact absurd hi (Nat.not_lt_zero i)
      · rw [sBeg_741, if_pos (by omega)]; exact .inl rfl
      · rw [sBeg_745, if_pos rfl]; exact .inl rfl
      · rw [sBeg_746, if_pos rfl]; exact .inl rfl
    · exact iRow_c (iAll_row I r hr) (sBeg_r e hr) (by rw [e698])
  · have h1 := iAll_tea I l a ha
    rw [hcd, e698]
    rw [hgP, hT, gn_of (by omega)] at h1 ⊢
    rw [gCt_set (s := s) (s' := sBeg s (4 * k + b)) hb h0 (fun g => by rw [e735]) (fun g => sBeg_738) l ha P]
    by_cases q : k < P ∧ a = b ∧ s 735 k = l
    · rw [if_pos q]
      obtain ⟨-, rfl, rfl⟩ := q
      omega
    · rw [if_neg q]; exact h1
theorem cAll_beg (C : cAll c n (gI m) s) (hc : c = 32 ∨ c = 45) (hn : n = 700 ∨ n = 716) {r : Nat} (hr : r < 160) (h0 : s 738 r = 0) : cAll c n (gI (mBeg m r)) (sBeg s r) := by
  have hcd : gCd n (sBeg s r) = gCd n s := gCd_c fun i hi => sBeg_f (by omega)
  have W := cAll_rw C r hr
  refine ⟨?_, ?_, fun q hq => ?_⟩
  · have M := cAll_mt C
    have hp : ∀ k, gPc (sBeg s r) k = gPc s k := fun k => gPc_g k fun q _ => by
      unfold gPo
      rw [sBeg_738, sBeg_745]
      by_cases e : q = r
      · rw [if_pos e, if_pos e, e, h0]; rfl
      · rw [if_neg e, if_neg e]
    unfold cMt at M ⊢
    rw [mBeg_f (a := 8) (by omega), mBeg_f (a := 9) (by omega), mBeg_f (a := 10) (by omega), mBeg_f (a := 28) (by omega), mBeg_f (a := 29) (by omega), mBeg_f (a := 30) (by omega), sBeg_f (b := 698) (by omega), sBeg_f (b := 732) (by omega), sBeg_f (b := 735) (by omega), sBeg_f (b := 736) (by omega), sBeg_f (b := 737) (by omega), hp]
    exact M
  · rw [hcd]; exact cCd_c (cAll_cd C) fun k hk => mBeg_f (by omega)
  · rw [hcd]
    by_cases e : q = r
    · subst e
      obtain ⟨k3, k4, k5, k6, k7, k8, k14⟩ := mBeg_k (m := m) (r := q)
      refine ⟨?_, ?_, fun i hi => ?_, fun j hj => ?_, ?_, ?_, ?_, fun f hf i => ?_, fun _ => ?_, fun _ h => ?_, fun _ h => ?_, fun _ h => ?_⟩
      · rw [k3, sBeg_738, if_pos rfl]
      · rw [k6, sBeg_739, if_pos rfl]
      · rw [mBeg_e, sBeg_740]; exact cRw_ent W i hi
      · rw [mBeg_m hj, sBeg_741, if_pos (by omega)]
      · rw [k7, sBeg_742, if_pos rfl]
      · rw [k8, sBeg_743, if_pos rfl]
      · rw [k14, sBeg_746, if_pos rfl]
      · rw [mBeg_s hf, gb_zero, sBeg_744]
        by_cases hi : i < 16
        · rw [if_pos (by omega)]; simp
        · rw [decide_eq_false hi]; rfl
      · rw [k4, sBeg_745, if_pos rfl]; exact ⟨fun _ => rfl, fun _ => rfl⟩
      · rw [sBeg_745, if_pos rfl] at h; exact absurd rfl h
      · rw [k5] at h; exact absurd h (by decide)
      · rw [sBeg_745, if_pos rfl] at h; exact absurd rfl h
    · exact cRw_c (cAll_rw C q hq) (fun a h1 h2 => mBeg_f (by omega)) (sBeg_r e hq)
theorem P_begin (R : gRel c d n p m s) (g a : Int32) : gPr 96 99 [.int g, .int a] m := by
  obtain ⟨K, I, C, S, H⟩ := id R
  obtain ⟨P, -, hP2, hP⟩ := iAll_ppl I
  have hn := gK_n1 K
  cases h : gAt P g a with
  | false =>
    refine gPr_of R (v := -2) (s' := s) ⟨m, ?_, oX_refl, C⟩ (fun m1 K S H => ⟨m1, ?_, oM_refl, S, H⟩) I
    · rw [q_X_begin, c_rowOf_no K ((cMt_ppl (cAll_mt C)).trans hP) h]
      simp only [gK_N K, gK_8_0 K, gK_8_1 K, gK_8_2 K, gK_8_3 K, gK_8_4 K, gK_8_5 K, gK_8_6 K, gK_8_7 K, gK_8_8 K, gK_10_0 K, gK_10_1 K, gK_10_2 K, gK_11_0 K, gK_15_0 K, gK_15_1 K, gK_15_2 K, gK_15_3 K, gK_20_0 K, gK_20_1 K, gK_20_2 K, gK_20_3 K, gK_20_4 K, gK_20_5 K, gK_698_0 K, gK_698_3 K, gK_698_16 K, gK_698_17 K, gK_698_20 K, gK_698_21 K, gK_698_22 K, gK_698_23 K, gK_698_24 K, gK_698_25 K, gK_698_26 K, gK_698_27 K, gK_698_28 K, gK_698_29 K, gK_698_30 K, gK_698_31 K, gK_698_32 K, gK_698_33 K, gK_698_34 K, gK_698_35 K, gK_698_36 K, gK_698_37 K, gK_698_38 K, gK_698_39 K, gK_698_41 K, gK_698_42 K, gK_698_44 K, gK_c K, gK_d K, gK_n K, gK_p K, gok_8, gok_10, gok_11, gok_15, gok_20, gok_698, gok_699, goA_9, goA_12, goA_13, goA_14, goA_16, goA_17, goA_18, goA_19, goA_21, goA_22, goA_23, goA_24, goA_25, goA_26, goA_27, goA_28, goA_29, goA_30, goA_31, goA_732, goA_733, goA_734, goA_735, goA_736, goA_737, goA_738, goA_739, goA_740, goA_741, goA_742, goA_743, goA_744, goA_745, goA_746, goA_747, goA_748, goA_749, goA_750, goA_751, goA_752, goA_753, goA_754, goA_755, goA_756, goA_757, gN_wI, gR_wI, gL_wI, if_true, eq_self, Option.bind_some, gd_kR_r]
    · rw [q_Mo_begin, c_isAt_no K ((gS_698_18 S).trans hP) hP2 h]
      simp only [gK_N K, gK_8_0 K, gK_8_1 K, gK_8_2 K, gK_8_3 K, gK_8_4 K, gK_8_5 K, gK_8_6 K, gK_8_7 K, gK_8_8 K, gK_10_0 K, gK_10_1 K, gK_10_2 K, gK_11_0 K, gK_15_0 K, gK_15_1 K, gK_15_2 K, gK_15_3 K, gK_20_0 K, gK_20_1 K, gK_20_2 K, gK_20_3 K, gK_20_4 K, gK_20_5 K, gK_698_0 K, gK_698_3 K, gK_698_16 K, gK_698_17 K, gK_698_20 K, gK_698_21 K, gK_698_22 K, gK_698_23 K, gK_698_24 K, gK_698_25 K, gK_698_26 K, gK_698_27 K, gK_698_28 K, gK_698_29 K, gK_698_30 K, gK_698_31 K, gK_698_32 K, gK_698_33 K, gK_698_34 K, gK_698_35 K, gK_698_36 K, gK_698_37 K, gK_698_38 K, gK_698_39 K, gK_698_41 K, gK_698_42 K, gK_698_44 K, gK_c K, gK_d K, gK_n K, gK_p K, gok_8, gok_10, gok_11, gok_15, gok_20, gok_698, gok_699, goA_9, goA_12, goA_13, goA_14, goA_16, goA_17, goA_18, goA_19, goA_21, goA_22, goA_23, goA_24, goA_25, goA_26, goA_27, goA_28, goA_29, goA_30, goA_31, goA_732, goA_733, goA_734, goA_735, goA_736, goA_737, goA_738, goA_739, goA_740, goA_741, goA_742, goA_743, goA_744, goA_745, goA_746, goA_747, goA_748, goA_749, goA_750, goA_751, goA_752, goA_753, goA_754, goA_755, goA_756, goA_757, gN_wI, gR_wI, gL_wI, if_true, eq_self, Option.bind_some, gd_kI_i]
  | true =>
    obtain ⟨k, b, hk, hb, rfl, rfl⟩ := gAt_t hP2 h
    have hr : 4 * k + b < 160 := by omega
    by_cases h1 : s 738 (4 * k + b) = 0
    · have hte := iAll_tea I (s 735 k) b hb
      obtain ⟨T, hT1, hT2, hT⟩ := iCd_tea (iAll_cod I)
      rw [hP, gn_of (by omega), hT, gn_of (by omega)] at hte
      have hX : gd_call 96 [.ref 8, .int (Int32.ofNat k), .int (Int32.ofNat b)] m = if gCt s (s 735 k) b P < T then some (.int (Int32.ofNat (gCt s (s 735 k) b P + 1)), mBeg m (4 * k + b)) else some (.int (-3), m) := by
        rw [q_X_begin, c_rowOf_at K ((cMt_ppl (cAll_mt C)).trans hP) hP2 hk hb]
        simp only [gK_N K, gK_8_0 K, gK_8_1 K, gK_8_2 K, gK_8_3 K, gK_8_4 K, gK_8_5 K, gK_8_6 K, gK_8_7 K, gK_8_8 K, gK_10_0 K, gK_10_1 K, gK_10_2 K, gK_11_0 K, gK_15_0 K, gK_15_1 K, gK_15_2 K, gK_15_3 K, gK_20_0 K, gK_20_1 K, gK_20_2 K, gK_20_3 K, gK_20_4 K, gK_20_5 K, gK_698_0 K, gK_698_3 K, gK_698_16 K, gK_698_17 K, gK_698_20 K, gK_698_21 K, gK_698_22 K, gK_698_23 K, gK_698_24 K, gK_698_25 K, gK_698_26 K, gK_698_27 K, gK_698_28 K, gK_698_29 K, gK_698_30 K, gK_698_31 K, gK_698_32 K, gK_698_33 K, gK_698_34 K, gK_698_35 K, gK_698_36 K, gK_698_37 K, gK_698_38 K, gK_698_39 K, gK_698_41 K, gK_698_42 K, gK_698_44 K, gK_c K, gK_d K, gK_n K, gK_p K, gok_8, gok_10, gok_11, gok_15, gok_20, gok_698, gok_699, goA_9, goA_12, goA_13, goA_14, goA_16, goA_17, goA_18, goA_19, goA_21, goA_22, goA_23, goA_24, goA_25, goA_26, goA_27, goA_28, goA_29, goA_30, goA_31, goA_732, goA_733, goA_734, goA_735, goA_736, goA_737, goA_738, goA_739, goA_740, goA_741, goA_742, goA_743, goA_744, goA_745, goA_746, goA_747, goA_748, goA_749, goA_750, goA_751, goA_752, goA_753, goA_754, goA_755, goA_756, goA_757, gN_wI, gR_wI, gL_wI, if_true, eq_self, gok_c K, gok_d K, gok_n K, gok_p K, gK_c_0 K, gK_c_1 K, gK_c_2 K, gK_c_3 K, gK_c_4 K, gK_c_5 K, gK_c_6 K, gK_c_7 K, gK_c_8 K, gK_c_9 K, gK_c_10 K, gK_c_11 K, gK_n_3 K, gK_n_4 K, gK_n_5 K, gK_n_6 K, gK_n_7 K, gK_n_8 K, gK_n_9 K, gK_n_10 K, gK_n_11 K, gK_n_12 K, gK_n_13 K, gK_n_14 K, gK_n_15 K, gK_n_16 K, gK_n_17 K, goA_c1 K, goA_c2 K, goA_c3 K, goA_c4 K, goA_c5 K, goA_c6 K, goA_c7 K, goA_c8 K, goA_c9 K, goA_c10 K, goA_c11 K, goA_c12 K, goA_n1 K, goA_n2 K, goA_n3 K, goA_n4 K, goA_n5 K, goA_n6 K, goA_n7 K, goA_n8 K, goA_n9 K, goA_n10 K, goA_n11 K, goA_n12 K, goA_n13 K, goA_n14 K, goA_n15 K, cMt_tpd (cAll_mt C), cMt_tap (cAll_mt C), cMt_fkd (cAll_mt C), cMt_fpl (cAll_mt C), cMt_ppl (cAll_mt C), cMt_lat (cAll_mt C), cMt_lan (cAll_mt C), cMt_pai (cAll_mt C), cMt_pos (cAll_mt C), cCd_pts (cAll_cd C), cCd_lks (cAll_cd C), cCd_fts (cAll_cd C), cCd_pan (cAll_cd C), cCd_spa (cAll_cd C), cCd_cnt (cAll_cd C), cCd_sho (cAll_cd C), cCd_les (cAll_cd C), cCd_tea (cAll_cd C), cCd_bst (cAll_cd C), cCd_fin (cAll_cd C), cCd_lnd (cAll_cd C), cRw_bgn (cAll_rw C _ hr), cRw_len (cAll_rw C _ hr), cRw_mkd (cAll_rw C _ hr), cRw_ask (cAll_rw C _ hr), cRw_inq (cAll_rw C _ hr), gK_row K hr, gK_ent K hr, gK_mrk K hr, gK_sen K hr, gok_row hr, goA_ent hr, goA_mrk hr, goA_sen hr, gd_row0, gd_row8, if_false, Option.bind_some, gd_kR_r]
        rw [if_pos h1, gn_in (by omega) (show k < 40 by omega), if_pos rfl, gn_nat (show k < 2147483648 by omega), c_routinesOf K C hP hP2 hb]
        simp only [gK_N K, gK_8_0 K, gK_8_1 K, gK_8_2 K, gK_8_3 K, gK_8_4 K, gK_8_5 K, gK_8_6 K, gK_8_7 K, gK_8_8 K, gK_10_0 K, gK_10_1 K, gK_10_2 K, gK_11_0 K, gK_15_0 K, gK_15_1 K, gK_15_2 K, gK_15_3 K, gK_20_0 K, gK_20_1 K, gK_20_2 K, gK_20_3 K, gK_20_4 K, gK_20_5 K, gK_698_0 K, gK_698_3 K, gK_698_16 K, gK_698_17 K, gK_698_20 K, gK_698_21 K, gK_698_22 K, gK_698_23 K, gK_698_24 K, gK_698_25 K, gK_698_26 K, gK_698_27 K, gK_698_28 K, gK_698_29 K, gK_698_30 K, gK_698_31 K, gK_698_32 K, gK_698_33 K, gK_698_34 K, gK_698_35 K, gK_698_36 K, gK_698_37 K, gK_698_38 K, gK_698_39 K, gK_698_41 K, gK_698_42 K, gK_698_44 K, gK_c K, gK_d K, gK_n K, gK_p K, gok_8, gok_10, gok_11, gok_15, gok_20, gok_698, gok_699, goA_9, goA_12, goA_13, goA_14, goA_16, goA_17, goA_18, goA_19, goA_21, goA_22, goA_23, goA_24, goA_25, goA_26, goA_27, goA_28, goA_29, goA_30, goA_31, goA_732, goA_733, goA_734, goA_735, goA_736, goA_737, goA_738, goA_739, goA_740, goA_741, goA_742, goA_743, goA_744, goA_745, goA_746, goA_747, goA_748, goA_749, goA_750, goA_751, goA_752, goA_753, goA_754, goA_755, goA_756, goA_757, gN_wI, gR_wI, gL_wI, if_true, eq_self, gok_c K, gok_d K, gok_n K, gok_p K, gK_c_0 K, gK_c_1 K, gK_c_2 K, gK_c_3 K, gK_c_4 K, gK_c_5 K, gK_c_6 K, gK_c_7 K, gK_c_8 K, gK_c_9 K, gK_c_10 K, gK_c_11 K, gK_n_3 K, gK_n_4 K, gK_n_5 K, gK_n_6 K, gK_n_7 K, gK_n_8 K, gK_n_9 K, gK_n_10 K, gK_n_11 K, gK_n_12 K, gK_n_13 K, gK_n_14 K, gK_n_15 K, gK_n_16 K, gK_n_17 K, goA_c1 K, goA_c2 K, goA_c3 K, goA_c4 K, goA_c5 K, goA_c6 K, goA_c7 K, goA_c8 K, goA_c9 K, goA_c10 K, goA_c11 K, goA_c12 K, goA_n1 K, goA_n2 K, goA_n3 K, goA_n4 K, goA_n5 K, goA_n6 K, goA_n7 K, goA_n8 K, goA_n9 K, goA_n10 K, goA_n11 K, goA_n12 K, goA_n13 K, goA_n14 K, goA_n15 K, cMt_tpd (cAll_mt C), cMt_tap (cAll_mt C), cMt_fkd (cAll_mt C), cMt_fpl (cAll_mt C), cMt_ppl (cAll_mt C), cMt_lat (cAll_mt C), cMt_lan (cAll_mt C), cMt_pai (cAll_mt C), cMt_pos (cAll_mt C), cCd_pts (cAll_cd C), cCd_lks (cAll_cd C), cCd_fts (cAll_cd C), cCd_pan (cAll_cd C), cCd_spa (cAll_cd C), cCd_cnt (cAll_cd C), cCd_sho (cAll_cd C), cCd_les (cAll_cd C), cCd_tea (cAll_cd C), cCd_bst (cAll_cd C), cCd_fin (cAll_cd C), cCd_lnd (cAll_cd C), Option.bind_some, gd_kI_i]
        rw [show gd_in 8 12 = true from rfl, if_pos rfl, show (8 : Int32).toNatClampNeg = 8 from rfl, cCd_tea (cAll_cd C), hT]
        by_cases h2 : gCt s (s 735 k) b P < T
        · rw [if_pos h2, if_pos ((gn_lt (by omega) (by omega)).2 h2), gok_row hr, if_pos rfl, c_start K hr]
          simp only [Option.bind_some, gd_kV_v, gn_succ]
        · rw [if_neg h2, if_neg (fun q => h2 ((gn_lt (by omega) (by omega)).1 q))]
      have hM : ∀ m1, gK c d n p m1 → gSm n (gI m1) s → gd_call 99 [.ref 698, .int (Int32.ofNat k), .int (Int32.ofNat b)] m1 = if gCt s (s 735 k) b P < T then some (.int (Int32.ofNat (gCt s (s 735 k) b P + 1)), nBeg m1 (4 * k + b)) else some (.int (-3), m1) := fun m1 K S => by
        rw [q_Mo_begin, c_isAt_at K ((gS_698_18 S).trans hP) hP2 hk hb]
        simp only [gK_N K, gK_8_0 K, gK_8_1 K, gK_8_2 K, gK_8_3 K, gK_8_4 K, gK_8_5 K, gK_8_6 K, gK_8_7 K, gK_8_8 K, gK_10_0 K, gK_10_1 K, gK_10_2 K, gK_11_0 K, gK_15_0 K, gK_15_1 K, gK_15_2 K, gK_15_3 K, gK_20_0 K, gK_20_1 K, gK_20_2 K, gK_20_3 K, gK_20_4 K, gK_20_5 K, gK_698_0 K, gK_698_3 K, gK_698_16 K, gK_698_17 K, gK_698_20 K, gK_698_21 K, gK_698_22 K, gK_698_23 K, gK_698_24 K, gK_698_25 K, gK_698_26 K, gK_698_27 K, gK_698_28 K, gK_698_29 K, gK_698_30 K, gK_698_31 K, gK_698_32 K, gK_698_33 K, gK_698_34 K, gK_698_35 K, gK_698_36 K, gK_698_37 K, gK_698_38 K, gK_698_39 K, gK_698_41 K, gK_698_42 K, gK_698_44 K, gK_c K, gK_d K, gK_n K, gK_p K, gok_8, gok_10, gok_11, gok_15, gok_20, gok_698, gok_699, goA_9, goA_12, goA_13, goA_14, goA_16, goA_17, goA_18, goA_19, goA_21, goA_22, goA_23, goA_24, goA_25, goA_26, goA_27, goA_28, goA_29, goA_30, goA_31, goA_732, goA_733, goA_734, goA_735, goA_736, goA_737, goA_738, goA_739, goA_740, goA_741, goA_742, goA_743, goA_744, goA_745, goA_746, goA_747, goA_748, goA_749, goA_750, goA_751, goA_752, goA_753, goA_754, goA_755, goA_756, goA_757, gN_wI, gR_wI, gL_wI, if_true, eq_self, gS_n K S, gS_n5 K S, gS_n6 K S, gS_n7 K S, gS_n8 K S, gS_n9 K S, gS_n10 K S, gS_n11 K S, gS_n12 K S, gS_n13 K S, gS_n14 K S, gS_n15 K S, gS_732 S, gS_735 S, gS_736 S, gS_737 S, gS_738 S, gS_739 S, gS_740 S, gS_741 S, gS_742 S, gS_743 S, gS_744 S, gS_745 S, gS_746 S, gS_698_4 S, gS_698_14 S, gS_698_15 S, gS_698_18 S, gS_698_19 S, Option.bind_some, gd_kI_i, gm4, gn_add, gn_nat (show 4 * k + b < 2147483648 by omega), gn_in (show 4 * k + b < 2147483648 by omega) hr]
        rw [if_neg (by decide), if_pos h1]
        have hl := c_begin_35 K S hP hP2 hk hb (x3 := Int32.ofNat (4 * k + b)) P 0 (by omega)
        rw [show gCt s (s 735 k) b 0 = 0 from rfl, show Int32.ofNat 0 = 0 from rfl] at hl
        rw [hl, q_Mo_begin_35]
        simp only [gK_N K, gK_8_0 K, gK_8_1 K, gK_8_2 K, gK_8_3 K, gK_8_4 K, gK_8_5 K, gK_8_6 K, gK_8_7 K, gK_8_8 K, gK_10_0 K, gK_10_1 K, gK_10_2 K, gK_11_0 K, gK_15_0 K, gK_15_1 K, gK_15_2 K, gK_15_3 K, gK_20_0 K, gK_20_1 K, gK_20_2 K, gK_20_3 K, gK_20_4 K, gK_20_5 K, gK_698_0 K, gK_698_3 K, gK_698_16 K, gK_698_17 K, gK_698_20 K, gK_698_21 K, gK_698_22 K, gK_698_23 K, gK_698_24 K, gK_698_25 K, gK_698_26 K, gK_698_27 K, gK_698_28 K, gK_698_29 K, gK_698_30 K, gK_698_31 K, gK_698_32 K, gK_698_33 K, gK_698_34 K, gK_698_35 K, gK_698_36 K, gK_698_37 K, gK_698_38 K, gK_698_39 K, gK_698_41 K, gK_698_42 K, gK_698_44 K, gK_c K, gK_d K, gK_n K, gK_p K, gok_8, gok_10, gok_11, gok_15, gok_20, gok_698, gok_699, goA_9, goA_12, goA_13, goA_14, goA_16, goA_17, goA_18, goA_19, goA_21, goA_22, goA_23, goA_24, goA_25, goA_26, goA_27, goA_28, goA_29, goA_30, goA_31, goA_732, goA_733, goA_734, goA_735, goA_736, goA_737, goA_738, goA_739, goA_740, goA_741, goA_742, goA_743, goA_744, goA_745, goA_746, goA_747, goA_748, goA_749, goA_750, goA_751, goA_752, goA_753, goA_754, goA_755, goA_756, goA_757, gN_wI, gR_wI, gL_wI, if_true, eq_self, gok_c K, gok_d K, gok_n K, gok_p K, gK_c_0 K, gK_c_1 K, gK_c_2 K, gK_c_3 K, gK_c_4 K, gK_c_5 K, gK_c_6 K, gK_c_7 K, gK_c_8 K, gK_c_9 K, gK_c_10 K, gK_c_11 K, gK_n_3 K, gK_n_4 K, gK_n_5 K, gK_n_6 K, gK_n_7 K, gK_n_8 K, gK_n_9 K, gK_n_10 K, gK_n_11 K, gK_n_12 K, gK_n_13 K, gK_n_14 K, gK_n_15 K, gK_n_16 K, gK_n_17 K, goA_c1 K, goA_c2 K, goA_c3 K, goA_c4 K, goA_c5 K, goA_c6 K, goA_c7 K, goA_c8 K, goA_c9 K, goA_c10 K, goA_c11 K, goA_c12 K, goA_n1 K, goA_n2 K, goA_n3 K, goA_n4 K, goA_n5 K, goA_n6 K, goA_n7 K, goA_n8 K, goA_n9 K, goA_n10 K, goA_n11 K, goA_n12 K, goA_n13 K, goA_n14 K, goA_n15 K, gS_n K S, gS_n5 K S, gS_n6 K S, gS_n7 K S, gS_n8 K S, gS_n9 K S, gS_n10 K S, gS_n11 K S, gS_n12 K S, gS_n13 K S, gS_n14 K S, gS_n15 K S, gS_732 S, gS_735 S, gS_736 S, gS_737 S, gS_738 S, gS_739 S, gS_740 S, gS_741 S, gS_742 S, gS_743 S, gS_744 S, gS_745 S, gS_746 S, gS_698_4 S, gS_698_14 S, gS_698_15 S, gS_698_18 S, gS_698_19 S, hP]
        rw [if_neg (fun q => by have := (gn_lt (by omega) (by omega)).1 q; omega), hT]
        simp only [gn_nat (show 4 * k + b < 2147483648 by omega), gn_in (show 4 * k + b < 2147483648 by omega) hr, if_true, gd_vn0, gd_vn1]
        by_cases h2 : gCt s (s 735 k) b P < T
        · rw [if_pos h2, if_neg (fun q => by have := (gn_eq (by omega) (by omega)).1 q; omega)]
          have e1 := c_begin_157 (c := c) (d := d) (n := n) (p := p) (x1 := Int32.ofNat k) (x2 := Int32.ofNat b) (x4 := Int32.ofNat (gCt s (s 735 k) b P)) hr 6 0 (wI (wI (wI (wI (wI (wI (wI m1 738 (4 * k + b) 1) 739 (4 * k + b) 0) 742 (4 * k + b) 0) 743 (4 * k + b) 0) 745 (4 * k + b) (-1)) 746 (4 * k + b) 0) 749 (4 * k + b) 0) rfl K
          have e2 := c_begin_186 (c := c) (d := d) (n := n) (p := p) (x1 := Int32.ofNat k) (x2 := Int32.ofNat b) (x4 := Int32.ofNat (gCt s (s 735 k) b P)) hr 160 0 (wFl (wI (wI (wI (wI (wI (wI (wI m1 738 (4 * k + b) 1) 739 (4 * k + b) 0) 742 (4 * k + b) 0) 743 (4 * k + b) 0) 745 (4 * k + b) (-1)) 746 (4 * k + b) 0) 749 (4 * k + b) 0) 741 (6 * (4 * k + b) + 0) (-1) 6) rfl (gK_o K (wFl_2 _ _ _))
          rw [gn_succ] at e2
          exact e1.trans e2
        · rw [if_neg h2, if_pos (by rw [show gCt s (s 735 k) b P = T by omega])]
      by_cases h2 : gCt s (s 735 k) b P < T
      · have hcd : gCd n (sBeg s (4 * k + b)) = gCd n s := gCd_c fun i hi => sBeg_f (by omega)
        refine gPr_of R (v := Int32.ofNat (gCt s (s 735 k) b P + 1)) (s' := sBeg s (4 * k + b)) ⟨mBeg m (4 * k + b), by rw [hX, if_pos h2], ⟨mBeg_2, fun a ha => mBeg_f (by omega)⟩, cAll_beg C (gK_c1 K) hn hr h1⟩ (fun m1 K S H => ⟨nBeg m1 (4 * k + b), by rw [hM m1 K S, if_pos h2], oM_wFl (by decide) _ _ _ _ (oM_wFl (by decide) _ _ _ _ (oM_w (oM_w (oM_w (oM_w (oM_w (oM_w (oM_w oM_refl (by decide)) (by decide)) (by decide)) (by decide)) (by decide)) (by decide)) (by decide))), gSm_wFl _ _ _ _ (gSm_wFl _ _ _ _ (gSm_n (gSm_w (gSm_w (gSm_w (gSm_w (gSm_w (gSm_w S)))))) (by rcases hn with rfl | rfl <;> rfl))), gCh_c H hcd fun q hq => ?_⟩) (iAll_beg I hn hP hP2 hk hb h1 hT hT2 h2)
        by_cases e1 : q = 4 * k + b
        · right; left
          unfold nBeg
          rw [gI_wFl, gUr_a (by decide), gI_wFl, gUr_a (by decide), e1]; exact gI_wI_s
        · right; right
          unfold nBeg
          refine ⟨sBeg_r e1 hq, ?_, ?_, ?_⟩
          · rw [gI_wFl, gUr_a (by decide), gI_wFl, gUr_a (by decide)]; rfl
          · rw [gI_wFl, gUr_a (by decide), gI_wFl, gUr_a (by decide)]; rfl
          · rw [gI_wFl, gUr_a (by decide), gI_wFl, gUr_a (by decide), gI_wI_k e1]; rfl
      · exact gPr_of R (v := -3) (s' := s) ⟨m, by rw [hX, if_neg h2], oX_refl, C⟩ (fun m1 K S H => ⟨m1, by rw [hM m1 K S, if_neg h2], oM_refl, S, H⟩) I
    · refine gPr_of R (v := -1) (s' := s) ⟨m, ?_, oX_refl, C⟩ (fun m1 K S H => ⟨m1, ?_, oM_refl, S, H⟩) I
      · rw [q_X_begin, c_rowOf_at K ((cMt_ppl (cAll_mt C)).trans hP) hP2 hk hb]
        simp only [gK_N K, gK_8_0 K, gK_8_1 K, gK_8_2 K, gK_8_3 K, gK_8_4 K, gK_8_5 K, gK_8_6 K, gK_8_7 K, gK_8_8 K, gK_10_0 K, gK_10_1 K, gK_10_2 K, gK_11_0 K, gK_15_0 K, gK_15_1 K, gK_15_2 K, gK_15_3 K, gK_20_0 K, gK_20_1 K, gK_20_2 K, gK_20_3 K, gK_20_4 K, gK_20_5 K, gK_698_0 K, gK_698_3 K, gK_698_16 K, gK_698_17 K, gK_698_20 K, gK_698_21 K, gK_698_22 K, gK_698_23 K, gK_698_24 K, gK_698_25 K, gK_698_26 K, gK_698_27 K, gK_698_28 K, gK_698_29 K, gK_698_30 K, gK_698_31 K, gK_698_32 K, gK_698_33 K, gK_698_34 K, gK_698_35 K, gK_698_36 K, gK_698_37 K, gK_698_38 K, gK_698_39 K, gK_698_41 K, gK_698_42 K, gK_698_44 K, gK_c K, gK_d K, gK_n K, gK_p K, gok_8, gok_10, gok_11, gok_15, gok_20, gok_698, gok_699, goA_9, goA_12, goA_13, goA_14, goA_16, goA_17, goA_18, goA_19, goA_21, goA_22, goA_23, goA_24, goA_25, goA_26, goA_27, goA_28, goA_29, goA_30, goA_31, goA_732, goA_733, goA_734, goA_735, goA_736, goA_737, goA_738, goA_739, goA_740, goA_741, goA_742, goA_743, goA_744, goA_745, goA_746, goA_747, goA_748, goA_749, goA_750, goA_751, goA_752, goA_753, goA_754, goA_755, goA_756, goA_757, gN_wI, gR_wI, gL_wI, if_true, eq_self, gok_c K, gok_d K, gok_n K, gok_p K, gK_c_0 K, gK_c_1 K, gK_c_2 K, gK_c_3 K, gK_c_4 K, gK_c_5 K, gK_c_6 K, gK_c_7 K, gK_c_8 K, gK_c_9 K, gK_c_10 K, gK_c_11 K, gK_n_3 K, gK_n_4 K, gK_n_5 K, gK_n_6 K, gK_n_7 K, gK_n_8 K, gK_n_9 K, gK_n_10 K, gK_n_11 K, gK_n_12 K, gK_n_13 K, gK_n_14 K, gK_n_15 K, gK_n_16 K, gK_n_17 K, goA_c1 K, goA_c2 K, goA_c3 K, goA_c4 K, goA_c5 K, goA_c6 K, goA_c7 K, goA_c8 K, goA_c9 K, goA_c10 K, goA_c11 K, goA_c12 K, goA_n1 K, goA_n2 K, goA_n3 K, goA_n4 K, goA_n5 K, goA_n6 K, goA_n7 K, goA_n8 K, goA_n9 K, goA_n10 K, goA_n11 K, goA_n12 K, goA_n13 K, goA_n14 K, goA_n15 K, cMt_tpd (cAll_mt C), cMt_tap (cAll_mt C), cMt_fkd (cAll_mt C), cMt_fpl (cAll_mt C), cMt_ppl (cAll_mt C), cMt_lat (cAll_mt C), cMt_lan (cAll_mt C), cMt_pai (cAll_mt C), cMt_pos (cAll_mt C), cCd_pts (cAll_cd C), cCd_lks (cAll_cd C), cCd_fts (cAll_cd C), cCd_pan (cAll_cd C), cCd_spa (cAll_cd C), cCd_cnt (cAll_cd C), cCd_sho (cAll_cd C), cCd_les (cAll_cd C), cCd_tea (cAll_cd C), cCd_bst (cAll_cd C), cCd_fin (cAll_cd C), cCd_lnd (cAll_cd C), cRw_bgn (cAll_rw C _ hr), cRw_len (cAll_rw C _ hr), cRw_mkd (cAll_rw C _ hr), cRw_ask (cAll_rw C _ hr), cRw_inq (cAll_rw C _ hr), gK_row K hr, gK_ent K hr, gK_mrk K hr, gK_sen K hr, gok_row hr, goA_ent hr, goA_mrk hr, goA_sen hr, gd_row0, gd_row8, if_false, Option.bind_some, gd_kR_r]
        rw [if_neg h1]
      · rw [q_Mo_begin, c_isAt_at K ((gS_698_18 S).trans hP) hP2 hk hb]
        simp only [gK_N K, gK_8_0 K, gK_8_1 K, gK_8_2 K, gK_8_3 K, gK_8_4 K, gK_8_5 K, gK_8_6 K, gK_8_7 K, gK_8_8 K, gK_10_0 K, gK_10_1 K, gK_10_2 K, gK_11_0 K, gK_15_0 K, gK_15_1 K, gK_15_2 K, gK_15_3 K, gK_20_0 K, gK_20_1 K, gK_20_2 K, gK_20_3 K, gK_20_4 K, gK_20_5 K, gK_698_0 K, gK_698_3 K, gK_698_16 K, gK_698_17 K, gK_698_20 K, gK_698_21 K, gK_698_22 K, gK_698_23 K, gK_698_24 K, gK_698_25 K, gK_698_26 K, gK_698_27 K, gK_698_28 K, gK_698_29 K, gK_698_30 K, gK_698_31 K, gK_698_32 K, gK_698_33 K, gK_698_34 K, gK_698_35 K, gK_698_36 K, gK_698_37 K, gK_698_38 K, gK_698_39 K, gK_698_41 K, gK_698_42 K, gK_698_44 K, gK_c K, gK_d K, gK_n K, gK_p K, gok_8, gok_10, gok_11, gok_15, gok_20, gok_698, gok_699, goA_9, goA_12, goA_13, goA_14, goA_16, goA_17, goA_18, goA_19, goA_21, goA_22, goA_23, goA_24, goA_25, goA_26, goA_27, goA_28, goA_29, goA_30, goA_31, goA_732, goA_733, goA_734, goA_735, goA_736, goA_737, goA_738, goA_739, goA_740, goA_741, goA_742, goA_743, goA_744, goA_745, goA_746, goA_747, goA_748, goA_749, goA_750, goA_751, goA_752, goA_753, goA_754, goA_755, goA_756, goA_757, gN_wI, gR_wI, gL_wI, if_true, eq_self, gS_n K S, gS_n5 K S, gS_n6 K S, gS_n7 K S, gS_n8 K S, gS_n9 K S, gS_n10 K S, gS_n11 K S, gS_n12 K S, gS_n13 K S, gS_n14 K S, gS_n15 K S, gS_732 S, gS_735 S, gS_736 S, gS_737 S, gS_738 S, gS_739 S, gS_740 S, gS_741 S, gS_742 S, gS_743 S, gS_744 S, gS_745 S, gS_746 S, gS_698_4 S, gS_698_14 S, gS_698_15 S, gS_698_18 S, gS_698_19 S, Option.bind_some, gd_kI_i, gm4, gn_add, gn_nat (show 4 * k + b < 2147483648 by omega), gn_in (show 4 * k + b < 2147483648 by omega) hr]
        rw [if_neg (by decide), if_neg h1]
end P59
