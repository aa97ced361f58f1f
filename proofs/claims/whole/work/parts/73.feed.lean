/-! ===== feed ===== -/
theorem gn_nn {k : Nat} (h : k < 2147483648) : ¬ Int32.ofNat k < 0 := by rw [Int32.lt_iff_toInt_lt, gn_toInt h]; simp
def gBy (x : Int32) (j : Nat) : Int32 := ((((x >>> (Int32.ofNat (8 * j) &&& 31)) : Int32).toInt8.toInt32 : Int32)).toInt8.toInt32
theorem gBy_x {x : Int32} {j : Nat} (hj : j < 4) : ((((x.toUInt32 >>> ((Int32.ofNat (8 * j)).toUInt32 &&& Int32.toUInt32 31)).toInt32 : Int32)).toInt8.toInt32).toInt8.toInt32 = gBy x j := by
  unfold gBy
  congr 2
  congr 1
  have h1 := (show ∀ j < 4, ((((Int32.ofNat (8 * j)).toUInt32 &&& Int32.toUInt32 31) % 32).toBitVec).toNat = 8 * j ∧ ((Int32.ofNat (8 * j) &&& 31).toBitVec.smod 32).toNat = 8 * j from by decide +kernel) j hj
  refine Int8.toBitVec_inj.1 (BitVec.eq_of_getLsbD_eq fun i hi => ?_)
  show (BitVec.signExtend 8 (x.toBitVec >>> ((((Int32.ofNat (8 * j)).toUInt32 &&& Int32.toUInt32 31) % 32).toBitVec).toNat)).getLsbD i = (BitVec.signExtend 8 (x.toBitVec.sshiftRight ((Int32.ofNat (8 * j) &&& 31).toBitVec.smod 32).toNat)).getLsbD i
  rw [h1.1, h1.2, BitVec.getLsbD_signExtend, BitVec.getLsbD_signExtend, BitVec.getLsbD_ushiftRight, BitVec.getLsbD_sshiftRight, if_pos (show i < 32 by omega), if_pos (show i < 32 by omega), if_pos (show 8 * j + i < 32 by omega), decide_eq_false (show ¬ 32 ≤ i by omega)]
  rfl
def pB (x : Int32) : Nat → Nat → gd_M → gd_M
  | 0, _, m => m
  | j + 1, T, m => pB x j (T + 1) (wI (wI m 9 T (gBy x j)) 8 11 (Int32.ofNat (T + 1)))
def nB (x : Int32) : Nat → Nat → gd_M → gd_M
  | 0, _, m => m
  | j + 1, T, m => nB x j (T + 1) (wI (wI m 732 T (gBy x j)) 698 4 (Int32.ofNat (T + 1)))
def sB (x : Int32) : Nat → Nat → gd_C → gd_C
  | 0, _, s => s
  | j + 1, T, s => sB x j (T + 1) (gd_up (gd_up s 732 T (gBy x j)) 698 4 (Int32.ofNat (T + 1)))
section P73
variable {c d n p : Nat} {m : gd_M} {s : gd_C}
theorem pB_2 {x : Int32} : ∀ j T m, (pB x j T m).2 = m.2 := by
  intro j
  induction j with
  | zero => intro T m; rfl
  | succ j ih => intro T m; exact ih (T + 1) _
theorem nB_2 {x : Int32} : ∀ j T m, (nB x j T m).2 = m.2 := by
  intro j
  induction j with
  | zero => intro T m; rfl
  | succ j ih => intro T m; exact ih (T + 1) _
theorem pB_o {x : Int32} : ∀ j T m m1, oX m m1 → oX m (pB x j T m1) := by
  intro j
  induction j with
  | zero => intro T m m1 h; exact h
  | succ j ih => intro T m m1 h; exact ih (T + 1) m _ (oX_w (oX_w h (by decide)) (by decide))
theorem nB_o {x : Int32} : ∀ j T m m1, oM m m1 → oM m (nB x j T m1) := by
  intro j
  induction j with
  | zero => intro T m m1 h; exact h
  | succ j ih => intro T m m1 h; exact ih (T + 1) m _ (oM_w (oM_w h (by decide)) (by decide))
theorem pB_t {x : Int32} : ∀ j T m, gI m 8 11 = Int32.ofNat T → gI (pB x j T m) 8 11 = Int32.ofNat (T + j) := by
  intro j
  induction j with
  | zero => intro T m h; exact h
  | succ j ih =>
    intro T m h
    have := ih (T + 1) (wI (wI m 9 T (gBy x j)) 8 11 (Int32.ofNat (T + 1))) gI_wI_s
    rw [show T + 1 + j = T + (j + 1) by omega] at this
    exact this
theorem nB_t {x : Int32} : ∀ j T m, gI m 698 4 = Int32.ofNat T → gI (nB x j T m) 698 4 = Int32.ofNat (T + j) := by
  intro j
  induction j with
  | zero => intro T m h; exact h
  | succ j ih =>
    intro T m h
    have := ih (T + 1) (wI (wI m 732 T (gBy x j)) 698 4 (Int32.ofNat (T + 1))) gI_wI_s
    rw [show T + 1 + j = T + (j + 1) by omega] at this
    exact this
theorem sB_t {x : Int32} : ∀ j T s, s 698 4 = Int32.ofNat T → sB x j T s 698 4 = Int32.ofNat (T + j) := by
  intro j
  induction j with
  | zero => intro T s h; exact h
  | succ j ih =>
    intro T s h
    have := ih (T + 1) (gd_up (gd_up s 732 T (gBy x j)) 698 4 (Int32.ofNat (T + 1))) gd_up_s
    rw [show T + 1 + j = T + (j + 1) by omega] at this
    exact this
theorem sB_1 (hn : n = 700 ∨ n = 716) {T : Nat} {y : Int32} (hT : T < 3000) : gCd n (gd_up (gd_up s 732 T y) 698 4 (Int32.ofNat (T + 1))) = gCd n s ∧ (∀ r < 160, rEq s (gd_up (gd_up s 732 T y) 698 4 (Int32.ofNat (T + 1))) r) ∧ (iAll n s → isB y → iAll n (gd_up (gd_up s 732 T y) 698 4 (Int32.ofNat (T + 1)))) := by
  have hcd : gCd n (gd_up (gd_up s 732 T y) 698 4 (Int32.ofNat (T + 1))) = gCd n s := by rw [gCd_up hn (.inl (by decide)), gCd_up hn (.inr (by decide))]
  have hrE : ∀ r < 160, rEq s (gd_up (gd_up s 732 T y) 698 4 (Int32.ofNat (T + 1))) r := fun r hr => rEq_tr (rEq_up (by show (160 : Nat) ≠ r; omega)) (rEq_up (by show (160 : Nat) ≠ r; omega))
  refine ⟨hcd, hrE, fun I hy => ?_⟩
  refine ⟨by rw [hcd]; exact iAll_cod I, by rw [gd_up_s]; exact isN_i (by omega) (by omega), (by have q := iAll_ppl I; exact q), (by have q := iAll_lat I; exact q), (by have q := iAll_lan I; exact q), (by have q := iAll_out I; exact q), fun r hr => by rw [hcd]; exact iRow_c (iAll_row I r hr) (hrE r hr) rfl, fun l a ha => ?_, fun i => ?_⟩
  rotate_left 1
  · rw [gd_up_a (by decide), gd_up_m]
    by_cases e : i = T
    · rw [if_pos e]; exact hy
    · rw [if_neg e]; exact iAll_byt I i
  rw [hcd, gCt_up (by decide), gCt_up (by decide)]; exact iAll_tea I l a ha
theorem pB_c {x : Int32} (hc : c = 32 ∨ c = 45) (hn : n = 700 ∨ n = 716) : ∀ j T m s, T + j ≤ 3000 → cAll c n (gI m) s → cAll c n (gI (pB x j T m)) (sB x j T s) := by
  intro j
  induction j with
  | zero => intro T m s _ h; exact h
  | succ j ih =>
    intro T m s hT C
    obtain ⟨hcd, hrE, -⟩ := sB_1 (s := s) hn (y := gBy x j) (show T < 3000 by omega)
    refine ih (T + 1) _ _ (by omega) ?_
    have M := cAll_mt C
    refine cAll_m hc C (fun a ha => by rw [gI_wI_f (by omega), gI_wI_f (by omega)]) hcd hrE ⟨gI_wI_s.trans gd_up_s.symm, fun i => ?_, (by have q := cMt_fkd M; exact q), (by have q := cMt_fpl M; exact q), (by have q := cMt_ppl M; exact q), (by have q := cMt_lat M; exact q), (by have q := cMt_lan M; exact q), (by have q := cMt_gon M; exact q), (by have q := cMt_pai M; exact q), ?_⟩
    · rw [gI_wI_a (by decide), gI_wI_m, gd_up_a (by decide), gd_up_m, cMt_tap M]
    · rw [gPc_up (by decide), gPc_up (by decide)]; exact (by have q := cMt_pos M; exact q)
theorem nB_c {x : Int32} (hn : n = 700 ∨ n = 716) : ∀ j T m s, T + j ≤ 3000 → gSm n (gI m) s → gCh n (gI m) s → gSm n (gI (nB x j T m)) (sB x j T s) ∧ gCh n (gI (nB x j T m)) (sB x j T s) := by
  intro j
  induction j with
  | zero => intro T m s _ h h2; exact ⟨h, h2⟩
  | succ j ih =>
    intro T m s hT S H
    obtain ⟨hcd, hrE, -⟩ := sB_1 (s := s) hn (y := gBy x j) (show T < 3000 by omega)
    exact ih (T + 1) _ _ (by omega) (gSm_w (gSm_w S)) (gCh_c H hcd fun r hr => .inr (.inr ⟨hrE r hr, rfl, rfl, rfl⟩))
theorem sB_i {x : Int32} (hn : n = 700 ∨ n = 716) : ∀ j T s, T + j ≤ 3000 → iAll n s → iAll n (sB x j T s) := by
  intro j
  induction j with
  | zero => intro T s _ h; exact h
  | succ j ih =>
    intro T s hT I
    exact ih (T + 1) _ (by omega) ((sB_1 (s := s) hn (y := gBy x j) (show T < 3000 by omega)).2.2 I ⟨_, rfl⟩)
theorem gn_m8 {j : Nat} : Int32.ofNat (8 * (j + 1)) - 8 = Int32.ofNat (8 * j) := by
  have := gn_sub (a := 8 * (j + 1)) (b := 8) (by omega)
  rw [show 8 * (j + 1) - 8 = 8 * j by omega] at this
  exact this
theorem c_putBytes_3 (x : Int32) : ∀ j T m, j ≤ 4 → T + j ≤ 3000 → gK c d n p m → gI m 8 11 = Int32.ofNat T → gd_Den (22, 3, [.ref 8, .int x, .int (Int32.ofNat (8 * j) - 8)], [], m) = some (.null, pB x j T m) := by
  intro j
  induction j with
  | zero => intro T m _ _ K h; rw [q_X_putBytes_3]; rfl
  | succ j ih =>
    intro T m h4 hT K h
    have h0 : ¬ Int32.ofNat (8 * j) < 0 := gn_nn (by omega)
    have h8 : Int32.ofNat (8 * j) + (-8) = Int32.ofNat (8 * j) - 8 := (Int32.sub_eq_add_neg _ _).symm
    have hb := gBy_x (x := x) (j := j) (by omega)
    have e1 : gI (wI m 9 T (gBy x j)) 8 11 = Int32.ofNat T := (gI_wI_a (by decide)).trans h
    rw [gn_m8, q_X_putBytes_3, if_neg h0]
    simp only [gK_N K, gK_8_0 K, gK_8_1 K, gK_8_2 K, gK_8_3 K, gK_8_4 K, gK_8_5 K, gK_8_6 K, gK_8_7 K, gK_8_8 K, gK_10_0 K, gK_10_1 K, gK_10_2 K, gK_11_0 K, gK_15_0 K, gK_15_1 K, gK_15_2 K, gK_15_3 K, gK_20_0 K, gK_20_1 K, gK_20_2 K, gK_20_3 K, gK_20_4 K, gK_20_5 K, gK_698_0 K, gK_698_3 K, gK_698_16 K, gK_698_17 K, gK_698_20 K, gK_698_21 K, gK_698_22 K, gK_698_23 K, gK_698_24 K, gK_698_25 K, gK_698_26 K, gK_698_27 K, gK_698_28 K, gK_698_29 K, gK_698_30 K, gK_698_31 K, gK_698_32 K, gK_698_33 K, gK_698_34 K, gK_698_35 K, gK_698_36 K, gK_698_37 K, gK_698_38 K, gK_698_39 K, gK_698_41 K, gK_698_42 K, gK_698_44 K, gK_c K, gK_d K, gK_n K, gK_p K, gok_8, gok_10, gok_11, gok_15, gok_20, gok_698, gok_699, goA_9, goA_12, goA_13, goA_14, goA_16, goA_17, goA_18, goA_19, goA_21, goA_22, goA_23, goA_24, goA_25, goA_26, goA_27, goA_28, goA_29, goA_30, goA_31, goA_732, goA_733, goA_734, goA_735, goA_736, goA_737, goA_738, goA_739, goA_740, goA_741, goA_742, goA_743, goA_744, goA_745, goA_746, goA_747, goA_748, goA_749, goA_750, goA_751, goA_752, goA_753, goA_754, goA_755, goA_756, goA_757, gN_wI, gR_wI, gL_wI, if_true, eq_self, h]
    rw [if_pos ((gnlb_3000 (by omega) (by decide)).2 (by omega)), gn_in (by omega) (show T < 3000 by omega), if_pos rfl, gn_nat (by omega), hb, e1, gn_succ, h8]
    exact ih (T + 1) _ (by omega) (by omega) K gI_wI_s
theorem c_putBytes (x : Int32) {T : Nat} {m : gd_M} (hT : T + 4 ≤ 3000) (K : gK c d n p m) (h : gI m 8 11 = Int32.ofNat T) : gd_call 22 [.ref 8, .int x] m = some (.null, pB x 4 T m) := by
  rw [q_X_putBytes]
  exact c_putBytes_3 x 4 T m (Nat.le_refl 4) hT K h
theorem c_feed_73 {x1 x2 x3 x4 x5 x6 : Int32} (x : Int32) : ∀ j T m, j ≤ 4 → T + j ≤ 3000 → gK c d n p m → gI m 698 4 = Int32.ofNat T → ∃ v, gd_Den (24, 73, [.ref 698, .int x1, .int x2, .int x3, .int x4, .int x5, .int x6, .int x, .int (Int32.ofNat (8 * j) - 8)], [], m) = gd_Den (24, 19, [.ref 698, .int x1, .int x2, .int x3, .int x4, .int x5, .int (x6 + 1), .int x, v], [], nB x j T m) := by
  intro j
  induction j with
  | zero => intro T m _ _ K h; exact ⟨_, by rw [q_Mo_feed_73]; rfl⟩
  | succ j ih =>
    intro T m h4 hT K h
    have h0 : ¬ Int32.ofNat (8 * j) < 0 := gn_nn (by omega)
    have h8 : Int32.ofNat (8 * j) + (-8) = Int32.ofNat (8 * j) - 8 := (Int32.sub_eq_add_neg _ _).symm
    have e1 : gI (wI m 732 T (gBy x j)) 698 4 = Int32.ofNat T := (gI_wI_a (by decide)).trans h
    rw [gn_m8, q_Mo_feed_73, if_neg h0]
    simp only [gK_N K, gK_8_0 K, gK_8_1 K, gK_8_2 K, gK_8_3 K, gK_8_4 K, gK_8_5 K, gK_8_6 K, gK_8_7 K, gK_8_8 K, gK_10_0 K, gK_10_1 K, gK_10_2 K, gK_11_0 K, gK_15_0 K, gK_15_1 K, gK_15_2 K, gK_15_3 K, gK_20_0 K, gK_20_1 K, gK_20_2 K, gK_20_3 K, gK_20_4 K, gK_20_5 K, gK_698_0 K, gK_698_3 K, gK_698_16 K, gK_698_17 K, gK_698_20 K, gK_698_21 K, gK_698_22 K, gK_698_23 K, gK_698_24 K, gK_698_25 K, gK_698_26 K, gK_698_27 K, gK_698_28 K, gK_698_29 K, gK_698_30 K, gK_698_31 K, gK_698_32 K, gK_698_33 K, gK_698_34 K, gK_698_35 K, gK_698_36 K, gK_698_37 K, gK_698_38 K, gK_698_39 K, gK_698_41 K, gK_698_42 K, gK_698_44 K, gK_c K, gK_d K, gK_n K, gK_p K, gok_8, gok_10, gok_11, gok_15, gok_20, gok_698, gok_699, goA_9, goA_12, goA_13, goA_14, goA_16, goA_17, goA_18, goA_19, goA_21, goA_22, goA_23, goA_24, goA_25, goA_26, goA_27, goA_28, goA_29, goA_30, goA_31, goA_732, goA_733, goA_734, goA_735, goA_736, goA_737, goA_738, goA_739, goA_740, goA_741, goA_742, goA_743, goA_744, goA_745, goA_746, goA_747, goA_748, goA_749, goA_750, goA_751, goA_752, goA_753, goA_754, goA_755, goA_756, goA_757, gN_wI, gR_wI, gL_wI, if_true, eq_self, h]
    rw [gn_in (by omega) (show T < 3000 by omega), if_pos rfl, gn_nat (by omega)]
    unfold gBy at e1
    rw [e1, gn_succ, h8]
    exact ih (T + 1) _ (by omega) (by omega) K gI_wI_s
theorem P_feed (R : gRel c d n p m s) (x1 x2 x3 x4 x5 : Int32) : gPr 23 24 [.int x1, .int x2, .int x3, .int x4, .int x5] m := by
  obtain ⟨K, I, C, S, H⟩ := id R
  obtain ⟨T, -, hT2, hT⟩ := iAll_tpd I
  have hn := gK_n1 K
  have hc := gK_c1 K
  have h20 : Int32.ofNat T + 20 = Int32.ofNat (T + 20) := (Int32.ofNat_add T 20).symm
  by_cases h : 3000 < T + 20
  · refine gPr_of R (v := -3) (s' := s) ⟨m, ?_, oX_refl, C⟩ (fun m1 K S H => ⟨m1, ?_, oM_refl, S, H⟩) I
    · rw [q_X_feed]
      simp only [gK_N K, gK_8_0 K, gK_8_1 K, gK_8_2 K, gK_8_3 K, gK_8_4 K, gK_8_5 K, gK_8_6 K, gK_8_7 K, gK_8_8 K, gK_10_0 K, gK_10_1 K, gK_10_2 K, gK_11_0 K, gK_15_0 K, gK_15_1 K, gK_15_2 K, gK_15_3 K, gK_20_0 K, gK_20_1 K, gK_20_2 K, gK_20_3 K, gK_20_4 K, gK_20_5 K, gK_698_0 K, gK_698_3 K, gK_698_16 K, gK_698_17 K, gK_698_20 K, gK_698_21 K, gK_698_22 K, gK_698_23 K, gK_698_24 K, gK_698_25 K, gK_698_26 K, gK_698_27 K, gK_698_28 K, gK_698_29 K, gK_698_30 K, gK_698_31 K, gK_698_32 K, gK_698_33 K, gK_698_34 K, gK_698_35 K, gK_698_36 K, gK_698_37 K, gK_698_38 K, gK_698_39 K, gK_698_41 K, gK_698_42 K, gK_698_44 K, gK_c K, gK_d K, gK_n K, gK_p K, gok_8, gok_10, gok_11, gok_15, gok_20, gok_698, gok_699, goA_9, goA_12, goA_13, goA_14, goA_16, goA_17, goA_18, goA_19, goA_21, goA_22, goA_23, goA_24, goA_25, goA_26, goA_27, goA_28, goA_29, goA_30, goA_31, goA_732, goA_733, goA_734, goA_735, goA_736, goA_737, goA_738, goA_739, goA_740, goA_741, goA_742, goA_743, goA_744, goA_745, goA_746, goA_747, goA_748, goA_749, goA_750, goA_751, goA_752, goA_753, goA_754, goA_755, goA_756, goA_757, gN_wI, gR_wI, gL_wI, if_true, eq_self, cMt_tpd (cAll_mt C), cMt_tap (cAll_mt C), cMt_fkd (cAll_mt C), cMt_fpl (cAll_mt C), cMt_ppl (cAll_mt C), cMt_lat (cAll_mt C), cMt_lan (cAll_mt C), cMt_pai (cAll_mt C), cMt_pos (cAll_mt C), cCd_pts (cAll_cd C), cCd_lks (cAll_cd C), cCd_fts (cAll_cd C), cCd_pan (cAll_cd C), cCd_spa (cAll_cd C), cCd_cnt (cAll_cd C), cCd_sho (cAll_cd C), cCd_les (cAll_cd C), cCd_tea (cAll_cd C), cCd_bst (cAll_cd C), cCd_fin (cAll_cd C), cCd_lnd (cAll_cd C), hT, h20]
      rw [if_pos ((gnla_3000 (by decide) (by omega)).2 h)]
    · rw [q_Mo_feed]
      simp only [gK_N K, gK_8_0 K, gK_8_1 K, gK_8_2 K, gK_8_3 K, gK_8_4 K, gK_8_5 K, gK_8_6 K, gK_8_7 K, gK_8_8 K, gK_10_0 K, gK_10_1 K, gK_10_2 K, gK_11_0 K, gK_15_0 K, gK_15_1 K, gK_15_2 K, gK_15_3 K, gK_20_0 K, gK_20_1 K, gK_20_2 K, gK_20_3 K, gK_20_4 K, gK_20_5 K, gK_698_0 K, gK_698_3 K, gK_698_16 K, gK_698_17 K, gK_698_20 K, gK_698_21 K, gK_698_22 K, gK_698_23 K, gK_698_24 K, gK_698_25 K, gK_698_26 K, gK_698_27 K, gK_698_28 K, gK_698_29 K, gK_698_30 K, gK_698_31 K, gK_698_32 K, gK_698_33 K, gK_698_34 K, gK_698_35 K, gK_698_36 K, gK_698_37 K, gK_698_38 K, gK_698_39 K, gK_698_41 K, gK_698_42 K, gK_698_44 K, gK_c K, gK_d K, gK_n K, gK_p K, gok_8, gok_10, gok_11, gok_15, gok_20, gok_698, gok_699, goA_9, goA_12, goA_13, goA_14, goA_16, goA_17, goA_18, goA_19, goA_21, goA_22, goA_23, goA_24, goA_25, goA_26, goA_27, goA_28, goA_29, goA_30, goA_31, goA_732, goA_733, goA_734, goA_735, goA_736, goA_737, goA_738, goA_739, goA_740, goA_741, goA_742, goA_743, goA_744, goA_745, goA_746, goA_747, goA_748, goA_749, goA_750, goA_751, goA_752, goA_753, goA_754, goA_755, goA_756, goA_757, gN_wI, gR_wI, gL_wI, if_true, eq_self, gS_n K S, gS_n5 K S, gS_n6 K S, gS_n7 K S, gS_n8 K S, gS_n9 K S, gS_n10 K S, gS_n11 K S, gS_n12 K S, gS_n13 K S, gS_n14 K S, gS_n15 K S, gS_732 S, gS_735 S, gS_736 S, gS_737 S, gS_738 S, gS_739 S, gS_740 S, gS_741 S, gS_742 S, gS_743 S, gS_744 S, gS_745 S, gS_746 S, gS_698_4 S, gS_698_14 S, gS_698_15 S, gS_698_18 S, gS_698_19 S, hT, h20]
      rw [if_pos ((gnla_3000 (by decide) (by omega)).2 h)]
  · have hno : ¬ (3000 : Int32) < Int32.ofNat (T + 20) := fun q => h ((gnla_3000 (by decide) (by omega)).1 q)
    refine gPr_of R (v := Int32.ofNat (T + 20)) (s' := sB x5 4 (T + 16) (sB x4 4 (T + 12) (sB x3 4 (T + 8) (sB x2 4 (T + 4) (sB x1 4 T s))))) ⟨pB x5 4 (T + 16) (pB x4 4 (T + 12) (pB x3 4 (T + 8) (pB x2 4 (T + 4) (pB x1 4 T m)))), ?_, pB_o _ _ _ _ (pB_o _ _ _ _ (pB_o _ _ _ _ (pB_o _ _ _ _ (pB_o _ _ _ _ oX_refl)))), ?_⟩ (fun m1 K S H => ⟨nB x5 4 (T + 16) (nB x4 4 (T + 12) (nB x3 4 (T + 8) (nB x2 4 (T + 4) (nB x1 4 T m1)))), ?_, nB_o _ _ _ _ (nB_o _ _ _ _ (nB_o _ _ _ _ (nB_o _ _ _ _ (nB_o _ _ _ _ oM_refl)))), ?_⟩) ?_
    · have t0 : gI m 8 11 = Int32.ofNat T := (cMt_tpd (cAll_mt C)).trans hT
      have t1 := pB_t (x := x1) 4 T m t0
      have K1 := gK_o K (pB_2 (x := x1) 4 T m)
      have t2 := pB_t (x := x2) 4 (T + 4) _ t1
      have K2 := gK_o K1 (pB_2 (x := x2) 4 (T + 4) _)
      have t3 := pB_t (x := x3) 4 (T + 8) _ t2
      have K3 := gK_o K2 (pB_2 (x := x3) 4 (T + 8) _)
      have t4 := pB_t (x := x4) 4 (T + 12) _ t3
      have K4 := gK_o K3 (pB_2 (x := x4) 4 (T + 12) _)
      have t5 := pB_t (x := x5) 4 (T + 16) _ t4
      have K5 := gK_o K4 (pB_2 (x := x5) 4 (T + 16) _)
      rw [q_X_feed]
      simp only [gK_N K, gok_8, if_true]
      rw [t0, h20, if_neg hno, c_putBytes x1 (by omega) K t0]
      simp only [Option.bind_some, gd_kV_v, gK_N K1, gok_8, if_true]
      rw [c_putBytes x2 (by omega) K1 t1]
      simp only [Option.bind_some, gd_kV_v, gK_N K2, gok_8, if_true]
      rw [c_putBytes x3 (by omega) K2 t2]
      simp only [Option.bind_some, gd_kV_v, gK_N K3, gok_8, if_true]
      rw [c_putBytes x4 (by omega) K3 t3]
      simp only [Option.bind_some, gd_kV_v, gK_N K4, gok_8, if_true]
      rw [c_putBytes x5 (by omega) K4 t4]
      simp only [Option.bind_some, gd_kV_v, gK_N K5, gok_8, if_true]
      rw [t5]
    · exact pB_c hc hn _ _ _ _ (by omega) (pB_c hc hn _ _ _ _ (by omega) (pB_c hc hn _ _ _ _ (by omega) (pB_c hc hn _ _ _ _ (by omega) (pB_c hc hn _ _ _ _ (by omega) C))))
    · have t0 : gI m1 698 4 = Int32.ofNat T := (gS_698_4 S).trans hT
      have t1 := nB_t (x := x1) 4 T m1 t0
      have K1 := gK_o K (nB_2 (x := x1) 4 T m1)
      have t2 := nB_t (x := x2) 4 (T + 4) _ t1
      have K2 := gK_o K1 (nB_2 (x := x2) 4 (T + 4) _)
      have t3 := nB_t (x := x3) 4 (T + 8) _ t2
      have K3 := gK_o K2 (nB_2 (x := x3) 4 (T + 8) _)
      have t4 := nB_t (x := x4) 4 (T + 12) _ t3
      have K4 := gK_o K3 (nB_2 (x := x4) 4 (T + 12) _)
      have t5 := nB_t (x := x5) 4 (T + 16) _ t4
      have K5 := gK_o K4 (nB_2 (x := x5) 4 (T + 16) _)
      have e24 : Int32.ofNat (8 * 4) - 8 = 24 := rfl
      obtain ⟨v1, f1⟩ := c_feed_73 (x1 := x1) (x2 := x2) (x3 := x3) (x4 := x4) (x5 := x5) (x6 := 0) x1 4 T m1 (Nat.le_refl 4) (by omega) K t0
      obtain ⟨v2, f2⟩ := c_feed_73 (x1 := x1) (x2 := x2) (x3 := x3) (x4 := x4) (x5 := x5) (x6 := 1) x2 4 (T + 4) _ (Nat.le_refl 4) (by omega) K1 t1
      obtain ⟨v3, f3⟩ := c_feed_73 (x1 := x1) (x2 := x2) (x3 := x3) (x4 := x4) (x5 := x5) (x6 := 2) x3 4 (T + 8) _ (Nat.le_refl 4) (by omega) K2 t2
      obtain ⟨v4, f4⟩ := c_feed_73 (x1 := x1) (x2 := x2) (x3 := x3) (x4 := x4) (x5 := x5) (x6 := 3) x4 4 (T + 12) _ (Nat.le_refl 4) (by omega) K3 t3
      obtain ⟨v5, f5⟩ := c_feed_73 (x1 := x1) (x2 := x2) (x3 := x3) (x4 := x4) (x5 := x5) (x6 := 4) x5 4 (T + 16) _ (Nat.le_refl 4) (by omega) K4 t4
      rw [e24] at f1 f2 f3 f4 f5
      rw [q_Mo_feed]
      simp only [gK_N K, gok_698, if_true]
      rw [t0, h20, if_neg hno, q_Mo_feed_19, if_pos (by decide), if_pos rfl, f1, show (0 : Int32) + 1 = 1 from rfl, q_Mo_feed_19, if_pos (by decide), if_neg (by decide), if_pos rfl, f2, show (1 : Int32) + 1 = 2 from rfl, q_Mo_feed_19, if_pos (by decide), if_neg (by decide), if_neg (by decide), if_pos rfl, f3, show (2 : Int32) + 1 = 3 from rfl, q_Mo_feed_19, if_pos (by decide), if_neg (by decide), if_neg (by decide), if_neg (by decide), if_pos rfl, f4, show (3 : Int32) + 1 = 4 from rfl, q_Mo_feed_19, if_pos (by decide), if_neg (by decide), if_neg (by decide), if_neg (by decide), if_neg (by decide), f5, show (4 : Int32) + 1 = 5 from rfl, q_Mo_feed_19, if_neg (by decide)]
      simp only [gK_N K5, gok_698, if_true]
      rw [t5]
    · have a1 := nB_c (x := x1) hn 4 T m1 s (by omega) S H
      have a2 := nB_c (x := x2) hn 4 (T + 4) _ _ (by omega) a1.1 a1.2
      have a3 := nB_c (x := x3) hn 4 (T + 8) _ _ (by omega) a2.1 a2.2
      have a4 := nB_c (x := x4) hn 4 (T + 12) _ _ (by omega) a3.1 a3.2
      exact nB_c (x := x5) hn 4 (T + 16) _ _ (by omega) a4.1 a4.2
    · exact sB_i hn _ _ _ (by omega) (sB_i hn _ _ _ (by omega) (sB_i hn _ _ _ (by omega) (sB_i hn _ _ _ (by omega) (sB_i hn _ _ _ (by omega) I))))
end P73
