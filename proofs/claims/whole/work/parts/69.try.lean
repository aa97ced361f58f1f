/-- a row's cells of what was tried, but row r's, stay -/
def fR (r : Nat) (m m1 : gd_M) : Prop := ∀ k, k ≠ r → gI m1 747 k = gI m 747 k ∧ gI m1 748 k = gI m 748 k ∧ gI m1 749 k = gI m 749 k
theorem fR_refl {r : Nat} {m : gd_M} : fR r m m := fun _ _ => ⟨rfl, rfl, rfl⟩
theorem fR_tr {r : Nat} {m m1 m2 : gd_M} (h : fR r m m1) (h2 : fR r m1 m2) : fR r m m2 := fun k hk => ⟨(h2 k hk).1.trans (h k hk).1, (h2 k hk).2.1.trans (h k hk).2.1, (h2 k hk).2.2.trans (h k hk).2.2⟩
theorem fR_w {r a : Nat} {m m1 : gd_M} {x : Int32} (h : fR r m m1) : fR r m (wI m1 a r x) := fR_tr h fun k hk => ⟨gI_wI_k hk, gI_wI_k hk, gI_wI_k hk⟩
theorem fR_G {r : Nat} {m m1 : gd_M} (h : oG m m1) : fR r m m1 := fun k _ => ⟨by rw [h.2 747 (by decide)], by rw [h.2 748 (by decide)], by rw [h.2 749 (by decide)]⟩
def tL (A : gd_C) (e : Nat → Int32) (l t : Nat) : Prop := bLaw A e (bC e l) (tb t)
def tT (A : gd_C) (e : Nat → Int32) (l t : Nat) : Int := bTot A e (bC e l) (tb t)
/-- the best of the sets below s -/
def tB (A : gd_C) (e : Nat → Int32) (l M s : Nat) (b ch : Int32) : Prop := ((∀ t, t < s → nW 16 t M = true → ¬ tL A e l t) ∧ b = -2147483648) ∨ ∃ t, t < s ∧ nW 16 t M = true ∧ tL A e l t ∧ b.toInt = tT A e l t ∧ ch = Int32.ofNat t ∧ ∀ t', t' < s → nW 16 t' M = true → tL A e l t' → 65536 * tT A e l t' - (t' : Int) ≤ 65536 * tT A e l t - (t : Int)
section P69
variable {c d n p : Nat} {m : gd_M} {A : gd_C} {r l : Nat} {e : Nat → Int32}
theorem tM_bits {M t : Nat} (hM : M < 65536) (hMb : ∀ k, M.testBit k = eMay A e l k) (h : nW 16 t M = true) : t < 65536 ∧ t ≤ M ∧ ∀ i, tb t i = true → eMay A e l i = true := by
  have h1 := nW_le 16 t M h
  refine ⟨by omega, h1.1, fun i hi => ?_⟩
  rw [← hMb i]
  exact (nW_bit 16 t M (by show t < 65536; omega) hM).1 h i hi
theorem tM_hi {t : Nat} (hf : ∀ i, tb t i = true → eMay A e l i = true) : ∀ i, bC e l ≤ i → tb t i = false := fun i hi => by
  cases q : tb t i with
  | false => rfl
  | true => have := (e_may (hf i q)).1; omega
theorem tM_law {t : Nat} (hf : ∀ i, tb t i = true → eMay A e l i = true) : (bNum (tb t) l ≤ gn (A 0 18) ∧ ∀ g < 5, A 15 g = -1 ∨ bCnt (eGr A e) (tb t) g l ≤ gn (A 15 g)) ↔ tL A e l t := by
  have hCl := bC_le (e := e) l
  have hh := tM_hi hf
  obtain ⟨j, hj⟩ : ∃ j, l = bC e l + j := ⟨l - bC e l, by omega⟩
  have e1 : bNum (tb t) l = bNum (tb t) (bC e l) := by
    have := bX_num hh j
    rw [← hj] at this; exact this
  have e2 : ∀ g, bCnt (eGr A e) (tb t) g l = bCnt (eGr A e) (tb t) g (bC e l) := fun g => by
    have := bX_cnt (gr := eGr A e) (g := g) hh j
    rw [← hj] at this; exact this
  rw [e1]
  constructor
  · intro h
    refine ⟨fun i hi => e_may (hf i hi), h.1, fun g hg => ?_⟩
    have := h.2 g hg
    rw [e2] at this; exact this
  · intro h
    refine ⟨h.2.1, fun g hg => ?_⟩
    rw [e2]; exact h.2.2 g hg
theorem tM_tot {t : Nat} (hf : ∀ i, tb t i = true → eMay A e l i = true) : bVal (bWo A e) (bLi A e) (tb t) l + bExt A (fun h => bCnt (eGr A e) (tb t) h l) (bNum (tb t) l) = tT A e l t := by
  have hCl := bC_le (e := e) l
  have hh := tM_hi hf
  obtain ⟨j, hj⟩ : ∃ j, l = bC e l + j := ⟨l - bC e l, by omega⟩
  have e1 : bNum (tb t) l = bNum (tb t) (bC e l) := by
    have := bX_num hh j
    rw [← hj] at this; exact this
  have e2 : (fun g => bCnt (eGr A e) (tb t) g l) = fun g => bCnt (eGr A e) (tb t) g (bC e l) := funext fun g => by
    have := bX_cnt (gr := eGr A e) (g := g) hh j
    rw [← hj] at this; exact this
  have e3 : bVal (bWo A e) (bLi A e) (tb t) l = bVal (bWo A e) (bLi A e) (tb t) (bC e l) := by
    have := bX_val (wo := bWo A e) (li := bLi A e) hh j
    rw [← hj] at this; exact this
  rw [e1, e2, e3]; rfl
theorem c_tryAll_100 (hr : r < 160) (Id : iCd A) (hE : eOk A e l) {M : Nat} {z : Int32} (hM : M < 65536) (hMb : ∀ k, M.testBit k = eMay A e l k) : ∀ fuel s (m : gd_M) v, M - s < fuel → nW 16 s M = true → gK c d n p m → rSt A n r l e m → tB A e l M s (gI m 747 r) (gI m 748 r) → ∃ m', gd_Den (141, 100, [.ref 698, .int (Int32.ofNat r), .int (Int32.ofNat M), .int z, .int (Int32.ofNat s), .int 1, v], [], m) = some (.null, m') ∧ oT m m' ∧ fR r m m' ∧ gI m' 749 r = 1 ∧ tB A e l M (M + 1) (gI m' 747 r) (gI m' 748 r) := by
  have h16 := hE.1
  intro fuel
  induction fuel with
  | zero => intro s m v h; omega
  | succ fuel ih =>
    intro s m v hfu hW K St hB
    obtain ⟨hs, hsM, hf⟩ := tM_bits hM hMb hW
    have fin : ∀ (m2 : gd_M) v, oT m m2 → fR r m m2 → tB A e l M (s + 1) (gI m2 747 r) (gI m2 748 r) → ∃ m', (if Int32.ofNat s = Int32.ofNat M then gd_Den (141, 100, [.ref 698, .int (Int32.ofNat r), .int (Int32.ofNat M), .int z, .int ((Int32.ofNat s - Int32.ofNat M) &&& Int32.ofNat M), .int 0, v], [], m2) else gd_Den (141, 100, [.ref 698, .int (Int32.ofNat r), .int (Int32.ofNat M), .int z, .int ((Int32.ofNat s - Int32.ofNat M) &&& Int32.ofNat M), .int 1, v], [], m2)) = some (.null, m') ∧ oT m m' ∧ fR r m m' ∧ gI m' 749 r = 1 ∧ tB A e l M (M + 1) (gI m' 747 r) (gI m' 748 r) := fun m2 v o2 f2 b2 => by
      have K2 := gK_o K o2.1
      by_cases hsm : s = M
      · subst hsm
        refine ⟨wI m2 749 r 1, ?_, oT_w o2 (by decide), fR_w f2, gI_wI_s, ?_⟩
        · rw [if_pos rfl, q_Mo_tryAll_100, if_pos rfl]
          simp only [gK_N K2, gK_8_0 K2, gK_8_1 K2, gK_8_2 K2, gK_8_3 K2, gK_8_4 K2, gK_8_5 K2, gK_8_6 K2, gK_8_7 K2, gK_8_8 K2, gK_10_0 K2, gK_10_1 K2, gK_10_2 K2, gK_11_0 K2, gK_15_0 K2, gK_15_1 K2, gK_15_2 K2, gK_15_3 K2, gK_20_0 K2, gK_20_1 K2, gK_20_2 K2, gK_20_3 K2, gK_20_4 K2, gK_20_5 K2, gK_698_0 K2, gK_698_3 K2, gK_698_16 K2, gK_698_17 K2, gK_698_20 K2, gK_698_21 K2, gK_698_22 K2, gK_698_23 K2, gK_698_24 K2, gK_698_25 K2, gK_698_26 K2, gK_698_27 K2, gK_698_28 K2, gK_698_29 K2, gK_698_30 K2, gK_698_31 K2, gK_698_32 K2, gK_698_33 K2, gK_698_34 K2, gK_698_35 K2, gK_698_36 K2, gK_698_37 K2, gK_698_38 K2, gK_698_39 K2, gK_698_41 K2, gK_698_42 K2, gK_698_44 K2, gK_c K2, gK_d K2, gK_n K2, gK_p K2, gok_8, gok_10, gok_11, gok_15, gok_20, gok_698, gok_699, goA_9, goA_12, goA_13, goA_14, goA_16, goA_17, goA_18, goA_19, goA_21, goA_22, goA_23, goA_24, goA_25, goA_26, goA_27, goA_28, goA_29, goA_30, goA_31, goA_732, goA_733, goA_734, goA_735, goA_736, goA_737, goA_738, goA_739, goA_740, goA_741, goA_742, goA_743, goA_744, goA_745, goA_746, goA_747, goA_748, goA_749, goA_750, goA_751, goA_752, goA_753, goA_754, goA_755, goA_756, goA_757, gN_wI, gR_wI, gL_wI, if_true, eq_self, gd_vn1]
          rw [gn_in (by omega) hr, if_pos rfl, gn_nat (by omega)]
        · rw [gI_wI_a (by decide), gI_wI_a (by decide)]; exact b2
      · have hlt : s < M := by omega
        obtain ⟨x1, x2, x3⟩ := nX_ok 16 s M hW hsm
        have x4 := nW_le 16 _ _ x1
        rw [if_neg (fun t => hsm ((gn_eq (by omega) (by omega)).1 t)), gx_next hlt hM, nb_x 16 32 s M (by decide) hW hsm]
        have hB2 : tB A e l M (nX 16 s M) (gI m2 747 r) (gI m2 748 r) := by
          have hb : ∀ t, t < nX 16 s M → nW 16 t M = true → t < s + 1 := fun t h1 h2 => by
            by_cases q : s < t
            · have := x3 t h2 q; omega
            · omega
          rcases b2 with ⟨p1, p2⟩ | ⟨t, p1, p2, p3, p4, p5, p6⟩
          · exact .inl ⟨fun t h1 h2 => p1 t (hb t h1 h2) h2, p2⟩
          · exact .inr ⟨t, by omega, p2, p3, p4, p5, fun t' h1 h2 => p6 t' (hb t' h1 h2) h2⟩
        obtain ⟨m', a1, a2, a3, a4⟩ := ih (nX 16 s M) m2 v (by omega) x1 K2 (rSt_o (gK_n1 K) St o2) hB2
        exact ⟨m', a1, oT_tr o2 a2, fR_tr f2 a3, a4⟩
    rw [q_Mo_tryAll_100, if_neg (by decide)]
    simp only [gK_N K, gK_8_0 K, gK_8_1 K, gK_8_2 K, gK_8_3 K, gK_8_4 K, gK_8_5 K, gK_8_6 K, gK_8_7 K, gK_8_8 K, gK_10_0 K, gK_10_1 K, gK_10_2 K, gK_11_0 K, gK_15_0 K, gK_15_1 K, gK_15_2 K, gK_15_3 K, gK_20_0 K, gK_20_1 K, gK_20_2 K, gK_20_3 K, gK_20_4 K, gK_20_5 K, gK_698_0 K, gK_698_3 K, gK_698_16 K, gK_698_17 K, gK_698_20 K, gK_698_21 K, gK_698_22 K, gK_698_23 K, gK_698_24 K, gK_698_25 K, gK_698_26 K, gK_698_27 K, gK_698_28 K, gK_698_29 K, gK_698_30 K, gK_698_31 K, gK_698_32 K, gK_698_33 K, gK_698_34 K, gK_698_35 K, gK_698_36 K, gK_698_37 K, gK_698_38 K, gK_698_39 K, gK_698_41 K, gK_698_42 K, gK_698_44 K, gK_c K, gK_d K, gK_n K, gK_p K, gok_8, gok_10, gok_11, gok_15, gok_20, gok_698, gok_699, goA_9, goA_12, goA_13, goA_14, goA_16, goA_17, goA_18, goA_19, goA_21, goA_22, goA_23, goA_24, goA_25, goA_26, goA_27, goA_28, goA_29, goA_30, goA_31, goA_732, goA_733, goA_734, goA_735, goA_736, goA_737, goA_738, goA_739, goA_740, goA_741, goA_742, goA_743, goA_744, goA_745, goA_746, goA_747, goA_748, goA_749, goA_750, goA_751, goA_752, goA_753, goA_754, goA_755, goA_756, goA_757, gN_wI, gR_wI, gL_wI, if_true, eq_self]
    obtain ⟨m1, z1, a1, a2, a3⟩ := c_isLawful K hr Id hE St hs hf
    rw [a1]
    have K1 := gK_o K a2.1
    have St1 := rSt_o (gK_n1 K) St (oG_T a2)
    simp only [gK_N K1, gK_8_0 K1, gK_8_1 K1, gK_8_2 K1, gK_8_3 K1, gK_8_4 K1, gK_8_5 K1, gK_8_6 K1, gK_8_7 K1, gK_8_8 K1, gK_10_0 K1, gK_10_1 K1, gK_10_2 K1, gK_11_0 K1, gK_15_0 K1, gK_15_1 K1, gK_15_2 K1, gK_15_3 K1, gK_20_0 K1, gK_20_1 K1, gK_20_2 K1, gK_20_3 K1, gK_20_4 K1, gK_20_5 K1, gK_698_0 K1, gK_698_3 K1, gK_698_16 K1, gK_698_17 K1, gK_698_20 K1, gK_698_21 K1, gK_698_22 K1, gK_698_23 K1, gK_698_24 K1, gK_698_25 K1, gK_698_26 K1, gK_698_27 K1, gK_698_28 K1, gK_698_29 K1, gK_698_30 K1, gK_698_31 K1, gK_698_32 K1, gK_698_33 K1, gK_698_34 K1, gK_698_35 K1, gK_698_36 K1, gK_698_37 K1, gK_698_38 K1, gK_698_39 K1, gK_698_41 K1, gK_698_42 K1, gK_698_44 K1, gK_c K1, gK_d K1, gK_n K1, gK_p K1, gok_8, gok_10, gok_11, gok_15, gok_20, gok_698, gok_699, goA_9, goA_12, goA_13, goA_14, goA_16, goA_17, goA_18, goA_19, goA_21, goA_22, goA_23, goA_24, goA_25, goA_26, goA_27, goA_28, goA_29, goA_30, goA_31, goA_732, goA_733, goA_734, goA_735, goA_736, goA_737, goA_738, goA_739, goA_740, goA_741, goA_742, goA_743, goA_744, goA_745, goA_746, goA_747, goA_748, goA_749, goA_750, goA_751, goA_752, goA_753, goA_754, goA_755, goA_756, goA_757, gN_wI, gR_wI, gL_wI, if_true, eq_self, Option.bind_some, gd_kI_i]
    have hkeep : gI m1 747 r = gI m 747 r ∧ gI m1 748 r = gI m 748 r := ⟨by rw [a2.2 747 (by decide)], by rw [a2.2 748 (by decide)]⟩
    rw [tM_law hf] at a3
    by_cases hz : z1 = 0
    · rw [if_pos hz]
      have hno : ¬ tL A e l s := fun t => (a3.2 t) hz
      refine fin m1 _ (oG_T a2) (fR_G a2) ?_
      rw [hkeep.1, hkeep.2]
      rcases hB with ⟨p1, p2⟩ | ⟨t, p1, p2, p3, p4, p5, p6⟩
      · refine .inl ⟨fun t h1 h2 => ?_, p2⟩
        by_cases q : t = s
        · rw [q]; exact hno
        · exact p1 t (by omega) h2
      · refine .inr ⟨t, by omega, p2, p3, p4, p5, fun t' h1 h2 h3 => ?_⟩
        by_cases q : t' = s
        · rw [q] at h3; exact absurd h3 hno
        · exact p6 t' (by omega) h2 h3
    · rw [if_neg hz]
      have hyes : tL A e l s := a3.1 hz
      obtain ⟨m2, y, b1, b2, b3⟩ := c_worthOf K1 hr Id hE St1 hs hf
      have K2 := gK_o K1 b2.1
      rw [b1]
      simp only [gK_N K2, gK_8_0 K2, gK_8_1 K2, gK_8_2 K2, gK_8_3 K2, gK_8_4 K2, gK_8_5 K2, gK_8_6 K2, gK_8_7 K2, gK_8_8 K2, gK_10_0 K2, gK_10_1 K2, gK_10_2 K2, gK_11_0 K2, gK_15_0 K2, gK_15_1 K2, gK_15_2 K2, gK_15_3 K2, gK_20_0 K2, gK_20_1 K2, gK_20_2 K2, gK_20_3 K2, gK_20_4 K2, gK_20_5 K2, gK_698_0 K2, gK_698_3 K2, gK_698_16 K2, gK_698_17 K2, gK_698_20 K2, gK_698_21 K2, gK_698_22 K2, gK_698_23 K2, gK_698_24 K2, gK_698_25 K2, gK_698_26 K2, gK_698_27 K2, gK_698_28 K2, gK_698_29 K2, gK_698_30 K2, gK_698_31 K2, gK_698_32 K2, gK_698_33 K2, gK_698_34 K2, gK_698_35 K2, gK_698_36 K2, gK_698_37 K2, gK_698_38 K2, gK_698_39 K2, gK_698_41 K2, gK_698_42 K2, gK_698_44 K2, gK_c K2, gK_d K2, gK_n K2, gK_p K2, gok_8, gok_10, gok_11, gok_15, gok_20, gok_698, gok_699, goA_9, goA_12, goA_13, goA_14, goA_16, goA_17, goA_18, goA_19, goA_21, goA_22, goA_23, goA_24, goA_25, goA_26, goA_27, goA_28, goA_29, goA_30, goA_31, goA_732, goA_733, goA_734, goA_735, goA_736, goA_737, goA_738, goA_739, goA_740, goA_741, goA_742, goA_743, goA_744, goA_745, goA_746, goA_747, goA_748, goA_749, goA_750, goA_751, goA_752, goA_753, goA_754, goA_755, goA_756, goA_757, gN_wI, gR_wI, gL_wI, if_true, eq_self, Option.bind_some, gd_kI_i]
      rw [gn_in (by omega) hr, if_pos rfl, if_pos rfl, gn_nat (by omega)]
      have hv := bVal_b (e_wo Id hE) (fun i => bLk_b Id (e (i - 1)) (e i)) (li := bLi A e) hf l
      have hx := bExt_b Id (fun h => bCnt (eGr A e) (tb s) h l) (bNum (tb s) l)
      have hyb : -99 ≤ y.toInt ∧ y.toInt ≤ 2000 := by omega
      rw [tM_tot hf] at b3
      have o2 := oT_tr (oG_T a2) (oG_T b2)
      have f2 := fR_tr (fR_G (r := r) a2) (fR_G b2)
      have hkeep2 : gI m2 747 r = gI m 747 r ∧ gI m2 748 r = gI m 748 r := ⟨by rw [b2.2 747 (by decide), hkeep.1], by rw [b2.2 748 (by decide), hkeep.2]⟩
      rw [hkeep2.1]
      have eMin : ((-2147483648 : Int32)).toInt = -2147483648 := rfl
      by_cases hlt : gI m 747 r < y
      · rw [if_pos hlt]
        have hlt' := Int32.lt_iff_toInt_lt.1 hlt
        refine fin (wI (wI m2 747 r y) 748 r (Int32.ofNat s)) _ (oT_w (oT_w o2 (by decide)) (by decide)) (fR_w (fR_w f2)) ?_
        rw [gI_wI_a (by decide), gI_wI_s, gI_wI_s]
        refine .inr ⟨s, Nat.lt_succ_self s, hW, hyes, b3, rfl, fun t' h1 h2 h3 => ?_⟩
        by_cases q : t' = s
        · rw [q]; exact Int.le_refl _
        · rcases hB with ⟨p1, p2⟩ | ⟨t, p1, p2, p3, p4, p5, p6⟩
          · exact absurd h3 (p1 t' (by omega) h2)
          · have := p6 t' (by omega) h2 h3
            omega
      · rw [if_neg hlt]
        have hge : ¬ (gI m 747 r).toInt < y.toInt := fun q => hlt (Int32.lt_iff_toInt_lt.2 q)
        refine fin m2 _ o2 f2 ?_
        rw [hkeep2.1, hkeep2.2]
        rcases hB with ⟨p1, p2⟩ | ⟨t, p1, p2, p3, p4, p5, p6⟩
        · rw [p2, eMin] at hge; omega
        · refine .inr ⟨t, by omega, p2, p3, p4, p5, fun t' h1 h2 h3 => ?_⟩
          by_cases q : t' = s
          · rw [q]; omega
          · exact p6 t' (by omega) h2 h3
/-- the best of all sets is the best choice -/
theorem tB_is (hE : eOk A e l) {M : Nat} (hM : M < 65536) (hMb : ∀ k, M.testBit k = eMay A e l k) {b ch : Int32} (h : tB A e l M (M + 1) b ch) : gBw A (Int32.ofNat l) e = b ∧ gBs A (Int32.ofNat l) e = ch := by
  have h16 := hE.1
  have hCl := bC_le (e := e) l
  have hgl : gn (Int32.ofNat l) = l := gn_of (by omega)
  have hset : ∀ t, t < 65536 → (∀ i, tb t i = true → eMay A e l i = true) → bSet (tb t) (bC e l) = t := fun t ht hf => by
    obtain ⟨j, hj⟩ : ∃ j, 16 = bC e l + j := ⟨16 - bC e l, by omega⟩
    have e1 := bX_set (tM_hi hf) j
    rw [← hj] at e1
    rw [← e1]; exact bSet_of ht
  have hof : ∀ f, bLaw A e (bC e l) f → ∃ t, tb t = f ∧ nW 16 t M = true := fun f hf => by
    have hlt := bSet_lt (f := f) (bC e l)
    have hpow : (2 : Nat) ^ bC e l ≤ 2 ^ 16 := Nat.pow_le_pow_right (by decide) (by omega)
    have e1 : tb (bSet f (bC e l)) = f := funext fun i => by
      show (bSet f (bC e l)).testBit i = f i
      rw [bSet_tb]
      cases q : f i with
      | false => rw [Bool.and_false]
      | true => rw [decide_eq_true (hf.1 i q).1]; rfl
    refine ⟨_, e1, (nW_bit 16 _ M (by omega) hM).2 fun i hi => ?_⟩
    have hi : tb (bSet f (bC e l)) i = true := hi
    rw [e1] at hi
    obtain ⟨a1, a2⟩ := hf.1 i hi
    rw [hMb i]
    unfold eMay
    rw [decide_eq_true a1, a2]; rfl
  rcases h with ⟨p1, p2⟩ | ⟨t, p1, p2, p3, p4, p5, p6⟩
  · obtain ⟨t, e1, e2⟩ := hof _ (bLaw_0 (A := A) (e := e) (C := bC e l))
    refine absurd ?_ (p1 t (by have := nW_le 16 t M e2; omega) e2)
    show bLaw A e (bC e l) (tb t)
    rw [e1]; exact bLaw_0
  · obtain ⟨h1, h2, h3⟩ := tM_bits hM hMb p2
    refine gBe_of (by rw [hgl]; omega) ?_
    unfold bIs
    rw [hgl]
    refine ⟨tb t, p3, p4, by rw [p5, gn_toInt (by omega), hset t h1 h3], fun f' hf' => ?_⟩
    obtain ⟨t', e1, e2⟩ := hof f' hf'
    obtain ⟨g1, g2, g3⟩ := tM_bits hM hMb e2
    have := p6 t' (by omega) e2 (by show bLaw A e (bC e l) (tb t'); rw [e1]; exact hf')
    rw [← e1, hset t' g1 g3, hset t h1 h3]
    exact this
theorem c_tryAll (K : gK c d n p m) (hr : r < 160) (Id : iCd A) (hE : eOk A e l) (St : rSt A n r l e m) (hc : gI m 749 r ≠ 0 → gI m 747 r = gBw A (Int32.ofNat l) e ∧ gI m 748 r = gBs A (Int32.ofNat l) e) : ∃ m', gd_call 141 [.ref 698, .int (Int32.ofNat r)] m = some (.null, m') ∧ oT m m' ∧ fR r m m' ∧ gI m' 749 r ≠ 0 ∧ gI m' 747 r = gBw A (Int32.ofNat l) e ∧ gI m' 748 r = gBs A (Int32.ofNat l) e := by
  have h16 := hE.1
  have hCl := bC_le (e := e) l
  rw [q_Mo_tryAll]
  simp only [gK_N K, gK_8_0 K, gK_8_1 K, gK_8_2 K, gK_8_3 K, gK_8_4 K, gK_8_5 K, gK_8_6 K, gK_8_7 K, gK_8_8 K, gK_10_0 K, gK_10_1 K, gK_10_2 K, gK_11_0 K, gK_15_0 K, gK_15_1 K, gK_15_2 K, gK_15_3 K, gK_20_0 K, gK_20_1 K, gK_20_2 K, gK_20_3 K, gK_20_4 K, gK_20_5 K, gK_698_0 K, gK_698_3 K, gK_698_16 K, gK_698_17 K, gK_698_20 K, gK_698_21 K, gK_698_22 K, gK_698_23 K, gK_698_24 K, gK_698_25 K, gK_698_26 K, gK_698_27 K, gK_698_28 K, gK_698_29 K, gK_698_30 K, gK_698_31 K, gK_698_32 K, gK_698_33 K, gK_698_34 K, gK_698_35 K, gK_698_36 K, gK_698_37 K, gK_698_38 K, gK_698_39 K, gK_698_41 K, gK_698_42 K, gK_698_44 K, gK_c K, gK_d K, gK_n K, gK_p K, gok_8, gok_10, gok_11, gok_15, gok_20, gok_698, gok_699, goA_9, goA_12, goA_13, goA_14, goA_16, goA_17, goA_18, goA_19, goA_21, goA_22, goA_23, goA_24, goA_25, goA_26, goA_27, goA_28, goA_29, goA_30, goA_31, goA_732, goA_733, goA_734, goA_735, goA_736, goA_737, goA_738, goA_739, goA_740, goA_741, goA_742, goA_743, goA_744, goA_745, goA_746, goA_747, goA_748, goA_749, goA_750, goA_751, goA_752, goA_753, goA_754, goA_755, goA_756, goA_757, gN_wI, gR_wI, gL_wI, if_true, eq_self]
  rw [gn_in (by omega) hr, if_pos rfl, gn_nat (by omega)]
  by_cases h : gI m 749 r = 0
  · rw [if_pos h]
    obtain ⟨M, z, a1, a2⟩ := c_tryAll_17 K hr Id hE St l 0 0 (by omega) (fun k => by rw [gb_zero, decide_eq_false (Nat.not_lt_zero k)]; rfl)
    have hMn : ∃ N, N < 65536 ∧ M = Int32.ofNat N ∧ ∀ k, N.testBit k = eMay A e l k := by
      refine ⟨bSet (eMay A e l) 16, bSet_lt 16, ?_, ?_⟩
      · refine gb_ext fun i hi => ?_
        rw [a2 i, gb_nat (by have := bSet_lt (f := eMay A e l) 16; have h6 : (2 : Nat) ^ 16 = 65536 := by decide
                             omega), bSet_tb]
        by_cases h6 : i < 16
        · rw [decide_eq_true h6, Bool.true_and]
        · rw [decide_eq_false h6, Bool.false_and, ← Bool.not_eq_true]
          intro t; have := (e_may t).1; omega
      · intro k
        rw [bSet_tb]
        by_cases h6 : k < 16
        · rw [decide_eq_true h6, Bool.true_and]
        · rw [decide_eq_false h6, Bool.false_and]
          symm; rw [← Bool.not_eq_true]
          intro t; have := (e_may t).1; omega
    obtain ⟨N, hN, rfl, hNb⟩ := hMn
    have o1 : oT m (wI m 747 r (-2147483648)) := oT_w oT_refl (by decide)
    have hle : nW 16 0 N = true := (nW_bit 16 0 N (by decide) hN).2 fun i hi => by rw [Nat.zero_testBit] at hi; exact absurd hi (by decide)
    obtain ⟨m', b1, b2, b3, b4, b5⟩ := c_tryAll_100 (c := c) (d := d) (p := p) (z := z) hr Id hE hN hNb (N + 1) 0 (wI m 747 r (-2147483648)) .null (by omega) hle (gK_o K o1.1) (rSt_o (gK_n1 K) St o1) (.inl ⟨fun t ht => absurd ht (Nat.not_lt_zero t), gI_wI_s⟩)
    obtain ⟨d1, d2⟩ := tB_is hE hN hNb b5
    refine ⟨m', ?_, oT_tr o1 b2, fR_tr (fR_w fR_refl) b3, by rw [b4]; decide, d1.symm, d2.symm⟩
    have a1' := a1
    rw [decide_eq_true (Nat.zero_le (bC e l))] at a1'
    exact a1'.trans b1
  · rw [if_neg h]
    exact ⟨m, rfl, oT_refl, fR_refl, h, hc h⟩
theorem c_diff (K : gK c d n p m) (hr : r < 160) (Id : iCd A) (hE : eOk A e l) (St : rSt A n r l e m) (hc : gI m 749 r ≠ 0 → gI m 747 r = gBw A (Int32.ofNat l) e ∧ gI m 748 r = gBs A (Int32.ofNat l) e) : ∃ m', gd_call 142 [.ref 698, .int (Int32.ofNat r)] m = some (.int (gM0 (gBw A (Int32.ofNat l) e)), m') ∧ oT m m' ∧ fR r m m' ∧ gI m' 749 r ≠ 0 ∧ gI m' 747 r = gBw A (Int32.ofNat l) e ∧ gI m' 748 r = gBs A (Int32.ofNat l) e := by
  obtain ⟨m', a1, a2, a3, a4, a5, a6⟩ := c_tryAll K hr Id hE St hc
  have K1 := gK_o K a2.1
  refine ⟨m', ?_, a2, a3, a4, a5, a6⟩
  rw [q_Mo_difficulty]
  simp only [gK_N K, gK_8_0 K, gK_8_1 K, gK_8_2 K, gK_8_3 K, gK_8_4 K, gK_8_5 K, gK_8_6 K, gK_8_7 K, gK_8_8 K, gK_10_0 K, gK_10_1 K, gK_10_2 K, gK_11_0 K, gK_15_0 K, gK_15_1 K, gK_15_2 K, gK_15_3 K, gK_20_0 K, gK_20_1 K, gK_20_2 K, gK_20_3 K, gK_20_4 K, gK_20_5 K, gK_698_0 K, gK_698_3 K, gK_698_16 K, gK_698_17 K, gK_698_20 K, gK_698_21 K, gK_698_22 K, gK_698_23 K, gK_698_24 K, gK_698_25 K, gK_698_26 K, gK_698_27 K, gK_698_28 K, gK_698_29 K, gK_698_30 K, gK_698_31 K, gK_698_32 K, gK_698_33 K, gK_698_34 K, gK_698_35 K, gK_698_36 K, gK_698_37 K, gK_698_38 K, gK_698_39 K, gK_698_41 K, gK_698_42 K, gK_698_44 K, gK_c K, gK_d K, gK_n K, gK_p K, gok_8, gok_10, gok_11, gok_15, gok_20, gok_698, gok_699, goA_9, goA_12, goA_13, goA_14, goA_16, goA_17, goA_18, goA_19, goA_21, goA_22, goA_23, goA_24, goA_25, goA_26, goA_27, goA_28, goA_29, goA_30, goA_31, goA_732, goA_733, goA_734, goA_735, goA_736, goA_737, goA_738, goA_739, goA_740, goA_741, goA_742, goA_743, goA_744, goA_745, goA_746, goA_747, goA_748, goA_749, goA_750, goA_751, goA_752, goA_753, goA_754, goA_755, goA_756, goA_757, gN_wI, gR_wI, gL_wI, if_true, eq_self]
  rw [a1]
  simp only [gK_N K1, gK_8_0 K1, gK_8_1 K1, gK_8_2 K1, gK_8_3 K1, gK_8_4 K1, gK_8_5 K1, gK_8_6 K1, gK_8_7 K1, gK_8_8 K1, gK_10_0 K1, gK_10_1 K1, gK_10_2 K1, gK_11_0 K1, gK_15_0 K1, gK_15_1 K1, gK_15_2 K1, gK_15_3 K1, gK_20_0 K1, gK_20_1 K1, gK_20_2 K1, gK_20_3 K1, gK_20_4 K1, gK_20_5 K1, gK_698_0 K1, gK_698_3 K1, gK_698_16 K1, gK_698_17 K1, gK_698_20 K1, gK_698_21 K1, gK_698_22 K1, gK_698_23 K1, gK_698_24 K1, gK_698_25 K1, gK_698_26 K1, gK_698_27 K1, gK_698_28 K1, gK_698_29 K1, gK_698_30 K1, gK_698_31 K1, gK_698_32 K1, gK_698_33 K1, gK_698_34 K1, gK_698_35 K1, gK_698_36 K1, gK_698_37 K1, gK_698_38 K1, gK_698_39 K1, gK_698_41 K1, gK_698_42 K1, gK_698_44 K1, gK_c K1, gK_d K1, gK_n K1, gK_p K1, gok_8, gok_10, gok_11, gok_15, gok_20, gok_698, gok_699, goA_9, goA_12, goA_13, goA_14, goA_16, goA_17, goA_18, goA_19, goA_21, goA_22, goA_23, goA_24, goA_25, goA_26, goA_27, goA_28, goA_29, goA_30, goA_31, goA_732, goA_733, goA_734, goA_735, goA_736, goA_737, goA_738, goA_739, goA_740, goA_741, goA_742, goA_743, goA_744, goA_745, goA_746, goA_747, goA_748, goA_749, goA_750, goA_751, goA_752, goA_753, goA_754, goA_755, goA_756, goA_757, gN_wI, gR_wI, gL_wI, if_true, eq_self, Option.bind_some, gd_kV_v]
  rw [gn_in (by omega) hr, if_pos rfl, gn_nat (by omega), a5]
  unfold gM0
  by_cases h : gBw A (Int32.ofNat l) e < 0
  · rw [if_pos h, if_pos h]
  · rw [if_neg h, if_neg h]
end P69
