def gMk2 (mk : Nat → Int32) (j : Nat) (x : Int32) : Nat → Int32 := fun i => if i = j then x else mk i
def gA1 (a : Int32) (j : Nat) : Int32 := a &&& (((1 : Int32) <<< (Int32.ofNat j &&& 31)) ^^^ (-1))
/-- the class's row behind a mark; the reference's; the abstract state -/
def pMk (mk : Nat → Int32) (r j N : Nat) (x sp a b : Int32) (m : gd_M) : gd_M :=
  if mk j = -1 then (if b + 1 = Int32.ofNat N then wI (wI (wI (wI m (60 + 4 * r) j x) (58 + 4 * r) 8 (gA1 a j)) (58 + 4 * r) 7 (b + 1)) (58 + 4 * r) 8 (gAk (gMk2 mk j x) (gMi (gMk2 mk j x) N N) sp (gA1 a j) N) else wI (wI (wI m (60 + 4 * r) j x) (58 + 4 * r) 8 (gA1 a j)) (58 + 4 * r) 7 (b + 1)) else wI (wI m (60 + 4 * r) j x) (58 + 4 * r) 8 (gA1 a j)
def nMk (mk : Nat → Int32) (r j N : Nat) (x sp a b : Int32) (m : gd_M) : gd_M :=
  if mk j = -1 then (if b + 1 = Int32.ofNat N then wI (wI (wI (wI m 741 (6 * r + j) x) 743 r (gA1 a j)) 742 r (b + 1)) 743 r (gAk (gMk2 mk j x) (gMi (gMk2 mk j x) N N) sp (gA1 a j) N) else wI (wI (wI m 741 (6 * r + j) x) 743 r (gA1 a j)) 742 r (b + 1)) else wI (wI m 741 (6 * r + j) x) 743 r (gA1 a j)
def sMk (mk : Nat → Int32) (r j N : Nat) (x sp a b : Int32) (s : gd_C) : gd_C :=
  if mk j = -1 then (if b + 1 = Int32.ofNat N then gd_up (gd_up (gd_up (gd_up s 741 (6 * r + j) x) 743 r (gA1 a j)) 742 r (b + 1)) 743 r (gAk (gMk2 mk j x) (gMi (gMk2 mk j x) N N) sp (gA1 a j) N) else gd_up (gd_up (gd_up s 741 (6 * r + j) x) 743 r (gA1 a j)) 742 r (b + 1)) else gd_up (gd_up s 741 (6 * r + j) x) 743 r (gA1 a j)
/-- the two values that a mark leaves: asked bits, how many marks -/
def vAk (mk : Nat → Int32) (j N : Nat) (x sp a b : Int32) : Int32 := if mk j = -1 then (if b + 1 = Int32.ofNat N then gAk (gMk2 mk j x) (gMi (gMk2 mk j x) N N) sp (gA1 a j) N else gA1 a j) else gA1 a j
def vMd (mk : Nat → Int32) (j : Nat) (b : Int32) : Int32 := if mk j = -1 then b + 1 else b
section P75
variable {c d n p : Nat} {m : gd_M} {s : gd_C} {r N j : Nat} {mk : Nat → Int32} {x sp a b : Int32}
theorem sMk_f {q : Nat} (h : q ≠ 741 ∧ q ≠ 742 ∧ q ≠ 743) : sMk mk r j N x sp a b s q = s q := by
  unfold sMk
  by_cases h1 : mk j = -1
  · rw [if_pos h1]
    by_cases h2 : b + 1 = Int32.ofNat N
    · rw [if_pos h2, gd_up_f (by omega), gd_up_f (by omega), gd_up_f (by omega), gd_up_f (by omega)]
    · rw [if_neg h2, gd_up_f (by omega), gd_up_f (by omega), gd_up_f (by omega)]
  · rw [if_neg h1, gd_up_f (by omega), gd_up_f (by omega)]
theorem sMk_741 {i : Nat} : sMk mk r j N x sp a b s 741 i = if i = 6 * r + j then x else s 741 i := by
  unfold sMk
  by_cases h1 : mk j = -1
  · rw [if_pos h1]
    by_cases h2 : b + 1 = Int32.ofNat N
    · rw [if_pos h2, gd_up_a (by decide), gd_up_a (by decide), gd_up_a (by decide), gd_up_m]
    · rw [if_neg h2, gd_up_a (by decide), gd_up_a (by decide), gd_up_m]
  · rw [if_neg h1, gd_up_a (by decide), gd_up_m]
theorem sMk_742 {i : Nat} (hb : s 742 r = b) : sMk mk r j N x sp a b s 742 i = if i = r then vMd mk j b else s 742 i := by
  unfold sMk vMd
  by_cases h1 : mk j = -1
  · rw [if_pos h1, if_pos h1]
    by_cases h2 : b + 1 = Int32.ofNat N
    · rw [if_pos h2, gd_up_a (by decide), gd_up_m, gd_up_a (by decide), gd_up_a (by decide)]
    · rw [if_neg h2, gd_up_m, gd_up_a (by decide), gd_up_a (by decide)]
  · rw [if_neg h1, if_neg h1, gd_up_a (by decide), gd_up_a (by decide)]
    by_cases e : i = r
    · rw [if_pos e, e, hb]
    · rw [if_neg e]
theorem sMk_743 {i : Nat} : sMk mk r j N x sp a b s 743 i = if i = r then vAk mk j N x sp a b else s 743 i := by
  unfold sMk vAk
  by_cases h1 : mk j = -1
  · rw [if_pos h1, if_pos h1]
    by_cases h2 : b + 1 = Int32.ofNat N
    · rw [if_pos h2, if_pos h2, gd_up_m, gd_up_a (by decide), gd_up_m, gd_up_a (by decide)]
      by_cases e : i = r
      · rw [if_pos e, if_pos e]
      · rw [if_neg e, if_neg e, if_neg e]
    · rw [if_neg h2, if_neg h2, gd_up_a (by decide), gd_up_m, gd_up_a (by decide)]
  · rw [if_neg h1, if_neg h1, gd_up_m, gd_up_a (by decide)]
theorem pMk_2 : (pMk mk r j N x sp a b m).2 = m.2 := by
  unfold pMk
  by_cases h1 : mk j = -1
  · rw [if_pos h1]
    by_cases h2 : b + 1 = Int32.ofNat N
    · rw [if_pos h2]; rfl
    · rw [if_neg h2]; rfl
  · rw [if_neg h1]; rfl
theorem pMk_f {q : Nat} (h : q ≠ 58 + 4 * r ∧ q ≠ 60 + 4 * r) : gI (pMk mk r j N x sp a b m) q = gI m q := by
  unfold pMk
  by_cases h1 : mk j = -1
  · rw [if_pos h1]
    by_cases h2 : b + 1 = Int32.ofNat N
    · rw [if_pos h2, gI_wI_f (by omega), gI_wI_f (by omega), gI_wI_f (by omega), gI_wI_f (by omega)]
    · rw [if_neg h2, gI_wI_f (by omega), gI_wI_f (by omega), gI_wI_f (by omega)]
  · rw [if_neg h1, gI_wI_f (by omega), gI_wI_f (by omega)]
theorem pMk_60 {i : Nat} : gI (pMk mk r j N x sp a b m) (60 + 4 * r) i = if i = j then x else gI m (60 + 4 * r) i := by
  unfold pMk
  by_cases h1 : mk j = -1
  · rw [if_pos h1]
    by_cases h2 : b + 1 = Int32.ofNat N
    · rw [if_pos h2, gI_wI_a (by omega), gI_wI_a (by omega), gI_wI_a (by omega), gI_wI_m]
    · rw [if_neg h2, gI_wI_a (by omega), gI_wI_a (by omega), gI_wI_m]
  · rw [if_neg h1, gI_wI_a (by omega), gI_wI_m]
theorem pMk_58 {i : Nat} (hb : gI m (58 + 4 * r) 7 = b) : gI (pMk mk r j N x sp a b m) (58 + 4 * r) i = if i = 7 then vMd mk j b else if i = 8 then vAk mk j N x sp a b else gI m (58 + 4 * r) i := by
  unfold pMk vMd vAk
  by_cases h1 : mk j = -1
  · rw [if_pos h1, if_pos h1, if_pos h1]
    by_cases h2 : b + 1 = Int32.ofNat N
    · rw [if_pos h2, if_pos h2, gI_wI_m, gI_wI_m, gI_wI_m, gI_wI_a (by omega)]
      by_cases e : i = 7
      · rw [if_pos e, if_neg (show ¬ i = 8 by omega), if_pos e]
      · rw [if_neg e, if_neg e]
        by_cases e2 : i = 8
        · rw [if_pos e2, if_pos e2]
        · rw [if_neg e2, if_neg e2, if_neg e2]
    · rw [if_neg h2, if_neg h2, gI_wI_m, gI_wI_m, gI_wI_a (by omega)]
  · rw [if_neg h1, if_neg h1, if_neg h1, gI_wI_m, gI_wI_a (by omega)]
    by_cases e : i = 7
    · rw [if_pos e, if_neg (show ¬ i = 8 by omega), e, hb]
    · rw [if_neg e]
theorem nMk_o {m1 : gd_M} (h : oM m m1) : oM m (nMk mk r j N x sp a b m1) := by
  unfold nMk
  by_cases h1 : mk j = -1
  · rw [if_pos h1]
    by_cases h2 : b + 1 = Int32.ofNat N
    · rw [if_pos h2]; exact oM_w (oM_w (oM_w (oM_w h (by decide)) (by decide)) (by decide)) (by decide)
    · rw [if_neg h2]; exact oM_w (oM_w (oM_w h (by decide)) (by decide)) (by decide)
  · rw [if_neg h1]; exact oM_w (oM_w h (by decide)) (by decide)
theorem nMk_s (h : gSm n (gI m) s) : gSm n (gI (nMk mk r j N x sp a b m)) (sMk mk r j N x sp a b s) := by
  unfold nMk sMk
  by_cases h1 : mk j = -1
  · rw [if_pos h1, if_pos h1]
    by_cases h2 : b + 1 = Int32.ofNat N
    · rw [if_pos h2, if_pos h2]; exact gSm_w (gSm_w (gSm_w (gSm_w h)))
    · rw [if_neg h2, if_neg h2]; exact gSm_w (gSm_w (gSm_w h))
  · rw [if_neg h1, if_neg h1]; exact gSm_w (gSm_w h)
theorem nMk_f {q : Nat} (h : q ≠ 741 ∧ q ≠ 742 ∧ q ≠ 743) : gI (nMk mk r j N x sp a b m) q = gI m q := by
  unfold nMk
  by_cases h1 : mk j = -1
  · rw [if_pos h1]
    by_cases h2 : b + 1 = Int32.ofNat N
    · rw [if_pos h2, gI_wI_f (by omega), gI_wI_f (by omega), gI_wI_f (by omega), gI_wI_f (by omega)]
    · rw [if_neg h2, gI_wI_f (by omega), gI_wI_f (by omega), gI_wI_f (by omega)]
  · rw [if_neg h1, gI_wI_f (by omega), gI_wI_f (by omega)]
theorem sMk_r (hb : s 742 r = b) {q : Nat} (hq : q ≠ r) (hj : j < 6) : rEq s (sMk mk r j N x sp a b s) q := by
  refine ⟨by rw [sMk_f (by decide)], by rw [sMk_f (by decide)], fun i _ => by rw [sMk_f (by decide)], fun i hi => ?_, ?_, ?_, fun i _ => by rw [sMk_f (by decide)], by rw [sMk_f (by decide)], by rw [sMk_f (by decide)]⟩
  · rw [sMk_741, if_neg (by omega)]
  · rw [sMk_742 hb, if_neg hq]
  · rw [sMk_743, if_neg hq]
theorem gMk2_ok (h : ∀ i < 6, gMkOk (mk i)) (hx : gMkOk x) : ∀ i < 6, gMkOk (gMk2 mk j x i) := by
  intro i hi
  unfold gMk2
  by_cases e : i = j
  · rw [if_pos e]; exact hx
  · rw [if_neg e]; exact h i hi
theorem c_putMark (K : gK c d n p m) (hr : r < 160) (hN : 1 ≤ N) (hN6 : N ≤ 6) (hj : j < N) (hm : ∀ i < 6, gI m (60 + 4 * r) i = mk i) (hok : ∀ i < 6, gMkOk (mk i)) (hx : gMkOk x) (ha : gI m (58 + 4 * r) 8 = a) (hb : gI m (58 + 4 * r) 7 = b) : gd_call 110 [.ref (58 + 4 * r), .int (Int32.ofNat j), .int x, .int (Int32.ofNat N), .int sp] m = some (.null, pMk mk r j N x sp a b m) := by
  have r1 : ∀ y, gI (wI m (60 + 4 * r) j y) (58 + 4 * r) 8 = a := fun y => (gI_wI_a (by omega)).trans ha
  have r2 : ∀ y z, gI (wI (wI m (60 + 4 * r) j y) (58 + 4 * r) 8 z) (58 + 4 * r) 7 = b := fun y z => (gI_wI_k (by decide)).trans ((gI_wI_a (by omega)).trans hb)
  rw [q_Ro_putMark]
  simp only [gK_N K, gok_row hr, gK_mrk K hr, goA_mrk hr, if_true]
  rw [gn_in (by omega) (show j < 6 by omega), if_pos rfl, gn_nat (by omega), hm j (by omega), r1, r2, gI_wI_s]
  unfold pMk gA1
  by_cases h1 : mk j = -1
  · rw [if_pos h1, if_pos h1]
    by_cases h2 : b + 1 = Int32.ofNat N
    · rw [if_pos h2, if_pos h2]
      have K3 : gK c d n p (wI (wI (wI m (60 + 4 * r) j x) (58 + 4 * r) 8 (a &&& (((1 : Int32) <<< (Int32.ofNat j &&& 31)) ^^^ (-1)))) (58 + 4 * r) 7 (b + 1)) := K
      rw [c_askStrays K3 hr hN hN6 (mk := gMk2 mk j x) (fun i hi => ?_) (fun i hi => gMk2_ok hok hx i (by omega))]
      · simp only [Option.bind_some, gd_kV_v]
        rw [gI_wI_k (by decide), gI_wI_s]
      · rw [gI_wI_a (by omega), gI_wI_a (by omega), gI_wI_m]
        unfold gMk2
        by_cases e : i = j
        · rw [if_pos e, if_pos e]
        · rw [if_neg e, if_neg e]; exact hm i hi
    · rw [if_neg h2, if_neg h2]
  · rw [if_neg h1, if_neg h1]
theorem c_mark_92 {x1 x2 : Int32} (K : gK c d n p m) (S : gSm n (gI m) s) (hr : r < 160) (hN : 1 ≤ N) (hN6 : N ≤ 6) (hNe : gCd n s 0 21 = Int32.ofNat N) (hj : j < N) (hm : ∀ i < 6, s 741 (6 * r + i) = mk i) (ha : s 743 r = a) (hb : s 742 r = b) : gd_Den (113, 92, [.ref 698, .int x1, .int x2, .int (Int32.ofNat j), .int x, .int (Int32.ofNat r), .int (Int32.ofNat (6 * r + j)), .null], [], m) = some (.int (vMd mk j b), nMk mk r j N x (gCd n s 0 22) a b m) := by
  have hn := gK_n1 K
  have r1 : ∀ y, gI (wI m 741 (6 * r + j) y) 743 r = a := fun y => (gI_wI_a (by decide)).trans ((gS_743 S).trans ha)
  have r2 : ∀ y z, gI (wI (wI m 741 (6 * r + j) y) 743 r z) 742 r = b := fun y z => (gI_wI_a (by decide)).trans ((gI_wI_a (by decide)).trans ((gS_742 S).trans hb))
  have r3 : ∀ y z u, gI (wI (wI (wI m 741 (6 * r + j) y) 743 r z) 742 r u) n 21 = Int32.ofNat N := fun y z u => by
    rw [gI_wI_a (by omega), gI_wI_a (by omega), gI_wI_a (by omega), gS_n K S, hNe]
  rw [q_Mo_mark_92]
  simp only [gK_N K, gok_698, gK_698_26 K, gK_698_27 K, gK_698_28 K, gK_n K, gok_n K, goA_741, goA_742, goA_743, if_true]
  rw [gn_in (by omega) (show 6 * r + j < 960 by omega), gn_in (by omega) hr, gn_nat (show 6 * r + j < 2147483648 by omega), gn_nat (show r < 2147483648 by omega), gS_741 S, hm j (by omega)]
  simp only [if_true]
  rw [r1, r2, gI_wI_s, r3]
  unfold nMk vMd gA1
  by_cases h1 : mk j = -1
  · rw [if_pos h1, if_pos h1, if_pos h1]
    by_cases h2 : b + 1 = Int32.ofNat N
    · rw [if_pos h2, if_pos h2]
      have K3 : gK c d n p (wI (wI (wI m 741 (6 * r + j) x) 743 r (a &&& (((1 : Int32) <<< (Int32.ofNat j &&& 31)) ^^^ (-1)))) 742 r (b + 1)) := K
      have S3 : gSm n (gI (wI (wI (wI m 741 (6 * r + j) x) 743 r (a &&& (((1 : Int32) <<< (Int32.ofNat j &&& 31)) ^^^ (-1)))) 742 r (b + 1))) (gd_up (gd_up (gd_up s 741 (6 * r + j) x) 743 r (a &&& (((1 : Int32) <<< (Int32.ofNat j &&& 31)) ^^^ (-1)))) 742 r (b + 1)) := gSm_w (gSm_w (gSm_w S))
      have hcd : gCd n (gd_up (gd_up (gd_up s 741 (6 * r + j) x) 743 r (a &&& (((1 : Int32) <<< (Int32.ofNat j &&& 31)) ^^^ (-1)))) 742 r (b + 1)) = gCd n s := by
        rw [gCd_up hn (.inr (by decide)), gCd_up hn (.inr (by decide)), gCd_up hn (.inr (by decide))]
      have e1 := c_ask K3 S3 hr hN hN6 (by rw [hcd]; exact hNe) (mk := gMk2 mk j x) fun i hi => by
        rw [gd_up_a (by decide), gd_up_a (by decide), gd_up_m]
        unfold gMk2
        by_cases e : i = j
        · rw [if_pos e, if_pos (by omega)]
        · rw [if_neg e, if_neg (by omega)]; exact hm i hi
      rw [hcd] at e1
      rw [e1]
      simp only [gK_N K, gN_wI, gR_wI, gok_698, gK_698_27 K, goA_742, Option.bind_some, gd_kV_v, if_true]
      rw [gI_wI_a (show (742 : Nat) ≠ 743 by decide), gI_wI_s, gI_wI_a (show (743 : Nat) ≠ 742 by decide), gI_wI_s, gn_in (by omega) hr, if_pos rfl]
    · rw [if_neg h2, if_neg h2]
  · rw [if_neg h1, if_neg h1, if_neg h1]
theorem c_isJudge (K : gK c d n p m) (Cd : cCd c (gI m) (gCd n s)) (hNe : gCd n s 0 21 = Int32.ofNat N) (y : Int32) : gd_call 105 [.ref 8, .int y] m = some (.int (gB (gIs N y)), m) := by
  rw [q_X_isJudge]
  simp only [gK_N K, gK_8_0 K, gK_8_1 K, gK_8_2 K, gK_8_3 K, gK_8_4 K, gK_8_5 K, gK_8_6 K, gK_8_7 K, gK_8_8 K, gK_10_0 K, gK_10_1 K, gK_10_2 K, gK_11_0 K, gK_15_0 K, gK_15_1 K, gK_15_2 K, gK_15_3 K, gK_20_0 K, gK_20_1 K, gK_20_2 K, gK_20_3 K, gK_20_4 K, gK_20_5 K, gK_698_0 K, gK_698_3 K, gK_698_16 K, gK_698_17 K, gK_698_20 K, gK_698_21 K, gK_698_22 K, gK_698_23 K, gK_698_24 K, gK_698_25 K, gK_698_26 K, gK_698_27 K, gK_698_28 K, gK_698_29 K, gK_698_30 K, gK_698_31 K, gK_698_32 K, gK_698_33 K, gK_698_34 K, gK_698_35 K, gK_698_36 K, gK_698_37 K, gK_698_38 K, gK_698_39 K, gK_698_41 K, gK_698_42 K, gK_698_44 K, gK_c K, gK_d K, gK_n K, gK_p K, gok_8, gok_10, gok_11, gok_15, gok_20, gok_698, gok_699, goA_9, goA_12, goA_13, goA_14, goA_16, goA_17, goA_18, goA_19, goA_21, goA_22, goA_23, goA_24, goA_25, goA_26, goA_27, goA_28, goA_29, goA_30, goA_31, goA_732, goA_733, goA_734, goA_735, goA_736, goA_737, goA_738, goA_739, goA_740, goA_741, goA_742, goA_743, goA_744, goA_745, goA_746, goA_747, goA_748, goA_749, goA_750, goA_751, goA_752, goA_753, goA_754, goA_755, goA_756, goA_757, gN_wI, gR_wI, gL_wI, if_true, eq_self, gok_c K, gok_d K, gok_n K, gok_p K, gK_c_0 K, gK_c_1 K, gK_c_2 K, gK_c_3 K, gK_c_4 K, gK_c_5 K, gK_c_6 K, gK_c_7 K, gK_c_8 K, gK_c_9 K, gK_c_10 K, gK_c_11 K, gK_n_3 K, gK_n_4 K, gK_n_5 K, gK_n_6 K, gK_n_7 K, gK_n_8 K, gK_n_9 K, gK_n_10 K, gK_n_11 K, gK_n_12 K, gK_n_13 K, gK_n_14 K, gK_n_15 K, gK_n_16 K, gK_n_17 K, goA_c1 K, goA_c2 K, goA_c3 K, goA_c4 K, goA_c5 K, goA_c6 K, goA_c7 K, goA_c8 K, goA_c9 K, goA_c10 K, goA_c11 K, goA_c12 K, goA_n1 K, goA_n2 K, goA_n3 K, goA_n4 K, goA_n5 K, goA_n6 K, goA_n7 K, goA_n8 K, goA_n9 K, goA_n10 K, goA_n11 K, goA_n12 K, goA_n13 K, goA_n14 K, goA_n15 K]
  rw [show gd_in 3 12 = true from rfl, if_pos rfl, show (3 : Int32).toNatClampNeg = 3 from rfl, cCd_pan Cd, hNe, gIs_i]
  cases gIs N y <;> rfl
/-- may the judge mark -/
def gTk (mk : Nat → Int32) (a : Int32) (j : Nat) : Bool := decide (mk j = -1) || !decide (((a >>> (Int32.ofNat j &&& 31)) &&& 1) = 0)
theorem c_takes (K : gK c d n p m) (hr : r < 160) (hj : j < 6) (hm : ∀ i < 6, gI m (60 + 4 * r) i = mk i) (ha : gI m (58 + 4 * r) 8 = a) : gd_call 106 [.ref (58 + 4 * r), .int (Int32.ofNat j)] m = some (.int (gB (gTk mk a j)), m) := by
  rw [q_Ro_takesMarkOf]
  simp only [gK_N K, gK_8_0 K, gK_8_1 K, gK_8_2 K, gK_8_3 K, gK_8_4 K, gK_8_5 K, gK_8_6 K, gK_8_7 K, gK_8_8 K, gK_10_0 K, gK_10_1 K, gK_10_2 K, gK_11_0 K, gK_15_0 K, gK_15_1 K, gK_15_2 K, gK_15_3 K, gK_20_0 K, gK_20_1 K, gK_20_2 K, gK_20_3 K, gK_20_4 K, gK_20_5 K, gK_698_0 K, gK_698_3 K, gK_698_16 K, gK_698_17 K, gK_698_20 K, gK_698_21 K, gK_698_22 K, gK_698_23 K, gK_698_24 K, gK_698_25 K, gK_698_26 K, gK_698_27 K, gK_698_28 K, gK_698_29 K, gK_698_30 K, gK_698_31 K, gK_698_32 K, gK_698_33 K, gK_698_34 K, gK_698_35 K, gK_698_36 K, gK_698_37 K, gK_698_38 K, gK_698_39 K, gK_698_41 K, gK_698_42 K, gK_698_44 K, gK_c K, gK_d K, gK_n K, gK_p K, gok_8, gok_10, gok_11, gok_15, gok_20, gok_698, gok_699, goA_9, goA_12, goA_13, goA_14, goA_16, goA_17, goA_18, goA_19, goA_21, goA_22, goA_23, goA_24, goA_25, goA_26, goA_27, goA_28, goA_29, goA_30, goA_31, goA_732, goA_733, goA_734, goA_735, goA_736, goA_737, goA_738, goA_739, goA_740, goA_741, goA_742, goA_743, goA_744, goA_745, goA_746, goA_747, goA_748, goA_749, goA_750, goA_751, goA_752, goA_753, goA_754, goA_755, goA_756, goA_757, gN_wI, gR_wI, gL_wI, if_true, eq_self, gK_row K hr, gK_ent K hr, gK_mrk K hr, gK_sen K hr, gok_row hr, goA_ent hr, goA_mrk hr, goA_sen hr, gd_row0, gd_row8, if_false]
  rw [gn_in (by omega) hj, if_pos rfl, gn_nat (by omega), hm j hj, ha]
  unfold gTk
  by_cases h1 : mk j = -1
  · rw [if_pos h1, decide_eq_true h1]; rfl
  · rw [if_neg h1, decide_eq_false h1]
    by_cases h2 : ((a >>> (Int32.ofNat j &&& 31)) &&& 1) = 0
    · rw [if_pos h2, decide_eq_true h2]; rfl
    · rw [if_neg h2, decide_eq_false h2]; rfl
theorem cAll_mk (C : cAll c n (gI m) s) (hc : c = 32 ∨ c = 45) (hn : n = 700 ∨ n = 716) (hr : r < 160) (hj : j < 6) (ho : s 745 r = -1) (hb : s 742 r = b) : cAll c n (gI (pMk mk r j N x sp a b m)) (sMk mk r j N x sp a b s) := by
  have W := cAll_rw C r hr
  have hb' : gI m (58 + 4 * r) 7 = b := (cRw_mkd W).trans hb
  refine cAll_row hc hn C hr (fun q hq => pMk_f (by omega)) (fun q hq => sMk_f (by omega)) (fun q hq hne => sMk_r hb hne hj) (fun k => gPc_c k fun q _ => ⟨by rw [sMk_f (by decide)], by rw [sMk_f (by decide)]⟩) ?_
  refine ⟨?_, ?_, fun i hi => ?_, fun i hi => ?_, ?_, ?_, ?_, fun f hf i => ?_, fun q => ?_, fun _ q => ?_, fun h q => ?_, fun _ q => ?_⟩
  · rw [pMk_58 hb', if_neg (by decide), if_neg (by decide), sMk_f (by decide)]; exact (by have q := cRw_bgn W; exact q)
  · rw [pMk_58 hb', if_neg (by decide), if_neg (by decide), sMk_f (by decide)]; exact (by have q := cRw_len W; exact q)
  · rw [pMk_f (by omega), sMk_f (by decide)]; exact cRw_ent W i hi
  · rw [pMk_60, sMk_741]
    by_cases e : i = j
    · rw [if_pos e, if_pos (by omega)]
    · rw [if_neg e, if_neg (by omega)]; exact cRw_mrk W i hi
  · rw [pMk_58 hb', if_pos rfl, sMk_742 hb, if_pos rfl]
  · rw [pMk_58 hb', if_neg (by decide), if_pos rfl, sMk_743, if_pos rfl]
  · rw [pMk_58 hb', if_neg (by decide), if_neg (by decide), sMk_f (by decide)]; exact (by have q := cRw_inq W; exact q)
  · rw [pMk_f (by omega), sMk_f (by decide)]; exact cRw_sen W f hf i
  · rw [sMk_f (by decide)] at q
    rw [pMk_58 hb', if_neg (by decide), if_neg (by decide), sMk_f (by decide)]; exact cRw_pst W q
  · rw [sMk_f (by decide)] at q; exact absurd ho q
  · rw [sMk_f (by decide)] at h
    rw [pMk_58 hb', if_neg (by decide), if_neg (by decide)] at q
    rw [pMk_58 hb', if_neg (by decide), if_neg (by decide), pMk_58 hb', if_neg (by decide), if_neg (by decide), sMk_f (by decide)]
    have e1 : gEn (sMk mk r j N x sp a b s) r = gEn s r := funext fun i => by unfold gEn; rw [sMk_f (by decide)]
    rw [e1]
    exact cRw_sta W h q
  · rw [sMk_f (by decide)] at q; exact absurd ho q
theorem iAll_mk (I : iAll n s) (hn : n = 700 ∨ n = 716) (hr : r < 160) (hj : j < 6) (hb : s 742 r = b) (hx : gMkOk x) : iAll n (sMk mk r j N x sp a b s) := by
  have J := iAll_row I r hr
  refine iAll_row' hn I (fun q hq => sMk_f (by omega)) (fun q hq hne => sMk_r hb hne hj) (fun q => by rw [sMk_f (by decide)]) ?_
  refine ⟨by rw [sMk_f (by decide)]; exact iRow_bgn J, by rw [sMk_f (by decide)]; exact iRow_len J, fun q i hi => ?_, fun q i hi => ?_, fun q => ?_, fun q => ?_⟩
  · rw [sMk_f (by decide)] at q hi ⊢; exact iRow_ent J q i hi
  · rw [sMk_f (by decide)] at q
    rw [sMk_741]
    by_cases e : 6 * r + i = 6 * r + j
    · rw [if_pos e]; exact hx
    · rw [if_neg e]; exact iRow_mrk J q i hi
  · rw [sMk_f (by decide)] at q
    rw [sMk_f (by decide), sMk_f (by decide)]; exact iRow_pst J q
  · rw [sMk_f (by decide)] at q
    rw [sMk_f (by decide), sMk_f (by decide)]; exact iRow_inq J q
end P75
