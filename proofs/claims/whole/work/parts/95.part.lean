/-! ===== reading: a part ===== -/
noncomputable def rPart (m8 : gd_M) : Option (Value × gd_M) := if ((gI m8 698 6) = 1 : Prop) then ((gd_call 68 [.ref 698, .int 1, .int 1] m8).bind (gd_kV fun m13 => if gd_ok (gN m13) 698 9 = true then ((gd_call 70 [.ref 698, .long (gJ m13 698 12), .long (gJ m13 698 13)] m13).bind (gd_kI fun z18 m16 => if (z18 = (-1) : Prop) then (gd_Den (76, 66, [.ref 698, .null], [.int 1, .ref 698], m16)) else (gd_Den (76, 66, [.ref 698, .null], [.int 0, .ref 698], m16)))) else none)) else ((gd_call 68 [.ref 698, .int 0, .int 1] m8).bind (gd_kV fun m21 => if gd_ok (gN m21) 698 9 = true then ((gd_call 70 [.ref 698, .long (gJ m21 698 12), .long (gJ m21 698 13)] m21).bind (gd_kI fun z26 m24 => if (z26 = (-1) : Prop) then (gd_Den (76, 66, [.ref 698, .null], [.int 1, .ref 698], m24)) else (gd_Den (76, 66, [.ref 698, .null], [.int 0, .ref 698], m24)))) else none))
theorem iCd_part {A A' : gd_C} {N : Nat} {v1 v2 kd : Int32} (Id : iCd A) (h0 : A 0 0 = Int32.ofNat N) (hN : N < 30) (a0 : ∀ j, A' 0 j = if j = 0 then Int32.ofNat (N + 1) else A 0 j) (a5 : ∀ i, A' 5 i = if i = N then v1 else A 5 i) (a6 : ∀ i, A' 6 i = if i = N then v2 else A 6 i) (a7 : ∀ i, A' 7 i = if i = N then kd else A 7 i) (ao : ∀ q, 8 ≤ q → q < 16 → A' q = A q) (r1 : isN v1 1 30) (r2 : isN v2 0 4) (r3 : ∃ q, q ≤ N ∧ kd = Int32.ofNat q) : iCd A' := by
  have g0 : gn (A 0 0) = N := by rw [h0, gn_of (by omega)]
  have g0' : gn (A' 0 0) = N + 1 := by rw [a0, if_pos rfl, gn_of (by omega)]
  have a0' : ∀ j, j ≠ 0 → A' 0 j = A 0 j := fun j hj => by rw [a0, if_neg hj]
  unfold iCd
  rw [g0', a0' 1 (by decide), a0' 2 (by decide), a0' 18 (by decide), a0' 19 (by decide), a0' 20 (by decide), a0' 21 (by decide), a0' 22 (by decide), a0' 23 (by decide), a0' 24 (by decide), a0' 25 (by decide), a0' 26 (by decide), ao 8 (by decide) (by decide), ao 9 (by decide) (by decide), ao 10 (by decide) (by decide), ao 11 (by decide) (by decide), ao 13 (by decide) (by decide), ao 14 (by decide) (by decide), ao 15 (by decide) (by decide)]
  refine ⟨?_, iCd_lks Id, iCd_fts Id, fun i hi => ?_, fun i hi => ?_, fun i hi => ?_, iCd_lwo Id, iCd_lon Id, iCd_fof Id, iCd_nds Id, iCd_wth Id, iCd_lim Id, iCd_cnt Id, iCd_sho Id, iCd_les Id, iCd_pan Id, iCd_spa Id, iCd_tea Id, iCd_bst Id, iCd_fin Id, iCd_lnd Id⟩
  · rw [a0, if_pos rfl]; exact isN_i (by omega) (by omega)
  · rw [a5]
    by_cases e : i = N
    · rw [if_pos e]; exact r1
    · rw [if_neg e]; exact iCd_wor Id i (by omega)
  · rw [a6]
    by_cases e : i = N
    · rw [if_pos e]; exact r2
    · rw [if_neg e]; exact iCd_grp Id i (by omega)
  · rw [a7]
    by_cases e : i = N
    · rw [if_pos e]
      obtain ⟨q, hq, e2⟩ := r3
      exact ⟨q, by omega, e2⟩
    · rw [if_neg e]
      obtain ⟨q, hq, e2⟩ := iCd_knd Id i (by omega)
      exact ⟨q, by omega, e2⟩
theorem cCd_part {A A' J J' : gd_C} {d N : Nat} {v1 v2 kd : Int32} (Cd : cCd d J A) (h0 : A 0 0 = Int32.ofNat N) (hN : N < 30) (a0 : ∀ j, A' 0 j = if j = 0 then Int32.ofNat (N + 1) else A 0 j) (a5 : ∀ i, A' 5 i = if i = N then v1 else A 5 i) (a6 : ∀ i, A' 6 i = if i = N then v2 else A 6 i) (a7 : ∀ i, A' 7 i = if i = N then kd else A 7 i) (ao : ∀ q, 8 ≤ q → q < 16 → A' q = A q) (j0 : ∀ j, J' d j = if j = 12 then Int32.ofNat (N + 1) else J d j) (j1 : ∀ i, J' (d + 1) i = if i = N then v1 else J (d + 1) i) (j2 : ∀ i, J' (d + 2) i = if i = N then v2 else J (d + 2) i) (j3 : ∀ i, J' (d + 3) i = if i = N then kd else J (d + 3) i) (jo : ∀ q, 4 ≤ q → q ≤ 12 → J' (d + q) = J (d + q)) : cCd d J' A' := by
  have g0 : gn (A 0 0) = N := by rw [h0, gn_of (by omega)]
  have g0' : gn (A' 0 0) = N + 1 := by rw [a0, if_pos rfl, gn_of (by omega)]
  have a0' : ∀ j, j ≠ 0 → A' 0 j = A 0 j := fun j hj => by rw [a0, if_neg hj]
  unfold cCd
  rw [g0', a0' 1 (by decide), a0' 2 (by decide), a0' 18 (by decide), a0' 19 (by decide), a0' 20 (by decide), a0' 21 (by decide), a0' 22 (by decide), a0' 23 (by decide), a0' 24 (by decide), a0' 25 (by decide), a0' 26 (by decide), ao 8 (by decide) (by decide), ao 9 (by decide) (by decide), ao 10 (by decide) (by decide), ao 11 (by decide) (by decide), ao 12 (by decide) (by decide), ao 13 (by decide) (by decide), ao 14 (by decide) (by decide), ao 15 (by decide) (by decide), jo 4 (by decide) (by decide), jo 5 (by decide) (by decide), jo 6 (by decide) (by decide), jo 7 (by decide) (by decide), jo 8 (by decide) (by decide), jo 9 (by decide) (by decide), jo 10 (by decide) (by decide), jo 11 (by decide) (by decide), jo 12 (by decide) (by decide)]
  refine ⟨?_, ?_, ?_, fun i hi => ?_, fun i hi => ?_, fun i hi => ?_, cCd_lfi Cd, cCd_lse Cd, cCd_lwo Cd, cCd_fof Cd, cCd_fea Cd, cCd_nds Cd, cCd_wth Cd, cCd_lim Cd, cCd_pan Cd, cCd_spa Cd, cCd_cnt Cd, cCd_sho Cd, cCd_les Cd, cCd_tea Cd, cCd_bst Cd, cCd_fin Cd, cCd_lnd Cd⟩
  · rw [j0, if_pos rfl, a0, if_pos rfl]
  · rw [j0, if_neg (by decide)]; exact cCd_lks Cd
  · rw [j0, if_neg (by decide)]; exact cCd_fts Cd
  · rw [j1, a5]
    by_cases e : i = N
    · rw [if_pos e, if_pos e]
    · rw [if_neg e, if_neg e]; exact cCd_wor Cd i (by omega)
  · rw [j2, a6]
    by_cases e : i = N
    · rw [if_pos e, if_pos e]
    · rw [if_neg e, if_neg e]; exact cCd_grp Cd i (by omega)
  · rw [j3, a7]
    by_cases e : i = N
    · rw [if_pos e, if_pos e]
    · rw [if_neg e, if_neg e]; exact cCd_knd Cd i (by omega)
theorem isN_of {v : Int32} {lo hi : Nat} (h1 : ¬ v < Int32.ofNat lo) (h2 : ¬ Int32.ofNat hi < v) (hl : lo < 2147483648) (hh : hi < 2147483648) : isN v lo hi := by
  have h0 : ¬ v < 0 := fun q => h1 (Int32.lt_iff_toInt_lt.2 (by have := Int32.lt_iff_toInt_lt.1 q; have e0 : (0 : Int32).toInt = 0 := rfl; rw [gn_toInt hl]; omega))
  obtain ⟨k, hk, rfl⟩ := gn_pos (Int32.not_lt.1 h0)
  refine isN_i ?_ ?_
  · by_cases q : k < lo
    · exact absurd ((gn_lt hk hl).2 q) h1
    · omega
  · by_cases q : hi < k
    · exact absurd ((gn_lt hh hk).2 q) h2
    · omega
section P95
variable {c d cc dd n p : Nat} {t : Nat → Int32} {T s e k N : Nat} {m0 m1 mX mM mX8 mM8 : gd_M} {v1 v2 kd : Int32} {w a' b' : Int64}
theorem c_addPart (K : gK c d n p mX) (h12 : gI mX d 12 = Int32.ofNat N) (hN : N < 30) : gd_call 45 [.ref d, .int v1, .int v2, .int kd] mX = some (.null, wI (wI (wI (wI mX (d + 1) N v1) (d + 2) N v2) (d + 3) N kd) d 12 (Int32.ofNat (N + 1))) := by
  have i1 : gd_in (Int32.ofNat N) 30 = true := gn_in (by omega) (by omega)
  have n1 : (Int32.ofNat N).toNatClampNeg = N := gn_nat (by omega)
  have r1 : ∀ x, gI (wI mX (d + 1) N x) d 12 = Int32.ofNat N := fun x => (gI_wI_a (by omega)).trans h12
  have r2 : ∀ x y, gI (wI (wI mX (d + 1) N x) (d + 2) N y) d 12 = Int32.ofNat N := fun x y => (gI_wI_a (by omega)).trans (r1 x)
  have r3 : ∀ x y z, gI (wI (wI (wI mX (d + 1) N x) (d + 2) N y) (d + 3) N z) d 12 = Int32.ofNat N := fun x y z => (gI_wI_a (by omega)).trans (r2 x y)
  rw [q_Co_addPart]
  simp only [gK_N K, gK_8_0 K, gK_8_1 K, gK_8_2 K, gK_8_3 K, gK_8_4 K, gK_8_5 K, gK_8_6 K, gK_8_7 K, gK_8_8 K, gK_10_0 K, gK_10_1 K, gK_10_2 K, gK_11_0 K, gK_15_0 K, gK_15_1 K, gK_15_2 K, gK_15_3 K, gK_20_0 K, gK_20_1 K, gK_20_2 K, gK_20_3 K, gK_20_4 K, gK_20_5 K, gK_698_0 K, gK_698_3 K, gK_698_16 K, gK_698_17 K, gK_698_20 K, gK_698_21 K, gK_698_22 K, gK_698_23 K, gK_698_24 K, gK_698_25 K, gK_698_26 K, gK_698_27 K, gK_698_28 K, gK_698_29 K, gK_698_30 K, gK_698_31 K, gK_698_32 K, gK_698_33 K, gK_698_34 K, gK_698_35 K, gK_698_36 K, gK_698_37 K, gK_698_38 K, gK_698_39 K, gK_698_41 K, gK_698_42 K, gK_698_44 K, gK_c K, gK_d K, gK_n K, gK_p K, gok_8, gok_10, gok_11, gok_15, gok_20, gok_698, gok_699, goA_9, goA_12, goA_13, goA_14, goA_16, goA_17, goA_18, goA_19, goA_21, goA_22, goA_23, goA_24, goA_25, goA_26, goA_27, goA_28, goA_29, goA_30, goA_31, goA_732, goA_733, goA_734, goA_735, goA_736, goA_737, goA_738, goA_739, goA_740, goA_741, goA_742, goA_743, goA_744, goA_745, goA_746, goA_747, goA_748, goA_749, goA_750, goA_751, goA_752, goA_753, goA_754, goA_755, goA_756, goA_757, gN_wI, gR_wI, gL_wI, if_true, eq_self, gok_c K, gok_d K, gok_n K, gok_p K, gK_c_0 K, gK_c_1 K, gK_c_2 K, gK_c_3 K, gK_c_4 K, gK_c_5 K, gK_c_6 K, gK_c_7 K, gK_c_8 K, gK_c_9 K, gK_c_10 K, gK_c_11 K, gK_n_3 K, gK_n_4 K, gK_n_5 K, gK_n_6 K, gK_n_7 K, gK_n_8 K, gK_n_9 K, gK_n_10 K, gK_n_11 K, gK_n_12 K, gK_n_13 K, gK_n_14 K, gK_n_15 K, gK_n_16 K, gK_n_17 K, goA_c1 K, goA_c2 K, goA_c3 K, goA_c4 K, goA_c5 K, goA_c6 K, goA_c7 K, goA_c8 K, goA_c9 K, goA_c10 K, goA_c11 K, goA_c12 K, goA_n1 K, goA_n2 K, goA_n3 K, goA_n4 K, goA_n5 K, goA_n6 K, goA_n7 K, goA_n8 K, goA_n9 K, goA_n10 K, goA_n11 K, goA_n12 K, goA_n13 K, goA_n14 K, goA_n15 K, gK_d_0 K, gK_d_1 K, gK_d_2 K, gK_d_3 K, gK_d_4 K, gK_d_5 K, gK_d_6 K, gK_d_7 K, gK_d_8 K, gK_d_9 K, gK_d_10 K, gK_d_11 K, gK_p_3 K, gK_p_4 K, gK_p_5 K, gK_p_6 K, gK_p_7 K, gK_p_8 K, gK_p_9 K, gK_p_10 K, gK_p_11 K, gK_p_12 K, gK_p_13 K, gK_p_14 K, gK_p_15 K, gK_p_16 K, gK_p_17 K, goA_d1 K, goA_d2 K, goA_d3 K, goA_d4 K, goA_d5 K, goA_d6 K, goA_d7 K, goA_d8 K, goA_d9 K, goA_d10 K, goA_d11 K, goA_d12 K, goA_p1 K, goA_p2 K, goA_p3 K, goA_p4 K, goA_p5 K, goA_p6 K, goA_p7 K, goA_p8 K, goA_p9 K, goA_p10 K, goA_p11 K, goA_p12 K, goA_p13 K, goA_p14 K, goA_p15 K, h12, i1, n1, r1, r2, r3, gn_succ]
  rw [if_pos ((gnlb_30 (by omega) (by decide)).2 hN)]
/-- a part's end -/
theorem fin_part (hB : ∀ i, isB (t i)) (hT : T ≤ 3000) (P : PR c d cc dd n p t T m0 m1 mX mM) (hN : gI mM p 0 = Int32.ofNat N) (hN30 : N < 30) (R8 : TR c d cc dd n p t T m0 m1 mX8 mM8) (F8 : tF t T s k mX8 mM8) (x1 : ∀ q, q ≤ 12 → gI mX8 (d + q) = gI mX (d + q)) (x2 : gI mX8 10 4 = gI mX 10 4) (x3 : ∀ i, gJ mX8 13 i = if i = N then w else gJ mX 13 i) (x4 : gJ mX8 14 = gJ mX 14) (y5 : ∀ i, gI mM8 (p + 5) i = if i = N then v1 else gI mM (p + 5) i) (y6 : ∀ i, gI mM8 (p + 6) i = if i = N then v2 else gI mM (p + 6) i) (y7 : ∀ i, gI mM8 (p + 7) i = if i = N then kd else gI mM (p + 7) i) (y0 : gI mM8 p = gI mM p) (yo : ∀ q, 8 ≤ q → q < 16 → gI mM8 (p + q) = gI mM (p + q)) (y733 : gI mM8 733 = gI mM 733) (y734 : gI mM8 734 = gI mM 734) (z1 : ∀ i, gJ mM8 (p + 1) i = if i = N then a' else gJ mM (p + 1) i) (z2 : ∀ i, gJ mM8 (p + 2) i = if i = N then b' else gJ mM (p + 2) i) (z3 : gJ mM8 (p + 3) = gJ mM (p + 3)) (z4 : gJ mM8 (p + 4) = gJ mM (p + 4)) (hnm : nmE t T w a' b') (r1 : isN v1 1 30) (r2 : isN v2 0 4) (r3 : ∃ q, q ≤ N ∧ kd = Int32.ofNat q) {k0 : Nat} (hk0 : k0 ≤ k) : JJ c d cc dd n p m0 m1 ((gd_call 44 [.ref 10] mX8).bind (gd_kI fun z55 m53 => if (z55 = 0 : Prop) then (some (.int 0, m53)) else (if gd_ok (gN m53) 10 3 = true then (if gd_ok (gN m53) (gR m53 10 3) 1 = true then ((gd_call 45 [.ref (gR m53 10 3), .int v1, .int v2, .int kd] m53).bind (gd_kV fun m60 => some (.int 1, m60))) else none) else none))) (rE (wI mM8 p 0 (Int32.ofNat (N + 1)))) (fun mX' mM' => PR c d cc dd n p t T m0 m1 mX' mM' ∧ ∃ e' k', tP t T e' k' mX' mM' ∧ k0 < k') := by
  obtain ⟨PT, PI, PC, PN, PF, PL, PG, PH⟩ := P
  have Kx := R8.1
  have hd := gK_d1 Kx
  have hp := gK_p1 Kx
  have tl := R8.2.2.2.2.1
  have h12 : gI mX8 d 12 = Int32.ofNat N := by
    rw [show gI mX8 d = gI mX d from x1 0 (by decide), cCd_pts PC, gA0]; exact hN
  have R9 : TR c d cc dd n p t T m0 m1 mX8 (wI mM8 p 0 (Int32.ofNat (N + 1))) := TR_wM R8 (by omega)
  have F9 : tF t T s k mX8 (wI mM8 p 0 (Int32.ofNat (N + 1))) := tF_wM F8 (by omega)
  rcases J_end hB hT R9 F9 with ⟨b1, mM', b2, b3, b4⟩ | ⟨mX', mM', b1, b2, b3⟩
  · rw [b1, b2]
    simp only [gK_N Kx, gK_8_0 Kx, gK_8_1 Kx, gK_8_2 Kx, gK_8_3 Kx, gK_8_4 Kx, gK_8_5 Kx, gK_8_6 Kx, gK_8_7 Kx, gK_8_8 Kx, gK_10_0 Kx, gK_10_1 Kx, gK_10_2 Kx, gK_11_0 Kx, gK_15_0 Kx, gK_15_1 Kx, gK_15_2 Kx, gK_15_3 Kx, gK_20_0 Kx, gK_20_1 Kx, gK_20_2 Kx, gK_20_3 Kx, gK_20_4 Kx, gK_20_5 Kx, gK_698_0 Kx, gK_698_3 Kx, gK_698_16 Kx, gK_698_17 Kx, gK_698_20 Kx, gK_698_21 Kx, gK_698_22 Kx, gK_698_23 Kx, gK_698_24 Kx, gK_698_25 Kx, gK_698_26 Kx, gK_698_27 Kx, gK_698_28 Kx, gK_698_29 Kx, gK_698_30 Kx, gK_698_31 Kx, gK_698_32 Kx, gK_698_33 Kx, gK_698_34 Kx, gK_698_35 Kx, gK_698_36 Kx, gK_698_37 Kx, gK_698_38 Kx, gK_698_39 Kx, gK_698_41 Kx, gK_698_42 Kx, gK_698_44 Kx, gK_c Kx, gK_d Kx, gK_n Kx, gK_p Kx, gok_8, gok_10, gok_11, gok_15, gok_20, gok_698, gok_699, goA_9, goA_12, goA_13, goA_14, goA_16, goA_17, goA_18, goA_19, goA_21, goA_22, goA_23, goA_24, goA_25, goA_26, goA_27, goA_28, goA_29, goA_30, goA_31, goA_732, goA_733, goA_734, goA_735, goA_736, goA_737, goA_738, goA_739, goA_740, goA_741, goA_742, goA_743, goA_744, goA_745, goA_746, goA_747, goA_748, goA_749, goA_750, goA_751, goA_752, goA_753, goA_754, goA_755, goA_756, goA_757, gN_wI, gR_wI, gL_wI, if_true, eq_self, Option.bind_some, gd_kI_i]
    rw [if_neg (show ¬ (1 : Int32) = 0 by decide), tl, gok_d Kx, if_pos rfl, c_addPart Kx h12 hN30]
    simp only [Option.bind_some, gd_kV_v]
    refine JJ_g ⟨?_, _, _, tP_wX (tP_wX (tP_wX (tP_wX b4 (by omega)) (by omega)) (by omega)) (by omega), by omega⟩
    have A0 : ∀ j, gCd p (gI mM) 0 j = gI mM p j := fun j => gA0
    have hA : ∀ q, q < 16 → ∀ i, gCd p (gI mM') q i = gI (wI mM8 p 0 (Int32.ofNat (N + 1))) (p + q) i := fun q hq i => by rw [gCd_k hq, b3.2.1 _ (by omega)]
    have hB' : ∀ q, q < 16 → ∀ i, gCd p (gI mM) q i = gI mM (p + q) i := fun q hq i => gCd_k hq
    have a0 : ∀ j, gCd p (gI mM') 0 j = if j = 0 then Int32.ofNat (N + 1) else gCd p (gI mM) 0 j := fun j => by
      rw [hA 0 (by decide), hB' 0 (by decide), show p + 0 = p from rfl, gI_wI_m, y0]
    have a5 : ∀ i, gCd p (gI mM') 5 i = if i = N then v1 else gCd p (gI mM) 5 i := fun i => by
      rw [hA 5 (by decide), hB' 5 (by decide), gI_wI_a (by omega), y5]
    have a6 : ∀ i, gCd p (gI mM') 6 i = if i = N then v2 else gCd p (gI mM) 6 i := fun i => by
      rw [hA 6 (by decide), hB' 6 (by decide), gI_wI_a (by omega), y6]
    have a7 : ∀ i, gCd p (gI mM') 7 i = if i = N then kd else gCd p (gI mM) 7 i := fun i => by
      rw [hA 7 (by decide), hB' 7 (by decide), gI_wI_a (by omega), y7]
    have ao : ∀ q, 8 ≤ q → q < 16 → gCd p (gI mM') q = gCd p (gI mM) q := fun q h1 h2 => funext fun i => by
      rw [hA q h2, hB' q h2, gI_wI_a (by omega), yo q h1 h2]
    have h0 : gCd p (gI mM) 0 0 = Int32.ofNat N := (A0 0).trans hN
    have hp0 : ∀ j, gI mM' p j = if j = 0 then Int32.ofNat (N + 1) else gI mM p j := fun j => by
      have := a0 j
      rw [A0 j, show gCd p (gI mM') 0 j = gI mM' p j from gA0] at this; exact this
    refine ⟨?_, iCd_part PI h0 hN30 a0 a5 a6 a7 ao r1 r2 r3, ?_, fun i hi => ?_, fun i hi => ?_, ?_, fun g hg => ?_, fun g hg => ?_⟩
    · exact TR_wX (TR_wX (TR_wX (TR_wX (TR_Z R9 b3) (by omega)) (by omega)) (by omega)) (by omega)
    · refine cCd_part PC h0 hN30 a0 a5 a6 a7 ao (fun j => ?_) (fun i => ?_) (fun i => ?_) (fun i => ?_) (fun q h1 h2 => ?_)
      · rw [gI_wI_m, gI_wI_a (by omega), gI_wI_a (by omega), gI_wI_a (by omega), show gI mX8 d = gI mX d from x1 0 (by decide)]
      · rw [gI_wI_a (by omega), gI_wI_a (by omega), gI_wI_a (by omega), gI_wI_m, x1 1 (by decide)]
      · rw [gI_wI_a (by omega), gI_wI_a (by omega), gI_wI_m, gI_wI_a (by omega), x1 2 (by decide)]
      · rw [gI_wI_a (by omega), gI_wI_m, gI_wI_a (by omega), gI_wI_a (by omega), x1 3 (by decide)]
      · rw [gI_wI_f (by omega), gI_wI_f (by omega), gI_wI_f (by omega), gI_wI_f (by omega), x1 q h2]
    · rw [hp0, if_pos rfl, gn_of (by omega)] at hi
      show nmE t T (gJ mX8 13 i) (gJ mM' (p + 1) i) (gJ mM' (p + 2) i)
      rw [b3.2.2.1 (p + 1) (by omega), b3.2.2.1 (p + 2) (by omega)]
      show nmE t T (gJ mX8 13 i) (gJ mM8 (p + 1) i) (gJ mM8 (p + 2) i)
      rw [x3, z1, z2]
      by_cases e1 : i = N
      · rw [if_pos e1, if_pos e1, if_pos e1]; exact hnm
      · rw [if_neg e1, if_neg e1, if_neg e1]
        exact PN i (by rw [hN, gn_of (by omega)]; omega)
    · rw [hp0, if_neg (by decide)] at hi
      show nmE t T (gJ mX8 14 i) (gJ mM' (p + 3) i) (gJ mM' (p + 4) i)
      rw [b3.2.2.1 (p + 3) (by omega), b3.2.2.1 (p + 4) (by omega)]
      show nmE t T (gJ mX8 14 i) (gJ mM8 (p + 3) i) (gJ mM8 (p + 4) i)
      rw [x4, z3, z4]
      exact PF i hi
    · unfold LB
      rw [hp0, hp0, hp0, hp0, hp0, if_neg (by decide), if_neg (by decide), if_neg (by decide), if_neg (by decide), if_neg (by decide), gI_wI_a (show 10 ≠ d by omega), gI_wI_a (show 10 ≠ d + 3 by omega), gI_wI_a (show 10 ≠ d + 2 by omega), gI_wI_a (show 10 ≠ d + 1 by omega), x2]
      exact PL
    · rw [b3.2.1 733 (by decide), b3.2.1 (p + 13) (by omega), gI_wI_a (by omega), gI_wI_a (by omega), y733, yo 13 (by decide) (by decide)]
      exact PG g hg
    · rw [b3.2.1 734 (by decide), b3.2.1 (p + 15) (by omega), gI_wI_a (by omega), gI_wI_a (by omega), y734, yo 15 (by decide) (by decide)]
      exact PH g hg
  · rw [b1, b2]
    exact JJ_f b3
end P95
