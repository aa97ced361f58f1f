/-! ===== reading: steps that keep what both have told ===== -/
theorem isN_m {v : Int32} {a b a' b' : Nat} (h : isN v a b) (h1 : a' ≤ a) (h2 : b ≤ b') : isN v a' b' := by
  obtain ⟨k, x, y, e⟩ := h
  exact ⟨k, by omega, by omega, e⟩
def nOk (k1 k2 lo hi : Nat) : Prop := lo ≤ 1 ∧ ((k1 = 3 ∧ k2 = 21 ∧ 1 ≤ lo ∧ hi ≤ 6) ∨ (k1 = 4 ∧ k2 = 22 ∧ hi ≤ 50) ∨ (k1 = 5 ∧ k2 = 18 ∧ 1 ≤ lo ∧ hi ≤ 10) ∨ (k1 = 6 ∧ k2 = 19 ∧ hi ≤ 10) ∨ (k1 = 7 ∧ k2 = 20 ∧ hi ≤ 99) ∨ (k1 = 8 ∧ k2 = 23 ∧ 1 ≤ lo ∧ hi ≤ 6) ∨ (k1 = 9 ∧ k2 = 24 ∧ 1 ≤ lo ∧ hi ≤ 6) ∨ (k1 = 10 ∧ k2 = 25 ∧ 1 ≤ lo ∧ hi ≤ 10) ∨ (k1 = 11 ∧ k2 = 26 ∧ 1 ≤ lo ∧ hi ≤ 10))
theorem cCd_f {d : Nat} {J J' A : gd_C} (h : cCd d J A) (o : ∀ q, q ≤ 12 → J' (d + q) = J (d + q)) : cCd d J' A := by
  unfold cCd at h ⊢
  rw [show J' d = J d from o 0 (by decide), o 1 (by decide), o 2 (by decide), o 3 (by decide), o 4 (by decide), o 5 (by decide), o 6 (by decide), o 7 (by decide), o 8 (by decide), o 9 (by decide), o 10 (by decide), o 11 (by decide), o 12 (by decide)]
  exact h
theorem iCd_num {A A' : gd_C} {k2 lo hi k1 : Nat} {v : Int32} (Id : iCd A) (hk : nOk k1 k2 lo hi) (hv : isN v lo hi) (a0 : ∀ j, A' 0 j = if j = k2 then v else A 0 j) (ao : ∀ q, 0 < q → A' q = A q) : iCd A' := by
  unfold nOk at hk
  obtain ⟨hlo, hk⟩ := hk
  have z : ∀ j, j ≠ k2 → A' 0 j = A 0 j := fun j hj => by rw [a0, if_neg hj]
  have y : A' 0 k2 = v := by rw [a0, if_pos rfl]
  unfold iCd
  rw [ao 5 (by decide), ao 6 (by decide), ao 7 (by decide), ao 8 (by decide), ao 9 (by decide), ao 10 (by decide), ao 11 (by decide), ao 13 (by decide), ao 14 (by decide), ao 15 (by decide)]
  rcases hk with ⟨rfl, rfl, h1, h2⟩ | ⟨rfl, rfl, h2⟩ | ⟨rfl, rfl, h1, h2⟩ | ⟨rfl, rfl, h2⟩ | ⟨rfl, rfl, h2⟩ | ⟨rfl, rfl, h1, h2⟩ | ⟨rfl, rfl, h1, h2⟩ | ⟨rfl, rfl, h1, h2⟩ | ⟨rfl, rfl, h1, h2⟩
  · rw [y, z 0 (by decide), z 1 (by decide), z 2 (by decide), z 18 (by decide), z 19 (by decide), z 20 (by decide), z 22 (by decide), z 23 (by decide), z 24 (by decide), z 25 (by decide), z 26 (by decide)]
    exact ⟨iCd_pts Id, iCd_lks Id, iCd_fts Id, iCd_wor Id, iCd_grp Id, iCd_knd Id, iCd_lwo Id, iCd_lon Id, iCd_fof Id, iCd_nds Id, iCd_wth Id, iCd_lim Id, iCd_cnt Id, iCd_sho Id, iCd_les Id, isN_m hv h1 h2, iCd_spa Id, iCd_tea Id, iCd_bst Id, iCd_fin Id, iCd_lnd Id⟩
  · rw [y, z 0 (by decide), z 1 (by decide), z 2 (by decide), z 18 (by decide), z 19 (by decide), z 20 (by decide), z 21 (by decide), z 23 (by decide), z 24 (by decide), z 25 (by decide), z 26 (by decide)]
    exact ⟨iCd_pts Id, iCd_lks Id, iCd_fts Id, iCd_wor Id, iCd_grp Id, iCd_knd Id, iCd_lwo Id, iCd_lon Id, iCd_fof Id, iCd_nds Id, iCd_wth Id, iCd_lim Id, iCd_cnt Id, iCd_sho Id, iCd_les Id, iCd_pan Id, isN_m hv (Nat.zero_le _) h2, iCd_tea Id, iCd_bst Id, iCd_fin Id, iCd_lnd Id⟩
  · rw [y, z 0 (by decide), z 1 (by decide), z 2 (by decide), z 19 (by decide), z 20 (by decide), z 21 (by decide), z 22 (by decide), z 23 (by decide), z 24 (by decide), z 25 (by decide), z 26 (by decide)]
    exact ⟨iCd_pts Id, iCd_lks Id, iCd_fts Id, iCd_wor Id, iCd_grp Id, iCd_knd Id, iCd_lwo Id, iCd_lon Id, iCd_fof Id, iCd_nds Id, iCd_wth Id, iCd_lim Id, isN_m hv h1 h2, iCd_sho Id, iCd_les Id, iCd_pan Id, iCd_spa Id, iCd_tea Id, iCd_bst Id, iCd_fin Id, iCd_lnd Id⟩
  · rw [y, z 0 (by decide), z 1 (by decide), z 2 (by decide), z 18 (by decide), z 20 (by decide), z 21 (by decide), z 22 (by decide), z 23 (by decide), z 24 (by decide), z 25 (by decide), z 26 (by decide)]
    exact ⟨iCd_pts Id, iCd_lks Id, iCd_fts Id, iCd_wor Id, iCd_grp Id, iCd_knd Id, iCd_lwo Id, iCd_lon Id, iCd_fof Id, iCd_nds Id, iCd_wth Id, iCd_lim Id, iCd_cnt Id, isN_m hv (Nat.zero_le _) h2, iCd_les Id, iCd_pan Id, iCd_spa Id, iCd_tea Id, iCd_bst Id, iCd_fin Id, iCd_lnd Id⟩
  · rw [y, z 0 (by decide), z 1 (by decide), z 2 (by decide), z 18 (by decide), z 19 (by decide), z 21 (by decide), z 22 (by decide), z 23 (by decide), z 24 (by decide), z 25 (by decide), z 26 (by decide)]
    exact ⟨iCd_pts Id, iCd_lks Id, iCd_fts Id, iCd_wor Id, iCd_grp Id, iCd_knd Id, iCd_lwo Id, iCd_lon Id, iCd_fof Id, iCd_nds Id, iCd_wth Id, iCd_lim Id, iCd_cnt Id, iCd_sho Id, isN_m hv (Nat.zero_le _) h2, iCd_pan Id, iCd_spa Id, iCd_tea Id, iCd_bst Id, iCd_fin Id, iCd_lnd Id⟩
  · rw [y, z 0 (by decide), z 1 (by decide), z 2 (by decide), z 18 (by decide), z 19 (by decide), z 20 (by decide), z 21 (by decide), z 22 (by decide), z 24 (by decide), z 25 (by decide), z 26 (by decide)]
    exact ⟨iCd_pts Id, iCd_lks Id, iCd_fts Id, iCd_wor Id, iCd_grp Id, iCd_knd Id, iCd_lwo Id, iCd_lon Id, iCd_fof Id, iCd_nds Id, iCd_wth Id, iCd_lim Id, iCd_cnt Id, iCd_sho Id, iCd_les Id, iCd_pan Id, iCd_spa Id, isN_m hv h1 h2, iCd_bst Id, iCd_fin Id, iCd_lnd Id⟩
  · rw [y, z 0 (by decide), z 1 (by decide), z 2 (by decide), z 18 (by decide), z 19 (by decide), z 20 (by decide), z 21 (by decide), z 22 (by decide), z 23 (by decide), z 25 (by decide), z 26 (by decide)]
    exact ⟨iCd_pts Id, iCd_lks Id, iCd_fts Id, iCd_wor Id, iCd_grp Id, iCd_knd Id, iCd_lwo Id, iCd_lon Id, iCd_fof Id, iCd_nds Id, iCd_wth Id, iCd_lim Id, iCd_cnt Id, iCd_sho Id, iCd_les Id, iCd_pan Id, iCd_spa Id, iCd_tea Id, isN_m hv h1 h2, iCd_fin Id, iCd_lnd Id⟩
  · rw [y, z 0 (by decide), z 1 (by decide), z 2 (by decide), z 18 (by decide), z 19 (by decide), z 20 (by decide), z 21 (by decide), z 22 (by decide), z 23 (by decide), z 24 (by decide), z 26 (by decide)]
    exact ⟨iCd_pts Id, iCd_lks Id, iCd_fts Id, iCd_wor Id, iCd_grp Id, iCd_knd Id, iCd_lwo Id, iCd_lon Id, iCd_fof Id, iCd_nds Id, iCd_wth Id, iCd_lim Id, iCd_cnt Id, iCd_sho Id, iCd_les Id, iCd_pan Id, iCd_spa Id, iCd_tea Id, iCd_bst Id, isN_m hv h1 h2, iCd_lnd Id⟩
  · rw [y, z 0 (by decide), z 1 (by decide), z 2 (by decide), z 18 (by decide), z 19 (by decide), z 20 (by decide), z 21 (by decide), z 22 (by decide), z 23 (by decide), z 24 (by decide), z 25 (by decide)]
    exact ⟨iCd_pts Id, iCd_lks Id, iCd_fts Id, iCd_wor Id, iCd_grp Id, iCd_knd Id, iCd_lwo Id, iCd_lon Id, iCd_fof Id, iCd_nds Id, iCd_wth Id, iCd_lim Id, iCd_cnt Id, iCd_sho Id, iCd_les Id, iCd_pan Id, iCd_spa Id, iCd_tea Id, iCd_bst Id, iCd_fin Id, isN_m hv h1 h2⟩
theorem cCd_num {A A' J J' : gd_C} {d k2 lo hi k1 : Nat} {v : Int32} (Cd : cCd d J A) (hk : nOk k1 k2 lo hi) (a0 : ∀ j, A' 0 j = if j = k2 then v else A 0 j) (ao : ∀ q, 0 < q → A' q = A q) (j0 : ∀ j, J' (d + 12) j = if j = k1 then v else J (d + 12) j) (jo : ∀ q, q < 12 → J' (d + q) = J (d + q)) : cCd d J' A' := by
  unfold nOk at hk
  obtain ⟨hlo, hk⟩ := hk
  have z : ∀ j, j ≠ k2 → A' 0 j = A 0 j := fun j hj => by rw [a0, if_neg hj]
  have y : A' 0 k2 = v := by rw [a0, if_pos rfl]
  have u : ∀ j, j ≠ k1 → J' (d + 12) j = J (d + 12) j := fun j hj => by rw [j0, if_neg hj]
  have x : J' (d + 12) k1 = v := by rw [j0, if_pos rfl]
  unfold cCd
  rw [show J' d = J d from jo 0 (by decide), ao 5 (by decide), ao 6 (by decide), ao 7 (by decide), ao 8 (by decide), ao 9 (by decide), ao 10 (by decide), ao 11 (by decide), ao 12 (by decide), ao 13 (by decide), ao 14 (by decide), ao 15 (by decide), jo 1 (by decide), jo 2 (by decide), jo 3 (by decide), jo 4 (by decide), jo 5 (by decide), jo 6 (by decide), jo 7 (by decide), jo 8 (by decide), jo 9 (by decide), jo 10 (by decide), jo 11 (by decide)]
  rcases hk with ⟨rfl, rfl, h1, h2⟩ | ⟨rfl, rfl, h2⟩ | ⟨rfl, rfl, h1, h2⟩ | ⟨rfl, rfl, h2⟩ | ⟨rfl, rfl, h2⟩ | ⟨rfl, rfl, h1, h2⟩ | ⟨rfl, rfl, h1, h2⟩ | ⟨rfl, rfl, h1, h2⟩ | ⟨rfl, rfl, h1, h2⟩
  · rw [y, x, z 0 (by decide), z 1 (by decide), z 2 (by decide), z 18 (by decide), z 19 (by decide), z 20 (by decide), z 22 (by decide), z 23 (by decide), z 24 (by decide), z 25 (by decide), z 26 (by decide), u 4 (by decide), u 5 (by decide), u 6 (by decide), u 7 (by decide), u 8 (by decide), u 9 (by decide), u 10 (by decide), u 11 (by decide)]
    exact ⟨cCd_pts Cd, cCd_lks Cd, cCd_fts Cd, cCd_wor Cd, cCd_grp Cd, cCd_knd Cd, cCd_lfi Cd, cCd_lse Cd, cCd_lwo Cd, cCd_fof Cd, cCd_fea Cd, cCd_nds Cd, cCd_wth Cd, cCd_lim Cd, rfl, cCd_spa Cd, cCd_cnt Cd, cCd_sho Cd, cCd_les Cd, cCd_tea Cd, cCd_bst Cd, cCd_fin Cd, cCd_lnd Cd⟩
  · rw [y, x, z 0 (by decide), z 1 (by decide), z 2 (by decide), z 18 (by decide), z 19 (by decide), z 20 (by decide), z 21 (by decide), z 23 (by decide), z 24 (by decide), z 25 (by decide), z 26 (by decide), u 3 (by decide), u 5 (by decide), u 6 (by decide), u 7 (by decide), u 8 (by decide), u 9 (by decide), u 10 (by decide), u 11 (by decide)]
    exact ⟨cCd_pts Cd, cCd_lks Cd, cCd_fts Cd, cCd_wor Cd, cCd_grp Cd, cCd_knd Cd, cCd_lfi Cd, cCd_lse Cd, cCd_lwo Cd, cCd_fof Cd, cCd_fea Cd, cCd_nds Cd, cCd_wth Cd, cCd_lim Cd, cCd_pan Cd, rfl, cCd_cnt Cd, cCd_sho Cd, cCd_les Cd, cCd_tea Cd, cCd_bst Cd, cCd_fin Cd, cCd_lnd Cd⟩
  · rw [y, x, z 0 (by decide), z 1 (by decide), z 2 (by decide), z 19 (by decide), z 20 (by decide), z 21 (by decide), z 22 (by decide), z 23 (by decide), z 24 (by decide), z 25 (by decide), z 26 (by decide), u 3 (by decide), u 4 (by decide), u 6 (by decide), u 7 (by decide), u 8 (by decide), u 9 (by decide), u 10 (by decide), u 11 (by decide)]
    exact ⟨cCd_pts Cd, cCd_lks Cd, cCd_fts Cd, cCd_wor Cd, cCd_grp Cd, cCd_knd Cd, cCd_lfi Cd, cCd_lse Cd, cCd_lwo Cd, cCd_fof Cd, cCd_fea Cd, cCd_nds Cd, cCd_wth Cd, cCd_lim Cd, cCd_pan Cd, cCd_spa Cd, rfl, cCd_sho Cd, cCd_les Cd, cCd_tea Cd, cCd_bst Cd, cCd_fin Cd, cCd_lnd Cd⟩
  · rw [y, x, z 0 (by decide), z 1 (by decide), z 2 (by decide), z 18 (by decide), z 20 (by decide), z 21 (by decide), z 22 (by decide), z 23 (by decide), z 24 (by decide), z 25 (by decide), z 26 (by decide), u 3 (by decide), u 4 (by decide), u 5 (by decide), u 7 (by decide), u 8 (by decide), u 9 (by decide), u 10 (by decide), u 11 (by decide)]
    exact ⟨cCd_pts Cd, cCd_lks Cd, cCd_fts Cd, cCd_wor Cd, cCd_grp Cd, cCd_knd Cd, cCd_lfi Cd, cCd_lse Cd, cCd_lwo Cd, cCd_fof Cd, cCd_fea Cd, cCd_nds Cd, cCd_wth Cd, cCd_lim Cd, cCd_pan Cd, cCd_spa Cd, cCd_cnt Cd, rfl, cCd_les Cd, cCd_tea Cd, cCd_bst Cd, cCd_fin Cd, cCd_lnd Cd⟩
  · rw [y, x, z 0 (by decide), z 1 (by decide), z 2 (by decide), z 18 (by decide), z 19 (by decide), z 21 (by decide), z 22 (by decide), z 23 (by decide), z 24 (by decide), z 25 (by decide), z 26 (by decide), u 3 (by decide), u 4 (by decide), u 5 (by decide), u 6 (by decide), u 8 (by decide), u 9 (by decide), u 10 (by decide), u 11 (by decide)]
    exact ⟨cCd_pts Cd, cCd_lks Cd, cCd_fts Cd, cCd_wor Cd, cCd_grp Cd, cCd_knd Cd, cCd_lfi Cd, cCd_lse Cd, cCd_lwo Cd, cCd_fof Cd, cCd_fea Cd, cCd_nds Cd, cCd_wth Cd, cCd_lim Cd, cCd_pan Cd, cCd_spa Cd, cCd_cnt Cd, cCd_sho Cd, rfl, cCd_tea Cd, cCd_bst Cd, cCd_fin Cd, cCd_lnd Cd⟩
  · rw [y, x, z 0 (by decide), z 1 (by decide), z 2 (by decide), z 18 (by decide), z 19 (by decide), z 20 (by decide), z 21 (by decide), z 22 (by decide), z 24 (by decide), z 25 (by decide), z 26 (by decide), u 3 (by decide), u 4 (by decide), u 5 (by decide), u 6 (by decide), u 7 (by decide), u 9 (by decide), u 10 (by decide), u 11 (by decide)]
    exact ⟨cCd_pts Cd, cCd_lks Cd, cCd_fts Cd, cCd_wor Cd, cCd_grp Cd, cCd_knd Cd, cCd_lfi Cd, cCd_lse Cd, cCd_lwo Cd, cCd_fof Cd, cCd_fea Cd, cCd_nds Cd, cCd_wth Cd, cCd_lim Cd, cCd_pan Cd, cCd_spa Cd, cCd_cnt Cd, cCd_sho Cd, cCd_les Cd, rfl, cCd_bst Cd, cCd_fin Cd, cCd_lnd Cd⟩
  · rw [y, x, z 0 (by decide), z 1 (by decide), z 2 (by decide), z 18 (by decide), z 19 (by decide), z 20 (by decide), z 21 (by decide), z 22 (by decide), z 23 (by decide), z 25 (by decide), z 26 (by decide), u 3 (by decide), u 4 (by decide), u 5 (by decide), u 6 (by decide), u 7 (by decide), u 8 (by decide), u 10 (by decide), u 11 (by decide)]
    exact ⟨cCd_pts Cd, cCd_lks Cd, cCd_fts Cd, cCd_wor Cd, cCd_grp Cd, cCd_knd Cd, cCd_lfi Cd, cCd_lse Cd, cCd_lwo Cd, cCd_fof Cd, cCd_fea Cd, cCd_nds Cd, cCd_wth Cd, cCd_lim Cd, cCd_pan Cd, cCd_spa Cd, cCd_cnt Cd, cCd_sho Cd, cCd_les Cd, cCd_tea Cd, rfl, cCd_fin Cd, cCd_lnd Cd⟩
  · rw [y, x, z 0 (by decide), z 1 (by decide), z 2 (by decide), z 18 (by decide), z 19 (by decide), z 20 (by decide), z 21 (by decide), z 22 (by decide), z 23 (by decide), z 24 (by decide), z 26 (by decide), u 3 (by decide), u 4 (by decide), u 5 (by decide), u 6 (by decide), u 7 (by decide), u 8 (by decide), u 9 (by decide), u 11 (by decide)]
    exact ⟨cCd_pts Cd, cCd_lks Cd, cCd_fts Cd, cCd_wor Cd, cCd_grp Cd, cCd_knd Cd, cCd_lfi Cd, cCd_lse Cd, cCd_lwo Cd, cCd_fof Cd, cCd_fea Cd, cCd_nds Cd, cCd_wth Cd, cCd_lim Cd, cCd_pan Cd, cCd_spa Cd, cCd_cnt Cd, cCd_sho Cd, cCd_les Cd, cCd_tea Cd, cCd_bst Cd, rfl, cCd_lnd Cd⟩
  · rw [y, x, z 0 (by decide), z 1 (by decide), z 2 (by decide), z 18 (by decide), z 19 (by decide), z 20 (by decide), z 21 (by decide), z 22 (by decide), z 23 (by decide), z 24 (by decide), z 25 (by decide), u 3 (by decide), u 4 (by decide), u 5 (by decide), u 6 (by decide), u 7 (by decide), u 8 (by decide), u 9 (by decide), u 10 (by decide)]
    exact ⟨cCd_pts Cd, cCd_lks Cd, cCd_fts Cd, cCd_wor Cd, cCd_grp Cd, cCd_knd Cd, cCd_lfi Cd, cCd_lse Cd, cCd_lwo Cd, cCd_fof Cd, cCd_fea Cd, cCd_nds Cd, cCd_wth Cd, cCd_lim Cd, cCd_pan Cd, cCd_spa Cd, cCd_cnt Cd, cCd_sho Cd, cCd_les Cd, cCd_tea Cd, cCd_bst Cd, cCd_fin Cd, rfl⟩
section P951
variable {c d cc dd n p : Nat} {t : Nat → Int32} {T s e k N : Nat} {m0 m1 mX mM mX' mM' : gd_M} {X M : Option (Value × gd_M)} {G : gd_M → gd_M → Prop}
theorem PR_S (P : PR c d cc dd n p t T m0 m1 mX mM) (o : oS mX mX') : PR c d cc dd n p t T m0 m1 mX' mM := by
  obtain ⟨PT, PI, PC, PN, PF, PL, PG, PH⟩ := P
  have hd := gK_d1 PT.1
  refine ⟨TR_S PT o, PI, cCd_f PC fun q hq => o.2.1 _ (by omega), fun i hi => ?_, fun i hi => ?_, ?_, PG, PH⟩
  · rw [o.2.2.1 13 (by decide)]; exact PN i hi
  · rw [o.2.2.1 14 (by decide)]; exact PF i hi
  · unfold LB; rw [o.2.1 10 (by decide)]; exact PL
theorem gCd_Z (hp : p = 700 ∨ p = 716) (o : oZ mM mM') : gCd p (gI mM') = gCd p (gI mM) := by
  funext q j
  unfold gCd
  rw [o.2.1 (p + q) (by omega)]
theorem PR_Z (P : PR c d cc dd n p t T m0 m1 mX mM) (o : oZ mM mM') : PR c d cc dd n p t T m0 m1 mX mM' := by
  obtain ⟨PT, PI, PC, PN, PF, PL, PG, PH⟩ := P
  have hp := gK_p1 PT.1
  refine ⟨TR_Z PT o, ?_, ?_, ?_, ?_, ?_, ?_, ?_⟩
  · rw [gCd_Z hp o]; exact PI
  · rw [gCd_Z hp o]; exact PC
  · rw [o.2.1 p (by omega), o.2.2.1 (p + 1) (by omega), o.2.2.1 (p + 2) (by omega)]; exact PN
  · rw [o.2.1 p (by omega), o.2.2.1 (p + 3) (by omega), o.2.2.1 (p + 4) (by omega)]; exact PF
  · unfold LB; rw [o.2.1 p (by omega)]; exact PL
  · rw [o.2.1 733 (by decide), o.2.1 (p + 13) (by omega)]; exact PG
  · rw [o.2.1 734 (by decide), o.2.1 (p + 15) (by omega)]; exact PH
theorem PR_num {k1 k2 lo hi : Nat} {v : Int32} (P : PR c d cc dd n p t T m0 m1 mX mM) (hk : nOk k1 k2 lo hi) (hv : isN v lo hi) : PR c d cc dd n p t T m0 m1 (wI mX (d + 12) k1 v) (wI mM p k2 v) := by
  obtain ⟨PT, PI, PC, PN, PF, PL, PG, PH⟩ := P
  have hp := gK_p1 PT.1
  have hd := gK_d1 PT.1
  have h2 : 18 ≤ k2 ∧ k2 ≤ 26 := by unfold nOk at hk; omega
  have a0 : ∀ j, gCd p (gI (wI mM p k2 v)) 0 j = if j = k2 then v else gCd p (gI mM) 0 j := fun j => by rw [gA0, gA0, gI_wI_m]
  have ao : ∀ q, 0 < q → gCd p (gI (wI mM p k2 v)) q = gCd p (gI mM) q := fun q hq => by
    funext j
    unfold gCd
    rw [gI_wI_a (by omega)]
  refine ⟨TR_wX (TR_wM PT (by omega)) (by omega), iCd_num PI hk hv a0 ao, cCd_num PC hk a0 ao (fun j => gI_wI_m) (fun q hq => gI_wI_f (by omega)), fun i hi => ?_, fun i hi => ?_, ?_, ?_, ?_⟩
  · rw [gI_wI_k (by omega)] at hi; exact PN i hi
  · rw [gI_wI_k (by omega)] at hi; exact PF i hi
  · unfold LB
    rw [gI_wI_a (show 10 ≠ d + 12 by omega), gI_wI_k (by omega), gI_wI_k (by omega), gI_wI_k (by omega), gI_wI_k (by omega), gI_wI_k (by omega)]; exact PL
  · rw [gI_wI_f (by omega), gI_wI_f (by omega)]; exact PG
  · rw [gI_wI_f (by omega), gI_wI_f (by omega)]; exact PH
theorem JJ_bo (h : JJ c d cc dd n p m0 m1 X M G) : JJ c d cc dd n p m0 m1 (X.bind (gd_kI fun z m => if gd_bo z = true then some (.int z, m) else none)) M G := by
  obtain ⟨z, x, y, o, rfl, rfl, h⟩ := h
  rcases h with ⟨rfl, rfl, h⟩ | ⟨rfl, rfl, h⟩
  · exact JJ_g h
  · exact JJ_f h
/-- the class at a line's end -/
noncomputable def xE (m : gd_M) : Option (Value × gd_M) := (gd_call 32 [.ref 11] m).bind (gd_kV fun m11 => if gd_ok (gN m11) 10 3 = true then ((gd_call 44 [.ref 10] m11).bind (gd_kI fun z16 m14 => if gd_bo z16 = true then some (.int z16, m14) else none)) else none)
theorem J_eol (hB : ∀ i, isB (t i)) (hT : T ≤ 3000) (P : PR c d cc dd n p t T m0 m1 mX mM) (Q : tP t T e k mX mM) {k0 : Nat} (hk0 : k0 ≤ k) : JJ c d cc dd n p m0 m1 (xE mX) (rE mM) (fun mX' mM' => PR c d cc dd n p t T m0 m1 mX' mM' ∧ ∃ e' k', tP t T e' k' mX' mM' ∧ k0 < k') := by
  obtain ⟨mX1, a1, o1, F1⟩ := fetch hB hT P.1 Q
  have P1 := PR_S P o1
  have Kx1 := P1.1.1
  unfold xE
  rw [a1]
  simp only [gK_N Kx1, gK_8_0 Kx1, gK_8_1 Kx1, gK_8_2 Kx1, gK_8_3 Kx1, gK_8_4 Kx1, gK_8_5 Kx1, gK_8_6 Kx1, gK_8_7 Kx1, gK_8_8 Kx1, gK_10_0 Kx1, gK_10_1 Kx1, gK_10_2 Kx1, gK_11_0 Kx1, gK_15_0 Kx1, gK_15_1 Kx1, gK_15_2 Kx1, gK_15_3 Kx1, gK_20_0 Kx1, gK_20_1 Kx1, gK_20_2 Kx1, gK_20_3 Kx1, gK_20_4 Kx1, gK_20_5 Kx1, gK_698_0 Kx1, gK_698_3 Kx1, gK_698_16 Kx1, gK_698_17 Kx1, gK_698_20 Kx1, gK_698_21 Kx1, gK_698_22 Kx1, gK_698_23 Kx1, gK_698_24 Kx1, gK_698_25 Kx1, gK_698_26 Kx1, gK_698_27 Kx1, gK_698_28 Kx1, gK_698_29 Kx1, gK_698_30 Kx1, gK_698_31 Kx1, gK_698_32 Kx1, gK_698_33 Kx1, gK_698_34 Kx1, gK_698_35 Kx1, gK_698_36 Kx1, gK_698_37 Kx1, gK_698_38 Kx1, gK_698_39 Kx1, gK_698_41 Kx1, gK_698_42 Kx1, gK_698_44 Kx1, gK_c Kx1, gK_d Kx1, gK_n Kx1, gK_p Kx1, gok_8, gok_10, gok_11, gok_15, gok_20, gok_698, gok_699, goA_9, goA_12, goA_13, goA_14, goA_16, goA_17, goA_18, goA_19, goA_21, goA_22, goA_23, goA_24, goA_25, goA_26, goA_27, goA_28, goA_29, goA_30, goA_31, goA_732, goA_733, goA_734, goA_735, goA_736, goA_737, goA_738, goA_739, goA_740, goA_741, goA_742, goA_743, goA_744, goA_745, goA_746, goA_747, goA_748, goA_749, goA_750, goA_751, goA_752, goA_753, goA_754, goA_755, goA_756, goA_757, gN_wI, gR_wI, gL_wI, if_true, eq_self, Option.bind_some, gd_kV_v]
  rcases J_end hB hT P1.1 F1 with ⟨b1, mM', b2, b3, b4⟩ | ⟨mX', mM', b1, b2, b3⟩
  · rw [b1, b2]
    exact JJ_g ⟨PR_Z P1 b3, _, _, b4, by omega⟩
  · rw [b1, b2]
    exact JJ_f b3
/-- a number that is kept at once -/
theorem J_nf (hB : ∀ i, isB (t i)) (hT : T ≤ 3000) (P : PR c d cc dd n p t T m0 m1 mX mM) (Q : tP t T e k mX mM) {k1 k2 lo hi : Nat} (hk : nOk k1 k2 lo hi) : (∃ mX' v mM' e', gd_call 56 [.ref 10, .int (Int32.ofNat k1), .int (Int32.ofNat lo), .int (Int32.ofNat hi)] mX = some (.int 1, mX') ∧ gd_call 72 [.ref 698, .int (Int32.ofNat lo), .int (Int32.ofNat hi)] mM = some (.int v, mM') ∧ isN v lo hi ∧ PR c d cc dd n p t T m0 m1 mX' (wI mM' p k2 v) ∧ gK cc dd n p mM' ∧ tP t T e' (k + 1) mX' (wI mM' p k2 v)) ∨ (∃ mX' mM', gd_call 56 [.ref 10, .int (Int32.ofNat k1), .int (Int32.ofNat lo), .int (Int32.ofNat hi)] mX = some (.int 0, mX') ∧ gd_call 72 [.ref 698, .int (Int32.ofNat lo), .int (Int32.ofNat hi)] mM = some (.retAddr 0, mM') ∧ FO c d cc dd n p m0 m1 mX' mM') := by
  have hk1 : 3 ≤ k1 ∧ k1 ≤ 11 := by unfold nOk at hk; omega
  have hlh : lo ≤ 1 ∧ hi ≤ 99 := by unfold nOk at hk; omega
  obtain ⟨mX1, a1, a2, a3⟩ := fetch hB hT P.1 Q
  have P1 := PR_S P a2
  have R1 := P1.1
  have Kx := R1.1
  have Km := R1.2.1
  have hp := gK_p1 Kx
  have hd := gK_d1 Kx
  have tl := R1.2.2.2.2.1
  obtain ⟨q1, q2, q3, q4⟩ := id a3
  have z3 := (xzTy _ (kTy_6 (t := t) (T := T) (s := kSt t T e))).2.1
  have i1 : gd_in (Int32.ofNat k1) 12 = true := gn_in (by omega) (by omega)
  have n1 : (Int32.ofNat k1).toNatClampNeg = k1 := gn_nat (by omega)
  rw [q_Re_numberFor, q_Mo_number]
  simp only [gK_N P.1.1, gK_8_0 P.1.1, gK_8_1 P.1.1, gK_8_2 P.1.1, gK_8_3 P.1.1, gK_8_4 P.1.1, gK_8_5 P.1.1, gK_8_6 P.1.1, gK_8_7 P.1.1, gK_8_8 P.1.1, gK_10_0 P.1.1, gK_10_1 P.1.1, gK_10_2 P.1.1, gK_11_0 P.1.1, gK_15_0 P.1.1, gK_15_1 P.1.1, gK_15_2 P.1.1, gK_15_3 P.1.1, gK_20_0 P.1.1, gK_20_1 P.1.1, gK_20_2 P.1.1, gK_20_3 P.1.1, gK_20_4 P.1.1, gK_20_5 P.1.1, gK_698_0 P.1.1, gK_698_3 P.1.1, gK_698_16 P.1.1, gK_698_17 P.1.1, gK_698_20 P.1.1, gK_698_21 P.1.1, gK_698_22 P.1.1, gK_698_23 P.1.1, gK_698_24 P.1.1, gK_698_25 P.1.1, gK_698_26 P.1.1, gK_698_27 P.1.1, gK_698_28 P.1.1, gK_698_29 P.1.1, gK_698_30 P.1.1, gK_698_31 P.1.1, gK_698_32 P.1.1, gK_698_33 P.1.1, gK_698_34 P.1.1, gK_698_35 P.1.1, gK_698_36 P.1.1, gK_698_37 P.1.1, gK_698_38 P.1.1, gK_698_39 P.1.1, gK_698_41 P.1.1, gK_698_42 P.1.1, gK_698_44 P.1.1, gK_c P.1.1, gK_d P.1.1, gK_n P.1.1, gK_p P.1.1, gok_8, gok_10, gok_11, gok_15, gok_20, gok_698, gok_699, goA_9, goA_12, goA_13, goA_14, goA_16, goA_17, goA_18, goA_19, goA_21, goA_22, goA_23, goA_24, goA_25, goA_26, goA_27, goA_28, goA_29, goA_30, goA_31, goA_732, goA_733, goA_734, goA_735, goA_736, goA_737, goA_738, goA_739, goA_740, goA_741, goA_742, goA_743, goA_744, goA_745, goA_746, goA_747, goA_748, goA_749, goA_750, goA_751, goA_752, goA_753, goA_754, goA_755, goA_756, goA_757, gN_wI, gR_wI, gL_wI, if_true, eq_self]
  rw [a1]
  simp only [gK_N Kx, gK_8_0 Kx, gK_8_1 Kx, gK_8_2 Kx, gK_8_3 Kx, gK_8_4 Kx, gK_8_5 Kx, gK_8_6 Kx, gK_8_7 Kx, gK_8_8 Kx, gK_10_0 Kx, gK_10_1 Kx, gK_10_2 Kx, gK_11_0 Kx, gK_15_0 Kx, gK_15_1 Kx, gK_15_2 Kx, gK_15_3 Kx, gK_20_0 Kx, gK_20_1 Kx, gK_20_2 Kx, gK_20_3 Kx, gK_20_4 Kx, gK_20_5 Kx, gK_698_0 Kx, gK_698_3 Kx, gK_698_16 Kx, gK_698_17 Kx, gK_698_20 Kx, gK_698_21 Kx, gK_698_22 Kx, gK_698_23 Kx, gK_698_24 Kx, gK_698_25 Kx, gK_698_26 Kx, gK_698_27 Kx, gK_698_28 Kx, gK_698_29 Kx, gK_698_30 Kx, gK_698_31 Kx, gK_698_32 Kx, gK_698_33 Kx, gK_698_34 Kx, gK_698_35 Kx, gK_698_36 Kx, gK_698_37 Kx, gK_698_38 Kx, gK_698_39 Kx, gK_698_41 Kx, gK_698_42 Kx, gK_698_44 Kx, gK_c Kx, gK_d Kx, gK_n Kx, gK_p Kx, gok_8, gok_10, gok_11, gok_15, gok_20, gok_698, gok_699, goA_9, goA_12, goA_13, goA_14, goA_16, goA_17, goA_18, goA_19, goA_21, goA_22, goA_23, goA_24, goA_25, goA_26, goA_27, goA_28, goA_29, goA_30, goA_31, goA_732, goA_733, goA_734, goA_735, goA_736, goA_737, goA_738, goA_739, goA_740, goA_741, goA_742, goA_743, goA_744, goA_745, goA_746, goA_747, goA_748, goA_749, goA_750, goA_751, goA_752, goA_753, goA_754, goA_755, goA_756, goA_757, gN_wI, gR_wI, gL_wI, if_true, eq_self, Option.bind_some, gd_kV_v]
  rw [c_fNum Kx q3]
  simp only [gK_N Kx, gK_8_0 Kx, gK_8_1 Kx, gK_8_2 Kx, gK_8_3 Kx, gK_8_4 Kx, gK_8_5 Kx, gK_8_6 Kx, gK_8_7 Kx, gK_8_8 Kx, gK_10_0 Kx, gK_10_1 Kx, gK_10_2 Kx, gK_11_0 Kx, gK_15_0 Kx, gK_15_1 Kx, gK_15_2 Kx, gK_15_3 Kx, gK_20_0 Kx, gK_20_1 Kx, gK_20_2 Kx, gK_20_3 Kx, gK_20_4 Kx, gK_20_5 Kx, gK_698_0 Kx, gK_698_3 Kx, gK_698_16 Kx, gK_698_17 Kx, gK_698_20 Kx, gK_698_21 Kx, gK_698_22 Kx, gK_698_23 Kx, gK_698_24 Kx, gK_698_25 Kx, gK_698_26 Kx, gK_698_27 Kx, gK_698_28 Kx, gK_698_29 Kx, gK_698_30 Kx, gK_698_31 Kx, gK_698_32 Kx, gK_698_33 Kx, gK_698_34 Kx, gK_698_35 Kx, gK_698_36 Kx, gK_698_37 Kx, gK_698_38 Kx, gK_698_39 Kx, gK_698_41 Kx, gK_698_42 Kx, gK_698_44 Kx, gK_c Kx, gK_d Kx, gK_n Kx, gK_p Kx, gok_8, gok_10, gok_11, gok_15, gok_20, gok_698, gok_699, goA_9, goA_12, goA_13, goA_14, goA_16, goA_17, goA_18, goA_19, goA_21, goA_22, goA_23, goA_24, goA_25, goA_26, goA_27, goA_28, goA_29, goA_30, goA_31, goA_732, goA_733, goA_734, goA_735, goA_736, goA_737, goA_738, goA_739, goA_740, goA_741, goA_742, goA_743, goA_744, goA_745, goA_746, goA_747, goA_748, goA_749, goA_750, goA_751, goA_752, goA_753, goA_754, goA_755, goA_756, goA_757, gN_wI, gR_wI, gL_wI, if_true, eq_self, gok_c Kx, gok_d Kx, gok_n Kx, gok_p Kx, gK_c_0 Kx, gK_c_1 Kx, gK_c_2 Kx, gK_c_3 Kx, gK_c_4 Kx, gK_c_5 Kx, gK_c_6 Kx, gK_c_7 Kx, gK_c_8 Kx, gK_c_9 Kx, gK_c_10 Kx, gK_c_11 Kx, gK_n_3 Kx, gK_n_4 Kx, gK_n_5 Kx, gK_n_6 Kx, gK_n_7 Kx, gK_n_8 Kx, gK_n_9 Kx, gK_n_10 Kx, gK_n_11 Kx, gK_n_12 Kx, gK_n_13 Kx, gK_n_14 Kx, gK_n_15 Kx, gK_n_16 Kx, gK_n_17 Kx, goA_c1 Kx, goA_c2 Kx, goA_c3 Kx, goA_c4 Kx, goA_c5 Kx, goA_c6 Kx, goA_c7 Kx, goA_c8 Kx, goA_c9 Kx, goA_c10 Kx, goA_c11 Kx, goA_c12 Kx, goA_n1 Kx, goA_n2 Kx, goA_n3 Kx, goA_n4 Kx, goA_n5 Kx, goA_n6 Kx, goA_n7 Kx, goA_n8 Kx, goA_n9 Kx, goA_n10 Kx, goA_n11 Kx, goA_n12 Kx, goA_n13 Kx, goA_n14 Kx, goA_n15 Kx, gK_d_0 Kx, gK_d_1 Kx, gK_d_2 Kx, gK_d_3 Kx, gK_d_4 Kx, gK_d_5 Kx, gK_d_6 Kx, gK_d_7 Kx, gK_d_8 Kx, gK_d_9 Kx, gK_d_10 Kx, gK_d_11 Kx, gK_p_3 Kx, gK_p_4 Kx, gK_p_5 Kx, gK_p_6 Kx, gK_p_7 Kx, gK_p_8 Kx, gK_p_9 Kx, gK_p_10 Kx, gK_p_11 Kx, gK_p_12 Kx, gK_p_13 Kx, gK_p_14 Kx, gK_p_15 Kx, gK_p_16 Kx, gK_p_17 Kx, goA_d1 Kx, goA_d2 Kx, goA_d3 Kx, goA_d4 Kx, goA_d5 Kx, goA_d6 Kx, goA_d7 Kx, goA_d8 Kx, goA_d9 Kx, goA_d10 Kx, goA_d11 Kx, goA_d12 Kx, goA_p1 Kx, goA_p2 Kx, goA_p3 Kx, goA_p4 Kx, goA_p5 Kx, goA_p6 Kx, goA_p7 Kx, goA_p8 Kx, goA_p9 Kx, goA_p10 Kx, goA_p11 Kx, goA_p12 Kx, goA_p13 Kx, goA_p14 Kx, goA_p15 Kx, tl, i1, n1, Option.bind_some, gd_kI_i]
  simp only [gK_N Km, gK_8_0 Km, gK_8_1 Km, gK_8_2 Km, gK_8_3 Km, gK_8_4 Km, gK_8_5 Km, gK_8_6 Km, gK_8_7 Km, gK_8_8 Km, gK_10_0 Km, gK_10_1 Km, gK_10_2 Km, gK_11_0 Km, gK_15_0 Km, gK_15_1 Km, gK_15_2 Km, gK_15_3 Km, gK_20_0 Km, gK_20_1 Km, gK_20_2 Km, gK_20_3 Km, gK_20_4 Km, gK_20_5 Km, gK_698_0 Km, gK_698_3 Km, gK_698_16 Km, gK_698_17 Km, gK_698_20 Km, gK_698_21 Km, gK_698_22 Km, gK_698_23 Km, gK_698_24 Km, gK_698_25 Km, gK_698_26 Km, gK_698_27 Km, gK_698_28 Km, gK_698_29 Km, gK_698_30 Km, gK_698_31 Km, gK_698_32 Km, gK_698_33 Km, gK_698_34 Km, gK_698_35 Km, gK_698_36 Km, gK_698_37 Km, gK_698_38 Km, gK_698_39 Km, gK_698_41 Km, gK_698_42 Km, gK_698_44 Km, gK_c Km, gK_d Km, gK_n Km, gK_p Km, gok_8, gok_10, gok_11, gok_15, gok_20, gok_698, gok_699, goA_9, goA_12, goA_13, goA_14, goA_16, goA_17, goA_18, goA_19, goA_21, goA_22, goA_23, goA_24, goA_25, goA_26, goA_27, goA_28, goA_29, goA_30, goA_31, goA_732, goA_733, goA_734, goA_735, goA_736, goA_737, goA_738, goA_739, goA_740, goA_741, goA_742, goA_743, goA_744, goA_745, goA_746, goA_747, goA_748, goA_749, goA_750, goA_751, goA_752, goA_753, goA_754, goA_755, goA_756, goA_757, gN_wI, gR_wI, gL_wI, if_true, eq_self]
  rw [q4.2.2.2.1]
  by_cases h : kTy t T (kSt t T e) = 3
  · have hne : ¬ T ≤ kSt t T e := fun u => by rw [kTy_0.2 u] at h; omega
    rw [if_pos h, if_pos (z3.2 h), c_nd1]
    simp only [gK_N Km, gK_8_0 Km, gK_8_1 Km, gK_8_2 Km, gK_8_3 Km, gK_8_4 Km, gK_8_5 Km, gK_8_6 Km, gK_8_7 Km, gK_8_8 Km, gK_10_0 Km, gK_10_1 Km, gK_10_2 Km, gK_11_0 Km, gK_15_0 Km, gK_15_1 Km, gK_15_2 Km, gK_15_3 Km, gK_20_0 Km, gK_20_1 Km, gK_20_2 Km, gK_20_3 Km, gK_20_4 Km, gK_20_5 Km, gK_698_0 Km, gK_698_3 Km, gK_698_16 Km, gK_698_17 Km, gK_698_20 Km, gK_698_21 Km, gK_698_22 Km, gK_698_23 Km, gK_698_24 Km, gK_698_25 Km, gK_698_26 Km, gK_698_27 Km, gK_698_28 Km, gK_698_29 Km, gK_698_30 Km, gK_698_31 Km, gK_698_32 Km, gK_698_33 Km, gK_698_34 Km, gK_698_35 Km, gK_698_36 Km, gK_698_37 Km, gK_698_38 Km, gK_698_39 Km, gK_698_41 Km, gK_698_42 Km, gK_698_44 Km, gK_c Km, gK_d Km, gK_n Km, gK_p Km, gok_8, gok_10, gok_11, gok_15, gok_20, gok_698, gok_699, goA_9, goA_12, goA_13, goA_14, goA_16, goA_17, goA_18, goA_19, goA_21, goA_22, goA_23, goA_24, goA_25, goA_26, goA_27, goA_28, goA_29, goA_30, goA_31, goA_732, goA_733, goA_734, goA_735, goA_736, goA_737, goA_738, goA_739, goA_740, goA_741, goA_742, goA_743, goA_744, goA_745, goA_746, goA_747, goA_748, goA_749, goA_750, goA_751, goA_752, goA_753, goA_754, goA_755, goA_756, goA_757, gN_wI, gR_wI, gL_wI, if_true, eq_self, Option.bind_some, gd_kV_v]
    rw [q4.2.2.2.2.2.1 h, c_inG]
    simp only [gK_N Km, gK_8_0 Km, gK_8_1 Km, gK_8_2 Km, gK_8_3 Km, gK_8_4 Km, gK_8_5 Km, gK_8_6 Km, gK_8_7 Km, gK_8_8 Km, gK_10_0 Km, gK_10_1 Km, gK_10_2 Km, gK_11_0 Km, gK_15_0 Km, gK_15_1 Km, gK_15_2 Km, gK_15_3 Km, gK_20_0 Km, gK_20_1 Km, gK_20_2 Km, gK_20_3 Km, gK_20_4 Km, gK_20_5 Km, gK_698_0 Km, gK_698_3 Km, gK_698_16 Km, gK_698_17 Km, gK_698_20 Km, gK_698_21 Km, gK_698_22 Km, gK_698_23 Km, gK_698_24 Km, gK_698_25 Km, gK_698_26 Km, gK_698_27 Km, gK_698_28 Km, gK_698_29 Km, gK_698_30 Km, gK_698_31 Km, gK_698_32 Km, gK_698_33 Km, gK_698_34 Km, gK_698_35 Km, gK_698_36 Km, gK_698_37 Km, gK_698_38 Km, gK_698_39 Km, gK_698_41 Km, gK_698_42 Km, gK_698_44 Km, gK_c Km, gK_d Km, gK_n Km, gK_p Km, gok_8, gok_10, gok_11, gok_15, gok_20, gok_698, gok_699, goA_9, goA_12, goA_13, goA_14, goA_16, goA_17, goA_18, goA_19, goA_21, goA_22, goA_23, goA_24, goA_25, goA_26, goA_27, goA_28, goA_29, goA_30, goA_31, goA_732, goA_733, goA_734, goA_735, goA_736, goA_737, goA_738, goA_739, goA_740, goA_741, goA_742, goA_743, goA_744, goA_745, goA_746, goA_747, goA_748, goA_749, goA_750, goA_751, goA_752, goA_753, goA_754, goA_755, goA_756, goA_757, gN_wI, gR_wI, gL_wI, if_true, eq_self, Option.bind_some, gd_k0I_i]
    by_cases g : kVa t T (kSt t T e) < Int32.ofNat lo ∨ Int32.ofNat hi < kVa t T (kSt t T e)
    · have b1 : (if kVa t T (kSt t T e) < Int32.ofNat lo then (3 : Int32) else if Int32.ofNat hi < kVa t T (kSt t T e) then 3 else 0) = 3 := by
        by_cases g1 : kVa t T (kSt t T e) < Int32.ofNat lo
        · rw [if_pos g1]
        · rw [if_neg g1, if_pos (g.resolve_left g1)]
      have b2 : (if kVa t T (kSt t T e) < Int32.ofNat lo then (0 : Int32) else if Int32.ofNat hi < kVa t T (kSt t T e) then 0 else 1) = 0 := by
        by_cases g1 : kVa t T (kSt t T e) < Int32.ofNat lo
        · rw [if_pos g1]
        · rw [if_neg g1, if_pos (g.resolve_left g1)]
      rw [b1, b2, if_neg (show ¬ (3 : Int32) = 0 by decide), c_st_f Kx (.inr (.inr (.inl rfl))), c_nd0 Km]
      exact .inr ⟨_, _, rfl, rfl, FO_mk R1 a3 3⟩
    · have g1 : ¬ kVa t T (kSt t T e) < Int32.ofNat lo := fun u => g (.inl u)
      have g2 : ¬ Int32.ofNat hi < kVa t T (kSt t T e) := fun u => g (.inr u)
      rw [if_neg g1, if_neg g2, if_neg g1, if_neg g2, c_nd1, if_pos rfl, q3.2.2.2.2.2.1 h]
      simp only [gK_N Km, gK_8_0 Km, gK_8_1 Km, gK_8_2 Km, gK_8_3 Km, gK_8_4 Km, gK_8_5 Km, gK_8_6 Km, gK_8_7 Km, gK_8_8 Km, gK_10_0 Km, gK_10_1 Km, gK_10_2 Km, gK_11_0 Km, gK_15_0 Km, gK_15_1 Km, gK_15_2 Km, gK_15_3 Km, gK_20_0 Km, gK_20_1 Km, gK_20_2 Km, gK_20_3 Km, gK_20_4 Km, gK_20_5 Km, gK_698_0 Km, gK_698_3 Km, gK_698_16 Km, gK_698_17 Km, gK_698_20 Km, gK_698_21 Km, gK_698_22 Km, gK_698_23 Km, gK_698_24 Km, gK_698_25 Km, gK_698_26 Km, gK_698_27 Km, gK_698_28 Km, gK_698_29 Km, gK_698_30 Km, gK_698_31 Km, gK_698_32 Km, gK_698_33 Km, gK_698_34 Km, gK_698_35 Km, gK_698_36 Km, gK_698_37 Km, gK_698_38 Km, gK_698_39 Km, gK_698_41 Km, gK_698_42 Km, gK_698_44 Km, gK_c Km, gK_d Km, gK_n Km, gK_p Km, gok_8, gok_10, gok_11, gok_15, gok_20, gok_698, gok_699, goA_9, goA_12, goA_13, goA_14, goA_16, goA_17, goA_18, goA_19, goA_21, goA_22, goA_23, goA_24, goA_25, goA_26, goA_27, goA_28, goA_29, goA_30, goA_31, goA_732, goA_733, goA_734, goA_735, goA_736, goA_737, goA_738, goA_739, goA_740, goA_741, goA_742, goA_743, goA_744, goA_745, goA_746, goA_747, goA_748, goA_749, goA_750, goA_751, goA_752, goA_753, goA_754, goA_755, goA_756, goA_757, gN_wI, gR_wI, gL_wI, if_true, eq_self, Option.bind_some, gd_kV_v]
      have R2 : TR c d cc dd n p t T m0 m1 (wI mX1 (d + 12) k1 (kVa t T (kSt t T e))) mM := TR_wX R1 (by omega)
      have F2 : tF t T (kSt t T e) k (wI mX1 (d + 12) k1 (kVa t T (kSt t T e))) mM := tF_wX a3 (by omega)
      rcases pass hB hT R2 F2 hne with ⟨hk7, s1, mM', s2, s3, s4⟩ | ⟨hk7, s1, s2, s3⟩
      · have hv : isN (kVa t T (kSt t T e)) lo hi := isN_of g1 g2 (by omega) (by omega)
        rw [s1, s2, q4.2.2.2.2.2.1 h]
        exact .inl ⟨_, _, mM', _, rfl, rfl, hv, PR_num (PR_Z P1 s3) hk hv, gK_oZ Km s3, tP_wM s4 (by omega)⟩
      · rw [s1, s2]
        exact .inr ⟨_, _, rfl, rfl, s3⟩
  · rw [if_neg h, if_neg (fun u => h (z3.1 u)), if_neg (show ¬ (1 : Int32) = 0 by decide), c_st_f Kx (.inl rfl), c_nd0 Km]
    exact .inr ⟨_, _, rfl, rfl, FO_mk R1 a3 1⟩
/-- a number that is kept later -/
theorem J_nm (hB : ∀ i, isB (t i)) (hT : T ≤ 3000) (P : PR c d cc dd n p t T m0 m1 mX mM) (Q : tP t T e k mX mM) {lo hi : Nat} (hlo : lo < 1000) (hhi : hi < 1000) : (∃ mX' v mM' e', gd_call 40 [.ref 10, .int (Int32.ofNat lo), .int (Int32.ofNat hi)] mX = some (.int 1, mX') ∧ gd_call 72 [.ref 698, .int (Int32.ofNat lo), .int (Int32.ofNat hi)] mM = some (.int v, mM') ∧ isN v lo hi ∧ gI mX' 11 7 = v ∧ oS mX mX' ∧ oZ mM mM' ∧ PR c d cc dd n p t T m0 m1 mX' mM' ∧ tP t T e' (k + 1) mX' mM') ∨ (∃ mX' mM', gd_call 40 [.ref 10, .int (Int32.ofNat lo), .int (Int32.ofNat hi)] mX = some (.int 0, mX') ∧ gd_call 72 [.ref 698, .int (Int32.ofNat lo), .int (Int32.ofNat hi)] mM = some (.retAddr 0, mM') ∧ FO c d cc dd n p m0 m1 mX' mM') := by
  obtain ⟨z, mX', b1, hz⟩ := J_num hB hT P.1 Q (Int32.ofNat lo) (Int32.ofNat hi)
  rcases hz with ⟨rfl, o4, v, mM', b2, oz, lo1, hi1, hv, P4⟩ | ⟨rfl, mM', b2, b3⟩
  · exact .inl ⟨mX', v, mM', _, b1, b2, isN_of lo1 hi1 (by omega) (by omega), hv, o4, oz, PR_Z (PR_S P o4) oz, P4⟩
  · exact .inr ⟨mX', mM', b1, b2, b3⟩
theorem J_wd (hB : ∀ i, isB (t i)) (hT : T ≤ 3000) (P : PR c d cc dd n p t T m0 m1 mX mM) (Q : tP t T e k mX mM) {w : Nat} (hw : w < 19) : (∃ mX' mM' e', gd_call 41 [.ref 10, .int (Int32.ofNat w)] mX = some (.int 1, mX') ∧ gd_call 74 [.ref 698, .int (Int32.ofNat w)] mM = some (.null, mM') ∧ oS mX mX' ∧ oZ mM mM' ∧ PR c d cc dd n p t T m0 m1 mX' mM' ∧ tP t T e' (k + 1) mX' mM') ∨ (∃ mX' mM', gd_call 41 [.ref 10, .int (Int32.ofNat w)] mX = some (.int 0, mX') ∧ gd_call 74 [.ref 698, .int (Int32.ofNat w)] mM = some (.retAddr 0, mM') ∧ FO c d cc dd n p m0 m1 mX' mM') := by
  obtain ⟨z, mX', b1, hz⟩ := J_word hB hT P.1 Q hw
  rcases hz with ⟨rfl, o4, mM', b2, oz, P4⟩ | ⟨rfl, mM', b2, b3⟩
  · exact .inl ⟨mX', mM', _, b1, b2, o4, oz, PR_Z (PR_S P o4) oz, P4⟩
  · exact .inr ⟨mX', mM', b1, b2, b3⟩
end P951
