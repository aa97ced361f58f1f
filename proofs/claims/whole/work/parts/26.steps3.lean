theorem gd_cat {Z : gd_Zt} {U : State} (hE : gd_EK Z U) (v : Value) : (gd_cv Z v).category = v.category := by
  cases v with
  | ref i => rcases gd_adr_nr hE i with h | ⟨t, h⟩ <;> (show (gd_adr Z i).category = 1; rw [h]; rfl)
  | _ => rfl
theorem gd_pcs_cv {Z : gd_Zt} {U : State} (hE : gd_EK Z U) (st : List Value) : ((st.map (gd_cv Z)).map fun v => v.category).sum = gd_pcs st := by
  unfold gd_pcs
  rw [List.map_map]
  congr 1
  apply List.map_congr_left
  intro v _
  exact gd_cat hE v
theorem gd_HR_al {Z : gd_Zt} {m : gd_M} {N : Nat} {H H1 : Heap} (h : gd_HR Z m H) (hz : H1.size = H.size + 1) (ho : ∀ q, q < H.size → H1[q]? = H[q]?) (hat : va_at (gz_D Z) gd_cl (gz_bs Z + (gN m - 8), gd_en Z m (gN m)) H1) : gd_HR Z (gd_al m N) H1 := by
  have hn : gN (gd_al m N) = gN m + 1 := rfl
  refine ⟨by rw [hn]; have := h.1; omega, by rw [hz, hn]; have := h.2.1; omega, fun n h1 => ?_, fun id hid j => ?_, h.2.2.2.2.1, h.2.2.2.2.2⟩
  · rw [hn] at h1
    show va_at (gz_D Z) gd_cl (gz_bs Z + n, gd_en Z m (n + 8)) H1
    by_cases hnx : n + 8 = gN m
    · rw [← hnx] at hat
      rwa [show n + 8 - 8 = n by omega] at hat
    · refine (h.2.2.1 n (by omega)).kept (ho _ ?_)
      have := h.2.1
      show gz_bs Z + n < H.size
      omega
  · rw [hn] at hid
    exact h.2.2.2.1 id (by omega) j
theorem gd_S_al {Z : gd_Zt} {H0 H H1 : Heap} {locs : List Loc} (hS : va_S (gz_A Z) H0 H locs) (hz : H1.size = H.size + 1) (ho : ∀ q, q < H.size → H1[q]? = H[q]?) : va_S (gz_A Z) H0 H1 locs :=
  ⟨Nat.le_trans hS.1 (by omega), fun q h1 h2 => (ho q (Nat.lt_of_lt_of_le h1 hS.1)).trans (hS.2.1 q h1 h2), hS.2.2⟩
theorem gd_KD_77 (x : Nat) : gd_KD x ≠ 77 := by
  intro h
  unfold gd_KD at h
  have hn : ∀ (l : List Nat) (n : Nat), (∀ y ∈ l, y ≠ 77) → gd_nth l n 99 ≠ 77 := by
    intro l n hl
    rcases gd_nth_mem l n 99 with q | q
    · exact hl _ q
    · rw [q]; decide
  cases h1 : Nat.blt x 58 with
  | true => rw [h1] at h; exact hn gd_K0 x (by decide +kernel) h
  | false =>
    rw [h1] at h
    have h : (bif Nat.blt x 698 then (bif Nat.beq (x % 4) 2 then 4 else 10) else gd_nth gd_K1 (x - 698) 99) = 77 := h
    cases h2 : Nat.blt x 698 with
    | true =>
      rw [h2] at h
      have h : (bif Nat.beq (x % 4) 2 then 4 else 10) = 77 := h
      cases h3 : Nat.beq (x % 4) 2 with
      | true => rw [h3] at h; cases h
      | false => rw [h3] at h; cases h
    | false => rw [h2, cond_false] at h; exact hn gd_K1 (x - 698) (by decide +kernel) h
theorem gd_dv : ∀ a, a < 10 → ∀ k, k < gd_NN a → (gd_tc (gd_ty a k) = 3 ∧ defaultValue (gd_ty a k) = .long 0) ∨ (gd_tc (gd_ty a k) = 4 ∧ defaultValue (gd_ty a k) = .null) ∨ (gd_tc (gd_ty a k) ≠ 3 ∧ gd_tc (gd_ty a k) ≠ 4 ∧ defaultValue (gd_ty a k) = .int 0) := by decide +kernel
theorem gd_sw_spec {α : Type} (f : Int → α) (x : Int32) : ∀ (os : List Int) (lo d : Int), (∃ (k : Nat) (o : Int), os[k]? = some o ∧ x = Int32.ofInt (lo + k) ∧ gd_sw f lo os d x = f o) ∨ ((∀ k : Nat, k < os.length → x ≠ Int32.ofInt (lo + k)) ∧ gd_sw f lo os d x = f d)
  | [], lo, d => Or.inr ⟨fun k hk => absurd hk (Nat.not_lt_zero k), rfl⟩
  | o :: os, lo, d => by
    by_cases hx : x = Int32.ofInt lo
    · refine Or.inl ⟨0, o, rfl, by rw [Int.natCast_zero, Int.add_zero]; exact hx, ?_⟩
      unfold gd_sw
      rw [if_pos hx]
    · have hs : gd_sw f lo (o :: os) d x = gd_sw f (lo + 1) os d x := by
        rw [gd_sw, if_neg hx]
      rcases gd_sw_spec f x os (lo + 1) d with ⟨k, o2, h1, h2, h3⟩ | ⟨h1, h2⟩
      · refine Or.inl ⟨k + 1, o2, h1, ?_, hs.trans h3⟩
        rw [h2]
        congr 1
        rw [Int.natCast_add, Int.natCast_one]; omega
      · refine Or.inr ⟨fun k hk => ?_, hs.trans h2⟩
        cases k with
        | zero => rw [Int.natCast_zero, Int.add_zero]; exact hx
        | succ k =>
          have h3 := h1 k (Nat.lt_of_succ_lt_succ hk)
          intro q
          apply h3
          rw [q]
          congr 1
          rw [Int.natCast_add, Int.natCast_one]; omega
theorem gd_ofInt_toInt {i : Int} (h1 : -2000 < i) (h2 : i < 2000) : (Int32.ofInt i).toInt = i := Int32.toInt_ofInt_of_le (by omega) (by omega)
section GDU
variable {p : Program} {l : Launch} {e : Env} {R : Room} {s : State} {mI : MethodId} {args : Array Value} {below : List Frame} {meth : Method} {c : Code} {H : Heap} {locs : List Loc} {cells slots : Nat} {Q : State → Prop}
variable {Z : gd_Zt} {M : Nat} {loc st : List Value} {m : gd_M} {ls : Array Slot} {pc len w a b cc : Nat} {z : Int} {d : gd_F}
theorem gd_s_iastore  (F : gd_FF Z M p R s mI args meth c) (hH : gd_HR Z m H) (hL : gd_LR Z M loc ls) (hS : va_S (gz_A Z) s.heap H locs) (ho : gd_okE (gd_rc M) (pc, .iastore, len, w, a, b, cc, z) = true) (hs : gd_step M (pc, .iastore, len, w, a, b, cc, z) loc st m = gd_go d) (kk : gd_KK p l e R s mI args below meth c cells slots Q Z M m d) : d.1 = M ∧ W p l e R s mI args below meth c H locs cells slots Q (F0 mI pc ls (st.map (gd_cv Z))) := by
  obtain ⟨hx, hb, hml, hr, hown, hts, hlk, hnm, hE, hfr, hlo, htb1⟩ := F
  unfold gd_step at hs
  dsimp only at hs
  have ho : (decide (decode (gr_b (gd_rc M)) pc = .ok (.iastore, len)) && Nat.beq len 1) = true := ho
  obtain ⟨hd, rfl⟩ := gd_and2 ho
  split at hs
  · next v i x r =>
    cases hok : gd_okA (gN m) x 10 i with
    | false => rw [hok] at hs; cases hs
    | true =>
      rw [hok] at hs
      obtain rfl := gd_go_inj hs
      refine ⟨rfl, ?_⟩
      have hok2 := gd_okA_of hok
      have h8 : 8 ≤ x := gd_KD_8 hok2.1 (by decide)
      have hcell := hH.at h8 hok2.2.1
      have hen : gd_en Z (m) x = .inl (gz_cA Z 10, (gd_LN x, .inl (gI (m) x))) := by
        unfold gd_en
        rw [hok2.1]
        rfl
      have hen2 : gd_en Z (wI m x i.toNatClampNeg v) x = .inl (gz_cA Z 10, (gd_LN x, .inl (gI (wI m x i.toNatClampNeg v) x))) := by
        unfold gd_en
        rw [hok2.1]
        rfl
      rw [hen] at hcell
      have hty := (hE.1.2.1 10 (by decide) (by decide)).1
      rw [List.map_cons, List.map_cons, List.map_cons, show gd_cv Z (.ref x) = gd_adr Z x from rfl, gd_adr_8 h8]
      refine W.iast hx hb hcell (hty (gd_LN x) (fun j => .int (gI m x j))) (fun q => by cases q) (by show ¬ (i < 0 ∨ (arrV _ _ _).slots.size ≤ _); rw [arrV_size]; exact hok2.2.2) rfl rfl hd fun H1 e1 z1 o1 => ?_
      refine gd_wz (kk H1 _ _ (gd_HR_upd hH h8 hok2.2.1 rfl rfl (gd_sameI m x _ v) z1 o1 ?_) hL (hS.put z1 o1 (Nat.le_add_right _ _)))
      rw [hen2]
      show H1[_]? = some (vp_cell _ _)
      rw [e1]
      rw [vp_cell_i, vp_cell_i, arrV_store]
      congr 2
      funext q
      show updV (fun j => Value.int (gI m x j)) i.toNatClampNeg _ q = .int (gd_up m.1 x i.toNatClampNeg _ x q)
      rw [gd_ups]
      unfold updV
      by_cases hq : q = i.toNatClampNeg
      · rw [if_pos hq, if_pos hq]; try rfl
      · rw [if_neg hq, if_neg hq]; rfl
  · cases hs
theorem gd_s_lastore  (F : gd_FF Z M p R s mI args meth c) (hH : gd_HR Z m H) (hL : gd_LR Z M loc ls) (hS : va_S (gz_A Z) s.heap H locs) (ho : gd_okE (gd_rc M) (pc, .lastore, len, w, a, b, cc, z) = true) (hs : gd_step M (pc, .lastore, len, w, a, b, cc, z) loc st m = gd_go d) (kk : gd_KK p l e R s mI args below meth c cells slots Q Z M m d) : d.1 = M ∧ W p l e R s mI args below meth c H locs cells slots Q (F0 mI pc ls (st.map (gd_cv Z))) := by
  obtain ⟨hx, hb, hml, hr, hown, hts, hlk, hnm, hE, hfr, hlo, htb1⟩ := F
  unfold gd_step at hs
  dsimp only at hs
  have ho : (decide (decode (gr_b (gd_rc M)) pc = .ok (.lastore, len)) && Nat.beq len 1) = true := ho
  obtain ⟨hd, rfl⟩ := gd_and2 ho
  split at hs
  · next v i x r =>
    cases hok : gd_okA (gN m) x 13 i with
    | false => rw [hok] at hs; cases hs
    | true =>
      rw [hok] at hs
      obtain rfl := gd_go_inj hs
      refine ⟨rfl, ?_⟩
      have hok2 := gd_okA_of hok
      have h8 : 8 ≤ x := gd_KD_8 hok2.1 (by decide)
      have hcell := hH.at h8 hok2.2.1
      have hen : gd_en Z (m) x = .inl (gz_cA Z 13, (gd_LN x, .inr (.inl (gJ (m) x)))) := by
        unfold gd_en
        rw [hok2.1]
        rfl
      have hen2 : gd_en Z (wJ m x i.toNatClampNeg v) x = .inl (gz_cA Z 13, (gd_LN x, .inr (.inl (gJ (wJ m x i.toNatClampNeg v) x)))) := by
        unfold gd_en
        rw [hok2.1]
        rfl
      rw [hen] at hcell
      have hty := (hE.1.2.1 13 (by decide) (by decide)).1
      rw [List.map_cons, List.map_cons, List.map_cons, show gd_cv Z (.ref x) = gd_adr Z x from rfl, gd_adr_8 h8]
      refine W.last hx hb hcell (hty (gd_LN x) (fun j => .long (gJ m x j))) (fun q => by cases q) (by show ¬ (i < 0 ∨ (arrV _ _ _).slots.size ≤ _); rw [arrV_size]; exact hok2.2.2) rfl rfl hd fun H1 e1 z1 o1 => ?_
      refine gd_wz (kk H1 _ _ (gd_HR_upd hH h8 hok2.2.1 rfl rfl (gd_sameJ m x _ v) z1 o1 ?_) hL (hS.put z1 o1 (Nat.le_add_right _ _)))
      rw [hen2]
      show H1[_]? = some (vp_cell _ _)
      rw [e1]
      rw [vp_cell_l, vp_cell_l, arrV_store]
      congr 2
      funext q
      show updV (fun j => Value.long (gJ m x j)) i.toNatClampNeg _ q = .long (gd_up m.2.1 x i.toNatClampNeg _ x q)
      rw [gd_ups]
      unfold updV
      by_cases hq : q = i.toNatClampNeg
      · rw [if_pos hq, if_pos hq]; try rfl
      · rw [if_neg hq, if_neg hq]; rfl
  · cases hs
theorem gd_s_bastore  (F : gd_FF Z M p R s mI args meth c) (hH : gd_HR Z m H) (hL : gd_LR Z M loc ls) (hS : va_S (gz_A Z) s.heap H locs) (ho : gd_okE (gd_rc M) (pc, .bastore, len, w, a, b, cc, z) = true) (hs : gd_step M (pc, .bastore, len, w, a, b, cc, z) loc st m = gd_go d) (kk : gd_KK p l e R s mI args below meth c cells slots Q Z M m d) : d.1 = M ∧ W p l e R s mI args below meth c H locs cells slots Q (F0 mI pc ls (st.map (gd_cv Z))) := by
  obtain ⟨hx, hb, hml, hr, hown, hts, hlk, hnm, hE, hfr, hlo, htb1⟩ := F
  unfold gd_step at hs
  dsimp only at hs
  have ho : (decide (decode (gr_b (gd_rc M)) pc = .ok (.bastore, len)) && Nat.beq len 1) = true := ho
  obtain ⟨hd, rfl⟩ := gd_and2 ho
  split at hs
  · next v i x r =>
    cases h12 : Nat.beq (gr_bk (gd_rc M)) 12 with
    | true =>
      rw [h12] at hs
      have hs : gd_br (gd_okA (gN m) x 12 i) _ _ = gd_go d := hs
      cases hok : gd_okA (gN m) x 12 i with
      | false => rw [hok] at hs; cases hs
      | true =>
        rw [hok] at hs
        obtain rfl := gd_go_inj hs
        refine ⟨rfl, ?_⟩
        have hok2 := gd_okA_of hok
        have h8 : 8 ≤ x := gd_KD_8 hok2.1 (by decide)
        have hcell := hH.at h8 hok2.2.1
        have hen : gd_en Z (m) x = .inl (gz_cA Z 12, (gd_LN x, .inl (gI (m) x))) := by
          unfold gd_en
          rw [hok2.1]
          rfl
        have hen2 : gd_en Z (wI m x i.toNatClampNeg v.toInt8.toInt32) x = .inl (gz_cA Z 12, (gd_LN x, .inl (gI (wI m x i.toNatClampNeg v.toInt8.toInt32) x))) := by
          unfold gd_en
          rw [hok2.1]
          rfl
        rw [hen] at hcell
        have hty := (hE.1.2.1 12 (by decide) (by decide)).1
        rw [List.map_cons, List.map_cons, List.map_cons, show gd_cv Z (.ref x) = gd_adr Z x from rfl, gd_adr_8 h8]
        refine W.bast hx hb hcell (hty (gd_LN x) (fun j => .int (gI m x j))) (fun q => by cases q) (by show ¬ (i < 0 ∨ (arrV _ _ _).slots.size ≤ _); rw [arrV_size]; exact hok2.2.2) rfl rfl hd fun H1 e1 z1 o1 => ?_
        refine gd_wz (kk H1 _ _ (gd_HR_upd hH h8 hok2.2.1 rfl rfl (gd_sameI m x _ _) z1 o1 ?_) hL (hS.put z1 o1 (Nat.le_add_right _ _)))
        rw [hen2]
        show H1[_]? = some (vp_cell _ _)
        rw [e1]
        rw [vp_cell_i, vp_cell_i, arrV_store]
        congr 2
        funext q
        show updV (fun j => Value.int (gI m x j)) i.toNatClampNeg _ q = .int (gd_up m.1 x i.toNatClampNeg _ x q)
        rw [gd_ups]
        unfold updV
        by_cases hq : q = i.toNatClampNeg
        · rw [if_pos hq, if_pos hq]; try rfl
        · rw [if_neg hq, if_neg hq]; rfl
    | false =>
      rw [h12] at hs
      have hs : gd_br (gd_okA (gN m) x 11 i) _ _ = gd_go d := hs
      cases hok : gd_okA (gN m) x 11 i with
      | false => rw [hok] at hs; cases hs
      | true =>
        rw [hok] at hs
        obtain rfl := gd_go_inj hs
        refine ⟨rfl, ?_⟩
        have hok2 := gd_okA_of hok
        have h8 : 8 ≤ x := gd_KD_8 hok2.1 (by decide)
        have hcell := hH.at h8 hok2.2.1
        have hen : gd_en Z (m) x = .inl (gz_cA Z 11, (gd_LN x, .inl (gI (m) x))) := by
          unfold gd_en
          rw [hok2.1]
          rfl
        have hen2 : gd_en Z (wI m x i.toNatClampNeg (vp_nar .boolean v)) x = .inl (gz_cA Z 11, (gd_LN x, .inl (gI (wI m x i.toNatClampNeg (vp_nar .boolean v)) x))) := by
          unfold gd_en
          rw [hok2.1]
          rfl
        rw [hen] at hcell
        have hty := (hE.1.2.1 11 (by decide) (by decide)).1
        rw [List.map_cons, List.map_cons, List.map_cons, show gd_cv Z (.ref x) = gd_adr Z x from rfl, gd_adr_8 h8]
        refine W.zast hx hb hcell (hty (gd_LN x) (fun j => .int (gI m x j))) (fun q => by cases q) (by show ¬ (i < 0 ∨ (arrV _ _ _).slots.size ≤ _); rw [arrV_size]; exact hok2.2.2) rfl rfl hd fun H1 e1 z1 o1 => ?_
        refine gd_wz (kk H1 _ _ (gd_HR_upd hH h8 hok2.2.1 rfl rfl (gd_sameI m x _ _) z1 o1 ?_) hL (hS.put z1 o1 (Nat.le_add_right _ _)))
        rw [hen2]
        show H1[_]? = some (vp_cell _ _)
        rw [e1]
        rw [vp_cell_i, vp_cell_i, arrV_store]
        congr 2
        funext q
        show updV (fun j => Value.int (gI m x j)) i.toNatClampNeg _ q = .int (gd_up m.1 x i.toNatClampNeg _ x q)
        rw [gd_ups]
        unfold updV
        by_cases hq : q = i.toNatClampNeg
        · rw [if_pos hq, if_pos hq]; try rfl
        · rw [if_neg hq, if_neg hq]; rfl
  · cases hs
theorem gd_s_aastore  (F : gd_FF Z M p R s mI args meth c) (hH : gd_HR Z m H) (hL : gd_LR Z M loc ls) (hS : va_S (gz_A Z) s.heap H locs) (ho : gd_okE (gd_rc M) (pc, .aastore, len, w, a, b, cc, z) = true) (hs : gd_step M (pc, .aastore, len, w, a, b, cc, z) loc st m = gd_go d) (kk : gd_KK p l e R s mI args below meth c cells slots Q Z M m d) : d.1 = M ∧ W p l e R s mI args below meth c H locs cells slots Q (F0 mI pc ls (st.map (gd_cv Z))) := by
  obtain ⟨hx, hb, hml, hr, hown, hts, hlk, hnm, hE, hfr, hlo, htb1⟩ := F
  unfold gd_step at hs
  dsimp only at hs
  have ho : (decide (decode (gr_b (gd_rc M)) pc = .ok (.aastore, len)) && Nat.beq len 1) = true := ho
  obtain ⟨hd, rfl⟩ := gd_and2 ho
  split at hs
  · next v i x r =>
    cases hok0 : (gd_okA (gN m) x 14 i && gd_ok (gN m) v 4) with
    | false => rw [hok0] at hs; cases hs
    | true =>
      rw [hok0] at hs
      obtain rfl := gd_go_inj hs
      refine ⟨rfl, ?_⟩
      obtain ⟨hok, hokv⟩ := gd_andb hok0
      have hok2 := gd_okA_of hok
      have hokv2 := gd_ok_of hokv
      have h8 : 8 ≤ x := gd_KD_8 hok2.1 (by decide)
      have h8v : 8 ≤ v := gd_KD_8 hokv2.1 (by decide)
      have hcell := hH.at h8 hok2.2.1
      have hcv := hH.at h8v hokv2.2
      have hen : gd_en Z (m) x = .inl (gz_cA Z 14, (gd_LN x, .inr (.inr (.inr (.inr (fun j => gd_opt (gd_adr Z (gR m x j)))))))) := by
        unfold gd_en
        rw [hok2.1]
        rfl
      have hen2 : gd_en Z (wR m x i.toNatClampNeg v) x = .inl (gz_cA Z 14, (gd_LN x, .inr (.inr (.inr (.inr (fun j => gd_opt (gd_adr Z (gR (wR m x i.toNatClampNeg v) x j)))))))) := by
        unfold gd_en
        rw [hok2.1]
        rfl
      have henv : gd_en Z m v = .inr (4, gd_fs Z m v) := by
        unfold gd_en
        rw [hokv2.1]
        rfl
      rw [hen] at hcell
      rw [henv] at hcv
      have hlt : i.toNatClampNeg < gd_LN x := Nat.not_le.mp fun q => hok2.2.2 (Or.inr q)
      have h0 : ¬ i < 0 := fun q => hok2.2.2 (Or.inl q)
      obtain ⟨r', hr', cellV, g1, g2, g3, -⟩ := hcv
      have hr2 : r' = (gd_cn 4, gd_T 4, gd_NN 4) := Option.some.inj (hr'.symm.trans (gd_clat 4 (by decide)))
      subst hr2
      have hcls := (hE.1.1 4 _ (gd_clat 4 (by decide))).2
      obtain ⟨kA, comp, k1, k2, k3, -⟩ := (hE.1.2.1 14 (by decide) (by decide)).2
      have hcomp : comp = (gz_D Z).1 4 := Option.some.inj (k3.symm.trans hcls.1)
      subst hcomp
      obtain ⟨kC, hkC, -⟩ := hcls.2
      rw [List.map_cons, List.map_cons, List.map_cons, show gd_cv Z (.ref x) = gd_adr Z x from rfl, gd_adr_8 h8, show gd_cv Z (.ref v) = gd_adr Z v from rfl, gd_adr_8 h8v]
      refine W.aast hx hb hcell (fun q h => by cases h) (fun h => by cases h) k1 k2 rfl hkC ⟨h0, by show _ < (arrV _ _ _).slots.size; rw [arrV_size]; exact hlt⟩ g1 (fun q h => by rw [g3] at h; cases h) (by rw [g2]; exact hkC) (by rw [g2]; exact va_assign hcls) rfl rfl hd fun H1 e1 z1 o1 => ?_
      refine gd_wz (kk H1 _ _ (gd_HR_upd hH h8 hok2.2.1 rfl rfl (gd_sameR m x _ v) z1 o1 ?_) hL (hS.put z1 o1 (Nat.le_add_right _ _)))
      rw [hen2]
      show H1[_]? = some (vp_cell _ _)
      rw [e1, vp_cell_q, vp_cell_q, arrV_store]
      congr 2
      funext q
      show updV (fun j => va_rf (gd_opt (gd_adr Z (gR m x j)))) i.toNatClampNeg _ q = va_rf (gd_opt (gd_adr Z (gd_up m.2.2.1 x i.toNatClampNeg v x q)))
      rw [gd_ups]
      unfold updV
      by_cases hq : q = i.toNatClampNeg
      · rw [if_pos hq, if_pos hq, gd_adr_8 h8v]; rfl
      · rw [if_neg hq, if_neg hq]; rfl
  · cases hs
theorem gd_s_newarray {t : ClassFile.ArrayType} (F : gd_FF Z M p R s mI args meth c) (hH : gd_HR Z m H) (hL : gd_LR Z M loc ls) (hS : va_S (gz_A Z) s.heap H locs) (hrm : cells + (gN d.2.2.2.2 - gN m) ≤ R.cells ∧ slots + (gU d.2.2.2.2 - gU m) ≤ R.slots) (ho : gd_okE (gd_rc M) (pc, .newarray t, len, w, a, b, cc, z) = true) (hs : gd_step M (pc, .newarray t, len, w, a, b, cc, z) loc st m = gd_go d) (kk : gd_KK p l e R s mI args below meth c cells slots Q Z M m d) : d.1 = M ∧ W p l e R s mI args below meth c H locs cells slots Q (F0 mI pc ls (st.map (gd_cv Z))) := by
  obtain ⟨hx, hb, hml, hr, hown, hts, hlk, hnm, hE, hfr, hlo, htb1⟩ := F
  unfold gd_step at hs
  dsimp only at hs
  have ho : (decide (decode (gr_b (gd_rc M)) pc = .ok (.newarray t, len)) && _) = true := ho
  obtain ⟨hd, ho2⟩ := gd_and3 ho
  have ho2 : (Nat.beq len 2 && gd_wd w (.arrayClass (newarray.typeOf t))) = true := ho2
  obtain ⟨h3, hw⟩ := gd_andb ho2
  obtain rfl := Nat.eq_of_beq_eq_true h3
  split at hs
  · next n r =>
    cases hok : (!decide (n < 0) && Nat.beq (gd_KD (gN m)) (gd_akd t) && Nat.beq (gd_LN (gN m)) n.toNatClampNeg && Nat.ble n.toNatClampNeg 100000) with
    | false => rw [hok] at hs; cases hs
    | true =>
      rw [hok] at hs
      obtain rfl := gd_go_inj hs
      refine ⟨rfl, ?_⟩
      obtain ⟨hok1, hN⟩ := gd_andb hok
      obtain ⟨hok2, hln⟩ := gd_andb hok1
      obtain ⟨hn, hkd⟩ := gd_andb hok2
      have hN := Nat.le_of_ble_eq_true hN
      have hln := Nat.eq_of_beq_eq_true hln
      have hkd := Nat.eq_of_beq_eq_true hkd
      have hn : ¬ n < 0 := by simpa using hn
      have hgn : gN (gd_al m n.toNatClampNeg) - gN m = 1 := Nat.add_sub_cancel_left (gN m) 1
      have hgu : gU (gd_al m n.toNatClampNeg) - gU m = n.toNatClampNeg := Nat.add_sub_cancel_left (gU m) _
      have hsz : H.size = gz_bs Z + (gN m - 8) := by have := hH.2.1; have := hH.1; omega
      have hr1 : cells + 1 ≤ R.cells := by have := hrm.1; rwa [hgn] at this
      have hr2 : slots + n.toNatClampNeg ≤ R.slots := by have := hrm.2; rwa [hgu] at this
      have key : ∀ (k : Nat), 10 ≤ k → k ≤ 13 → gd_KD (gN m) = k → newarray.typeOf t = gd_aty k → (∀ cA, vp_cell cA (gd_LN (gN m), if k = 13 then .inr (.inl (gJ m (gN m))) else if k = 14 then .inr (.inr (.inr (.inr (fun j => gd_opt (gd_adr Z (gR m (gN m) j)))))) else .inl (gI m (gN m))) = arrV cA (gd_LN (gN m)) (fun _ => defaultValue (gd_aty k))) → (∀ U cA, va_RA U cA (gd_aty k) → U.vm.findClass ("[" ++ (gd_aty k).toString) = some cA) → componentBytes (gd_aty k) ≤ 8 →
          W p l e R s mI args below meth c H locs cells slots Q (F0 mI pc ls (.int n :: r.map (gd_cv Z))) := by
        intro k k1 k2 hk hty hdef hra hcb
        have hbytes : n.toNatClampNeg * componentBytes (newarray.typeOf t) ≤ 536870912 := by
          rw [hty]
          exact Nat.le_trans (Nat.mul_le_mul hN hcb) (by decide)
        refine va_newaK hx hb (hts _ (gd_G_mem hw rfl)) rfl hd rfl hn rfl hbytes hr1 hr2 hsz fun H1 cA1 e1 z1 o1 hAr hNm => ?_
        have hEk := hE.1.2.1 k k1 (by omega)
        rw [hty] at hNm e1
        have hcA : cA1 = gz_cA Z k := Option.some.inj (hNm.symm.trans (hra _ _ hEk.2))
        subst hcA
        have z2 : H1.size = H.size + 1 := by rw [z1, hsz]
        have o2 : ∀ q, q < H.size → H1[q]? = H[q]? := fun q hq => o1 q (by rw [← hsz]; exact hq)
        have hat : va_at (gz_D Z) gd_cl (gz_bs Z + (gN m - 8), gd_en Z m (gN m)) H1 := by
          have hen : gd_en Z m (gN m) = .inl (gz_cA Z k, (gd_LN (gN m), if k = 13 then .inr (.inl (gJ m (gN m))) else if k = 14 then .inr (.inr (.inr (.inr (fun j => gd_opt (gd_adr Z (gR m (gN m) j)))))) else .inl (gI m (gN m)))) := by
            unfold gd_en
            rw [hk, if_neg (by omega)]
          rw [hen]
          show H1[_]? = some (vp_cell _ _)
          rw [hdef, e1, hln]
        have kz := kk H1 ls locs (gd_HR_al hH z2 o2 hat) hL (gd_S_al hS z2 o2)
        dsimp only at kz
        rw [hgn, hgu, List.map_cons, show gd_cv Z (.ref (gN m)) = gd_adr Z (gN m) from rfl, gd_adr_8 hH.1] at kz
        exact kz
      have hz : ∀ j, gI m (gN m) j = 0 := fun j => (hH.2.2.2.1 (gN m) (Nat.le_refl _) j).1
      have hzj : ∀ j, gJ m (gN m) j = 0 := fun j => (hH.2.2.2.1 (gN m) (Nat.le_refl _) j).2.1
      have fI : gI m (gN m) = fun _ => 0 := funext hz
      have fJ : gJ m (gN m) = fun _ => 0 := funext hzj
      rw [List.map_cons]
      cases t with
      | int => exact key 10 (by decide) (by decide) hkd rfl (fun cA => by rw [fI]; rfl) (fun U cA h => h) (by decide)
      | boolean => exact key 11 (by decide) (by decide) hkd rfl (fun cA => by rw [fI]; rfl) (fun U cA h => h) (by decide)
      | byte => exact key 12 (by decide) (by decide) hkd rfl (fun cA => by rw [fI]; rfl) (fun U cA h => h) (by decide)
      | long => exact key 13 (by decide) (by decide) hkd rfl (fun cA => by rw [fJ]; rfl) (fun U cA h => h) (by decide)
      | _ => exact absurd hkd (gd_KD_77 _)
  · cases hs
theorem gd_s_anewarray {k : Nat} (F : gd_FF Z M p R s mI args meth c) (hH : gd_HR Z m H) (hL : gd_LR Z M loc ls) (hS : va_S (gz_A Z) s.heap H locs) (hrm : cells + (gN d.2.2.2.2 - gN m) ≤ R.cells ∧ slots + (gU d.2.2.2.2 - gU m) ≤ R.slots) (ho : gd_okE (gd_rc M) (pc, .anewarray k, len, w, a, b, cc, z) = true) (hs : gd_step M (pc, .anewarray k, len, w, a, b, cc, z) loc st m = gd_go d) (kk : gd_KK p l e R s mI args below meth c cells slots Q Z M m d) : d.1 = M ∧ W p l e R s mI args below meth c H locs cells slots Q (F0 mI pc ls (st.map (gd_cv Z))) := by
  obtain ⟨hx, hb, hml, hr, hown, hts, hlk, hnm, hE, hfr, hlo, htb1⟩ := F
  unfold gd_step at hs
  dsimp only at hs
  have ho : (decide (decode (gr_b (gd_rc M)) pc = .ok (.anewarray k, len)) && _) = true := ho
  obtain ⟨hd, ho2⟩ := gd_and3 ho
  have ho2 : (Nat.beq len 3 && gd_wd w (.classLink (gd_cn (gr_cls (gd_rc M))) k "GymDesk$Routine")) = true := ho2
  obtain ⟨h3, hw⟩ := gd_andb ho2
  obtain rfl := Nat.eq_of_beq_eq_true h3
  split at hs
  · next n r =>
    cases hok : (!decide (n < 0) && Nat.beq (gd_KD (gN m)) 14 && Nat.beq (gd_LN (gN m)) n.toNatClampNeg && Nat.ble n.toNatClampNeg 100000) with
    | false => rw [hok] at hs; cases hs
    | true =>
      rw [hok] at hs
      obtain rfl := gd_go_inj hs
      refine ⟨rfl, ?_⟩
      obtain ⟨hok1, hN⟩ := gd_andb hok
      obtain ⟨hok2, hln⟩ := gd_andb hok1
      obtain ⟨hn, hkd⟩ := gd_andb hok2
      have hN := Nat.le_of_ble_eq_true hN
      have hln := Nat.eq_of_beq_eq_true hln
      have hkd := Nat.eq_of_beq_eq_true hkd
      have hn : ¬ n < 0 := by simpa using hn
      have hgn : gN (gd_al m n.toNatClampNeg) - gN m = 1 := Nat.add_sub_cancel_left (gN m) 1
      have hgu : gU (gd_al m n.toNatClampNeg) - gU m = n.toNatClampNeg := Nat.add_sub_cancel_left (gU m) _
      have hsz : H.size = gz_bs Z + (gN m - 8) := by have := hH.2.1; have := hH.1; omega
      have hr1 : cells + 1 ≤ R.cells := by have := hrm.1; rwa [hgn] at this
      have hr2 : slots + n.toNatClampNeg ≤ R.slots := by have := hrm.2; rwa [hgu] at this
      rw [List.map_cons]
      refine W.anew hx hb hown (hts _ (gd_G_mem hw rfl)) (va_AO.use hE.1.2.2.2.1) rfl hd rfl hn (Nat.le_trans (Nat.mul_le_mul_right 4 hN) (by decide)) hr1 hr2 fun cA1 kA comp f1 f2 f3 f4 => ?_
      generalize hH1 : H.push ({ cls := cA1, slots := Array.replicate n.toNatClampNeg .null, vm := .none } : Cell) = H1
      have z2 : H1.size = H.size + 1 := by rw [← hH1, Array.size_push]
      have e1 : H1[H.size]? = some (arrV cA1 n.toNatClampNeg (fun _ => .null)) := by rw [← hH1, Array.getElem?_push_size, ← arrV_new]
      have o2 : ∀ q : Nat, q < H.size → H1[q]? = H[q]? := fun q hq => by rw [← hH1, Array.getElem?_push, if_neg (Nat.ne_of_lt hq)]
      obtain ⟨kA2, comp2, -, -, -, h4⟩ := (hE.1.2.1 14 (by decide) (by decide)).2
      have hcA : cA1 = gz_cA Z 14 := Option.some.inj (f1.symm.trans h4)
      subst hcA
      have hzr : ∀ j, gR m (gN m) j = 0 := fun j => (hH.2.2.2.1 (gN m) (Nat.le_refl _) j).2.2
      have fR : gR m (gN m) = fun _ => 0 := funext hzr
      have hat : va_at (gz_D Z) gd_cl (gz_bs Z + (gN m - 8), gd_en Z m (gN m)) H1 := by
        have hen : gd_en Z m (gN m) = .inl (gz_cA Z 14, (gd_LN (gN m), .inr (.inr (.inr (.inr (fun j => gd_opt (gd_adr Z (gR m (gN m) j)))))))) := by
          unfold gd_en
          rw [hkd]
          rfl
        rw [hen]
        show H1[_]? = some (vp_cell _ _)
        rw [← hsz, e1, hln, fR, vp_cell_q]
        rfl
      have kz := kk H1 ls locs (gd_HR_al hH z2 o2 hat) hL (gd_S_al hS z2 o2)
      dsimp only at kz
      rw [hgn, hgu, List.map_cons, show gd_cv Z (.ref (gN m)) = gd_adr Z (gN m) from rfl, gd_adr_8 hH.1, ← hsz] at kz
      exact kz
  · cases hs
theorem gd_s_new {k : Nat} (F : gd_FF Z M p R s mI args meth c) (hH : gd_HR Z m H) (hL : gd_LR Z M loc ls) (hS : va_S (gz_A Z) s.heap H locs) (hrm : cells + (gN d.2.2.2.2 - gN m) ≤ R.cells ∧ slots + (gU d.2.2.2.2 - gU m) ≤ R.slots) (ho : gd_okE (gd_rc M) (pc, .new k, len, w, a, b, cc, z) = true) (hs : gd_step M (pc, .new k, len, w, a, b, cc, z) loc st m = gd_go d) (kk : gd_KK p l e R s mI args below meth c cells slots Q Z M m d) : d.1 = M ∧ W p l e R s mI args below meth c H locs cells slots Q (F0 mI pc ls (st.map (gd_cv Z))) := by
  obtain ⟨hx, hb, hml, hr, hown, hts, hlk, hnm, hE, hfr, hlo, htb1⟩ := F
  unfold gd_step at hs
  dsimp only at hs
  have ho : (decide (decode (gr_b (gd_rc M)) pc = .ok (.new k, len)) && _) = true := ho
  obtain ⟨hd, ho2⟩ := gd_and3 ho
  have ho2 : (Nat.beq len 3 && Nat.blt a 10 && gd_wd w (.classLink (gd_cn (gr_cls (gd_rc M))) k (gd_cn a)) && gd_wd cc (.instantiable (gd_cn a) b) && Nat.beq b (gd_NN a) && decide (Jvm.Cond.initialized (gd_cn a) ∈ lw_tbl)) = true := ho2
  obtain ⟨ho3, hini⟩ := gd_andb ho2
  obtain ⟨ho4, hbn⟩ := gd_andb ho3
  obtain ⟨ho5, hw2⟩ := gd_andb ho4
  obtain ⟨ho6, hw⟩ := gd_andb ho5
  obtain ⟨h3, ha⟩ := gd_andb ho6
  obtain rfl := Nat.eq_of_beq_eq_true h3
  have ha : a < 10 := Nat.le_of_ble_eq_true ha
  have hbn := Nat.eq_of_beq_eq_true hbn
  subst hbn
  have hini := hts _ (gd_G_mem2 (of_decide_eq_true hini) rfl)
  have hins := hts _ (gd_G_mem hw2 rfl)
  cases hok : Nat.beq (gd_KD (gN m)) a with
  | false => rw [hok] at hs; cases hs
  | true =>
    rw [hok] at hs
    obtain rfl := gd_go_inj hs
    refine ⟨rfl, ?_⟩
    have hkd := Nat.eq_of_beq_eq_true hok
    have hgn : gN (gd_al m (gd_NN a)) - gN m = 1 := Nat.add_sub_cancel_left (gN m) 1
    have hgu : gU (gd_al m (gd_NN a)) - gU m = gd_NN a := Nat.add_sub_cancel_left (gU m) _
    have hsz : H.size = gz_bs Z + (gN m - 8) := by have := hH.2.1; have := hH.1; omega
    have hr1 : cells + 1 ≤ R.cells := by have := hrm.1; rwa [hgn] at this
    have hr2 : slots + gd_NN a ≤ R.slots := by have := hrm.2; rwa [hgu] at this
    have hKn := hE.1.1 a _ (gd_clat a ha)
    refine W.newcK hx hb hown (hts _ (gd_G_mem hw rfl)) hins hini rfl hd hr1 hr2 hKn.2.1 hsz fun H1 kC hkC e1 z1 o1 => ?_
    have z2 : H1.size = H.size + 1 := by rw [z1, hsz]
    have o2 : ∀ q, q < H.size → H1[q]? = H[q]? := fun q hq => o1 q (by rw [← hsz]; exact hq)
    have hat : va_at (gz_D Z) gd_cl (gz_bs Z + (gN m - 8), gd_en Z m (gN m)) H1 := by
      have hen : gd_en Z m (gN m) = .inr (a, gd_fs Z m (gN m)) := by
        unfold gd_en
        rw [hkd, if_pos ha]
      rw [hen]
      refine ⟨_, gd_clat a ha, (u_born (gd_ty a) hts (gd_inT a ha) hKn hkC e1 (gd_tyok a ha)).to fun j hj => ?_⟩
      have hz := hH.2.2.2.1 (gN m) (Nat.le_refl _) j
      have hg : (gd_fs Z m (gN m))[j]? = some (gd_fv Z m (gN m) j) := gd_fs_get (by rw [hkd]; exact hj)
      unfold vp_V
      rw [List.getD_eq_getElem?_getD, hg, Option.getD_some]
      unfold gd_fv
      rw [hkd, hz.1, hz.2.1, hz.2.2]
      rcases gd_dv a ha j hj with ⟨q1, q2⟩ | ⟨q1, q2⟩ | ⟨q1, q2, q3⟩
      · rw [q2, if_pos q1]
      · rw [q2, if_neg (by rw [q1]; decide), if_pos q1]; rfl
      · rw [q3, if_neg q1, if_neg q2]
    have kz := kk H1 ls locs (gd_HR_al hH z2 o2 hat) hL (gd_S_al hS z2 o2)
    dsimp only at kz
    rw [hgn, hgu, List.map_cons, show gd_cv Z (.ref (gN m)) = gd_adr Z (gN m) from rfl, gd_adr_8 hH.1] at kz
    exact kz
theorem gd_s_tableswitch {q0 lo hi : Int} {os : Array Int} (F : gd_FF Z M p R s mI args meth c) (hH : gd_HR Z m H) (hL : gd_LR Z M loc ls) (hS : va_S (gz_A Z) s.heap H locs) (ho : gd_okE (gd_rc M) (pc, .tableswitch q0 lo hi os, len, w, a, b, cc, z) = true) (hs : gd_step M (pc, .tableswitch q0 lo hi os, len, w, a, b, cc, z) loc st m = gd_go d) (kk : gd_KK p l e R s mI args below meth c cells slots Q Z M m d) : d.1 = M ∧ W p l e R s mI args below meth c H locs cells slots Q (F0 mI pc ls (st.map (gd_cv Z))) := by
  obtain ⟨hx, hb, hml, hr, hown, hts, hlk, hnm, hE, hfr, hlo, htb1⟩ := F
  unfold gd_step at hs
  dsimp only at hs
  have ho : (decide (decode (gr_b (gd_rc M)) pc = .ok (.tableswitch q0 lo hi os, len)) && _) = true := ho
  obtain ⟨hd, ho2⟩ := gd_and3 ho
  have ho2 : (gd_jmp pc q0 && os.toList.all (gd_jmp pc) && decide ((os.size : Int) = hi - lo + 1) && decide (-1000 < lo) && decide (hi < 1000) && decide (lo ≤ hi)) = true := ho2
  obtain ⟨ho3, hlh⟩ := gd_andb ho2
  obtain ⟨ho4, hhi⟩ := gd_andb ho3
  obtain ⟨ho5, hlo1⟩ := gd_andb ho4
  obtain ⟨ho6, hsz⟩ := gd_andb ho5
  obtain ⟨hj0, hj⟩ := gd_andb ho6
  have hsz : (os.size : Int) = hi - lo + 1 := of_decide_eq_true hsz
  have hlo1 : -1000 < lo := of_decide_eq_true hlo1
  have hhi : hi < 1000 := of_decide_eq_true hhi
  split at hs
  · next x r =>
    rcases gd_sw_spec (fun o => gd_go (M, gd_tgt pc o, loc, r, m)) x os.toList lo q0 with ⟨k, o, h1, h2, h3⟩ | ⟨h1, h3⟩
    · rw [h3] at hs
      obtain rfl := gd_go_inj hs
      refine ⟨rfl, ?_⟩
      have hk : k < os.toList.length := (List.getElem?_eq_some_iff.mp h1).1
      rw [Array.length_toList] at hk
      have hxv : x.toInt = lo + k := by rw [h2]; exact gd_ofInt_toInt (by omega) (by omega)
      have hoj := List.all_eq_true.mp hj o (List.mem_of_getElem? h1)
      refine lv_tableIn hx hb hd (by omega) (by omega) (off := o) ?_ (gd_tgt_ok hoj) (gd_wz (kk _ _ _ hH hL hS))
      rw [show (x.toInt - lo).toNat = k by omega, ← Array.getElem?_toList]
      exact h1
    · rw [h3] at hs
      obtain rfl := gd_go_inj hs
      refine ⟨rfl, ?_⟩
      refine lv_tableOut hx hb hd ?_ (gd_tgt_ok hj0) (gd_wz (kk _ _ _ hH hL hS))
      rcases Int.lt_or_le x.toInt lo with q | q
      · exact Or.inl q
      · right
        rcases Int.lt_or_le hi x.toInt with q2 | q2
        · exact q2
        · exfalso
          refine h1 (x.toInt - lo).toNat (by rw [Array.length_toList]; omega) ?_
          rw [show lo + ((x.toInt - lo).toNat : Int) = x.toInt by omega]
          exact (Int32.ofInt_toInt x).symm
  · cases hs
theorem gd_s_lstore_n {k : Fin 4} (F : gd_FF Z M p R s mI args meth c) (hH : gd_HR Z m H) (hL : gd_LR Z M loc ls) (hS : va_S (gz_A Z) s.heap H locs) (ho : gd_okE (gd_rc M) (pc, .lstore_n k, len, w, a, b, cc, z) = true) (hs : gd_step M (pc, .lstore_n k, len, w, a, b, cc, z) loc st m = gd_go d) (kk : gd_KK p l e R s mI args below meth c cells slots Q Z M m d) : d.1 = M ∧ W p l e R s mI args below meth c H locs cells slots Q (F0 mI pc ls (st.map (gd_cv Z))) := by
  obtain ⟨hx, hb, hml, hr, hown, hts, hlk, hnm, hE, hfr, hlo, htb1⟩ := F
  unfold gd_step at hs
  dsimp only at hs
  have ho : (decide (decode (gr_b (gd_rc M)) pc = .ok (.lstore_n k, len)) && Nat.beq len 1) = true := ho
  obtain ⟨hd, rfl⟩ := gd_and2 ho
  split at hs
  · next x r =>
    cases hok : gd_stLOk (gr_lng (gd_rc M)) k (gr_ml (gd_rc M)) with
    | false => rw [hok] at hs; cases hs
    | true =>
      rw [hok] at hs
      obtain rfl := gd_go_inj hs
      unfold gd_stLOk at hok
      obtain ⟨hok1, h4⟩ := gd_andb hok
      obtain ⟨hok2, h3⟩ := gd_andb hok1
      obtain ⟨h1, h2⟩ := gd_andb hok2
      have hlt : (k : Nat) + 1 < gr_ml (gd_rc M) := Nat.le_of_ble_eq_true h1
      refine ⟨rfl, lv_lstore_n hx hb hd rfl (gd_lst_has hL) hlt rfl fun ls1 hl1 => gd_wz (kk _ _ _ hH ?_ hS)⟩
      refine ⟨hl1.1, hl1.2.1, fun j hj => ?_, fun j => ?_⟩
      · dsimp only at hj ⊢
        rw [gd_at_set, gd_at_set] at hj ⊢
        by_cases hj1 : j = (k : Nat) + 1
        · rw [if_pos hj1] at hj
          split at hj <;> exact absurd rfl hj
        · rw [if_neg hj1] at hj ⊢
          by_cases hjn : j = (k : Nat)
          · rw [if_pos hjn] at hj ⊢
            by_cases hl : (k : Nat) < loc.length
            · rw [if_pos hl, hjn]
              exact hl1.2.2 _ List.mem_cons_self
            · rw [if_neg hl] at hj
              exact absurd rfl hj
          · rw [if_neg hjn] at hj ⊢
            have hjl : j < gr_ml (gd_rc M) := by rw [← hL.1]; exact gd_nth_lt (hL.2.2.1 j hj)
            refine hl1.2.2 (j, gd_cv Z (gd_at loc j)) (List.mem_cons_of_mem _ (List.mem_filter.mpr ⟨gd_lst_mem hjl hj, ?_⟩))
            simp only [Bool.and_eq_true, Bool.not_eq_true', beq_eq_false_iff_ne, ne_eq, Bool.and_eq_false_iff]
            refine ⟨hjn, hj1, ?_⟩
            by_cases h6 : j + 1 = (k : Nat)
            · right
              intro h7
              have h8 := (hL.2.2.2 j).2 (gd_cv_cat hE.1 (hL.2.2.2 j).1 h7)
              rw [← h6] at h2
              simp at h2
              rw [List.elem_eq_mem] at h8
              simp at h8
              exact h2 h8
            · left; exact h6
      · dsimp only
        rw [gd_at_set, gd_at_set]
        by_cases hj1 : j = (k : Nat) + 1
        · rw [if_pos hj1]
          split <;> exact ⟨rfl, fun q => by cases q⟩
        · rw [if_neg hj1]
          by_cases hjn : j = (k : Nat)
          · rw [if_pos hjn]
            by_cases hl : (k : Nat) < loc.length
            · rw [if_pos hl]
              exact ⟨rfl, fun _ => by rw [hjn]; exact h3⟩
            · rw [if_neg hl]
              exact ⟨rfl, fun q => by cases q⟩
          · rw [if_neg hjn]
            exact hL.2.2.2 j
  · cases hs
theorem gd_s_objinit {k : Nat} (hc2 : cc = 2) (F : gd_FF Z M p R s mI args meth c) (hH : gd_HR Z m H) (hL : gd_LR Z M loc ls) (hS : va_S (gz_A Z) s.heap H locs) (ho : gd_okE (gd_rc M) (pc, .invokespecial k, len, w, a, b, cc, z) = true) (hs : gd_step M (pc, .invokespecial k, len, w, a, b, cc, z) loc st m = gd_go d) (kk : gd_KK p l e R s mI args below meth c cells slots Q Z M m d) : d.1 = M ∧ W p l e R s mI args below meth c H locs cells slots Q (F0 mI pc ls (st.map (gd_cv Z))) := by
  obtain ⟨hx, hb, hml, hr, hown, hts, hlk, hnm, hE, hfr, hlo, htb1⟩ := F
  unfold gd_step at hs
  dsimp only at hs
  have ho : (decide (decode (gr_b (gd_rc M)) pc = .ok (.invokespecial k, len)) && _) = true := ho
  obtain ⟨hd, ho2⟩ := gd_and3 ho
  have ho2 : (Nat.beq len 3 && (bif Nat.beq cc 2 then gd_wd w (.methodLink (gd_cn (gr_cls (gd_rc M))) k objectInit) && decide (Jvm.Cond.instanceMethod objectInit ∈ lw_tbl) && decide (Jvm.Cond.code objectInit ⟨#[0xb1]⟩ 1 none ∈ lw_tbl) else Nat.blt cc 2 && gd_okC (gd_cn (gr_cls (gd_rc M))) k w a b cc && gd_wd (gr_pi (gd_rc a)) (.instanceMethod (gr_y (gd_rc a))) && decide ((gr_y (gd_rc a)).name = "<init>") && decide (gr_ret (gd_rc a) = none) && !Nat.beq a gd_mCode)) = true := ho2
  subst hc2
  obtain ⟨h3, ho3⟩ := gd_andb ho2
  obtain rfl := Nat.eq_of_beq_eq_true h3
  have ho3 : (gd_wd w (.methodLink (gd_cn (gr_cls (gd_rc M))) k objectInit) && decide (Jvm.Cond.instanceMethod objectInit ∈ lw_tbl) && decide (Jvm.Cond.code objectInit ⟨#[0xb1]⟩ 1 none ∈ lw_tbl)) = true := ho3
  obtain ⟨ho4, hw3⟩ := gd_andb ho3
  obtain ⟨hw, hw2⟩ := gd_andb ho4
  split at hs
  · next x r hdr =>
    have hs : gd_br (Nat.ble (gd_pcs r) 8 && Nat.ble 1 (gr_fr (gd_rc M)) && Nat.ble 20 (gr_lo (gd_rc M)) && Nat.beq b 0 && Nat.ble 8 x) _ _ = gd_go d := hs
    cases hok : (Nat.ble (gd_pcs r) 8 && Nat.ble 1 (gr_fr (gd_rc M)) && Nat.ble 20 (gr_lo (gd_rc M)) && Nat.beq b 0 && Nat.ble 8 x) with
    | false => rw [hok] at hs; cases hs
    | true =>
      rw [hok] at hs
      obtain rfl := gd_go_inj hs
      refine ⟨rfl, ?_⟩
      obtain ⟨hok0, hx8⟩ := gd_andb hok
      obtain ⟨hok1, hb0⟩ := gd_andb hok0
      obtain ⟨hok2, hl20⟩ := gd_andb hok1
      obtain ⟨hp8, hf1⟩ := gd_andb hok2
      obtain rfl := Nat.eq_of_beq_eq_true hb0
      rw [List.drop_zero] at hdr
      subst hdr
      have hp8 := Nat.le_of_ble_eq_true hp8
      have hf1 := Nat.le_of_ble_eq_true hf1
      have hl20 := Nat.le_of_ble_eq_true hl20
      have h1 : (Cond.methodLink (gd_cn (gr_cls (gd_rc M))) k objectInit).before args s = true := hts _ (gd_G_mem hw rfl)
      have h2 : (Cond.instanceMethod objectInit).before args s = true := hts _ (gd_G_mem2 (of_decide_eq_true hw2) rfl)
      have h3 : (Cond.code objectInit ⟨#[0xb1]⟩ 1 none).before args s = true := hts _ (gd_G_mem2 (of_decide_eq_true hw3) rfl)
      rw [List.map_cons, show gd_cv Z (.ref x) = gd_adr Z x from rfl, gd_adr_8 (Nat.le_of_ble_eq_true hx8)]
      refine W.objInit hx hb hown h1 h2 h3 rfl (by rw [hml]; exact hL.1) rfl hd (Nat.le_trans hf1 hfr) ?_ (gd_wz (kk _ _ _ hH hL hS))
      rw [gd_pcs_cv hE.1]
      show 2 * 0 + gd_pcs r + 12 ≤ R.locals
      omega
  · cases hs
end GDU
