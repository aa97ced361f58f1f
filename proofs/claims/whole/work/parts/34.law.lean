theorem gd_eqr {args : Array Value} {s : State} {t u : Term} {a b : Nat} (h : (Cond.eq t u).before args s = true) (h1 : t.eval args s none [] s = some (.ref a)) (h2 : u.eval args s none [] s = some (.ref b)) : a = b := by
  simpa [Cond.before, Cond.holds, Cond.value, h1, h2] using h
theorem gd_zr {C n d : String} {A : Nat → Prop} {U : State} {H : Heap} (h : va_Zq C n d A U H) : ∃ v : Value, (v = .null ∨ ∃ t, v = .ref t) ∧ va_Z C n d v A U H := by
  rcases h with h | ⟨t, h⟩
  · exact ⟨_, Or.inl rfl, h⟩
  · exact ⟨_, Or.inr ⟨t, rfl⟩, h⟩
theorem gd_law_b : gr_b (gd_rc gd_mLaw) = code := rfl
theorem gd_law_r : gr_ret (gd_rc gd_mLaw) = ret := by decide +kernel
theorem gd_law_m : gr_ml (gd_rc gd_mLaw) = 4 := by decide +kernel
theorem gd_law_c : gd_cn (gr_cls (gd_rc gd_mLaw)) = R_law := by decide +kernel
theorem gd_law_f : gr_fr (gd_rc gd_mLaw) ≤ 14 ∧ gr_lo (gd_rc gd_mLaw) ≤ 530 := by decide +kernel
theorem gd_law_n : (gr_y (gd_rc gd_mLaw)).name ≠ "<init>" := by decide +kernel
theorem gd_law_a : gd_argOk (gr_lng (gd_rc gd_mLaw)) 0 [.ref 3] = true := by decide +kernel
theorem gd_law_i : ∀ a, a < 10 → Jvm.Cond.instantiable (gd_cn a) (gd_NN a) ∈ lw_tbl := by decide +kernel
theorem gd_law_t : ∀ ty ∈ [FieldType.int, .boolean, .byte, .long], Jvm.Cond.arrayClass ty ∈ lw_tbl := by decide +kernel
theorem gd_law_o : Jvm.Cond.arrayOver (.object "GymDesk$Routine") ∈ lw_tbl ∧ Jvm.Cond.castable "GymDeskModel$Stop" "GymDeskModel$Stop" ∈ lw_tbl ∧ Jvm.Cond.stringRef "GymDesk$Scanner" 15 gd_text ∈ lw_tbl ∧ Jvm.Cond.stringRef "GymDeskModel" 126 gd_text ∈ lw_tbl := by decide +kernel
theorem gd_law_ne : ∀ q ∈ gd_nests, Jvm.Cond.methodLinkNest q.1 q.2.1 q.2.2 q.1 ∈ lw_tbl := by decide +kernel
theorem gd_law_s : (Jvm.Cond.laysStatic "java/lang/String" "COMPACT_STRINGS" "Z" ∈ lw_tbl ∧ Jvm.Cond.initialized "java/lang/String" ∈ lw_tbl) ∧ (Jvm.Cond.laysStatic "jdk/internal/util/Preconditions" "SIOOBE_FORMATTER" "Ljava/util/function/BiFunction;" ∈ lw_tbl ∧ Jvm.Cond.initialized "jdk/internal/util/Preconditions" ∈ lw_tbl) ∧
  (Jvm.Cond.laysStatic "java/lang/Throwable" "UNASSIGNED_STACK" "[Ljava/lang/StackTraceElement;" ∈ lw_tbl ∧ Jvm.Cond.laysStatic "java/lang/Throwable" "SUPPRESSED_SENTINEL" "Ljava/util/List;" ∈ lw_tbl ∧ Jvm.Cond.initialized "java/lang/Throwable" ∈ lw_tbl) := by decide +kernel
abbrev gd_sk : Term := .string "GymDesk$Scanner" 15
abbrev gd_sm : Term := .string "GymDeskModel" 126
theorem gd_law_p : Jvm.Cond.eq (.static "java/lang/String" "COMPACT_STRINGS" "Z") (.int 1) ∈ flatC (Jvm.Cond.and given_1 narrow_1) ∧ Jvm.Cond.isRef (.static "jdk/internal/util/Preconditions" "SIOOBE_FORMATTER" "Ljava/util/function/BiFunction;") ∈ flatC (Jvm.Cond.and given_1 narrow_1) ∧
  Jvm.Cond.isRef (.static "java/lang/Throwable" "UNASSIGNED_STACK" "[Ljava/lang/StackTraceElement;") ∈ flatC (Jvm.Cond.and given_1 narrow_1) ∧ Jvm.Cond.isRef (.static "java/lang/Throwable" "SUPPRESSED_SENTINEL" "Ljava/util/List;") ∈ flatC (Jvm.Cond.and given_1 narrow_1) ∧
  Jvm.Cond.exactly gd_sk "java/lang/String" ∈ flatC (Jvm.Cond.and given_1 narrow_1) ∧ Jvm.Cond.eq (.field gd_sk "java/lang/String" "coder" "B") (.int 0) ∈ flatC (Jvm.Cond.and given_1 narrow_1) ∧ Jvm.Cond.arrayOf (.field gd_sk "java/lang/String" "value" "[B") .byte ∈ flatC (Jvm.Cond.and given_1 narrow_1) ∧
  Jvm.Cond.eq (.length (.field gd_sk "java/lang/String" "value" "[B")) (.int (Int32.ofNat 99)) ∈ flatC (Jvm.Cond.and given_1 narrow_1) ∧ Jvm.Cond.exactly gd_sm "java/lang/String" ∈ flatC (Jvm.Cond.and given_1 narrow_1) ∧ Jvm.Cond.eq gd_sk gd_sm ∈ flatC (Jvm.Cond.and given_1 narrow_1) := by decide +kernel
set_option maxHeartbeats 4000000 in
/-- the law from its entry, given the small machine's runs -/
theorem gd_start (hg : gd_Goal) {p : Program} {e : Env} {s : State} {m : MethodId} {below : List Frame} {meth : Method} {c : Code} (l : Launch) {b L : Nat} {xs : Nat → Int32} (hL : L ≤ 3072) (C0 : lw_At p s m meth c b L xs) : W p l e room_1 s m #[Value.ref b] below meth c s.heap [] 0 0 (lw_Z below #[Value.ref b] s) (entryFrame m ([Value.ref b] : List Value).toArray 4) := by
  obtain ⟨hx, hb, hr, hml, hown, hts, hX, hbl, hlocks, hgv⟩ := C0
  have hs := flat_of_before _ hgv
  have hA : ∀ a : Nat, a < s.heap.size → ¬ (fun q : Nat => s.heap.size ≤ q) a := fun a h => Nat.not_le.mpr h
  have htsG : ∀ w ∈ gd_G, w.before #[Value.ref b] s = true := fun w h => hts w (List.mem_filter.mp h).1
  -- classes
  have hKn : ∀ a, ∃ q : ClassId × (Nat → Nat), a < 10 → u_Kn s (gd_cn a) (gd_T a) (gd_NN a) q.1 q.2 := by
    intro a
    by_cases ha : a < 10
    · obtain ⟨cC, iS, h⟩ := u_known (C := gd_cn a) (T := gd_T a) (N := gd_NN a) htsG (gd_inT a ha) (hts _ (gd_law_i a ha))
      exact ⟨(cC, iS), fun _ => h⟩
    · exact ⟨(0, fun _ => 0), fun h => absurd h ha⟩
  obtain ⟨fD, hfD⟩ := Classical.axiomOfChoice hKn
  -- arrays
  obtain ⟨ci, hci⟩ := gd_ac .int (fun n h => by cases h) (hts _ (gd_law_t _ (by simp)))
  obtain ⟨cz, hcz⟩ := gd_ac .boolean (fun n h => by cases h) (hts _ (gd_law_t _ (by simp)))
  obtain ⟨cb, hcb⟩ := gd_ac .byte (fun n h => by cases h) (hts _ (gd_law_t _ (by simp)))
  obtain ⟨cj, hcj⟩ := gd_ac .long (fun n h => by cases h) (hts _ (gd_law_t _ (by simp)))
  obtain ⟨comp, co, ko, o1, -, o3, o4, o5⟩ := Cond.arrayOver_spec (args := #[Value.ref b]) (first := s) (o := none) (idx := []) (hts _ gd_law_o.1)
  -- the text
  obtain ⟨p1, p2, p3, p4, p5, p6, p7, p8, p9, p10⟩ := gd_law_p
  obtain ⟨adK, adV, hvS, hev⟩ := vk_Sof (args := #[Value.ref b]) (s := s) (N := 1) (tm := fun _ => gd_sk) (len := [gd_txl]) (byt := [gd_txs]) (A := fun q => s.heap.size ≤ q)
    (fun i hi => by rw [show i = 0 by omega]; decide) (fun i hi => hs _ p5) (fun i hi => hs _ p6) (fun i hi => hs _ p7) (fun i hi => by rw [show i = 0 by omega]; exact hs _ p8)
    (fun i hi j hj => by
      rw [show i = 0 by omega] at hj ⊢
      exact hs _ (gd_txel j hj)) (fun i j hi hj hij => absurd (by omega) hij) hA
  have hev0 := hev 0 (by decide)
  have hevm : gd_sm.eval #[Value.ref b] s none [] s = some (.ref (adK 0)) := by
    obtain ⟨a9, c9, cA9, kA9, q1, -⟩ := Cond.exactly_spec (args := #[Value.ref b]) (first := s) (o := none) (s := s) (idx := []) (t := gd_sm) (cls := "java/lang/String") (hs _ p9)
    rw [gd_eqr (hs _ p10) hev0 q1]
    exact q1
  -- statics
  have hz4 := va_Zof (A := fun q => s.heap.size ≤ q) (hts _ gd_law_s.1.1) (hts _ gd_law_s.1.2) (va_eqt (hs _ p1)) hA
  obtain ⟨v5, n5, hz5⟩ := gd_zr (va_Zqof (A := fun q => s.heap.size ≤ q) (hts _ gd_law_s.2.1.1) (hts _ gd_law_s.2.1.2) (hs _ p2) hA)
  obtain ⟨v6, n6, hz6⟩ := gd_zr (va_Zqof (A := fun q => s.heap.size ≤ q) (hts _ gd_law_s.2.2.1) (hts _ gd_law_s.2.2.2.2) (hs _ p3) hA)
  obtain ⟨v7, n7, hz7⟩ := gd_zr (va_Zqof (A := fun q => s.heap.size ≤ q) (hts _ gd_law_s.2.2.2.1) (hts _ gd_law_s.2.2.2.2) (hs _ p4) hA)
  obtain ⟨Z, hZ⟩ : ∃ Z : gd_Zt, Z = (s.heap.size, (fun a => (fD a).1, fun a => (fD a).2), (fun k => if k = 10 then ci else if k = 11 then cz else if k = 12 then cb else if k = 13 then cj else co), (adK 0, adV 0, b), (fun i => if i = 5 then v5 else if i = 6 then v6 else if i = 7 then v7 else .null), L, xs) := ⟨_, rfl⟩
  have hE : gd_EV Z s s.heap := by
    subst hZ
    refine ⟨⟨fun k q hq => ?_, fun k h1 h2 => ?_, fun q hq => va_Nw.of rfl (hts _ (gd_law_ne q hq)), va_AO.of (hts _ gd_law_o.1), va_Nw.of rfl (hts _ gd_law_o.2.1), vk_R.of (hts _ gd_law_o.2.2.1) hev0, vk_R.of (hts _ gd_law_o.2.2.2) hevm, fun i => ?_⟩, ⟨?_, hz4, hz5, hz6, hz7, hX, hbl, ?_⟩, Nat.le_refl _⟩
    · have hk : k < 10 := by
        have h9 := (List.getElem?_eq_some_iff.mp hq).1
        exact h9
      have h9 := gd_clat k hk
      rw [hq] at h9
      cases h9
      exact hfD k hk
    · have h3 : k = 10 ∨ k = 11 ∨ k = 12 ∨ k = 13 ∨ k = 14 := by omega
      rcases h3 with rfl | rfl | rfl | rfl | rfl
      · exact hci
      · exact hcz
      · exact hcb
      · exact hcj
      · exact ⟨fun n z => ⟨(fun k h => by cases h), ko, o3, comp, o4⟩, ko, comp, o3, o4, o1, o5⟩
    · show (if i = 5 then v5 else if i = 6 then v6 else if i = 7 then v7 else Value.null) = .null ∨ ∃ t, (if i = 5 then v5 else if i = 6 then v6 else if i = 7 then v7 else Value.null) = .ref t
      by_cases h5 : i = 5
      · rw [if_pos h5]; exact n5
      · rw [if_neg h5]
        by_cases h6 : i = 6
        · rw [if_pos h6]; exact n6
        · rw [if_neg h6]
          by_cases h7 : i = 7
          · rw [if_pos h7]; exact n7
          · rw [if_neg h7]; exact Or.inl rfl
    · refine ⟨fun i hi => ?_, fun i j hi hj _ => by omega⟩
      have h9 := hvS.1 0 (by decide)
      rw [show i = 0 by omega]
      exact h9
    · show L < 2 ^ 31
      exact Nat.lt_of_le_of_lt hL (by decide)
  have hbs : gz_bs Z = s.heap.size := by rw [hZ]
  have hH : gd_HR Z (gd_m0 L xs) s.heap := by
    refine ⟨Nat.le_refl 8, by rw [hbs]; rfl, fun n hn => absurd hn (by show ¬ n + 8 < 8; omega), fun id hid j => ?_, by rw [hZ]; rfl, fun j => by rw [hZ]; show (if (3 : Nat) = 3 then xs j else 0) = xs j; exact if_pos rfl⟩
    have hid : 8 ≤ id := hid
    exact ⟨if_neg (by omega), rfl, rfl⟩
  have F : gd_FF Z gd_mLaw p room_1 s m #[Value.ref b] meth c :=
    ⟨hx, hb.trans gd_law_b.symm, hml.trans gd_law_m.symm, hr.trans gd_law_r.symm, by rw [gd_law_c]; exact hown, htsG, hlocks, fun q => absurd q gd_law_n, hE, gd_law_f.1, gd_law_f.2, fun h => absurd h (by decide)⟩
  obtain ⟨m', hden, hn1, hn2⟩ := hg L xs hL
  obtain ⟨n, hrun⟩ := gd_Den_ex hden
  have hl := lv_entry ([.ref b]) (n := 4) (Nat.le_of_ble_eq_true rfl)
  rw [lg_entry_eq]
  generalize (lg_sl ([.ref b]) ++ List.replicate (4 - (lg_sl ([.ref b])).length) Slot.unset).toArray = ls0 at hl ⊢
  have hl : lv_has ls0 (gr_ml (gd_rc gd_mLaw)) (lv_args 0 ([.ref 3].map (gd_cv Z))) := by
    rw [gd_law_m]
    have h3 : gd_cv Z (.ref 3) = .ref b := by rw [hZ]; rfl
    rw [List.map_cons, h3]
    exact hl
  have hLR := gd_LR_ent hE.1 gd_law_a hl
  refine (gd_sim l Z n _ _ _ _ _ _ _ hrun).2 p e room_1 s m #[Value.ref b] below meth c F (lw_Z below #[Value.ref b] s) (gN m' - 8) (gU m' - 0) (Nat.le_trans (Nat.sub_le _ _) (Nat.le_trans hn1 (by decide))) (Nat.le_trans (Nat.sub_le _ _) (Nat.le_trans hn2 (by decide))) ?_ (fun h => by obtain ⟨x, h⟩ := h; cases h) s.heap _ [] 0 0 hH hLR va_S.rf (Nat.zero_add _) (Nat.zero_add _)
  intro pc ls st H locs hR hH1 hS1
  rcases hR with ⟨hd, x, rfl, hv, hf⟩ | ⟨-, x, -, hv, -⟩ | ⟨-, x, -, hv, -⟩ | ⟨-, -, hv, -⟩
  · cases hv
    rw [gd_law_b] at hd
    refine va_forget (fun q hq => by have h9 : gz_bs Z ≤ q.base := hS1.2.2 q hq; rw [hbs] at h9; exact h9) ?_
    refine W.widen (k := 601024) (n := 7293033) (Nat.le_trans (Nat.sub_le _ _) (Nat.le_trans hn1 (by decide))) (Nat.le_trans (Nat.sub_le _ _) (Nat.le_trans hn2 (by decide))) ?_
    exact lw_ret hx hb hr hlocks hd
  · cases hv
  · cases hv
  · cases hv
