theorem gd_nf {ty : FieldType} {cc : Nat} {v : Int32} (h : cc = gd_tc ty) (hc : cc = 0 ∨ (cc = 1 ∧ gd_bo v = true)) : narrow ty (.int v) = .int v ∧ fits ty (.int v) = true := by
  rcases hc with rfl | ⟨rfl, hb⟩
  · cases ty <;> first | exact ⟨rfl, rfl⟩ | (exact absurd h (by decide)) | (simp [gd_tc] at h)
  · have hv : v = 0 ∨ v = 1 := by
      unfold gd_bo at hb
      rw [Bool.or_eq_true] at hb
      rcases hb with hb | hb
      · exact Or.inl (of_decide_eq_true hb)
      · exact Or.inr (of_decide_eq_true hb)
    cases ty <;> first | (rcases hv with rfl | rfl <;> exact ⟨by decide, by decide⟩) | (simp [gd_tc] at h)
theorem gd_nfr {ty : FieldType} {v : Value} (h : gd_tc ty = 4) (hv : v = .null ∨ ∃ t, v = .ref t) : narrow ty v = v ∧ fits ty v = true := by
  cases ty <;> first | (rcases hv with rfl | ⟨t, rfl⟩ <;> exact ⟨rfl, rfl⟩) | (simp [gd_tc] at h)
theorem gd_nfl {ty : FieldType} {v : Int64} (h : gd_tc ty = 3) : narrow ty (.long v) = .long v ∧ fits ty (.long v) = true := by
  cases ty <;> first | exact ⟨rfl, rfl⟩ | (simp [gd_tc] at h)
theorem gd_bf {a b : Nat} (h : a ≠ b) : Nat.beq a b = false := by
  cases hb : Nat.beq a b with
  | true => exact absurd (Nat.eq_of_beq_eq_true hb) h
  | false => rfl
theorem gd_nth_mem : ∀ {α : Type} (l : List α) (n : Nat) (d : α), gd_nth l n d ∈ l ∨ gd_nth l n d = d
  | _, [], _, _ => Or.inr rfl
  | _, _ :: _, 0, _ => Or.inl List.mem_cons_self
  | _, _ :: l, n + 1, d => (gd_nth_mem l n d).elim (fun h => Or.inl (List.mem_cons_of_mem _ h)) Or.inr
theorem gd_txv (j : Nat) : Value.int (([gd_txs].getD 0 []).getD j 0) = .int (gd_tx j) := by
  show Value.int (gd_txs.getD j 0) = .int (gd_nth gd_txs j 0)
  have h : ∀ (l : List Int32) (j : Nat), l.getD j 0 = gd_nth l j 0 := by
    intro l
    induction l with
    | nil => intro j; rfl
    | cons x l ih =>
      intro j
      cases j with
      | zero => rfl
      | succ j => exact ih j
  rw [h]
section GDT
variable {p : Program} {l : Launch} {e : Env} {R : Room} {s : State} {mI : MethodId} {args : Array Value} {below : List Frame} {meth : Method} {c : Code} {H : Heap} {locs : List Loc} {cells slots : Nat} {Q : State → Prop}
variable {Z : gd_Zt} {M : Nat} {loc st : List Value} {m : gd_M} {ls : Array Slot} {pc len w a b cc : Nat} {z : Int} {d : gd_F}
theorem gd_s_ldc {k : Nat} (F : gd_FF Z M p R s mI args meth c) (hH : gd_HR Z m H) (hL : gd_LR Z M loc ls) (hS : va_S (gz_A Z) s.heap H locs) (ho : gd_okE (gd_rc M) (pc, .ldc k, len, w, a, b, cc, z) = true) (hs : gd_step M (pc, .ldc k, len, w, a, b, cc, z) loc st m = gd_go d) (kk : gd_KK p l e R s mI args below meth c cells slots Q Z M m d) : d.1 = M ∧ W p l e R s mI args below meth c H locs cells slots Q (F0 mI pc ls (st.map (gd_cv Z))) := by
  obtain ⟨hx, hb, hml, hr, hown, hts, hlk, hnm, hE, hfr, hlo, htb1⟩ := F
  unfold gd_step at hs
  dsimp only at hs
  have ho : (decide (decode (gr_b (gd_rc M)) pc = .ok (.ldc k, len)) && _) = true := ho
  obtain ⟨hd, ho2⟩ := gd_and3 ho
  have ho2 : (Nat.beq len 2 && (bif Nat.beq cc 0 then gd_wd w (.constant (gd_cn (gr_cls (gd_rc M))) k (Int32.ofInt z)) else (Nat.beq (gr_cls (gd_rc M)) 5 && Nat.beq k 15) || (Nat.beq (gr_cls (gd_rc M)) 9 && Nat.beq k 126))) = true := ho2
  obtain ⟨h3, ho3⟩ := gd_andb ho2
  obtain rfl := Nat.eq_of_beq_eq_true h3
  cases hc : Nat.beq cc 0 with
  | true =>
    rw [hc] at hs ho3
    obtain rfl := gd_go_inj hs
    exact ⟨rfl, lv_ldc hx hb hown (hts _ (gd_G_mem ho3 rfl)) hd (gd_wz (kk _ _ _ hH hL hS))⟩
  | false =>
    rw [hc] at hs ho3
    obtain rfl := gd_go_inj hs
    refine ⟨rfl, ?_⟩
    have ho3 : ((Nat.beq (gr_cls (gd_rc M)) 5 && Nat.beq k 15) || (Nat.beq (gr_cls (gd_rc M)) 9 && Nat.beq k 126)) = true := ho3
    rw [Bool.or_eq_true] at ho3
    rcases ho3 with h5 | h5
    · obtain ⟨h5, h6⟩ := gd_andb h5
      rw [Nat.eq_of_beq_eq_true h5] at hown
      obtain rfl := Nat.eq_of_beq_eq_true h6
      exact va_ldcS hx hb hown hE.1.2.2.2.2.2.1 hd (gd_wz (kk _ _ _ hH hL hS))
    · obtain ⟨h5, h6⟩ := gd_andb h5
      rw [Nat.eq_of_beq_eq_true h5] at hown
      obtain rfl := Nat.eq_of_beq_eq_true h6
      exact va_ldcS hx hb hown hE.1.2.2.2.2.2.2.1 hd (gd_wz (kk _ _ _ hH hL hS))
theorem gd_s_ldc_w {k : Nat} (F : gd_FF Z M p R s mI args meth c) (hH : gd_HR Z m H) (hL : gd_LR Z M loc ls) (hS : va_S (gz_A Z) s.heap H locs) (ho : gd_okE (gd_rc M) (pc, .ldc_w k, len, w, a, b, cc, z) = true) (hs : gd_step M (pc, .ldc_w k, len, w, a, b, cc, z) loc st m = gd_go d) (kk : gd_KK p l e R s mI args below meth c cells slots Q Z M m d) : d.1 = M ∧ W p l e R s mI args below meth c H locs cells slots Q (F0 mI pc ls (st.map (gd_cv Z))) := by
  obtain ⟨hx, hb, hml, hr, hown, hts, hlk, hnm, hE, hfr, hlo, htb1⟩ := F
  unfold gd_step at hs
  dsimp only at hs
  have ho : (decide (decode (gr_b (gd_rc M)) pc = .ok (.ldc_w k, len)) && _) = true := ho
  obtain ⟨hd, ho2⟩ := gd_and3 ho
  have ho2 : (Nat.beq len 3 && (bif Nat.beq cc 0 then gd_wd w (.constant (gd_cn (gr_cls (gd_rc M))) k (Int32.ofInt z)) else true)) = true := ho2
  obtain ⟨h3, ho3⟩ := gd_andb ho2
  obtain rfl := Nat.eq_of_beq_eq_true h3
  cases hc : Nat.beq cc 0 with
  | true =>
    rw [hc] at hs ho3
    obtain rfl := gd_go_inj hs
    exact ⟨rfl, lv_ldcw hx hb hown (hts _ (gd_G_mem ho3 rfl)) hd (gd_wz (kk _ _ _ hH hL hS))⟩
  | false =>
    rw [hc] at hs
    cases hs
theorem gd_s_ldc2_w {k : Nat} (F : gd_FF Z M p R s mI args meth c) (hH : gd_HR Z m H) (hL : gd_LR Z M loc ls) (hS : va_S (gz_A Z) s.heap H locs) (ho : gd_okE (gd_rc M) (pc, .ldc2_w k, len, w, a, b, cc, z) = true) (hs : gd_step M (pc, .ldc2_w k, len, w, a, b, cc, z) loc st m = gd_go d) (kk : gd_KK p l e R s mI args below meth c cells slots Q Z M m d) : d.1 = M ∧ W p l e R s mI args below meth c H locs cells slots Q (F0 mI pc ls (st.map (gd_cv Z))) := by
  obtain ⟨hx, hb, hml, hr, hown, hts, hlk, hnm, hE, hfr, hlo, htb1⟩ := F
  unfold gd_step at hs
  dsimp only at hs
  have ho : (decide (decode (gr_b (gd_rc M)) pc = .ok (.ldc2_w k, len)) && _) = true := ho
  obtain ⟨hd, ho2⟩ := gd_and3 ho
  have ho2 : (Nat.beq len 3 && gd_wd w (.constantLong (gd_cn (gr_cls (gd_rc M))) k (Int64.ofInt z))) = true := ho2
  obtain ⟨h3, ho3⟩ := gd_andb ho2
  obtain rfl := Nat.eq_of_beq_eq_true h3
  obtain rfl := gd_go_inj hs
  exact ⟨rfl, lv_ldc2 hx hb hown (hts _ (gd_G_mem ho3 rfl)) hd (gd_wz (kk _ _ _ hH hL hS))⟩
theorem gd_s_getstatic {k : Nat} (F : gd_FF Z M p R s mI args meth c) (hH : gd_HR Z m H) (hL : gd_LR Z M loc ls) (hS : va_S (gz_A Z) s.heap H locs) (ho : gd_okE (gd_rc M) (pc, .getstatic k, len, w, a, b, cc, z) = true) (hs : gd_step M (pc, .getstatic k, len, w, a, b, cc, z) loc st m = gd_go d) (kk : gd_KK p l e R s mI args below meth c cells slots Q Z M m d) : d.1 = M ∧ W p l e R s mI args below meth c H locs cells slots Q (F0 mI pc ls (st.map (gd_cv Z))) := by
  obtain ⟨hx, hb, hml, hr, hown, hts, hlk, hnm, hE, hfr, hlo, htb1⟩ := F
  unfold gd_step at hs
  dsimp only at hs
  have ho : (decide (decode (gr_b (gd_rc M)) pc = .ok (.getstatic k, len)) && _) = true := ho
  obtain ⟨hd, ho2⟩ := gd_and3 ho
  have ho2 : (Nat.beq len 3 && (bif Nat.beq a 4 then gd_wd w (.fieldLink (gd_cn (gr_cls (gd_rc M))) k "java/lang/String" "COMPACT_STRINGS" "Z") else bif Nat.beq a 5 then gd_wd w (.fieldLink (gd_cn (gr_cls (gd_rc M))) k "jdk/internal/util/Preconditions" "SIOOBE_FORMATTER" "Ljava/util/function/BiFunction;") else bif Nat.beq a 6 then gd_wd w (.fieldLink (gd_cn (gr_cls (gd_rc M))) k "java/lang/Throwable" "UNASSIGNED_STACK" "[Ljava/lang/StackTraceElement;") else Nat.beq a 7 && gd_wd w (.fieldLink (gd_cn (gr_cls (gd_rc M))) k "java/lang/Throwable" "SUPPRESSED_SENTINEL" "Ljava/util/List;"))) = true := ho2
  obtain ⟨h3, ho3⟩ := gd_andb ho2
  obtain rfl := Nat.eq_of_beq_eq_true h3
  obtain ⟨-, hE2, hbs⟩ := hE
  cases h4 : Nat.beq a 4 with
  | true =>
    rw [h4] at hs ho3
    obtain rfl := gd_go_inj hs
    exact ⟨rfl, va_gets hx hb hE2.2.1 hS hown (hts _ (gd_G_mem ho3 rfl)) (fun _ h => h) hd (gd_wz (kk _ _ _ hH hL hS))⟩
  | false =>
    rw [h4] at hs ho3
    obtain rfl := gd_go_inj hs
    refine ⟨rfl, ?_⟩
    have kz := gd_wz (kk _ _ _ hH hL hS)
    cases h5 : Nat.beq a 5 with
    | true =>
      have ho3 : (bif Nat.beq a 5 then _ else _) = true := ho3
      rw [h5] at ho3
      obtain rfl := Nat.eq_of_beq_eq_true h5
      exact va_gets hx hb hE2.2.2.1 hS hown (hts _ (gd_G_mem ho3 rfl)) (fun _ h => h) hd kz
    | false =>
      have ho3 : (bif Nat.beq a 5 then _ else _) = true := ho3
      rw [h5] at ho3
      cases h6 : Nat.beq a 6 with
      | true =>
        have ho3 : (bif Nat.beq a 6 then _ else _) = true := ho3
        rw [h6] at ho3
        obtain rfl := Nat.eq_of_beq_eq_true h6
        exact va_gets hx hb hE2.2.2.2.1 hS hown (hts _ (gd_G_mem ho3 rfl)) (fun _ h => h) hd kz
      | false =>
        have ho3 : (bif Nat.beq a 6 then _ else _) = true := ho3
        rw [h6] at ho3
        obtain ⟨h7, ho4⟩ := gd_andb ho3
        obtain rfl := Nat.eq_of_beq_eq_true h7
        exact va_gets hx hb hE2.2.2.2.2.1 hS hown (hts _ (gd_G_mem ho4 rfl)) (fun _ h => h) hd kz
theorem gd_s_getfield {k : Nat} (F : gd_FF Z M p R s mI args meth c) (hH : gd_HR Z m H) (hL : gd_LR Z M loc ls) (hS : va_S (gz_A Z) s.heap H locs) (ho : gd_okE (gd_rc M) (pc, .getfield k, len, w, a, b, cc, z) = true) (hs : gd_step M (pc, .getfield k, len, w, a, b, cc, z) loc st m = gd_go d) (kk : gd_KK p l e R s mI args below meth c cells slots Q Z M m d) : d.1 = M ∧ W p l e R s mI args below meth c H locs cells slots Q (F0 mI pc ls (st.map (gd_cv Z))) := by
  obtain ⟨hx, hb, hml, hr, hown, hts, hlk, hnm, hE, hfr, hlo, htb1⟩ := F
  unfold gd_step at hs
  dsimp only at hs
  have ho : (decide (decode (gr_b (gd_rc M)) pc = .ok (.getfield k, len)) && _) = true := ho
  obtain ⟨hd, ho2⟩ := gd_and3 ho
  have ho2 : (Nat.beq len 3 && (bif Nat.beq a 11 then (bif Nat.beq b 0 then gd_wd w (.fieldLink (gd_cn (gr_cls (gd_rc M))) k "java/lang/String" "value" "[B") else gd_wd w (.fieldLink (gd_cn (gr_cls (gd_rc M))) k "java/lang/String" "coder" "B")) else Nat.blt a 10 && Nat.blt b (gd_NN a) && gd_wd w (.fieldLink (gd_cn (gr_cls (gd_rc M))) k (gd_T a b).1 (gd_T a b).2.1 (gd_T a b).2.2.1) && Nat.beq cc (gd_tc (gd_ty a b)))) = true := ho2
  obtain ⟨h3, ho3⟩ := gd_andb ho2
  obtain rfl := Nat.eq_of_beq_eq_true h3
  split at hs
  · next x r =>
    cases h11 : Nat.beq a 11 with
    | true =>
      rw [h11] at hs ho3
      have hs : (bif Nat.beq x 1 then (bif Nat.beq b 0 then _ else _) else _) = gd_go d := hs
      have ho3 : (bif Nat.beq b 0 then _ else _) = true := ho3
      cases hx1 : Nat.beq x 1 with
      | false => rw [hx1] at hs; cases hs
      | true =>
        rw [hx1] at hs
        obtain rfl := Nat.eq_of_beq_eq_true hx1
        have hs : (bif Nat.beq b 0 then _ else _) = gd_go d := hs
        have hvs := (hE.2.1.1.1 0 (by decide))
        cases hb0 : Nat.beq b 0 with
        | true =>
          rw [hb0] at hs ho3
          obtain rfl := gd_go_inj hs
          exact ⟨rfl, vk_getf hx hb hvs.2.2.1 hS hown (hts _ (gd_G_mem ho3 rfl)) (fun _ h => h) hd (gd_wz (kk _ _ _ hH hL hS))⟩
        | false =>
          rw [hb0] at hs ho3
          obtain rfl := gd_go_inj hs
          exact ⟨rfl, vk_getf hx hb hvs.2.1 hS hown (hts _ (gd_G_mem ho3 rfl)) (fun _ h => h) hd (gd_wz (kk _ _ _ hH hL hS))⟩
    | false =>
      rw [h11] at hs ho3
      have hs : gd_br (gd_ok (gN m) x a) _ _ = gd_go d := hs
      have ho3 : (Nat.blt a 10 && Nat.blt b (gd_NN a) && gd_wd w (.fieldLink (gd_cn (gr_cls (gd_rc M))) k (gd_T a b).1 (gd_T a b).2.1 (gd_T a b).2.2.1) && Nat.beq cc (gd_tc (gd_ty a b))) = true := ho3
      cases hok : gd_ok (gN m) x a with
      | false => rw [hok] at hs; cases hs
      | true =>
        rw [hok] at hs
        obtain rfl := gd_go_inj hs
        refine ⟨rfl, ?_⟩
        have hok2 := gd_ok_of hok
        obtain ⟨ho4, htc⟩ := gd_andb ho3
        obtain ⟨ho5, hw⟩ := gd_andb ho4
        obtain ⟨ha, hk⟩ := gd_andb ho5
        have ha : a < 10 := Nat.le_of_ble_eq_true ha
        have hk : b < gd_NN a := Nat.le_of_ble_eq_true hk
        have htc := Nat.eq_of_beq_eq_true htc
        have h8 : 8 ≤ x := gd_KD_8 hok2.1 (by omega)
        have hcell := hH.at h8 hok2.2
        have hen : gd_en Z m x = .inr (a, gd_fs Z m x) := by
          unfold gd_en
          rw [hok2.1, if_pos ha]
        rw [hen] at hcell
        have hv : (gd_fs Z m x)[b]? = some (gd_fv Z m x b) := gd_fs_get (by rw [hok2.1]; exact hk)
        rw [List.map_cons, show gd_cv Z (.ref x) = gd_adr Z x from rfl, gd_adr_8 h8]
        refine va_get (D := gz_D Z) (ci := a) (C := gd_cn a) (T := gd_T a) (N := gd_NN a) hx hb hts (gd_inT a ha) hown hE.1.K (gd_one hcell) 0 rfl (gd_clat a ha) b hk (hts _ (gd_G_mem hw rfl)) (fun _ h => h) hv hd ?_
        have kz := gd_wz (kk _ _ _ hH hL hS)
        have he : gd_cv Z (bif Nat.beq cc 3 then .long (gJ m x b) else bif Nat.beq cc 4 then .ref (gR m x b) else .int (gI m x b)) = gd_fv Z m x b := by
          unfold gd_fv
          rw [hok2.1, ← htc]
          by_cases c3 : cc = 3
          · subst c3; rfl
          · by_cases c4 : cc = 4
            · subst c4; rfl
            · rw [if_neg c3, if_neg c4, gd_bf c3, gd_bf c4]
              rfl
        rw [List.map_cons, he] at kz
        exact kz
  · cases hs
theorem gd_s_putfield {k : Nat} (F : gd_FF Z M p R s mI args meth c) (hH : gd_HR Z m H) (hL : gd_LR Z M loc ls) (hS : va_S (gz_A Z) s.heap H locs) (ho : gd_okE (gd_rc M) (pc, .putfield k, len, w, a, b, cc, z) = true) (hs : gd_step M (pc, .putfield k, len, w, a, b, cc, z) loc st m = gd_go d) (kk : gd_KK p l e R s mI args below meth c cells slots Q Z M m d) : d.1 = M ∧ W p l e R s mI args below meth c H locs cells slots Q (F0 mI pc ls (st.map (gd_cv Z))) := by
  obtain ⟨hx, hb, hml, hr, hown, hts, hlk, hnm, hE, hfr, hlo, htb1⟩ := F
  unfold gd_step at hs
  dsimp only at hs
  have ho : (decide (decode (gr_b (gd_rc M)) pc = .ok (.putfield k, len)) && _) = true := ho
  obtain ⟨hd, ho2⟩ := gd_and3 ho
  have ho2 : (Nat.beq len 3 && Nat.blt a 10 && Nat.blt b (gd_NN a) && gd_wd w (.fieldLink (gd_cn (gr_cls (gd_rc M))) k (gd_T a b).1 (gd_T a b).2.1 (gd_T a b).2.2.1) && Nat.beq cc (gd_tc (gd_ty a b)) && (bif (gd_T a b).2.2.2 then decide ((gr_y (gd_rc M)).name = "<init>") && decide ((gd_T a b).1 = (gd_cn (gr_cls (gd_rc M)))) else true)) = true := ho2
  obtain ⟨ho3, hfi⟩ := gd_andb ho2
  obtain ⟨ho4, htc⟩ := gd_andb ho3
  obtain ⟨ho5, hw⟩ := gd_andb ho4
  obtain ⟨ho6, hk⟩ := gd_andb ho5
  obtain ⟨h3, ha⟩ := gd_andb ho6
  obtain rfl := Nat.eq_of_beq_eq_true h3
  have ha : a < 10 := Nat.le_of_ble_eq_true ha
  have hk : b < gd_NN a := Nat.le_of_ble_eq_true hk
  have htc := Nat.eq_of_beq_eq_true htc
  have hfin : (gd_T a b).2.2.2 = true → meth.name = "<init>" ∧ (gd_T a b).1 = gd_cn (gr_cls (gd_rc M)) := by
    intro hf
    rw [hf] at hfi
    obtain ⟨q1, q2⟩ := gd_andb hfi
    exact ⟨hnm (of_decide_eq_true q1), of_decide_eq_true q2⟩
  split at hs
  · next v x r =>
    cases hc3 : Nat.blt cc 3 with
    | false => rw [hc3] at hs; cases hs
    | true =>
      rw [hc3] at hs
      have hs : gd_br (gd_ok (gN m) x a && gd_fitP cc v) _ _ = gd_go d := hs
      cases hok : (gd_ok (gN m) x a && gd_fitP cc v) with
      | false => rw [hok] at hs; cases hs
      | true =>
        rw [hok] at hs
        obtain rfl := gd_go_inj hs
        refine ⟨rfl, ?_⟩
        obtain ⟨hok1, hfit⟩ := gd_andb hok
        have hok2 := gd_ok_of hok1
        have h8 : 8 ≤ x := gd_KD_8 hok2.1 (by omega)
        have hcc : cc = 0 ∨ (cc = 1 ∧ gd_bo v = true) := by
          unfold gd_fitP at hfit
          cases h0 : Nat.beq cc 0 with
          | true => exact Or.inl (Nat.eq_of_beq_eq_true h0)
          | false =>
            rw [h0] at hfit
            have hfit : (bif Nat.beq cc 1 then gd_bo v else false) = true := hfit
            cases h1 : Nat.beq cc 1 with
            | true => rw [h1] at hfit; exact Or.inr ⟨Nat.eq_of_beq_eq_true h1, hfit⟩
            | false => rw [h1] at hfit; cases hfit
        have hnf : narrow (gd_ty a b) (.int v) = .int v ∧ fits (gd_ty a b) (.int v) = true := gd_nf htc hcc
        rw [List.map_cons, List.map_cons, show gd_cv Z (.ref x) = gd_adr Z x from rfl, gd_adr_8 h8]
        refine gd_put hx hb hts hown hE.1 hH hS hok2 ha hk (hts _ (gd_G_mem hw rfl)) hfin hnf.1 hnf.2 hd fun H1 locs1 z1 o1 at1 S1 => ?_
        refine gd_wz (kk H1 _ _ (gd_HR_upd hH h8 hok2.2 rfl rfl (gd_sameI m x b v) z1 o1 ?_) hL S1)
        have hen : gd_en Z (wI m x b v) x = .inr (a, gd_fs Z (wI m x b v) x) := by
          unfold gd_en
          rw [hok2.1, if_pos ha]
        rw [hen, ← gd_fs_set (m := m) (k := b) (v := .int v) (by rw [hok2.1]; exact hk) ?_ ?_]
        · exact at1
        · unfold gd_fv
          rw [hok2.1, ← htc, if_neg (by rcases hcc with h | h <;> omega), if_neg (by rcases hcc with h | h <;> omega)]
          show Value.int (gd_up _ _ _ _ x b) = _
          rw [gd_ups, if_pos rfl]
        · intro j hj
          unfold gd_fv
          rw [show gI (wI m x b v) x j = gI m x j from by show gd_up _ _ _ _ x j = _; rw [gd_ups, if_neg hj]; rfl]
          rfl
  · next v x r =>
    cases hc3 : Nat.beq cc 4 with
    | false => rw [hc3] at hs; cases hs
    | true =>
      rw [hc3] at hs
      have hs : gd_br (gd_ok (gN m) x a) _ _ = gd_go d := hs
      cases hok1 : gd_ok (gN m) x a with
      | false => rw [hok1] at hs; cases hs
      | true =>
        rw [hok1] at hs
        obtain rfl := gd_go_inj hs
        refine ⟨rfl, ?_⟩
        have hok2 := gd_ok_of hok1
        have h8 : 8 ≤ x := gd_KD_8 hok2.1 (by omega)
        have hcc := Nat.eq_of_beq_eq_true hc3
        have hnf : narrow (gd_ty a b) (gd_adr Z v) = gd_adr Z v ∧ fits (gd_ty a b) (gd_adr Z v) = true := gd_nfr (htc.symm.trans hcc) (gd_adr_nr hE.1 v)
        rw [List.map_cons, List.map_cons, show gd_cv Z (.ref x) = gd_adr Z x from rfl, gd_adr_8 h8]
        refine gd_put (v := gd_adr Z v) hx hb hts hown hE.1 hH hS hok2 ha hk (hts _ (gd_G_mem hw rfl)) hfin hnf.1 hnf.2 hd fun H1 locs1 z1 o1 at1 S1 => ?_
        refine gd_wz (kk H1 _ _ (gd_HR_upd hH h8 hok2.2 rfl rfl (gd_sameR m x b v) z1 o1 ?_) hL S1)
        have hen : gd_en Z (wR m x b v) x = .inr (a, gd_fs Z (wR m x b v) x) := by
          unfold gd_en
          rw [hok2.1, if_pos ha]
        rw [hen, ← gd_fs_set (m := m) (k := b) (v := gd_adr Z v) (by rw [hok2.1]; exact hk) ?_ ?_]
        · exact at1
        · unfold gd_fv
          rw [hok2.1, ← htc, if_neg (by omega), if_pos hcc]
          show gd_adr Z (gd_up _ _ _ _ x b) = _
          rw [gd_ups, if_pos rfl]
        · intro j hj
          unfold gd_fv
          rw [show gR (wR m x b v) x j = gR m x j from by show gd_up _ _ _ _ x j = _; rw [gd_ups, if_neg hj]; rfl]
          rfl
  · next v x r =>
    cases hc3 : Nat.beq cc 3 with
    | false => rw [hc3] at hs; cases hs
    | true =>
      rw [hc3] at hs
      have hs : gd_br (gd_ok (gN m) x a) _ _ = gd_go d := hs
      cases hok1 : gd_ok (gN m) x a with
      | false => rw [hok1] at hs; cases hs
      | true =>
        rw [hok1] at hs
        obtain rfl := gd_go_inj hs
        refine ⟨rfl, ?_⟩
        have hok2 := gd_ok_of hok1
        have h8 : 8 ≤ x := gd_KD_8 hok2.1 (by omega)
        have hcc := Nat.eq_of_beq_eq_true hc3
        have hnf : narrow (gd_ty a b) (.long v) = .long v ∧ fits (gd_ty a b) (.long v) = true := gd_nfl (htc.symm.trans hcc)
        rw [List.map_cons, List.map_cons, show gd_cv Z (.ref x) = gd_adr Z x from rfl, gd_adr_8 h8]
        refine gd_put (v := .long v) hx hb hts hown hE.1 hH hS hok2 ha hk (hts _ (gd_G_mem hw rfl)) hfin hnf.1 hnf.2 hd fun H1 locs1 z1 o1 at1 S1 => ?_
        refine gd_wz (kk H1 _ _ (gd_HR_upd hH h8 hok2.2 rfl rfl (gd_sameJ m x b v) z1 o1 ?_) hL S1)
        have hen : gd_en Z (wJ m x b v) x = .inr (a, gd_fs Z (wJ m x b v) x) := by
          unfold gd_en
          rw [hok2.1, if_pos ha]
        rw [hen, ← gd_fs_set (m := m) (k := b) (v := .long v) (by rw [hok2.1]; exact hk) ?_ ?_]
        · exact at1
        · unfold gd_fv
          rw [hok2.1, ← htc, if_pos hcc]
          show Value.long (gd_up _ _ _ _ x b) = _
          rw [gd_ups, if_pos rfl]
        · intro j hj
          unfold gd_fv
          rw [show gJ (wJ m x b v) x j = gJ m x j from by show gd_up _ _ _ _ x j = _; rw [gd_ups, if_neg hj]; rfl]
          rfl
  · cases hs
theorem gd_s_iaload  (F : gd_FF Z M p R s mI args meth c) (hH : gd_HR Z m H) (hL : gd_LR Z M loc ls) (hS : va_S (gz_A Z) s.heap H locs) (ho : gd_okE (gd_rc M) (pc, .iaload, len, w, a, b, cc, z) = true) (hs : gd_step M (pc, .iaload, len, w, a, b, cc, z) loc st m = gd_go d) (kk : gd_KK p l e R s mI args below meth c cells slots Q Z M m d) : d.1 = M ∧ W p l e R s mI args below meth c H locs cells slots Q (F0 mI pc ls (st.map (gd_cv Z))) := by
  obtain ⟨hx, hb, hml, hr, hown, hts, hlk, hnm, hE, hfr, hlo, htb1⟩ := F
  unfold gd_step at hs
  dsimp only at hs
  have ho : (decide (decode (gr_b (gd_rc M)) pc = .ok (.iaload, len)) && Nat.beq len 1) = true := ho
  obtain ⟨hd, rfl⟩ := gd_and2 ho
  split at hs
  · next i x r =>
    cases h10 : Nat.beq (gr_cls (gd_rc M)) 10 with
    | true =>
      rw [h10] at hs
      have hs : (bif Nat.beq x 3 then gd_br (gd_in i (gL m)) _ _ else _) = gd_go d := hs
      cases h3 : Nat.beq x 3 with
      | false => rw [h3] at hs; cases hs
      | true =>
        rw [h3] at hs
        obtain rfl := Nat.eq_of_beq_eq_true h3
        have hs : gd_br (gd_in i (gL m)) _ _ = gd_go d := hs
        cases hin : gd_in i (gL m) with
        | false => rw [hin] at hs; cases hs
        | true =>
          rw [hin] at hs
          obtain rfl := gd_go_inj hs
          refine ⟨rfl, ?_⟩
          have hin2 := gd_in_of hin
          rw [hH.2.2.2.2.1] at hin2
          obtain ⟨hE1, hE2, hbs⟩ := hE
          obtain ⟨-, -, -, -, -, hX, hbl, -⟩ := hE2
          have kz := gd_wz (kk _ _ _ hH hL hS)
          rw [List.map_cons, show gd_cv Z (.int (gI m 3 i.toNatClampNeg)) = .int (gI m 3 i.toNatClampNeg) from rfl, hH.2.2.2.2.2] at kz
          exact va_sld hx hb hX (Nat.lt_of_lt_of_le hbl hbs) (Nat.not_le.mpr hbl) hS hin2 hd kz
    | false =>
      rw [h10] at hs
      have hs : gd_br (gd_okA (gN m) x 10 i) _ _ = gd_go d := hs
      cases hok : gd_okA (gN m) x 10 i with
      | false => rw [hok] at hs; cases hs
      | true =>
        rw [hok] at hs
        obtain rfl := gd_go_inj hs
        refine ⟨rfl, ?_⟩
        have hok2 := gd_okA_of hok
        have h8 : 8 ≤ x := gd_KD_8 hok2.1 (by decide)
        have hcell := hH.at h8 hok2.2.1
        have hen : gd_en Z (m) x = .inl (gz_cA Z 10, (gd_LN x, .inl (gI m x))) := by
          unfold gd_en
          rw [hok2.1]
          rfl
        rw [hen] at hcell
        rw [List.map_cons, List.map_cons, show gd_cv Z (.ref x) = gd_adr Z x from rfl, gd_adr_8 h8]
        exact va_iald (D := gz_D Z) hx hb hE.1.K (gd_one hcell) 0 0 rfl rfl hok2.2.2 hd (gd_wz (kk _ _ _ hH hL hS))
  · cases hs
theorem gd_s_baload  (F : gd_FF Z M p R s mI args meth c) (hH : gd_HR Z m H) (hL : gd_LR Z M loc ls) (hS : va_S (gz_A Z) s.heap H locs) (ho : gd_okE (gd_rc M) (pc, .baload, len, w, a, b, cc, z) = true) (hs : gd_step M (pc, .baload, len, w, a, b, cc, z) loc st m = gd_go d) (kk : gd_KK p l e R s mI args below meth c cells slots Q Z M m d) : d.1 = M ∧ W p l e R s mI args below meth c H locs cells slots Q (F0 mI pc ls (st.map (gd_cv Z))) := by
  obtain ⟨hx, hb, hml, hr, hown, hts, hlk, hnm, hE, hfr, hlo, htb1⟩ := F
  unfold gd_step at hs
  dsimp only at hs
  have ho : (decide (decode (gr_b (gd_rc M)) pc = .ok (.baload, len)) && Nat.beq len 1) = true := ho
  obtain ⟨hd, rfl⟩ := gd_and2 ho
  split at hs
  · next i x r =>
    cases h12 : Nat.beq (gr_cls (gd_rc M)) 12 with
    | true =>
      rw [h12] at hs
      have hs : (bif Nat.beq x 2 then gd_br (gd_in i gd_txl) _ _ else _) = gd_go d := hs
      cases h2 : Nat.beq x 2 with
      | false => rw [h2] at hs; cases hs
      | true =>
        rw [h2] at hs
        obtain rfl := Nat.eq_of_beq_eq_true h2
        have hs : gd_br (gd_in i gd_txl) _ _ = gd_go d := hs
        cases hin : gd_in i gd_txl with
        | false => rw [hin] at hs; cases hs
        | true =>
          rw [hin] at hs
          obtain rfl := gd_go_inj hs
          refine ⟨rfl, ?_⟩
          have hvs := (hE.2.1.1.1 0 (by decide))
          exact va_tb hx hb hvs.2.2.2 hS (gd_in_of hin) (gd_txv i.toNatClampNeg) hd (gd_wz (kk _ _ _ hH hL hS))
    | false =>
      rw [h12] at hs
      have hs : gd_br (gd_okA (gN m) x (bif Nat.beq (gr_bk (gd_rc M)) 12 then 12 else 11) i) _ _ = gd_go d := hs
      cases hok : gd_okA (gN m) x (bif Nat.beq (gr_bk (gd_rc M)) 12 then 12 else 11) i with
      | false => rw [hok] at hs; cases hs
      | true =>
        rw [hok] at hs
        obtain rfl := gd_go_inj hs
        refine ⟨rfl, ?_⟩
        have hok2 := gd_okA_of hok
        have kz := gd_wz (kk _ _ _ hH hL hS)
        cases hk : Nat.beq (gr_bk (gd_rc M)) 12 with
        | false =>
          rw [hk] at hok2
          have hok2 : gd_KD x = 11 ∧ x < gN m ∧ vp_in i (gd_LN x) := hok2
          have h8 : 8 ≤ x := gd_KD_8 hok2.1 (by decide)
          have hcell := hH.at h8 hok2.2.1
          have hen : gd_en Z (m) x = .inl (gz_cA Z 11, (gd_LN x, .inl (gI m x))) := by
            unfold gd_en
            rw [hok2.1]
            rfl
          rw [hen] at hcell
          rw [List.map_cons, List.map_cons, show gd_cv Z (.ref x) = gd_adr Z x from rfl, gd_adr_8 h8]
          exact va_zald (D := gz_D Z) hx hb hE.1.K (gd_one hcell) 0 1 rfl rfl hok2.2.2 hd kz
        | true =>
          rw [hk] at hok2
          have hok2 : gd_KD x = 12 ∧ x < gN m ∧ vp_in i (gd_LN x) := hok2
          have h8 : 8 ≤ x := gd_KD_8 hok2.1 (by decide)
          have hcell := hH.at h8 hok2.2.1
          have hen : gd_en Z (m) x = .inl (gz_cA Z 12, (gd_LN x, .inl (gI m x))) := by
            unfold gd_en
            rw [hok2.1]
            rfl
          rw [hen] at hcell
          rw [List.map_cons, List.map_cons, show gd_cv Z (.ref x) = gd_adr Z x from rfl, gd_adr_8 h8]
          exact va_bald (D := gz_D Z) hx hb hE.1.K (gd_one hcell) 0 2 rfl rfl hok2.2.2 hd kz
  · cases hs
theorem gd_s_laload  (F : gd_FF Z M p R s mI args meth c) (hH : gd_HR Z m H) (hL : gd_LR Z M loc ls) (hS : va_S (gz_A Z) s.heap H locs) (ho : gd_okE (gd_rc M) (pc, .laload, len, w, a, b, cc, z) = true) (hs : gd_step M (pc, .laload, len, w, a, b, cc, z) loc st m = gd_go d) (kk : gd_KK p l e R s mI args below meth c cells slots Q Z M m d) : d.1 = M ∧ W p l e R s mI args below meth c H locs cells slots Q (F0 mI pc ls (st.map (gd_cv Z))) := by
  obtain ⟨hx, hb, hml, hr, hown, hts, hlk, hnm, hE, hfr, hlo, htb1⟩ := F
  unfold gd_step at hs
  dsimp only at hs
  have ho : (decide (decode (gr_b (gd_rc M)) pc = .ok (.laload, len)) && Nat.beq len 1) = true := ho
  obtain ⟨hd, rfl⟩ := gd_and2 ho
  split at hs
  · next i x r =>
    cases hok : gd_okA (gN m) x 13 i with
    | false => rw [hok] at hs; cases hs
    | true =>
      rw [hok] at hs
      obtain rfl := gd_go_inj hs
      refine ⟨rfl, ?_⟩
      have hok2 := gd_okA_of hok
      have h8 : 8 ≤ x := gd_KD_8 hok2.1 (by decide)
      have hcell := hH.at h8 hok2.2.1
      have hen : gd_en Z (m) x = .inl (gz_cA Z 13, (gd_LN x, .inr (.inl (gJ m x)))) := by
        unfold gd_en
        rw [hok2.1]
        rfl
      rw [hen] at hcell
      rw [List.map_cons, List.map_cons, show gd_cv Z (.ref x) = gd_adr Z x from rfl, gd_adr_8 h8]
      exact va_lald (D := gz_D Z) hx hb hE.1.K (gd_one hcell) 0 3 rfl rfl hok2.2.2 hd (gd_wz (kk _ _ _ hH hL hS))
  · cases hs
theorem gd_s_aaload  (F : gd_FF Z M p R s mI args meth c) (hH : gd_HR Z m H) (hL : gd_LR Z M loc ls) (hS : va_S (gz_A Z) s.heap H locs) (ho : gd_okE (gd_rc M) (pc, .aaload, len, w, a, b, cc, z) = true) (hs : gd_step M (pc, .aaload, len, w, a, b, cc, z) loc st m = gd_go d) (kk : gd_KK p l e R s mI args below meth c cells slots Q Z M m d) : d.1 = M ∧ W p l e R s mI args below meth c H locs cells slots Q (F0 mI pc ls (st.map (gd_cv Z))) := by
  obtain ⟨hx, hb, hml, hr, hown, hts, hlk, hnm, hE, hfr, hlo, htb1⟩ := F
  unfold gd_step at hs
  dsimp only at hs
  have ho : (decide (decode (gr_b (gd_rc M)) pc = .ok (.aaload, len)) && Nat.beq len 1) = true := ho
  obtain ⟨hd, rfl⟩ := gd_and2 ho
  split at hs
  · next i x r =>
    cases hok : gd_okA (gN m) x 14 i with
    | false => rw [hok] at hs; cases hs
    | true =>
      rw [hok] at hs
      obtain rfl := gd_go_inj hs
      refine ⟨rfl, ?_⟩
      have hok2 := gd_okA_of hok
      have h8 : 8 ≤ x := gd_KD_8 hok2.1 (by decide)
      have hcell := hH.at h8 hok2.2.1
      have hen : gd_en Z (m) x = .inl (gz_cA Z 14, (gd_LN x, .inr (.inr (.inr (.inr (fun j => gd_opt (gd_adr Z (gR m x j)))))))) := by
        unfold gd_en
        rw [hok2.1]
        rfl
      rw [hen] at hcell
      rw [List.map_cons, List.map_cons, show gd_cv Z (.ref x) = gd_adr Z x from rfl, gd_adr_8 h8]
      have kz := gd_wz (kk _ _ _ hH hL hS)
      rw [List.map_cons, show gd_cv Z (.ref (gR m x i.toNatClampNeg)) = va_rf (gd_opt (gd_adr Z (gR m x i.toNatClampNeg))) from (gd_rf_opt (gd_adr_nr hE.1 _)).symm] at kz
      exact va_aldq (D := gz_D Z) hx hb hE.1.K (gd_one hcell) 0 4 rfl rfl hok2.2.2 hd kz
  · cases hs
theorem gd_s_arraylength  (F : gd_FF Z M p R s mI args meth c) (hH : gd_HR Z m H) (hL : gd_LR Z M loc ls) (hS : va_S (gz_A Z) s.heap H locs) (ho : gd_okE (gd_rc M) (pc, .arraylength, len, w, a, b, cc, z) = true) (hs : gd_step M (pc, .arraylength, len, w, a, b, cc, z) loc st m = gd_go d) (kk : gd_KK p l e R s mI args below meth c cells slots Q Z M m d) : d.1 = M ∧ W p l e R s mI args below meth c H locs cells slots Q (F0 mI pc ls (st.map (gd_cv Z))) := by
  obtain ⟨hx, hb, hml, hr, hown, hts, hlk, hnm, hE, hfr, hlo, htb1⟩ := F
  unfold gd_step at hs
  dsimp only at hs
  have ho : (decide (decode (gr_b (gd_rc M)) pc = .ok (.arraylength, len)) && Nat.beq len 1) = true := ho
  obtain ⟨hd, rfl⟩ := gd_and2 ho
  split at hs
  · next x r =>
    obtain ⟨hE1, hE2, hbs⟩ := hE
    cases h10 : Nat.beq (gr_cls (gd_rc M)) 10 with
    | true =>
      rw [h10] at hs
      have hs : (bif Nat.beq x 3 then _ else _) = gd_go d := hs
      cases h3 : Nat.beq x 3 with
      | false => rw [h3] at hs; cases hs
      | true =>
        rw [h3] at hs
        obtain rfl := Nat.eq_of_beq_eq_true h3
        obtain rfl := gd_go_inj hs
        refine ⟨rfl, ?_⟩
        obtain ⟨-, -, -, -, -, hX, hbl, -⟩ := hE2
        have kz := gd_wz (kk _ _ _ hH hL hS)
        rw [List.map_cons, show gd_cv Z (.int (Int32.ofNat (gL m))) = .int (Int32.ofNat (gL m)) from rfl, hH.2.2.2.2.1] at kz
        exact va_slen hx hb hX (Nat.lt_of_lt_of_le hbl hbs) (Nat.not_le.mpr hbl) hS hd kz
    | false =>
      rw [h10] at hs
      have hs : (bif Nat.beq (gr_cls (gd_rc M)) 11 || Nat.beq (gr_cls (gd_rc M)) 12 then (bif Nat.beq x 2 then _ else _) else _) = gd_go d := hs
      cases h11 : (Nat.beq (gr_cls (gd_rc M)) 11 || Nat.beq (gr_cls (gd_rc M)) 12) with
      | true =>
        rw [h11] at hs
        have hs : (bif Nat.beq x 2 then _ else _) = gd_go d := hs
        cases h2 : Nat.beq x 2 with
        | false => rw [h2] at hs; cases hs
        | true =>
          rw [h2] at hs
          obtain rfl := Nat.eq_of_beq_eq_true h2
          obtain rfl := gd_go_inj hs
          have hvs := (hE2.1.1 0 (by decide))
          exact ⟨rfl, va_tlen hx hb hvs.2.2.2 hS (by decide) hd (gd_wz (kk _ _ _ hH hL hS))⟩
      | false =>
        rw [h11] at hs
        have hs : gd_br (Nat.ble 10 (gd_KD x) && Nat.ble (gd_KD x) 14 && decide (x < gN m)) _ _ = gd_go d := hs
        cases hok : (Nat.ble 10 (gd_KD x) && Nat.ble (gd_KD x) 14 && decide (x < gN m)) with
        | false => rw [hok] at hs; cases hs
        | true =>
          rw [hok] at hs
          obtain rfl := gd_go_inj hs
          refine ⟨rfl, ?_⟩
          obtain ⟨hok1, hlt⟩ := gd_andb hok
          obtain ⟨hk1, hk2⟩ := gd_andb hok1
          have hk1 := Nat.le_of_ble_eq_true hk1
          have hk2 := Nat.le_of_ble_eq_true hk2
          have hlt : x < gN m := of_decide_eq_true hlt
          have h8 : 8 ≤ x := gd_KD_8 rfl (by omega)
          have hcell := hH.at h8 hlt
          obtain ⟨vx, hen⟩ : ∃ v, gd_en Z m x = .inl (gz_cA Z (gd_KD x), (gd_LN x, v)) := by
            unfold gd_en
            rw [if_neg (by omega)]
            exact ⟨_, rfl⟩
          rw [hen] at hcell
          rw [List.map_cons, show gd_cv Z (.ref x) = gd_adr Z x from rfl, gd_adr_8 h8]
          have hty := hE1.2.1 _ hk1 hk2
          have hK1 : va_K (gz_D Z) gd_cl [(gz_cA Z (gd_KD x), gd_aty (gd_KD x))] s := ⟨hE1.1, fun k q hq => by
            match k, hq with
            | 0, hq => cases hq; exact hty
            | k + 1, hq => simp at hq⟩
          exact va_alen (D := gz_D Z) hx hb hK1 (gd_one hcell) 0 0 rfl rfl rfl hd (gd_wz (kk _ _ _ hH hL hS))
  · cases hs
end GDT
