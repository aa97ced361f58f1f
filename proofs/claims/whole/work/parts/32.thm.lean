theorem gd_stk {Z : gd_Zt} {st : List Value} {b x : Nat} {rest : List Value} (h : st.drop b = .ref x :: rest) : b < st.length ∧ st.map (gd_cv Z) = ((st.take b).reverse.map (gd_cv Z)).reverse ++ gd_adr Z x :: rest.map (gd_cv Z) := by
  have hb : b < st.length := by
    rcases Nat.lt_or_ge b st.length with q | q
    · exact q
    · rw [List.drop_eq_nil_of_le q] at h; cases h
  refine ⟨hb, ?_⟩
  rw [← List.map_reverse, List.reverse_reverse]
  conv => lhs; rw [← List.take_append_drop b st, List.map_append, h]
  rfl
theorem gd_room_of {M N : Nat} {args rest : List Value} (h : gd_room M N args rest = true) : gr_fr (gd_rc N) + 1 ≤ gr_fr (gd_rc M) ∧ 8 + (gr_ml (gd_rc N) + 11) + gr_lo (gd_rc N) ≤ gr_lo (gd_rc M) ∧ gd_pcs rest ≤ 8 ∧ gd_argOk (gr_lng (gd_rc N)) 0 args = true ∧ (gd_flat args).length ≤ gr_ml (gd_rc N) := by
  unfold gd_room at h
  obtain ⟨h, h5⟩ := gd_andb h
  obtain ⟨h, h4⟩ := gd_andb h
  obtain ⟨h, h3⟩ := gd_andb h
  obtain ⟨h1, h2⟩ := gd_andb h
  exact ⟨Nat.le_of_ble_eq_true h1, Nat.le_of_ble_eq_true h2, Nat.le_of_ble_eq_true h3, h4, Nat.le_of_ble_eq_true h5⟩
section GDM
variable {p : Program} {l : Launch} {e : Env} {R : Room} {s : State} {mI : MethodId} {args : Array Value} {below : List Frame} {meth : Method} {c : Code} {H : Heap} {locs : List Loc}
variable {Z : gd_Zt} {M N : Nat} {As rest : List Value} {m m1 : gd_M}
/-- what a call needs of the tables -/
theorem gd_callB (F : gd_FF Z M p R s mI args meth c) (hN : N < 191) (hC : N ≠ gd_mCode) (hroom : gd_room M N As rest = true) {k b : Nat} (hl : (Cond.methodLink (gd_cn (gr_cls (gd_rc M))) k (gr_y (gd_rc N))).before args s = true) (hd : (parseMethodDescriptor (gr_y (gd_rc N)).desc).map (fun d => d.parameters.length) = some b) :
    CallB R s args (gd_cn (gr_cls (gd_rc M))) k (gr_y (gd_rc N)) (gr_b (gd_rc N)) (gr_ml (gd_rc N)) (gr_ret (gd_rc N)) (gd_ws N) (gd_rm N m m1) (gN m1 - gN m) (gU m1 - gU m) b := by
  obtain ⟨hx, hb, hml, hr, hown, hts, hlk, hnm, hE, hfr, hlo, htb1⟩ := F
  obtain ⟨hini, hcls, hpl, hm1, hm2⟩ := gd_okM_all hN
  obtain ⟨r1, r2, -⟩ := gd_room_of hroom
  refine callB_of (Ts := gd_G) (ws' := gd_G) b hts (gd_G_good _ ?_ _ (fun _ h => h)) (by unfold gd_ws; rw [gd_cw_code hC]) rfl rfl (hts _ hini) hl ⟨hm1, hm2, hd⟩ ⟨Nat.le_trans r1 hfr, Nat.le_trans r2 hlo⟩
  intro w hw
  rcases List.mem_cons.mp hw with rfl | h
  · exact gd_cw_mem hN
  · exact h
theorem gd_PcOf (F : gd_FF Z M p R s mI args meth c) (hH : gd_HR Z m H) (hS : va_S (gz_A Z) s.heap H locs) (U : State) (hU : U.heap = H) (hW : s.WarmedH U.vm) : gd_Pc Z As m (As.map (gd_cv Z)).toArray U := by
  obtain ⟨hx, hb, hml, hr, hown, hts, hlk, hnm, hE, hfr, hlo, htb1⟩ := F
  refine ⟨rfl, by rw [hU]; exact hH, gd_EK.moved hW hE.1, ?_, ?_⟩
  · rw [hU]
    exact gd_EH.moved hW.alike (gd_EH.kept hE.2.1 hE.2.2 hS.2.1)
  · rw [hU]
    exact Nat.le_trans hE.2.2 hS.1
end GDM
set_option maxHeartbeats 4000000 in
theorem gd_sim (l : Launch) (Z : gd_Zt) : ∀ n, gd_SimAt l Z n := by
  intro n
  induction n with
  | zero => intro M pc loc st m v m' h; cases h
  | succ n IH =>
    intro M pc loc st m v m' hrun
    unfold gd_run at hrun
    cases hp : gd_pre (M, pc, loc, st, m) with
    | none => rw [hp] at hrun; cases hrun
    | some x =>
      rw [hp] at hrun
      unfold gd_pre at hp
      dsimp only at hp
      cases hf : gd_fetch M pc with
      | none => rw [hf] at hp; cases hp
      | some e0 =>
        rw [hf] at hp
        dsimp only at hp
        obtain ⟨ho, hpc, hM⟩ := gd_row_ok hf
        obtain ⟨pc0, i, len, w, a, b, cc, z⟩ := e0
        dsimp only at hpc
        subst hpc
        rcases x with ⟨v2, m2⟩ | d | ⟨d, k⟩
        · -- an end
          have hrun : some (v2, m2) = some (v, m') := hrun
          cases hrun
          obtain ⟨rfl, hend⟩ := gd_fin_spec ho (show gd_step M _ loc st m = gd_fin v m' from hp)
          refine ⟨⟨Nat.le_refl _, Nat.le_refl _⟩, ?_⟩
          intro p e R s mI args below meth c F Q kc ks hkc hks hret hthr H ls locs cells slots hH hL hS h1 h2
          rw [Nat.sub_self, Nat.add_zero] at h1 h2
          subst h1
          subst h2
          rcases hend with hR | ⟨hd, rfl, hh, x, r, rfl, hok⟩
          · exact hret pc0 ls st H locs hR hH hS
          · have hok2 := gd_ok_of hok
            have h8 : 8 ≤ x := gd_KD_8 hok2.1 (by decide)
            have hcell := hH.at h8 hok2.2
            have hen : gd_en Z m' x = .inr (8, gd_fs Z m' x) := by
              unfold gd_en
              rw [hok2.1]
              rfl
            rw [hen] at hcell
            obtain ⟨r9, hr9, ce, g1, g2, g3, -⟩ := hcell
            have hcl : s.vm.findClass "GymDeskModel$Stop" = some ce.cls := by
              rw [g2]
              exact (F.2.2.2.2.2.2.2.2.1.1.1 8 _ (gd_clat 8 (by decide))).2.1
            rw [List.map_cons, show gd_cv Z (.ref x) = gd_adr Z x from rfl, gd_adr_8 h8]
            exact vx_athrow F.1 F.2.1 hd (hthr ⟨0, rfl⟩ pc0 ls _ H locs _ ce hH hS g1 g3 hcl hh)
        · -- one step on
          have hrun : gd_run n d = some (v, m') := hrun
          have hstep : gd_step M (pc0, i, len, w, a, b, cc, z) loc st m = gd_go d := hp
          obtain ⟨hdM, hg1, hg2⟩ := gd_go_mono hstep
          obtain ⟨M', pc', loc', st', m2⟩ := d
          dsimp only at hdM hg1 hg2
          subst hdM
          obtain ⟨⟨hm1, hm2⟩, hgo⟩ := IH M' pc' loc' st' m2 v m' hrun
          refine ⟨⟨Nat.le_trans hg1 hm1, Nat.le_trans hg2 hm2⟩, ?_⟩
          intro p e R s mI args below meth c F Q kc ks hkc hks hret hthr H ls locs cells slots hH hL hS h1 h2
          refine (gd_stp F hH hL hS ⟨by dsimp only; omega, by dsimp only; omega⟩ ho hstep ?_).2
          intro H1 ls1 locs1 q1 q2 q3
          exact hgo p e R s mI args below meth c F Q kc ks hkc hks hret hthr H1 ls1 locs1 _ _ q1 q2 q3 (by dsimp only; omega) (by dsimp only; omega)
        · -- a call
          have hstep : gd_step M (pc0, i, len, w, a, b, cc, z) loc st m = gd_cal d k := hp
          obtain ⟨th, As, rest, hcall, hroom, rfl, rfl⟩ := gd_cal_spec hstep
          dsimp only at hrun
          cases hr1 : gd_run n (gd_ent a As m) with
          | none => rw [hr1] at hrun; cases hrun
          | some q =>
            obtain ⟨v1, m1⟩ := q
            rw [hr1] at hrun
            dsimp only at hrun
            cases hk : gd_kon th M pc0 (gd_rk (gr_ret (gd_rc a))) loc rest v1 m1 with
            | none => rw [hk] at hrun; cases hrun
            | some o =>
              rw [hk] at hrun
              have hmono1 := (IH _ _ _ _ _ _ _ hr1).1
              have hkon := gd_kon_spec hk
              have hmono2 : gN m1 ≤ gN m' ∧ gU m1 ≤ gU m' := by
                rcases hkon with ⟨-, rfl⟩ | ⟨-, -, ⟨-, rfl⟩ | ⟨-, rfl⟩⟩
                · exact (IH _ _ _ _ _ _ _ hrun).1
                · exact (IH _ _ _ _ _ _ _ hrun).1
                · have hrun : some (Value.retAddr 0, m1) = some (v, m') := hrun
                  cases hrun
                  exact ⟨Nat.le_refl _, Nat.le_refl _⟩
              refine ⟨⟨Nat.le_trans hmono1.1 hmono2.1, Nat.le_trans hmono1.2 hmono2.2⟩, ?_⟩
              intro p e R s mI args below meth c F Q kc ks hkc hks hret hthr H ls locs cells slots hH hL hS h1 h2
              have hF := F
              obtain ⟨hx, hb, hml, hr, hown, hts, hlk, hnm, hE, hfr, hlo, htb1⟩ := F
              obtain ⟨r1, r2, r3, r4, r5⟩ := gd_room_of hroom
              have hcut : (∀ x, v1 ≠ .retAddr x) → ∀ (H1 : Heap) (locs1 : List Loc), gd_HR Z m1 H1 → va_S (gz_A Z) s.heap H1 locs1 → W p l e R s mI args below meth c H1 locs1 (cells + (gN m1 - gN m)) (slots + (gU m1 - gU m)) Q (F0 mI (pc0 + 3) ls ((gd_ol v1 ++ rest).map (gd_cv Z))) := by
                intro hv H1 locs1 q1 q2
                rcases hkon with ⟨-, rfl⟩ | ⟨⟨y, hy⟩, -⟩
                · exact (IH _ _ _ _ _ _ _ hrun).2 p e R s mI args below meth c hF Q kc ks hkc hks hret hthr H1 ls locs1 _ _ q1 hL q2 (by omega) (by omega)
                · exact absurd hy (hv y)
              have hfit : cells + (gN m1 - gN m) ≤ R.cells ∧ slots + (gU m1 - gU m) ≤ R.slots := ⟨by omega, by omega⟩
              have hpcs : 2 * (F0 mI pc0 ls (st.map (gd_cv Z))).monitorRoom + ((rest.map (gd_cv Z)).map fun v => v.category).sum ≤ 8 := by
                rw [gd_pcs_cv hE.1]
                show 2 * 0 + gd_pcs rest ≤ 8
                omega
              have S : CallFix p mI c (gr_b (gd_rc M)) (gr_ml (gd_rc M)) s args gd_G (gd_cn (gr_cls (gd_rc M))) := ⟨hx, hb, hml, hown, hts⟩
              rcases hcall with ⟨⟨kk, rfl⟩, hcc, rfl, hbl, rfl, rfl⟩ | ⟨⟨kk, rfl⟩, hcc, rfl, x, hdr, rfl, hrec⟩ | ⟨⟨kk, rfl⟩, hcc, rfl, x, hdr, h8, rfl⟩
              · -- invokestatic
                have hv1 : ∀ x, v1 ≠ .retAddr x := by
                  rcases hkon with ⟨hv, -⟩ | ⟨-, h, -⟩
                  · exact hv
                  · cases h
                have ho : (decide (decode (gr_b (gd_rc M)) pc0 = .ok (.invokestatic kk, len)) && (Nat.beq len 3 && (bif Nat.beq cc 3 then true else Nat.beq cc 0 && gd_okC (gd_cn (gr_cls (gd_rc M))) kk w a b cc && gd_wd (gr_pi (gd_rc a)) (.static (gr_y (gd_rc a)))))) = true := ho
                obtain ⟨hd, hp1⟩ := gd_and3 ho
                obtain ⟨h3, hp2⟩ := gd_andb hp1
                obtain rfl := Nat.eq_of_beq_eq_true h3
                rw [gd_bf hcc, cond_false] at hp2
                obtain ⟨hq150, hst⟩ := gd_andb hp2
                obtain ⟨hc0, hoc⟩ := gd_andb hq150
                obtain rfl := Nat.eq_of_beq_eq_true hc0
                unfold gd_okC at hoc
                dsimp only at hoc
                obtain ⟨hoc, ha⟩ := gd_andb hoc
                obtain ⟨hlk2, hpd⟩ := gd_andb hoc
                have ha : a < 191 := Nat.le_of_ble_eq_true ha
                have hlk2 : gd_wd w (.methodLink (gd_cn (gr_cls (gd_rc M))) kk (gr_y (gd_rc a))) = true := hlk2
                have hM1 := gd_metM IH ha (gd_nst hst) hv1 hr1 r4 r5
                have cw := gd_callB (m := m) (m1 := m1) hF ha (gd_nst hst) hroom (hts _ (gd_G_mem hlk2 rfl)) (of_decide_eq_true hpd)
                refine gd_back (va_runS (As := (st.take b).reverse.map (gd_cv Z)) (rest := (st.drop b).map (gd_cv Z)) S hM1 ⟨cw, hts _ (gd_G_mem hst rfl)⟩ ⟨gd_blind, fun U hU hW => gd_PcOf hF hH hS U hU hW⟩ rfl ?_ hL.1 ?_ hpcs hd hfit) hS (hcut hv1)
                · rw [List.length_map, List.length_reverse, List.length_take, Nat.min_eq_left hbl]
                · show st.map (gd_cv Z) = _
                  rw [← List.map_reverse, List.reverse_reverse, ← List.map_append, List.take_append_drop]
              · -- invokevirtual
                have ho : (decide (decode (gr_b (gd_rc M)) pc0 = .ok (.invokevirtual kk, len)) && (Nat.beq len 3 && (bif Nat.beq cc 3 then true else Nat.beq cc 0 && gd_okC (gd_cn (gr_cls (gd_rc M))) kk w a b cc && gd_wd (gr_pi (gd_rc a)) (.instanceMethod (gr_y (gd_rc a))) && gd_wd (gr_ps (gd_rc a)) (.selects (gr_y (gd_rc a)).cls (gr_y (gd_rc a)) (gr_y (gd_rc a))) && Nat.blt (gr_cls (gd_rc a)) 12 && !Nat.beq (gr_cls (gd_rc a)) 10))) = true := ho
                obtain ⟨hd, hp1⟩ := gd_and3 ho
                obtain ⟨h3, hp2⟩ := gd_andb hp1
                obtain rfl := Nat.eq_of_beq_eq_true h3
                rw [gd_bf hcc, cond_false] at hp2
                obtain ⟨hq171, hn10⟩ := gd_andb hp2
                obtain ⟨hq172, hl12⟩ := gd_andb hq171
                obtain ⟨hq173, hsel⟩ := gd_andb hq172
                obtain ⟨hq174, hst⟩ := gd_andb hq173
                obtain ⟨hc0, hoc⟩ := gd_andb hq174
                obtain rfl := Nat.eq_of_beq_eq_true hc0
                unfold gd_okC at hoc
                dsimp only at hoc
                obtain ⟨hoc, ha⟩ := gd_andb hoc
                obtain ⟨hlk2, hpd⟩ := gd_andb hoc
                have ha : a < 191 := Nat.le_of_ble_eq_true ha
                have hl12 : gr_cls (gd_rc a) < 12 := Nat.le_of_ble_eq_true hl12
                have hn10 : gr_cls (gd_rc a) ≠ 10 := by
                  intro q
                  rw [q] at hn10
                  cases hn10
                have hlk2 : gd_wd w (.methodLink (gd_cn (gr_cls (gd_rc M))) kk (gr_y (gd_rc a))) = true := hlk2
                obtain ⟨hbl, hstk⟩ := gd_stk (Z := Z) hdr
                have hcls := (gd_okM_all ha).2.1
                obtain ⟨bx, hbx, hcellx⟩ : ∃ bx, gd_adr Z x = .ref bx ∧ ∃ cellB : Cell, H[bx]? = some cellB ∧ cellB.vm.isStatics = false ∧ s.vm.findClass (gr_y (gd_rc a)).cls = some cellB.cls := by
                  rw [hcls]
                  by_cases h11 : gr_cls (gd_rc a) = 11
                  · rw [h11] at hrec ⊢
                    have hrec : Nat.beq x 1 = true := hrec
                    obtain rfl := Nat.eq_of_beq_eq_true hrec
                    exact ⟨_, rfl, vk_recv (i := 0) hE.2.1.1 (by decide) hS⟩
                  · rw [gd_bf h11, cond_false] at hrec
                    have hok2 := gd_ok_of hrec
                    have hlt : gr_cls (gd_rc a) < 10 := by omega
                    have h8 : 8 ≤ x := gd_KD_8 hok2.1 (by omega)
                    have hcell := hH.at h8 hok2.2
                    have hen : gd_en Z m x = .inr (gr_cls (gd_rc a), gd_fs Z m x) := by
                      unfold gd_en
                      rw [hok2.1, if_pos hlt]
                    rw [hen] at hcell
                    exact ⟨_, gd_adr_8 h8, va_recv hE.1.K (gd_one hcell) (gd_clat _ hlt) (q0 := 0) rfl⟩
                have hlen : ((st.take b).reverse.map (gd_cv Z)).length = b := by
                  rw [List.length_map, List.length_reverse, List.length_take, Nat.min_eq_left (Nat.le_of_lt hbl)]
                have hPv : PreV s H (gr_y (gd_rc a)).cls bx (gd_Pc Z (.ref x :: (st.take b).reverse) m) ((st.take b).reverse.map (gd_cv Z)) := by
                  refine ⟨gd_blind, hcellx, fun U hU hW => ?_⟩
                  have h9 := gd_PcOf (As := .ref x :: (st.take b).reverse) hF hH hS U hU hW
                  rw [List.map_cons, show gd_cv Z (.ref x) = gd_adr Z x from rfl, hbx] at h9
                  exact h9
                rw [hstk, hbx]
                by_cases hC : a = gd_mCode
                · subst hC
                  have hv1 : ∀ x, v1 ≠ .retAddr x := by
                    rcases hkon with ⟨hv, -⟩ | ⟨-, h, -⟩
                    · exact hv
                    · exact absurd h (by decide +kernel)
                  have hM1 := gd_metC IH hv1 hr1 r4 r5
                  obtain ⟨hini, -, -, hm1, hm2⟩ := gd_okM_all ha
                  have cw : vx_CVW R s args (gd_cn (gr_cls (gd_rc M))) (gr_y (gd_rc gd_mCode)).cls kk (gr_y (gd_rc gd_mCode)) (gr_b (gd_rc gd_mCode)) (gr_ml (gd_rc gd_mCode)) (gr_ret (gd_rc gd_mCode)) [(67, 86, 89, 7)] (gd_ws gd_mCode) (gd_rm gd_mCode m m1) (gN m1 - gN m) (gU m1 - gU m) b := by
                    refine ⟨⟨rfl, rfl, Nat.le_trans r1 hfr, Nat.le_trans r2 hlo, pay_in hts (gd_G_good _ ?_ _ (fun _ h => h)), List.mem_cons_self⟩, hts _ (gd_cw_mem ha), hts _ hini, ⟨hm1, hm2⟩, fun sig h => ?_, hts _ (gd_G_mem hlk2 rfl), hts _ (gd_G_mem hst rfl), hts _ (gd_G_mem hsel rfl)⟩
                    · intro w hw
                      rcases List.mem_cons.mp hw with rfl | h
                      · exact gd_cw_mem ha
                      · exact h
                    · have h2 : (parseMethodDescriptor (gr_y (gd_rc gd_mCode)).desc).map (fun d => d.parameters.length) = some b := of_decide_eq_true hpd
                      rw [h] at h2
                      exact (Option.some.inj h2).symm
                  exact gd_back (vx_runVW (As := (st.take b).reverse.map (gd_cv Z)) (rest := rest.map (gd_cv Z)) S hM1 cw hPv rfl hlen hL.1 rfl hpcs hd hfit) hS (hcut hv1)
                · have hM1 := gd_metX IH ha hC hr1 r4 r5
                  have cw := gd_callB (m := m) (m1 := m1) hF ha hC hroom (hts _ (gd_G_mem hlk2 rfl)) (of_decide_eq_true hpd)
                  refine gd_backX (vx_runV (As := (st.take b).reverse.map (gd_cv Z)) (rest := rest.map (gd_cv Z)) S hM1 ⟨cw, hts _ (gd_G_mem hst rfl), hts _ (gd_G_mem hsel rfl)⟩ hPv rfl hlen hL.1 rfl hpcs hd hfit) hS hcut ?_
                  intro hv H1 locs1 q ce q1 q2 hce hcv hcl
                  rcases hkon with ⟨hv2, -⟩ | ⟨-, -, ⟨hh, rfl⟩ | ⟨hh, rfl⟩⟩
                  · obtain ⟨y, hy⟩ := hv
                    exact absurd hy (hv2 y)
                  · obtain ⟨rfl, hp1, hp2⟩ := gd_hnd_spec hh
                    have hown2 := hown
                    rw [gd_own89] at hown2
                    refine vx_catch (own := "GymDeskModel") (name := "GymDeskModel$Stop") (E := "GymDeskModel$Stop") (ce := ce) hown2 [] _ [] (htb1 rfl) (fun z hz => absurd hz List.not_mem_nil) ?_ (by decide) (hts _ gd_cl89) (va_Nw.use rfl hE.1.2.2.2.2.1) hce hcv hcl ?_
                    · simp [covers]
                      omega
                    · refine lv_astore_n (k := 1) hx hb gd_d89 rfl (gd_lst_has hL) (by decide +kernel) rfl fun ls1 hl1 => ?_
                      exact (IH _ _ _ _ _ _ _ hrun).2 p e R s mI args below meth c hF Q kc ks hkc hks hret hthr H1 ls1 locs1 _ _ q1 (gd_LR_st0 hE.1 hL gd_s89 hl1) q2 (by omega) (by omega)
                  · have hrun : some (Value.retAddr 0, m1) = some (v, m') := hrun
                    cases hrun
                    subst h1
                    subst h2
                    exact hthr ⟨0, rfl⟩ pc0 ls _ H1 locs1 q ce q1 q2 hce hcv hcl hh
              · -- invokespecial
                have hv1 : ∀ x, v1 ≠ .retAddr x := by
                  rcases hkon with ⟨hv, -⟩ | ⟨-, h, -⟩
                  · exact hv
                  · cases h
                have ho : (decide (decode (gr_b (gd_rc M)) pc0 = .ok (.invokespecial kk, len)) && (Nat.beq len 3 && (bif Nat.beq cc 2 then gd_wd w (.methodLink (gd_cn (gr_cls (gd_rc M))) kk objectInit) && decide (Jvm.Cond.instanceMethod objectInit ∈ lw_tbl) && decide (Jvm.Cond.code objectInit ⟨#[0xb1]⟩ 1 none ∈ lw_tbl) else Nat.blt cc 2 && gd_okC (gd_cn (gr_cls (gd_rc M))) kk w a b cc && gd_wd (gr_pi (gd_rc a)) (.instanceMethod (gr_y (gd_rc a))) && decide ((gr_y (gd_rc a)).name = "<init>") && decide (gr_ret (gd_rc a) = none) && !Nat.beq a gd_mCode))) = true := ho
                obtain ⟨hd, hp1⟩ := gd_and3 ho
                obtain ⟨h3, hp2⟩ := gd_andb hp1
                obtain rfl := Nat.eq_of_beq_eq_true h3
                rw [gd_bf hcc, cond_false] at hp2
                obtain ⟨hq263, hnC⟩ := gd_andb hp2
                obtain ⟨hq264, hrn⟩ := gd_andb hq263
                obtain ⟨hq265, hny⟩ := gd_andb hq264
                obtain ⟨hq266, hst⟩ := gd_andb hq265
                obtain ⟨hc2, hoc⟩ := gd_andb hq266
                have hC : a ≠ gd_mCode := by
                  intro q
                  rw [q] at hnC
                  cases hnC
                unfold gd_okC at hoc
                dsimp only at hoc
                obtain ⟨hoc, ha⟩ := gd_andb hoc
                obtain ⟨hlk2, hpd⟩ := gd_andb hoc
                have ha : a < 191 := Nat.le_of_ble_eq_true ha
                have hrn : gr_ret (gd_rc a) = none := of_decide_eq_true hrn
                have hny : (gr_y (gd_rc a)).name = "<init>" := of_decide_eq_true hny
                have hpd : (parseMethodDescriptor (gr_y (gd_rc a)).desc).map (fun d => d.parameters.length) = some b := of_decide_eq_true hpd
                obtain ⟨hbl, hstk⟩ := gd_stk (Z := Z) hdr
                have hM1 := gd_metM IH ha hC hv1 hr1 r4 r5
                have hlen : ((st.take b).reverse.map (gd_cv Z)).length = b := by
                  rw [List.length_map, List.length_reverse, List.length_take, Nat.min_eq_left (Nat.le_of_lt hbl)]
                have hPs : PreS s H (gd_Pc Z (.ref x :: (st.take b).reverse) m) (.ref (gz_bs Z + (x - 8)) :: (st.take b).reverse.map (gd_cv Z)) := by
                  refine ⟨gd_blind, fun U hU hW => ?_⟩
                  have h9 := gd_PcOf (As := .ref x :: (st.take b).reverse) hF hH hS U hU hW
                  rw [List.map_cons, show gd_cv Z (.ref x) = gd_adr Z x from rfl, gd_adr_8 h8] at h9
                  exact h9
                rw [hstk, gd_adr_8 h8]
                have hinst := hts _ (gd_G_mem hst rfl)
                cases hc1 : Nat.beq cc 1 with
                | false =>
                  rw [hc1] at hlk2
                  have hlk2 : gd_wd w (.methodLink (gd_cn (gr_cls (gd_rc M))) kk (gr_y (gd_rc a))) = true := hlk2
                  have cw := gd_callB (m := m) (m1 := m1) hF ha hC hroom (hts _ (gd_G_mem hlk2 rfl)) hpd
                  rw [hrn] at cw
                  exact gd_back (va_runI (As := (st.take b).reverse.map (gd_cv Z)) (rest := rest.map (gd_cv Z)) S hM1 ⟨cw, hny, hinst⟩ hPs rfl hlen hL.1 rfl hpcs hd hfit) hS (hcut hv1)
                | true =>
                  rw [hc1] at hlk2
                  have hlk2 : gd_wd w (.methodLinkNest (gd_cn (gr_cls (gd_rc M))) kk (gr_y (gd_rc a)) (gd_cn (gr_cls (gd_rc M)))) = true := hlk2
                  obtain ⟨hini, -, -, hm1, hm2⟩ := gd_okM_all ha
                  have hnest : va_Nw (.methodLinkNest (gd_cn (gr_cls (gd_rc M))) kk (gr_y (gd_rc a)) (gd_cn (gr_cls (gd_rc M)))) s := hE.1.2.2.1 _ (gd_nest_mem hlk2)
                  have cw : va_CN R s args (gd_cn (gr_cls (gd_rc M))) kk (gr_y (gd_rc a)) (gd_cn (gr_cls (gd_rc M))) (gr_b (gd_rc a)) (gr_ml (gd_rc a)) none (gd_ws a) (gd_rm a m m1) (gN m1 - gN m) (gU m1 - gU m) b := by
                    refine va_cnB (Ts := gd_G) (ws' := gd_G) b hts (gd_G_good _ ?_ _ (fun _ h => h)) (by unfold gd_ws; rw [gd_cw_code hC, hrn]) rfl rfl hnest (hts _ hini) ⟨hm1, hm2, hpd⟩ ⟨Nat.le_trans r1 hfr, Nat.le_trans r2 hlo⟩
                    intro w hw
                    rcases List.mem_cons.mp hw with rfl | h
                    · exact gd_cw_mem ha
                    · exact h
                  exact gd_back (va_runIN (As := (st.take b).reverse.map (gd_cv Z)) (rest := rest.map (gd_cv Z)) S hM1 ⟨cw, hny, hinst⟩ hPs rfl hlen hL.1 rfl hpcs hd hfit) hS (hcut hv1)
