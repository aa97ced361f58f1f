/-! ===== the small machine's runs are the machine's ===== -/
def gd_SimAt (l : Launch) (Z : gd_Zt) (n : Nat) : Prop :=
  ∀ (M pc : Nat) (loc st : List Value) (m : gd_M) (v : Value) (m' : gd_M), gd_run n (M, pc, loc, st, m) = some (v, m') → (gN m ≤ gN m' ∧ gU m ≤ gU m') ∧
    ∀ (p : Program) (e : Env) (R : Room) (s : State) (mI : MethodId) (args : Array Value) (below : List Frame) (meth : Method) (c : Code), gd_FF Z M p R s mI args meth c → ∀ (Q : State → Prop) (kc ks : Nat), kc ≤ R.cells → ks ≤ R.slots →
      (∀ (pc : Nat) (ls : Array Slot) (st : List Value) (H : Heap) (locs : List Loc), gd_Ret M pc v st → gd_HR Z m' H → va_S (gz_A Z) s.heap H locs → W p l e R s mI args below meth c H locs kc ks Q (F0 mI pc ls (st.map (gd_cv Z)))) →
      ((∃ x, v = .retAddr x) → ∀ (pc : Nat) (ls : Array Slot) (rest : List Value) (H : Heap) (locs : List Loc) (q : Addr) (ce : Cell), gd_HR Z m' H → va_S (gz_A Z) s.heap H locs → H[q]? = some ce → ce.vm = .none → s.vm.findClass "GymDeskModel$Stop" = some ce.cls → gd_hnd M pc = false → vx_W p l e R s mI args below meth c H locs kc ks Q (F0 mI pc ls rest) q) →
      ∀ (H : Heap) (ls : Array Slot) (locs : List Loc) (cells slots : Nat), gd_HR Z m H → gd_LR Z M loc ls → va_S (gz_A Z) s.heap H locs → cells + (gN m' - gN m) = kc → slots + (gU m' - gU m) = ks → W p l e R s mI args below meth c H locs cells slots Q (F0 mI pc ls (st.map (gd_cv Z)))
def gd_Pc (Z : gd_Zt) (args : List Value) (m : gd_M) : Array Value → State → Prop := va_Pc (args.map (gd_cv Z)) (fun U => gd_HR Z m U.heap ∧ gd_EV Z U U.heap)
def gd_Qc (Z : gd_Zt) (v : Value) (m1 : gd_M) : Array Value → State → Outcome → State → Prop := fun _ st o t => (∀ x, v ≠ .retAddr x) ∧ o = .returned (gd_ov Z v) ∧ gd_HR Z m1 t.heap ∧ va_F (gz_A Z) st t
def gd_XC (Z : gd_Zt) (v : Value) (m1 : gd_M) : String → State → State → Prop := fun E st t => (∃ x, v = .retAddr x) ∧ E = "GymDeskModel$Stop" ∧ gd_HR Z m1 t.heap ∧ va_F (gz_A Z) st t
def gd_rm (N : Nat) (m m1 : gd_M) : Room := { frames := gr_fr (gd_rc N), cells := gN m1 - gN m, slots := gU m1 - gU m, locals := gr_lo (gd_rc N) }
def gd_ws (N : Nat) : List Jvm.Cond := gd_cw N (gd_rc N) :: gd_G
theorem gd_blind {Z : gd_Zt} {args : List Value} {m : gd_M} : FrameBlind (gd_Pc Z args m) := fun a U g mk h =>
  ⟨h.1, h.2.1, gd_EK.moved (s := U) (U := U.calling g mk a) (State.WarmedH.refl U) h.2.2.1, gd_EH.moved (s := U) (U := U.calling g mk a) (Vm.Alike.refl U.vm) h.2.2.2.1, h.2.2.2.2⟩
theorem gd_cw_code {N : Nat} (h : N ≠ gd_mCode) : gd_cw N (gd_rc N) = .code (gr_y (gd_rc N)) (gr_b (gd_rc N)) (gr_ml (gd_rc N)) (gr_ret (gd_rc N)) := by
  unfold gd_cw
  rw [gd_bf h]
  rfl
theorem gd_cw_mem {N : Nat} (hN : N < 191) : gd_cw N (gd_rc N) ∈ gd_G := by
  have h := (gd_rc_ok N (by omega)).2 hN
  unfold gd_okM at h
  have h1 := (gd_andb (gd_andb (gd_andb (gd_andb (gd_andb h).1).1).1).1).1
  refine gd_G_mem h1 ?_
  unfold gd_cw
  cases Nat.beq N gd_mCode <;> rfl
theorem gd_okM_all {N : Nat} (hN : N < 191) : Jvm.Cond.initialized (gr_y (gd_rc N)).cls ∈ gd_G ∧ (gr_y (gd_rc N)).cls = gd_cn (gr_cls (gd_rc N)) ∧ plainFor (gr_y (gd_rc N)) = true ∧ (gr_y (gd_rc N)).cls ≠ "java/lang/invoke/MethodHandle" ∧ (gr_y (gd_rc N)).cls ≠ "java/lang/invoke/VarHandle" := by
  have h := (gd_rc_ok N (by omega)).2 hN
  unfold gd_okM at h
  obtain ⟨h, h6⟩ := gd_andb h
  obtain ⟨h, h5⟩ := gd_andb h
  obtain ⟨h, h4⟩ := gd_andb h
  obtain ⟨h, h3⟩ := gd_andb h
  obtain ⟨h1, h2⟩ := gd_andb h
  exact ⟨gd_G_mem h2 rfl, of_decide_eq_true h3, h4, of_decide_eq_true h5, of_decide_eq_true h6⟩
theorem gd_body {l : Launch} {Z : gd_Zt} {n : Nat} (IH : gd_SimAt l Z n) {N : Nat} {args : List Value} {m : gd_M} {v : Value} {m1 : gd_M} (hN : N < 191) (hrun : gd_run n (gd_ent N args m) = some (v, m1)) (hok : gd_argOk (gr_lng (gd_rc N)) 0 args = true) (hlen : (gd_flat args).length ≤ gr_ml (gd_rc N))
    {p : Program} {e : Env} {s : State} {mI : MethodId} {args' : Array Value} {below : List Frame} {meth : Method} {c : Code} {s₁ : State} (B : BodyLoose p l (gr_y (gd_rc N)) (headSpec (gd_ws N) (gd_rm N m m1)) (gr_b (gd_rc N)) (gr_ml (gd_rc N)) (gr_ret (gd_rc N)) e s mI args' below meth c s₁) (hml : c.maxLocals = gr_ml (gd_rc N))
    (ht1 : N = gd_mCode → c.exceptionTable.toList = tableOf [(67, 86, 89, 7)]) (hP : gd_Pc Z args m args' s) (Q : State → Prop)
    (hret : gd_FF Z N p (gd_rm N m m1) s mI args' meth c → ∀ (pc : Nat) (ls : Array Slot) (st : List Value) (H : Heap) (locs : List Loc), gd_Ret N pc v st → gd_HR Z m1 H → va_S (gz_A Z) s.heap H locs → W p l e (gd_rm N m m1) s mI args' below meth c H locs (gN m1 - gN m) (gU m1 - gU m) Q (F0 mI pc ls (st.map (gd_cv Z))))
    (hthr : gd_FF Z N p (gd_rm N m m1) s mI args' meth c → (∃ x, v = .retAddr x) → ∀ (pc : Nat) (ls : Array Slot) (rest : List Value) (H : Heap) (locs : List Loc) (q : Addr) (ce : Cell), gd_HR Z m1 H → va_S (gz_A Z) s.heap H locs → H[q]? = some ce → ce.vm = .none → s.vm.findClass "GymDeskModel$Stop" = some ce.cls → gd_hnd N pc = false → vx_W p l e (gd_rm N m m1) s mI args' below meth c H locs (gN m1 - gN m) (gU m1 - gU m) Q (F0 mI pc ls rest) q) :
    W p l e (gd_rm N m m1) s mI args' below meth c s.heap [] 0 0 Q (entryFrame mI args' (gr_ml (gd_rc N))) := by
  obtain ⟨rfl, hH, hE⟩ := hP
  obtain ⟨hini, hcls, hpl, hm1, hm2⟩ := gd_okM_all hN
  have hts0 := atoms_spec (ws := gd_ws N) B.pre
  have hts : ∀ w ∈ gd_G, w.before _ s = true := fun w h => hts0 w (List.mem_cons_of_mem _ h)
  have hown : s.vm.findClass (gr_y (gd_rc N)).cls = some mI.cls := findClass_of_methodNamed B.named
  rw [hcls] at hown
  have F : gd_FF Z N p (gd_rm N m m1) s mI (args.map (gd_cv Z)).toArray meth c :=
    ⟨B.exec, B.bytes, hml, B.returns, hown, hts, B.notSynchronized, fun q => (name_of_methodNamed B.named B.method).1.trans q, hE, Nat.le_refl _, Nat.le_refl _, ht1⟩
  have hsl : (lg_sl (args.map (gd_cv Z))).length ≤ gr_ml (gd_rc N) := by rw [gd_sl_len hE.1 args 0 hok]; exact hlen
  have hl := lv_entry (args.map (gd_cv Z)) (n := gr_ml (gd_rc N)) hsl
  rw [lg_entry_eq]
  have hL := gd_LR_ent hE.1 hok hl
  exact (IH N 0 _ [] m v m1 hrun).2 p e (gd_rm N m m1) s mI _ below meth c F Q _ _ (Nat.le_refl _) (Nat.le_refl _) (hret F) (hthr F) s.heap _ [] 0 0 hH hL va_S.rf (Nat.zero_add _) (Nat.zero_add _)
theorem gd_metX {l : Launch} {Z : gd_Zt} {n : Nat} (IH : gd_SimAt l Z n) {N : Nat} {args : List Value} {m : gd_M} {v : Value} {m1 : gd_M} (hN : N < 191) (hC : N ≠ gd_mCode) (hrun : gd_run n (gd_ent N args m) = some (v, m1)) (hok : gd_argOk (gr_lng (gd_rc N)) 0 args = true) (hlen : (gd_flat args).length ≤ gr_ml (gd_rc N)) :
    vx_Met l (gr_y (gd_rc N)) (gd_ws N) (gd_rm N m m1) (gd_Pc Z args m) (gd_Qc Z v m1) (gd_XC Z v m1) (gN m1 - gN m) (gU m1 - gU m) (gz_A Z) := by
  refine gd_ofW (gd_okM_all hN).2.2.1 (ws' := gd_G) (by unfold gd_ws; rw [gd_cw_code hC]) ?_
  intro p e s mI args' below meth c s₁ B hml ht hP
  refine gd_body IH hN hrun hok hlen B hml (fun h => absurd h hC) hP _ ?_ ?_
  · intro F pc ls st H locs hR hH hS
    have hv : ∀ x, v ≠ .retAddr x := by
      intro x hx
      subst hx
      rcases hR with ⟨-, y, -, h, -⟩ | ⟨-, y, -, h, -⟩ | ⟨-, y, -, h, -⟩ | ⟨-, -, h, -⟩ <;> cases h
    exact vx_ret (gd_end F hR hS fun t ht2 hW => ⟨hv, rfl, by rw [ht2]; exact hH, hS.F ht2⟩)
  · intro F hv pc ls rest H locs q ce hH hS hce hcv hcl hh
    exact vx_out (fun x hx => (ht x hx).elim) F.2.2.2.2.2.2.1 hce hcv hcl (fun t ht2 hW => ⟨hv, rfl, by rw [ht2]; exact hH, hS.F ht2⟩) hS.2.2 (Nat.le_refl _) (Nat.le_refl _)
theorem gd_metM {l : Launch} {Z : gd_Zt} {n : Nat} (IH : gd_SimAt l Z n) {N : Nat} {args : List Value} {m : gd_M} {v : Value} {m1 : gd_M} (hN : N < 191) (hC : N ≠ gd_mCode) (hv : ∀ x, v ≠ .retAddr x) (hrun : gd_run n (gd_ent N args m) = some (v, m1)) (hok : gd_argOk (gr_lng (gd_rc N)) 0 args = true) (hlen : (gd_flat args).length ≤ gr_ml (gd_rc N)) :
    Met l (gr_y (gd_rc N)) (gd_ws N) (gd_rm N m m1) (gd_Pc Z args m) (gd_Qc Z v m1) (gN m1 - gN m) (gU m1 - gU m) (gz_A Z) := by
  refine gd_ofM (gd_okM_all hN).2.2.1 (ws' := gd_G) (by unfold gd_ws; rw [gd_cw_code hC]) ?_
  intro p e s mI args' below meth c s₁ B hml ht hP
  refine gd_body IH hN hrun hok hlen B hml (fun h => absurd h hC) hP _ ?_ ?_
  · intro F pc ls st H locs hR hH hS
    exact gd_end F hR hS fun t ht2 hW => ⟨hv, rfl, by rw [ht2]; exact hH, hS.F ht2⟩
  · intro F hv2
    obtain ⟨x, hx⟩ := hv2
    exact absurd hx (hv x)
theorem gd_metC {l : Launch} {Z : gd_Zt} {n : Nat} (IH : gd_SimAt l Z n) {args : List Value} {m : gd_M} {v : Value} {m1 : gd_M} (hv : ∀ x, v ≠ .retAddr x) (hrun : gd_run n (gd_ent gd_mCode args m) = some (v, m1)) (hok : gd_argOk (gr_lng (gd_rc gd_mCode)) 0 args = true) (hlen : (gd_flat args).length ≤ gr_ml (gd_rc gd_mCode)) :
    Met l (gr_y (gd_rc gd_mCode)) (gd_ws gd_mCode) (gd_rm gd_mCode m m1) (gd_Pc Z args m) (gd_Qc Z v m1) (gN m1 - gN m) (gU m1 - gU m) (gz_A Z) := by
  refine va_MetW (hh := [(67, 86, 89, 7)]) (ret := gr_ret (gd_rc gd_mCode)) (by decide +kernel) (ws' := gd_G) rfl ?_
  intro p e s mI args' below meth c s₁ B hml hP
  have hw := atoms_spec (ws := gd_ws gd_mCode) B.pre _ List.mem_cons_self
  refine gd_body IH (by decide) hrun hok hlen B hml (fun _ => vx_table (x := gr_y (gd_rc gd_mCode)) B hw) hP _ ?_ ?_
  · intro F pc ls st H locs hR hH hS
    exact gd_end F hR hS fun t ht2 hW => ⟨hv, rfl, by rw [ht2]; exact hH, hS.F ht2⟩
  · intro F hv2
    obtain ⟨x, hx⟩ := hv2
    exact absurd hx (hv x)
section GDY
variable {p : Program} {l : Launch} {e : Env} {R : Room} {s : State} {mI : MethodId} {args : Array Value} {below : List Frame} {meth : Method} {c : Code} {H : Heap} {locs : List Loc} {cells slots : Nat} {Q : State → Prop}
variable {Z : gd_Zt} {M pc : Nat} {st rest : List Value} {ls : Array Slot} {v : Value} {m m1 : gd_M} {a : Array Value}
theorem gd_S_join {H0 : Heap} {st₀ t T' : State} {L : List Loc} (hS : va_S (gz_A Z) H0 H locs) (h0 : st₀.heap = H) (e1 : T'.heap = t.heap) (hF : va_F (gz_A Z) st₀ t) (hL : ∀ q ∈ L, gz_A Z q.base) : va_S (gz_A Z) H0 T'.heap (locs ++ L) := by
  obtain ⟨h1, h2⟩ := hF
  rw [h0] at h1 h2
  refine ⟨Nat.le_trans hS.1 (by rw [e1]; exact h1), fun q g1 g2 => ?_, fun q hq => ?_⟩
  · rw [e1, h2 q (Nat.lt_of_lt_of_le g1 hS.1) g2]
    exact hS.2.1 q g1 g2
  · rcases List.mem_append.mp hq with h | h
    · exact hS.2.2 q h
    · exact hL q h
/-- behind a call that answered -/
theorem gd_back (hr : va_Run p l e R s mI args below meth c H locs cells slots (gN m1 - gN m) (gU m1 - gU m) (F0 mI pc ls st) (rest.map (gd_cv Z)) (gd_Qc Z v m1 a) (gz_A Z)) (hS : va_S (gz_A Z) s.heap H locs)
    (kk : ∀ (H1 : Heap) (locs1 : List Loc), gd_HR Z m1 H1 → va_S (gz_A Z) s.heap H1 locs1 → W p l e R s mI args below meth c H1 locs1 (cells + (gN m1 - gN m)) (slots + (gU m1 - gU m)) Q (F0 mI (pc + 3) ls ((gd_ol v ++ rest).map (gd_cv Z)))) : W p l e R s mI args below meth c H locs cells slots Q (F0 mI pc ls st) := by
  intro T hT X
  obtain ⟨v9, st₀, t, T', L, h0, X', hL, e1, e2, ⟨hv, ho, hH1, hF⟩, hst⟩ := hr T hT X
  injection ho with ho
  subst ho
  obtain ⟨t2, a1, b1⟩ := kk T'.heap (locs ++ L) (by rw [e1]; exact hH1) (gd_S_join hS h0 e1 hF hL) T' rfl X'
  refine ⟨t2, hst t2 ?_, b1⟩
  rw [gd_ov_ol]
  exact a1
/-- behind a call that answered or threw -/
theorem gd_backX (hr : vx_Run p l e R s mI args below meth c H locs cells slots (gN m1 - gN m) (gU m1 - gU m) (F0 mI pc ls st) (rest.map (gd_cv Z)) (gd_Qc Z v m1 a) (gd_XC Z v m1) (gz_A Z)) (hS : va_S (gz_A Z) s.heap H locs)
    (kk : (∀ x, v ≠ .retAddr x) → ∀ (H1 : Heap) (locs1 : List Loc), gd_HR Z m1 H1 → va_S (gz_A Z) s.heap H1 locs1 → W p l e R s mI args below meth c H1 locs1 (cells + (gN m1 - gN m)) (slots + (gU m1 - gU m)) Q (F0 mI (pc + 3) ls ((gd_ol v ++ rest).map (gd_cv Z))))
    (kx : (∃ x, v = .retAddr x) → ∀ (H1 : Heap) (locs1 : List Loc) (q : Addr) (ce : Cell), gd_HR Z m1 H1 → va_S (gz_A Z) s.heap H1 locs1 → H1[q]? = some ce → ce.vm = .none → s.vm.findClass "GymDeskModel$Stop" = some ce.cls → vx_W p l e R s mI args below meth c H1 locs1 (cells + (gN m1 - gN m)) (slots + (gU m1 - gU m)) Q (F0 mI pc ls (rest.map (gd_cv Z))) q) :
    W p l e R s mI args below meth c H locs cells slots Q (F0 mI pc ls st) := by
  intro T hT X
  rcases hr T hT X with ⟨v9, st₀, t, T', L, h0, X', hL, e1, e2, ⟨hv, ho, hH1, hF⟩, hst⟩ | ⟨q, st₀, t, T', L, E, ce, h0, X', hL, e1, e2, ⟨hv, hE, hH1, hF⟩, hce, hcv, hcl, hst⟩
  · injection ho with ho
    subst ho
    obtain ⟨t2, a1, b1⟩ := kk hv T'.heap (locs ++ L) (by rw [e1]; exact hH1) (gd_S_join hS h0 e1 hF hL) T' rfl X'
    refine ⟨t2, hst t2 ?_, b1⟩
    rw [gd_ov_ol]
    exact a1
  · subst hE
    obtain ⟨t2, a1, b1⟩ := kx hv T'.heap (locs ++ L) q ce (by rw [e1]; exact hH1) (gd_S_join hS h0 e1 hF hL) (by rw [e1]; exact hce) hcv hcl T' rfl X'
    exact ⟨t2, hst.trans a1, b1⟩
end GDY
