/-! ===== a method's entry and end ===== -/
section GDW
variable {l : Launch}
/-- as vx_ofW and Met.ofW, of any method for which the machine has no row of its own -/
theorem gd_ofW {y : MethodName} {ws ws' : List Cond} {rm : Room} {Pc : Array Value → State → Prop} {Qc : Array Value → State → Outcome → State → Prop} {XC : String → State → State → Prop} {mc ms : Nat} {free : Addr → Prop} {cc : ByteArray} {maxL : Nat} {ret : Option FieldType}
    (hy : plainFor y = true) (hw : ws = Cond.code y cc maxL ret :: ws')
    (body : ∀ p e s m args below meth c s₁, BodyLoose p l y (headSpec ws rm) cc maxL ret e s m args below meth c s₁ → c.maxLocals = maxL → (∀ x ∈ c.exceptionTable.toList, False) → Pc args s →
      W p l e (headSpec ws rm).room s m args below meth c s.heap [] 0 0 (vx_MQ below Qc XC args s mc ms free) (entryFrame m args maxL)) : vx_Met l y ws rm Pc Qc XC mc ms free := by
  refine MetFree.of_bodySF (code := cc) (maxLocals := maxL) (ret := ret) hy ?_ ?_
  · intro args s m h hn
    obtain ⟨meth, c, h1, h2, h3, h4, h5, h6, -, -⟩ := Cond.code_spec hn (atoms_spec (ws := ws) h _ (by rw [hw]; exact List.mem_cons_self))
    exact ⟨meth, c, h1, h2, h3, h4, h5, h6⟩
  · intro p e s m args below meth c s₁ B hml hP _
    have hh0 : s₁.heap = s.heap := by rw [B.state]; rfl
    have ht : ∀ x ∈ c.exceptionTable.toList, False := by
      obtain ⟨meth9, c9, h1, h2, -, -, -, -, h7, -⟩ := Cond.code_spec B.named (atoms_spec (ws := ws) B.pre _ (by rw [hw]; exact List.mem_cons_self))
      cases Option.some.inj (h1.symm.trans B.method)
      cases Option.some.inj (h2.symm.trans (Stand.of_body B).code)
      intro x hx
      rw [Array.isEmpty_iff.mp h7] at hx
      cases hx
    obtain ⟨t, a1, o, b1, b2, b3⟩ := body p e s m args below meth c s₁ B hml ht hP s₁ hh0 (Stand.of_body B)
    exact ⟨t, o, a1, b1, b2, b3⟩
theorem gd_ofM {y : MethodName} {ws ws' : List Cond} {rm : Room} {Pc : Array Value → State → Prop} {Qc : Array Value → State → Outcome → State → Prop} {mc ms : Nat} {free : Addr → Prop} {cc : ByteArray} {maxL : Nat} {ret : Option FieldType}
    (hy : plainFor y = true) (hw : ws = Cond.code y cc maxL ret :: ws')
    (body : ∀ p e s m args below meth c s₁, BodyLoose p l y (headSpec ws rm) cc maxL ret e s m args below meth c s₁ → c.maxLocals = maxL → (∀ x ∈ c.exceptionTable.toList, False) → Pc args s →
      W p l e (headSpec ws rm).room s m args below meth c s.heap [] 0 0 (MQ below Qc args s mc ms free) (entryFrame m args maxL)) : Met l y ws rm Pc Qc mc ms free := by
  refine MetFree.of_bodySF (code := cc) (maxLocals := maxL) (ret := ret) hy ?_ ?_
  · intro args s m h hn
    obtain ⟨meth, c, h1, h2, h3, h4, h5, h6, -, -⟩ := Cond.code_spec hn (atoms_spec (ws := ws) h _ (by rw [hw]; exact List.mem_cons_self))
    exact ⟨meth, c, h1, h2, h3, h4, h5, h6⟩
  · intro p e s m args below meth c s₁ B hml hP _
    have hh0 : s₁.heap = s.heap := by rw [B.state]; rfl
    have ht : ∀ x ∈ c.exceptionTable.toList, False := by
      obtain ⟨meth9, c9, h1, h2, -, -, -, -, h7, -⟩ := Cond.code_spec B.named (atoms_spec (ws := ws) B.pre _ (by rw [hw]; exact List.mem_cons_self))
      cases Option.some.inj (h1.symm.trans B.method)
      cases Option.some.inj (h2.symm.trans (Stand.of_body B).code)
      intro x hx
      rw [Array.isEmpty_iff.mp h7] at hx
      cases hx
    obtain ⟨t, a1, o, b1, b2, b3⟩ := body p e s m args below meth c s₁ B hml ht hP s₁ hh0 (Stand.of_body B)
    exact ⟨t, o, a1, b1, b2, ⟨b3.1, b3.2⟩⟩
/-- the table of a body with handlers -/
theorem vx_table {p : Program} {x y : MethodName} {S : Spec} {cc bytes : ByteArray} {maxL maxL' : Nat} {ret ret' : Option FieldType} {e : Env} {s s₁ : State} {m : MethodId} {args : Array Value} {below : List Frame} {meth : Method} {c : Code} {hh : List (Nat × Nat × Nat × Nat)}
    (B : BodyLoose p l y S cc maxL ret e s m args below meth c s₁) (h : (Cond.codeWith y bytes maxL' ret' hh).before args s = true) : c.exceptionTable.toList = tableOf hh := by
  obtain ⟨m9, meth9, c9, hn9, h1, h2, -, -, h6, -⟩ := Cond.codeWith_spec h
  cases Option.some.inj (hn9.symm.trans B.named)
  cases Option.some.inj (h1.symm.trans B.method)
  cases Option.some.inj (h2.symm.trans (Stand.of_body B).code)
  rw [← h6, table_eq]
end GDW
theorem gd_pad_at : ∀ (n : Nat) (l : List Value) (i : Nat), gd_at (gd_pad n l) i = if i < n then gd_at l i else .null
  | 0, l, i => by simp [gd_pad, gd_at]
  | n + 1, [], 0 => by simp [gd_pad, gd_at]
  | n + 1, [], i + 1 => by
    have h := gd_pad_at n [] i
    simp only [gd_pad, gd_at] at h ⊢
    rw [h]; split <;> split <;> rfl
  | n + 1, v :: l, 0 => by simp [gd_pad, gd_at]
  | n + 1, v :: l, i + 1 => by
    have h := gd_pad_at n l i
    simp only [gd_pad, gd_at]
    rw [h]
    by_cases hi : i < n
    · rw [if_pos hi, if_pos (by omega)]
    · rw [if_neg hi, if_neg (by omega)]
theorem gd_flat_mem {Z : gd_Zt} {U : State} (hE : gd_EK Z U) {lng : List Nat} : ∀ (args : List Value) (k : Nat), gd_argOk lng k args = true → ∀ i, gd_at (gd_flat args) i ≠ .null → (k + i, gd_cv Z (gd_at (gd_flat args) i)) ∈ lv_args k (args.map (gd_cv Z))
  | [], k, _, i, h => absurd rfl h
  | .int x :: l, k, hok, i, h => by
    unfold lv_args List.map
    cases i with
    | zero => exact List.mem_cons_self
    | succ i =>
      have h2 := gd_flat_mem hE l (k + 1) hok i h
      rw [show k + 1 + i = k + (i + 1) by omega] at h2
      exact List.mem_cons_of_mem _ h2
  | .ref x :: l, k, hok, i, h => by
    have hc : (gd_cv Z (.ref x)).category = 1 := gd_cat hE (.ref x)
    show _ ∈ (k, gd_cv Z (.ref x)) :: lv_args (if (gd_cv Z (.ref x)).category = 2 then k + 2 else k + 1) (l.map (gd_cv Z))
    rw [if_neg (by rw [hc]; decide)]
    cases i with
    | zero => exact List.mem_cons_self
    | succ i =>
      have h2 := gd_flat_mem hE l (k + 1) hok i h
      rw [show k + 1 + i = k + (i + 1) by omega] at h2
      exact List.mem_cons_of_mem _ h2
  | .long x :: l, k, hok, i, h => by
    unfold lv_args List.map
    match i, h with
    | 0, h => exact List.mem_cons_self
    | 1, h => exact absurd rfl h
    | i + 2, h =>
      have hok2 : gd_argOk lng (k + 2) l = true := (gd_andb hok).2
      have h2 := gd_flat_mem hE l (k + 2) hok2 i h
      rw [show k + 2 + i = k + (i + 2) by omega] at h2
      exact List.mem_cons_of_mem _ h2
  | .null :: l, k, hok, i, h => nomatch hok
  | .float x :: l, k, hok, i, h => nomatch hok
  | .double x :: l, k, hok, i, h => nomatch hok
  | .retAddr x :: l, k, hok, i, h => nomatch hok
theorem gd_flat_ok {lng : List Nat} : ∀ (args : List Value) (k : Nat), gd_argOk lng k args = true → ∀ i, gd_vok (gd_at (gd_flat args) i) = true ∧ (gd_isL (gd_at (gd_flat args) i) = true → lng.elem (k + i) = true)
  | [], k, _, i => ⟨rfl, fun h => nomatch h⟩
  | .int x :: l, k, hok, i => by
    cases i with
    | zero => exact ⟨rfl, fun h => nomatch h⟩
    | succ i =>
      have h2 := gd_flat_ok l (k + 1) hok i
      rw [show k + 1 + i = k + (i + 1) by omega] at h2
      exact h2
  | .ref x :: l, k, hok, i => by
    cases i with
    | zero => exact ⟨rfl, fun h => nomatch h⟩
    | succ i =>
      have h2 := gd_flat_ok l (k + 1) hok i
      rw [show k + 1 + i = k + (i + 1) by omega] at h2
      exact h2
  | .long x :: l, k, hok, i => by
    match i with
    | 0 => exact ⟨rfl, fun _ => (gd_andb hok).1⟩
    | 1 => exact ⟨rfl, fun h => nomatch h⟩
    | i + 2 =>
      have hok2 : gd_argOk lng (k + 2) l = true := (gd_andb hok).2
      have h2 := gd_flat_ok l (k + 2) hok2 i
      rw [show k + 2 + i = k + (i + 2) by omega] at h2
      exact h2
  | .null :: l, k, hok, i => nomatch hok
  | .float x :: l, k, hok, i => nomatch hok
  | .double x :: l, k, hok, i => nomatch hok
  | .retAddr x :: l, k, hok, i => nomatch hok
theorem gd_sl_len {Z : gd_Zt} {U : State} (hE : gd_EK Z U) {lng : List Nat} : ∀ (args : List Value) (k : Nat), gd_argOk lng k args = true → (lg_sl (args.map (gd_cv Z))).length = (gd_flat args).length
  | [], k, _ => rfl
  | .int x :: l, k, hok => by
    have h := gd_sl_len hE l (k + 1) hok
    show (lg_sl (.int x :: l.map (gd_cv Z))).length = _
    unfold lg_sl at h ⊢
    rw [List.flatMap_cons, if_neg (show ¬ (Value.int x).category = 2 from by show ¬ (1 : Nat) = 2; decide), List.length_append, h]
    show 1 + _ = (gd_flat l).length + 1
    omega
  | .ref x :: l, k, hok => by
    have h := gd_sl_len hE l (k + 1) hok
    have hc : (gd_cv Z (.ref x)).category = 1 := gd_cat hE (.ref x)
    show (lg_sl (gd_cv Z (.ref x) :: l.map (gd_cv Z))).length = _
    unfold lg_sl at h ⊢
    rw [List.flatMap_cons, if_neg (by rw [hc]; decide), List.length_append, h]
    show 1 + _ = (gd_flat l).length + 1
    omega
  | .long x :: l, k, hok => by
    have h := gd_sl_len hE l (k + 2) (gd_andb hok).2
    show (lg_sl (.long x :: l.map (gd_cv Z))).length = _
    unfold lg_sl at h ⊢
    rw [List.flatMap_cons, if_pos (show (Value.long x).category = 2 from rfl), List.length_append, h]
    show 2 + _ = (gd_flat l).length + 1 + 1
    omega
  | .null :: l, k, hok => nomatch hok
  | .float x :: l, k, hok => nomatch hok
  | .double x :: l, k, hok => nomatch hok
  | .retAddr x :: l, k, hok => nomatch hok
theorem gd_LR_ent {Z : gd_Zt} {U : State} (hE : gd_EK Z U) {N : Nat} {args : List Value} (hok : gd_argOk (gr_lng (gd_rc N)) 0 args = true) {ls : Array Slot} (h : lv_has ls (gr_ml (gd_rc N)) (lv_args 0 (args.map (gd_cv Z)))) : gd_LR Z N (gd_pad (gr_ml (gd_rc N)) (gd_flat args)) ls := by
  refine ⟨h.1, h.2.1, fun i hi => ?_, fun i => ?_⟩
  · rw [gd_pad_at] at hi ⊢
    by_cases hl : i < gr_ml (gd_rc N)
    · rw [if_pos hl] at hi ⊢
      have h2 := gd_flat_mem hE args 0 hok i hi
      rw [Nat.zero_add] at h2
      exact h.2.2 _ h2
    · rw [if_neg hl] at hi
      exact absurd rfl hi
  · rw [gd_pad_at]
    by_cases hl : i < gr_ml (gd_rc N)
    · rw [if_pos hl]
      have h2 := gd_flat_ok args 0 hok i
      rwa [Nat.zero_add] at h2
    · rw [if_neg hl]
      exact ⟨rfl, fun h => nomatch h⟩
def gd_ov (Z : gd_Zt) : Value → Option Value
  | .null => none
  | v => some (gd_cv Z v)
def gd_ol : Value → List Value
  | .null => []
  | v => [v]
theorem gd_ov_ol {Z : gd_Zt} (v : Value) (rest : List Value) : (gd_ov Z v).toList ++ rest.map (gd_cv Z) = (gd_ol v ++ rest).map (gd_cv Z) := by
  cases v <;> rfl
theorem gd_kon_spec {th : Bool} {M pc k : Nat} {loc rest : List Value} {v1 : Value} {m1 : gd_M} {o : gd_O} (h : gd_kon th M pc k loc rest v1 m1 = some o) :
    ((∀ x, v1 ≠ .retAddr x) ∧ o = .inr (M, pc + 3, loc, gd_ol v1 ++ rest, m1)) ∨ ((∃ x, v1 = .retAddr x) ∧ th = true ∧ ((gd_hnd M pc = true ∧ o = .inr (M, 90, gd_set loc 1 .null, [], m1)) ∨ (gd_hnd M pc = false ∧ o = .inl (.retAddr 0, m1)))) := by
  unfold gd_kon at h
  cases v1 with
  | int x =>
    dsimp only at h
    cases hb : (Nat.beq k 1 || Nat.beq k 4 || Nat.beq k 5 || Nat.beq k 6) with
    | false => rw [hb] at h; cases h
    | true => rw [hb] at h; exact Or.inl ⟨(fun _ q => nomatch q), (Option.some.inj h).symm⟩
  | long x =>
    dsimp only at h
    cases hb : Nat.beq k 2 with
    | false => rw [hb] at h; cases h
    | true => rw [hb] at h; exact Or.inl ⟨(fun _ q => nomatch q), (Option.some.inj h).symm⟩
  | ref x =>
    dsimp only at h
    cases hb : Nat.beq k 3 with
    | false => rw [hb] at h; cases h
    | true => rw [hb] at h; exact Or.inl ⟨(fun _ q => nomatch q), (Option.some.inj h).symm⟩
  | null =>
    dsimp only at h
    cases hb : Nat.beq k 0 with
    | false => rw [hb] at h; cases h
    | true => rw [hb] at h; exact Or.inl ⟨(fun _ q => nomatch q), (Option.some.inj h).symm⟩
  | float x => cases h
  | double x => cases h
  | retAddr x =>
    dsimp only at h
    cases th with
    | false => cases h
    | true =>
      refine Or.inr ⟨⟨x, rfl⟩, rfl, ?_⟩
      have h : (bif gd_hnd M pc then some (Sum.inr (M, 90, gd_set loc 1 .null, [], m1)) else some (Sum.inl (.retAddr 0, m1))) = some o := h
      cases hh : gd_hnd M pc with
      | true => rw [hh] at h; exact Or.inl ⟨rfl, (Option.some.inj h).symm⟩
      | false => rw [hh] at h; exact Or.inr ⟨rfl, (Option.some.inj h).symm⟩
theorem gd_fit_ret {ret : Option FieldType} {x : Int32} (h : gd_fitR (gd_rk ret) x = true) : ∃ ty, ret = some ty ∧ narrow ty (.int x) = .int x := by
  have hbo : gd_bo x = true → narrow .boolean (.int x) = .int x := fun hb => (gd_nf (ty := .boolean) rfl (Or.inr ⟨rfl, hb⟩)).1
  cases ret with
  | none => cases h
  | some ty =>
    refine ⟨ty, rfl, ?_⟩
    cases ty with
    | int => rfl
    | boolean => exact hbo h
    | byte => exact of_decide_eq_true h
    | char => exact of_decide_eq_true h
    | _ => cases h
theorem gd_rk_none {ret : Option FieldType} (h : gd_rk ret = 0) : ret = none := by
  cases ret with
  | none => rfl
  | some ty => cases ty <;> cases h
theorem gd_rk_long {ret : Option FieldType} (h : gd_rk ret = 2) : ret = some .long := by
  cases ret with
  | none => cases h
  | some ty => cases ty <;> first | rfl | cases h
theorem gd_rk_ref {ret : Option FieldType} (h : gd_rk ret = 3) : ∃ rt, ret = some rt ∧ ((∃ n, rt = .object n) ∨ ∃ t, rt = .array t) := by
  cases ret with
  | none => cases h
  | some ty =>
    refine ⟨ty, rfl, ?_⟩
    cases ty with
    | object n => exact Or.inl ⟨n, rfl⟩
    | array t => exact Or.inr ⟨t, rfl⟩
    | _ => cases h
section GDX
variable {p : Program} {l : Launch} {e : Env} {R : Room} {s : State} {mI : MethodId} {args : Array Value} {below : List Frame} {meth : Method} {c : Code} {H : Heap} {locs : List Loc} {kc ks : Nat}
variable {Z : gd_Zt} {M pc : Nat} {st : List Value} {ls : Array Slot} {v : Value}
/-- a method's end, as what it owes -/
theorem gd_end (F : gd_FF Z M p R s mI args meth c) {Qc : Array Value → State → Outcome → State → Prop} (hR : gd_Ret M pc v st) (hS : va_S (gz_A Z) s.heap H locs) (hq : ∀ t : State, t.heap = H → s.WarmedH t.vm → Qc args s (.returned (gd_ov Z v)) t) :
    W p l e R s mI args below meth c H locs kc ks (MQ below Qc args s kc ks (gz_A Z)) (F0 mI pc ls (st.map (gd_cv Z))) := by
  obtain ⟨hx, hb, hml, hr, hown, hts, hlk, hnm, hE, hfr, hlo, htb1⟩ := F
  rcases hR with ⟨hd, x, rfl, rfl, hf⟩ | ⟨hd, x, rfl, rfl, hf⟩ | ⟨hd, x, rfl, rfl, hf⟩ | ⟨hd, rfl, rfl, hf⟩
  · obtain ⟨ty, h1, h2⟩ := gd_fit_ret hf
    exact W.zret hx hb (hr.trans h1) h2 hq hS.2.2 hd
  · exact W.lret hx hb (hr.trans (gd_rk_long hf)) hq hS.2.2 hd
  · obtain ⟨rt, h1, h2⟩ := gd_rk_ref hf
    exact W.aret hx hb (hr.trans h1) h2 (gd_adr_nr hE.1 x) hq hS.2.2 hd
  · exact W.vret hx hb (hr.trans (gd_rk_none hf)) hq hS.2.2 hd
end GDX
