/-! ===== the induction over the small machine's runs ===== -/
/-- a call: which, with what, what lies below -/
def gd_CallOf (M : Nat) (i : Instr) (a b cc : Nat) (st : List Value) (m : gd_M) (th : Bool) (args rest : List Value) : Prop :=
  ((∃ k, i = .invokestatic k) ∧ cc ≠ 3 ∧ th = false ∧ b ≤ st.length ∧ args = (st.take b).reverse ∧ rest = st.drop b) ∨
  ((∃ k, i = .invokevirtual k) ∧ cc ≠ 3 ∧ (th = !Nat.beq a gd_mCode) ∧ ∃ x, st.drop b = .ref x :: rest ∧ args = .ref x :: (st.take b).reverse ∧ (bif Nat.beq (gr_cls (gd_rc a)) 11 then Nat.beq x 1 else gd_ok (gN m) x (gr_cls (gd_rc a))) = true) ∨
  ((∃ k, i = .invokespecial k) ∧ cc ≠ 2 ∧ th = false ∧ ∃ x, st.drop b = .ref x :: rest ∧ 8 ≤ x ∧ args = .ref x :: (st.take b).reverse)
theorem gd_go_cal {c d : gd_F} {k : Value → gd_M → Option gd_O} : gd_go c ≠ gd_cal d k := fun h => gd_cal_go h.symm
theorem gd_fin_cal {d : gd_F} {k : Value → gd_M → Option gd_O} {v : Value} {m : gd_M} : gd_fin v m ≠ gd_cal d k := fun h => gd_cal_fin h.symm
theorem gd_inv_cal {th : Bool} {M pc N : Nat} {args loc rest : List Value} {m : gd_M} {d : gd_F} {k : Value → gd_M → Option gd_O} (h : gd_inv th M pc N args loc rest m = gd_cal d k) :
    gd_room M N args rest = true ∧ d = gd_ent N args m ∧ k = gd_kon th M pc (gd_rk (gr_ret (gd_rc N))) loc rest := by
  unfold gd_inv at h
  cases hr : gd_room M N args rest with
  | false => rw [hr] at h; cases h
  | true =>
    rw [hr] at h
    unfold gd_cal at h
    injection h with h
    injection h with h
    injection h with h
    injection h with h1 h2
    exact ⟨rfl, h1.symm, h2.symm⟩
theorem gd_nb {a b : Nat} (h : Nat.beq a b = false) : a ≠ b := Nat.ne_of_beq_eq_false h
theorem gd_cal_spec {M : Nat} {pc len w a b cc : Nat} {z : Int} {i : Instr} {loc st : List Value} {m : gd_M} {d : gd_F} {k : Value → gd_M → Option gd_O} (hs : gd_step M (pc, i, len, w, a, b, cc, z) loc st m = gd_cal d k) :
    ∃ th args rest, gd_CallOf M i a b cc st m th args rest ∧ gd_room M a args rest = true ∧ d = gd_ent a args m ∧ k = gd_kon th M pc (gd_rk (gr_ret (gd_rc a))) loc rest := by
  cases hi : gd_simple i with
  | true =>
    rcases gd_og (M := M) (pc := pc) (len := len) (w := w) (a := a) (b := b) (cc := cc) (z := z) (loc := loc) (st := st) (m := m) hi with h | ⟨d2, h, -⟩
    · rw [h] at hs; cases hs
    · rw [h] at hs; exact absurd hs gd_go_cal
  | false =>
    cases i <;> first | (cases hi; done) | skip
    case invokestatic x =>
      unfold gd_step at hs
      dsimp only at hs
      rcases gd_cd_eq hs with ⟨h1, h2⟩ | ⟨h1, h2⟩
      · cases h2
      · rcases gd_br_eq h2 with ⟨h3, h4⟩ | ⟨h3, h4⟩
        · exact ⟨false, _, _, Or.inl ⟨⟨x, rfl⟩, gd_nb h1, rfl, Nat.le_of_ble_eq_true h3, rfl, rfl⟩, gd_inv_cal h4⟩
        · cases h4
    case invokevirtual x =>
      unfold gd_step at hs
      dsimp only at hs
      rcases gd_cd_eq hs with ⟨h1, h2⟩ | ⟨h1, h2⟩
      · cases h2
      · split at h2
        · next y r hd =>
          rcases gd_br_eq h2 with ⟨h3, h4⟩ | ⟨h3, h4⟩
          · exact ⟨_, _, _, Or.inr (Or.inl ⟨⟨x, rfl⟩, gd_nb h1, rfl, y, hd, rfl, h3⟩), gd_inv_cal h4⟩
          · cases h4
        · cases h2
    case invokespecial x =>
      unfold gd_step at hs
      dsimp only at hs
      split at hs
      · next y r hd =>
        rcases gd_cd_eq hs with ⟨h1, h2⟩ | ⟨h1, h2⟩
        · rcases gd_br_eq h2 with ⟨h3, h4⟩ | ⟨h3, h4⟩
          · exact absurd h4 gd_go_cal
          · cases h4
        · rcases gd_br_eq h2 with ⟨h3, h4⟩ | ⟨h3, h4⟩
          · exact ⟨_, _, _, Or.inr (Or.inr ⟨⟨x, rfl⟩, gd_nb h1, rfl, y, hd, Nat.le_of_ble_eq_true h3, rfl⟩), gd_inv_cal h4⟩
          · cases h4
      · cases hs
    case athrow =>
      unfold gd_step at hs
      dsimp only at hs
      split at hs
      · rcases gd_cd_eq hs with ⟨h1, h2⟩ | ⟨h1, h2⟩
        · cases h2
        · rcases gd_br_eq h2 with ⟨h3, h4⟩ | ⟨h3, h4⟩
          · exact absurd h4 gd_fin_cal
          · cases h4
      · cases hs
    case ireturn =>
      unfold gd_step at hs
      dsimp only at hs
      split at hs
      · rcases gd_br_eq hs with ⟨h1, h2⟩ | ⟨h1, h2⟩
        · exact absurd h2 gd_fin_cal
        · cases h2
      · cases hs
    all_goals
      unfold gd_step at hs
      dsimp only at hs
      split at hs
      · rcases gd_cd_eq hs with ⟨h1, h2⟩ | ⟨h1, h2⟩
        · exact absurd h2 gd_fin_cal
        · cases h2
      · cases hs
/-- a store of something that is never looked at -/
theorem gd_LR_st0 {Z : gd_Zt} {U : State} (hE : gd_EK Z U) {M : Nat} {loc : List Value} {ls ls' : Array Slot} (h : gd_LR Z M loc ls) {n : Nat} {u : Value} (hs : gd_stOk (gr_lng (gd_rc M)) n (gr_ml (gd_rc M)) = true)
    (h' : lv_has ls' (gr_ml (gd_rc M)) ((n, u) :: (gd_lst Z (gr_ml (gd_rc M)) loc).filter (fun q => !(q.1 == n) && !(q.1 + 1 == n && q.2.category == 2)))) : gd_LR Z M (gd_set loc n .null) ls' := by
  unfold gd_stOk at hs
  simp only [Bool.and_eq_true] at hs
  refine ⟨h'.1, h'.2.1, fun j hj => ?_, fun j => ?_⟩
  · rw [gd_at_set] at hj ⊢
    by_cases hjn : j = n
    · rw [if_pos hjn] at hj
      split at hj <;> exact absurd rfl hj
    · rw [if_neg hjn] at hj ⊢
      have hlt : j < gr_ml (gd_rc M) := by rw [← h.1]; exact gd_nth_lt (h.2.2.1 j hj)
      refine h'.2.2 (j, gd_cv Z (gd_at loc j)) (List.mem_cons_of_mem _ (List.mem_filter.mpr ⟨gd_lst_mem hlt hj, ?_⟩))
      simp only [Bool.and_eq_true, Bool.not_eq_true', beq_eq_false_iff_ne, ne_eq, Bool.and_eq_false_iff]
      refine ⟨hjn, ?_⟩
      by_cases h1 : j + 1 = n
      · right
        intro h2
        have h3 := (h.2.2.2 j).2 (gd_cv_cat hE (h.2.2.2 j).1 h2)
        have h4 := hs.1.2
        rw [← h1] at h4
        simp at h4
        rw [List.elem_eq_mem] at h3
        simp at h3
        exact h4 h3
      · left; exact h1
  · rw [gd_at_set]
    by_cases hjn : j = n
    · rw [if_pos hjn]
      split <;> exact ⟨rfl, fun q => by cases q⟩
    · rw [if_neg hjn]
      exact h.2.2.2 j
theorem gd_hnd_spec {M pc : Nat} (h : gd_hnd M pc = true) : M = gd_mCode ∧ 67 ≤ pc ∧ pc ≤ 85 := by
  unfold gd_hnd at h
  obtain ⟨h, h3⟩ := gd_andb h
  obtain ⟨h1, h2⟩ := gd_andb h
  exact ⟨Nat.eq_of_beq_eq_true h1, Nat.le_of_ble_eq_true h2, Nat.le_of_ble_eq_true h3⟩
theorem gd_d89 : decode (gr_b (gd_rc gd_mCode)) 89 = .ok (.astore_n 1, 1) := by decide +kernel
theorem gd_s89 : gd_stOk (gr_lng (gd_rc gd_mCode)) 1 (gr_ml (gd_rc gd_mCode)) = true := by decide +kernel
theorem gd_cl89 : Jvm.Cond.classLink "GymDeskModel" 7 "GymDeskModel$Stop" ∈ gd_G := by decide +kernel
theorem gd_own89 : gd_cn (gr_cls (gd_rc gd_mCode)) = "GymDeskModel" := by decide +kernel
theorem gd_nst {a : Nat} (h : gd_wd (gr_pi (gd_rc a)) (.static (gr_y (gd_rc a))) = true) : a ≠ gd_mCode := by
  intro q
  subst q
  exact absurd h (by decide +kernel)
/-- the five private constructors' links -/
theorem gd_nest_all : lw_tbl.all (fun w => match w with
  | .methodLinkNest c k y h => decide (c = h) && gd_nests.any (fun q => decide (q = (c, k, y)))
  | _ => true) = true := by decide +kernel
theorem gd_nest_mem {w : Nat} {c : String} {k : Nat} {y : MethodName} (h : gd_wd w (.methodLinkNest c k y c) = true) : (c, k, y) ∈ gd_nests := by
  unfold gd_wd at h
  have h1 := List.all_eq_true.mp gd_nest_all _ (List.mem_of_getElem? (of_decide_eq_true h))
  dsimp only at h1
  obtain ⟨-, h2⟩ := gd_andb h1
  obtain ⟨q, hq, h3⟩ := List.any_eq_true.mp h2
  have h4 := of_decide_eq_true h3
  subst h4
  exact hq
