/-! ===== which instructions go on, which end, which call ===== -/
def gd_oG (M : Nat) (m : gd_M) (p : gd_P) : Prop := p = none ∨ ∃ d : gd_F, p = gd_go d ∧ d.1 = M ∧ gN m ≤ gN d.2.2.2.2 ∧ gU m ≤ gU d.2.2.2.2
theorem gd_oG_n {M : Nat} {m : gd_M} : gd_oG M m none := Or.inl rfl
theorem gd_oG_g {m : gd_M} {M pc : Nat} {loc st : List Value} : gd_oG M m (gd_go (M, pc, loc, st, m)) := Or.inr ⟨_, rfl, rfl, Nat.le_refl _, Nat.le_refl _⟩
theorem gd_oG_I {m : gd_M} {M pc x k : Nat} {v : Int32} {loc st : List Value} : gd_oG M m (gd_go (M, pc, loc, st, wI m x k v)) := Or.inr ⟨_, rfl, rfl, Nat.le_refl _, Nat.le_refl _⟩
theorem gd_oG_J {m : gd_M} {M pc x k : Nat} {v : Int64} {loc st : List Value} : gd_oG M m (gd_go (M, pc, loc, st, wJ m x k v)) := Or.inr ⟨_, rfl, rfl, Nat.le_refl _, Nat.le_refl _⟩
theorem gd_oG_R {m : gd_M} {M pc x k v : Nat} {loc st : List Value} : gd_oG M m (gd_go (M, pc, loc, st, wR m x k v)) := Or.inr ⟨_, rfl, rfl, Nat.le_refl _, Nat.le_refl _⟩
theorem gd_oG_al {m : gd_M} {M pc z : Nat} {loc st : List Value} : gd_oG M m (gd_go (M, pc, loc, st, gd_al m z)) := Or.inr ⟨_, rfl, rfl, Nat.le_succ _, Nat.le_add_right _ _⟩
theorem gd_oG_br {M : Nat} {m : gd_M} {b : Bool} {p q : gd_P} (hp : gd_oG M m p) (hq : gd_oG M m q) : gd_oG M m (gd_br b p q) := by cases b <;> assumption
theorem gd_oG_cd {M : Nat} {m : gd_M} {b : Bool} {p q : gd_P} (hp : gd_oG M m p) (hq : gd_oG M m q) : gd_oG M m (bif b then p else q) := by cases b <;> assumption
theorem gd_oG_if {M : Nat} {m : gd_M} {c : Prop} {dc : Decidable c} {p q : gd_P} (hp : gd_oG M m p) (hq : gd_oG M m q) : gd_oG M m (if c then p else q) := by by_cases h : c <;> simp only [h, if_true, if_false] <;> assumption
theorem gd_oG_sw {M : Nat} {m : gd_M} {f : Int → gd_P} {lo : Int} {os : List Int} {d : Int} {x : Int32} (h : ∀ o, gd_oG M m (f o)) : gd_oG M m (gd_sw f lo os d x) := by
  rcases gd_sw_spec f x os lo d with ⟨k, o, -, -, h3⟩ | ⟨-, h3⟩ <;> rw [h3] <;> exact h _
def gd_simple : Instr → Bool
  | .ireturn | .lreturn | .areturn | .return_ | .athrow | .invokestatic _ | .invokevirtual _ | .invokespecial _ => false
  | _ => true
set_option maxHeartbeats 4000000 in
theorem gd_og {M : Nat} {pc len w a b cc : Nat} {z : Int} {i : Instr} {loc st : List Value} {m : gd_M} (hi : gd_simple i = true) : gd_oG M m (gd_step M (pc, i, len, w, a, b, cc, z) loc st m) := by
  cases i <;> first
    | (cases hi; done)
    | exact gd_oG_n
    | exact gd_oG_g
    | (unfold gd_step; dsimp only
       repeat' first
        | exact gd_oG_n
        | exact gd_oG_g
        | exact gd_oG_I
        | exact gd_oG_J
        | exact gd_oG_R
        | exact gd_oG_al
        | refine gd_oG_br ?_ ?_
        | refine gd_oG_cd ?_ ?_
        | refine gd_oG_sw fun o => ?_
        | split)
/-- an end: the instruction, what lies on the stack, what is answered -/
def gd_Ret (M pc : Nat) (v : Value) (st : List Value) : Prop :=
  (decode (gr_b (gd_rc M)) pc = .ok (.ireturn, 1) ∧ ∃ x, st = [.int x] ∧ v = .int x ∧ gd_fitR (gd_rk (gr_ret (gd_rc M))) x = true) ∨
  (decode (gr_b (gd_rc M)) pc = .ok (.lreturn, 1) ∧ ∃ x, st = [.long x] ∧ v = .long x ∧ gd_rk (gr_ret (gd_rc M)) = 2) ∨
  (decode (gr_b (gd_rc M)) pc = .ok (.areturn, 1) ∧ ∃ x, st = [.ref x] ∧ v = .ref x ∧ gd_rk (gr_ret (gd_rc M)) = 3) ∨
  (decode (gr_b (gd_rc M)) pc = .ok (.return_, 1) ∧ st = [] ∧ v = .null ∧ gd_rk (gr_ret (gd_rc M)) = 0)
def gd_Thr (M : Nat) (pc : Nat) (v : Value) (st : List Value) (m : gd_M) : Prop :=
  decode (gr_b (gd_rc M)) pc = .ok (.athrow, 1) ∧ v = .retAddr 0 ∧ gd_hnd M pc = false ∧ ∃ x r, st = .ref x :: r ∧ gd_ok (gN m) x 8 = true
theorem gd_fin_inj {v v' : Value} {m m' : gd_M} (h : gd_fin v m = gd_fin v' m') : v = v' ∧ m = m' := by
  unfold gd_fin at h
  injection h with h
  injection h with h
  injection h with h1 h2
  exact ⟨h1, h2⟩
theorem gd_go_fin {d : gd_F} {v : Value} {m : gd_M} : gd_go d ≠ gd_fin v m := by
  intro h
  unfold gd_go gd_fin at h
  injection h with h
  cases h
theorem gd_cal_fin {d : gd_F} {k : Value → gd_M → Option gd_O} {v : Value} {m : gd_M} : gd_cal d k ≠ gd_fin v m := by
  intro h
  unfold gd_cal gd_fin at h
  injection h with h
  cases h
theorem gd_cal_go {d c : gd_F} {k : Value → gd_M → Option gd_O} : gd_cal d k ≠ gd_go c := by
  intro h
  unfold gd_cal gd_go at h
  injection h with h
  injection h with h
  cases h
theorem gd_inv_fin {th : Bool} {M pc N : Nat} {args loc rest : List Value} {m m' : gd_M} {v : Value} : gd_inv th M pc N args loc rest m ≠ gd_fin v m' := by
  unfold gd_inv
  cases gd_room M N args rest with
  | true => exact gd_cal_fin
  | false => intro h; cases h
theorem gd_inv_go {th : Bool} {M pc N : Nat} {args loc rest : List Value} {m : gd_M} {d : gd_F} : gd_inv th M pc N args loc rest m ≠ gd_go d := by
  unfold gd_inv
  cases gd_room M N args rest with
  | true => exact gd_cal_go
  | false => intro h; cases h
theorem gd_br_eq {b : Bool} {p q r : gd_P} (h : gd_br b p q = r) : (b = true ∧ p = r) ∨ (b = false ∧ q = r) := by
  cases b
  · exact Or.inr ⟨rfl, h⟩
  · exact Or.inl ⟨rfl, h⟩
theorem gd_cd_eq {b : Bool} {p q r : gd_P} (h : (bif b then p else q) = r) : (b = true ∧ p = r) ∨ (b = false ∧ q = r) := by
  cases b
  · exact Or.inr ⟨rfl, h⟩
  · exact Or.inl ⟨rfl, h⟩
theorem gd_fin_spec {M : Nat} {pc len w a b cc : Nat} {z : Int} {i : Instr} {loc st : List Value} {m m' : gd_M} {v : Value} (ho : gd_okE (gd_rc M) (pc, i, len, w, a, b, cc, z) = true) (hs : gd_step M (pc, i, len, w, a, b, cc, z) loc st m = gd_fin v m') :
    m' = m ∧ (gd_Ret M pc v st ∨ gd_Thr M pc v st m) := by
  cases hi : gd_simple i with
  | true =>
    rcases gd_og (M := M) (pc := pc) (len := len) (w := w) (a := a) (b := b) (cc := cc) (z := z) (loc := loc) (st := st) (m := m) hi with h | ⟨d, h, -⟩
    · rw [h] at hs; cases hs
    · rw [h] at hs; exact absurd hs gd_go_fin
  | false =>
    cases i <;> first | (cases hi; done) | skip
    case ireturn =>
      have ho : (decide (decode (gr_b (gd_rc M)) pc = .ok (.ireturn, len)) && Nat.beq len 1) = true := ho
      obtain ⟨hd, rfl⟩ := gd_and2 ho
      unfold gd_step at hs
      dsimp only at hs
      split at hs
      · next x =>
        rcases gd_br_eq hs with ⟨h1, h2⟩ | ⟨h1, h2⟩
        · obtain ⟨rfl, rfl⟩ := gd_fin_inj h2
          exact ⟨rfl, Or.inl (Or.inl ⟨hd, x, rfl, rfl, h1⟩)⟩
        · cases h2
      · cases hs
    case lreturn =>
      have ho : (decide (decode (gr_b (gd_rc M)) pc = .ok (.lreturn, len)) && Nat.beq len 1) = true := ho
      obtain ⟨hd, rfl⟩ := gd_and2 ho
      unfold gd_step at hs
      dsimp only at hs
      split at hs
      · next x =>
        rcases gd_cd_eq hs with ⟨h1, h2⟩ | ⟨h1, h2⟩
        · obtain ⟨rfl, rfl⟩ := gd_fin_inj h2
          exact ⟨rfl, Or.inl (Or.inr (Or.inl ⟨hd, x, rfl, rfl, Nat.eq_of_beq_eq_true h1⟩))⟩
        · cases h2
      · cases hs
    case areturn =>
      have ho : (decide (decode (gr_b (gd_rc M)) pc = .ok (.areturn, len)) && Nat.beq len 1) = true := ho
      obtain ⟨hd, rfl⟩ := gd_and2 ho
      unfold gd_step at hs
      dsimp only at hs
      split at hs
      · next x =>
        rcases gd_cd_eq hs with ⟨h1, h2⟩ | ⟨h1, h2⟩
        · obtain ⟨rfl, rfl⟩ := gd_fin_inj h2
          exact ⟨rfl, Or.inl (Or.inr (Or.inr (Or.inl ⟨hd, x, rfl, rfl, Nat.eq_of_beq_eq_true h1⟩)))⟩
        · cases h2
      · cases hs
    case return_ =>
      have ho : (decide (decode (gr_b (gd_rc M)) pc = .ok (.return_, len)) && Nat.beq len 1) = true := ho
      obtain ⟨hd, rfl⟩ := gd_and2 ho
      unfold gd_step at hs
      dsimp only at hs
      split at hs
      · rcases gd_cd_eq hs with ⟨h1, h2⟩ | ⟨h1, h2⟩
        · obtain ⟨rfl, rfl⟩ := gd_fin_inj h2
          exact ⟨rfl, Or.inl (Or.inr (Or.inr (Or.inr ⟨hd, rfl, rfl, Nat.eq_of_beq_eq_true h1⟩)))⟩
        · cases h2
      · cases hs
    case athrow =>
      have ho : (decide (decode (gr_b (gd_rc M)) pc = .ok (.athrow, len)) && Nat.beq len 1) = true := ho
      obtain ⟨hd, rfl⟩ := gd_and2 ho
      unfold gd_step at hs
      dsimp only at hs
      split at hs
      · next x r =>
        rcases gd_cd_eq hs with ⟨h1, h2⟩ | ⟨h1, h2⟩
        · cases h2
        · rcases gd_br_eq h2 with ⟨h3, h4⟩ | ⟨h3, h4⟩
          · obtain ⟨rfl, rfl⟩ := gd_fin_inj h4
            exact ⟨rfl, Or.inr ⟨hd, rfl, h1, x, r, rfl, h3⟩⟩
          · cases h4
      · cases hs
    case invokestatic =>
      unfold gd_step at hs
      dsimp only at hs
      rcases gd_cd_eq hs with ⟨h1, h2⟩ | ⟨h1, h2⟩
      · cases h2
      · rcases gd_br_eq h2 with ⟨h3, h4⟩ | ⟨h3, h4⟩
        · exact absurd h4 gd_inv_fin
        · cases h4
    case invokevirtual =>
      unfold gd_step at hs
      dsimp only at hs
      rcases gd_cd_eq hs with ⟨h1, h2⟩ | ⟨h1, h2⟩
      · cases h2
      · split at h2
        · rcases gd_br_eq h2 with ⟨h3, h4⟩ | ⟨h3, h4⟩
          · exact absurd h4 gd_inv_fin
          · cases h4
        · cases h2
    case invokespecial =>
      unfold gd_step at hs
      dsimp only at hs
      split at hs
      · rcases gd_cd_eq hs with ⟨h1, h2⟩ | ⟨h1, h2⟩
        · rcases gd_br_eq h2 with ⟨h3, h4⟩ | ⟨h3, h4⟩
          · exact absurd h4 gd_go_fin
          · cases h4
        · rcases gd_br_eq h2 with ⟨h3, h4⟩ | ⟨h3, h4⟩
          · exact absurd h4 gd_inv_fin
          · cases h4
      · cases hs
/-- one step on -/
theorem gd_go_mono {M : Nat} {pc len w a b cc : Nat} {z : Int} {i : Instr} {loc st : List Value} {m : gd_M} {d : gd_F} (hs : gd_step M (pc, i, len, w, a, b, cc, z) loc st m = gd_go d) : d.1 = M ∧ gN m ≤ gN d.2.2.2.2 ∧ gU m ≤ gU d.2.2.2.2 := by
  cases hi : gd_simple i with
  | true =>
    rcases gd_og (M := M) (pc := pc) (len := len) (w := w) (a := a) (b := b) (cc := cc) (z := z) (loc := loc) (st := st) (m := m) hi with h | ⟨d2, h, h2⟩
    · rw [h] at hs; cases hs
    · rw [h] at hs
      obtain rfl := gd_go_inj hs
      exact h2
  | false =>
    cases i <;> first | (cases hi; done) | skip
    case invokespecial =>
      unfold gd_step at hs
      dsimp only at hs
      split at hs
      · rcases gd_cd_eq hs with ⟨h1, h2⟩ | ⟨h1, h2⟩
        · rcases gd_br_eq h2 with ⟨h3, h4⟩ | ⟨h3, h4⟩
          · obtain rfl := gd_go_inj h4
            exact ⟨rfl, Nat.le_refl _, Nat.le_refl _⟩
          · cases h4
        · rcases gd_br_eq h2 with ⟨h3, h4⟩ | ⟨h3, h4⟩
          · exact absurd h4 gd_inv_go
          · cases h4
      · cases hs
    case invokestatic =>
      unfold gd_step at hs
      dsimp only at hs
      rcases gd_cd_eq hs with ⟨h1, h2⟩ | ⟨h1, h2⟩
      · cases h2
      · rcases gd_br_eq h2 with ⟨h3, h4⟩ | ⟨h3, h4⟩
        · exact absurd h4 gd_inv_go
        · cases h4
    case invokevirtual =>
      unfold gd_step at hs
      dsimp only at hs
      rcases gd_cd_eq hs with ⟨h1, h2⟩ | ⟨h1, h2⟩
      · cases h2
      · split at h2
        · rcases gd_br_eq h2 with ⟨h3, h4⟩ | ⟨h3, h4⟩
          · exact absurd h4 gd_inv_go
          · cases h4
        · cases h2
    case ireturn =>
      unfold gd_step at hs
      dsimp only at hs
      split at hs
      · rcases gd_br_eq hs with ⟨h1, h2⟩ | ⟨h1, h2⟩
        · exact absurd h2.symm gd_go_fin
        · cases h2
      · cases hs
    case athrow =>
      unfold gd_step at hs
      dsimp only at hs
      split at hs
      · rcases gd_cd_eq hs with ⟨h1, h2⟩ | ⟨h1, h2⟩
        · cases h2
        · rcases gd_br_eq h2 with ⟨h3, h4⟩ | ⟨h3, h4⟩
          · exact absurd h4.symm gd_go_fin
          · cases h4
      · cases hs
    all_goals
      unfold gd_step at hs
      dsimp only at hs
      split at hs
      · rcases gd_cd_eq hs with ⟨h1, h2⟩ | ⟨h1, h2⟩
        · exact absurd h2.symm gd_go_fin
        · cases h2
      · cases hs
