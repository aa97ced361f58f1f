/-! ===== the small machine's step, run and denotation ===== -/
def gd_fetch (M pc : Nat) : Option gd_E := gd_find (gr_code (gd_rc M)) pc
def gd_ok (n a k : Nat) : Bool := Nat.beq (gd_KD a) k && decide (a < n)
def gd_okA (n a k : Nat) (i : Int32) : Bool := Nat.beq (gd_KD a) k && decide (a < n) && gd_in i (gd_LN a)
/-- GymDeskModel.code alone catches; behind the catch its handler stores what was thrown and never looks at it -/
def gd_hnd (M pc : Nat) : Bool := Nat.beq M gd_mCode && Nat.ble 67 pc && Nat.ble pc 85
def gd_kon (th : Bool) (M pc k : Nat) (loc rest : List Value) : Value → gd_M → Option gd_O := fun v m' => match v with
  | .retAddr _ => bif !th then none else bif gd_hnd M pc then some (.inr (M, 90, gd_set loc 1 .null, [], m')) else some (.inl (.retAddr 0, m'))
  | .null => bif Nat.beq k 0 then some (.inr (M, pc + 3, loc, rest, m')) else none
  | .int x => bif Nat.beq k 1 || Nat.beq k 4 || Nat.beq k 5 || Nat.beq k 6 then some (.inr (M, pc + 3, loc, .int x :: rest, m')) else none
  | .long x => bif Nat.beq k 2 then some (.inr (M, pc + 3, loc, .long x :: rest, m')) else none
  | .ref x => bif Nat.beq k 3 then some (.inr (M, pc + 3, loc, .ref x :: rest, m')) else none
  | _ => none
/-- room for a call: frames, locals, what lies on the stack -/
def gd_room (M N : Nat) (args rest : List Value) : Bool :=
  Nat.ble (gr_fr (gd_rc N) + 1) (gr_fr (gd_rc M)) && Nat.ble (8 + (gr_ml (gd_rc N) + 11) + gr_lo (gd_rc N)) (gr_lo (gd_rc M)) && Nat.ble (gd_pcs rest) 8 && gd_argOk (gr_lng (gd_rc N)) 0 args && Nat.ble (gd_flat args).length (gr_ml (gd_rc N))
def gd_ent (N : Nat) (args : List Value) (m : gd_M) : gd_F := (N, 0, gd_pad (gr_ml (gd_rc N)) (gd_flat args), [], m)
def gd_inv (th : Bool) (M pc N : Nat) (args : List Value) (loc rest : List Value) (m : gd_M) : gd_P :=
  bif gd_room M N args rest then gd_cal (gd_ent N args m) (gd_kon th M pc (gd_rk (gr_ret (gd_rc N))) loc rest) else none
/-- a store at n of one slot: not into a long's second half -/
def gd_stOk (lng : List Nat) (n ml : Nat) : Bool := Nat.blt n ml && (Nat.beq n 0 || !lng.elem (n - 1)) && !lng.elem n
def gd_stLOk (lng : List Nat) (n ml : Nat) : Bool := Nat.blt (n + 1) ml && (Nat.beq n 0 || !lng.elem (n - 1)) && lng.elem n && !lng.elem (n + 1)
def gd_ifz : ClassFile.Cond → Int32 → Bool
  | .eq, x => decide (x = 0)
  | .ne, x => decide (¬ x = 0)
  | .lt, x => decide (x < 0)
  | .ge, x => decide (¬ x < 0)
  | .gt, x => decide (0 < x)
  | .le, x => decide (¬ 0 < x)
def gd_ifc : ClassFile.Cond → Int32 → Int32 → Bool
  | .eq, x, y => decide (x = y)
  | .ne, x, y => decide (¬ x = y)
  | .lt, x, y => decide (x < y)
  | .ge, x, y => decide (¬ x < y)
  | .gt, x, y => decide (y < x)
  | .le, x, y => decide (¬ y < x)
def gd_br {α : Type} (b : Bool) (x y : α) : α := bif b then x else y
def gd_akd : ClassFile.ArrayType → Nat
  | .int => 10
  | .boolean => 11
  | .byte => 12
  | .long => 13
  | _ => 77
def gd_bo (x : Int32) : Bool := decide (x = 0) || decide (x = 1)
/-- an int fits the answer's type -/
def gd_fitR (k : Nat) (x : Int32) : Bool :=
  bif Nat.beq k 1 then true else bif Nat.beq k 4 then gd_bo x else bif Nat.beq k 5 then decide (narrow .byte (.int x) = .int x) else bif Nat.beq k 6 then decide (narrow .char (.int x) = .int x) else false
/-- an int kept by a field of a type: 0 int, 1 boolean -/
def gd_fitP (k : Nat) (x : Int32) : Bool := bif Nat.beq k 0 then true else bif Nat.beq k 1 then gd_bo x else false
/-- one instruction of method M -/
def gd_step (M : Nat) (e : gd_E) (loc st : List Value) (m : gd_M) : gd_P :=
  let pc := e.1
  let len := e.2.2.1
  let a := e.2.2.2.2.1
  let b := e.2.2.2.2.2.1
  let c := e.2.2.2.2.2.2.1
  let z := e.2.2.2.2.2.2.2
  let psh : Value → gd_P := fun v => gd_go (M, pc + len, loc, v :: st, m)
  match e.2.1 with
  | .aconst_null => psh (.ref 0)
  | .iconst n => psh (.int (Int32.ofInt n))
  | .bipush n => psh (.int (Int8.ofInt n).toInt32)
  | .sipush n => psh (.int (Int16.ofInt n).toInt32)
  | .lconst n => psh (.long (Int64.ofNat (n : Nat)))
  | .ldc _ => bif Nat.beq c 0 then psh (.int (Int32.ofInt z)) else psh (.ref 1)
  | .ldc_w _ => bif Nat.beq c 0 then psh (.int (Int32.ofInt z)) else none
  | .ldc2_w _ => psh (.long (Int64.ofInt z))
  | .iload n => match gd_at loc n with
    | .int x => psh (.int x)
    | _ => none
  | .iload_n n => match gd_at loc n with
    | .int x => psh (.int x)
    | _ => none
  | .aload n => match gd_at loc n with
    | .ref x => psh (.ref x)
    | _ => none
  | .aload_n n => match gd_at loc n with
    | .ref x => psh (.ref x)
    | _ => none
  | .lload n => match gd_at loc n with
    | .long x => psh (.long x)
    | _ => none
  | .lload_n n => match gd_at loc n with
    | .long x => psh (.long x)
    | _ => none
  | .istore n => match st with
    | .int x :: r => bif gd_stOk (gr_lng (gd_rc M)) n (gr_ml (gd_rc M)) then gd_go (M, pc + len, gd_set loc n (.int x), r, m) else none
    | _ => none
  | .istore_n n => match st with
    | .int x :: r => bif gd_stOk (gr_lng (gd_rc M)) n (gr_ml (gd_rc M)) then gd_go (M, pc + len, gd_set loc n (.int x), r, m) else none
    | _ => none
  | .astore n => match st with
    | .ref x :: r => bif gd_stOk (gr_lng (gd_rc M)) n (gr_ml (gd_rc M)) then gd_go (M, pc + len, gd_set loc n (.ref x), r, m) else none
    | _ => none
  | .astore_n n => match st with
    | .ref x :: r => bif gd_stOk (gr_lng (gd_rc M)) n (gr_ml (gd_rc M)) then gd_go (M, pc + len, gd_set loc n (.ref x), r, m) else none
    | _ => none
  | .lstore_n n => match st with
    | .long x :: r => bif gd_stLOk (gr_lng (gd_rc M)) n (gr_ml (gd_rc M)) then gd_go (M, pc + len, gd_set (gd_set loc n (.long x)) (n + 1) .null, r, m) else none
    | _ => none
  | .iinc n k => match gd_at loc n with
    | .int x => bif gd_stOk (gr_lng (gd_rc M)) n (gr_ml (gd_rc M)) then gd_go (M, pc + len, gd_set loc n (.int (x + Int32.ofInt k)), st, m) else none
    | _ => none
  | .dup => match st with
    | .int x :: r => gd_go (M, pc + len, loc, .int x :: .int x :: r, m)
    | .ref x :: r => gd_go (M, pc + len, loc, .ref x :: .ref x :: r, m)
    | _ => none
  | .dup2 => match st with
    | .int x :: .ref y :: r => gd_go (M, pc + len, loc, .int x :: .ref y :: .int x :: .ref y :: r, m)
    | _ => none
  | .pop => match st with
    | .int _ :: r => gd_go (M, pc + len, loc, r, m)
    | .ref _ :: r => gd_go (M, pc + len, loc, r, m)
    | _ => none
  | .iadd => match st with
    | .int y :: .int x :: r => gd_go (M, pc + len, loc, .int (x + y) :: r, m)
    | _ => none
  | .isub => match st with
    | .int y :: .int x :: r => gd_go (M, pc + len, loc, .int (x - y) :: r, m)
    | _ => none
  | .imul => match st with
    | .int y :: .int x :: r => gd_go (M, pc + len, loc, .int (x * y) :: r, m)
    | _ => none
  | .idiv => match st with
    | .int y :: .int x :: r => if y = 0 then none else gd_go (M, pc + len, loc, .int (x / y) :: r, m)
    | _ => none
  | .irem => match st with
    | .int y :: .int x :: r => if y = 0 then none else gd_go (M, pc + len, loc, .int (x - x / y * y) :: r, m)
    | _ => none
  | .iand => match st with
    | .int y :: .int x :: r => gd_go (M, pc + len, loc, .int (x &&& y) :: r, m)
    | _ => none
  | .ior => match st with
    | .int y :: .int x :: r => gd_go (M, pc + len, loc, .int (x ||| y) :: r, m)
    | _ => none
  | .ixor => match st with
    | .int y :: .int x :: r => gd_go (M, pc + len, loc, .int (x ^^^ y) :: r, m)
    | _ => none
  | .ishl => match st with
    | .int y :: .int x :: r => gd_go (M, pc + len, loc, .int (x <<< (y &&& 31)) :: r, m)
    | _ => none
  | .ishr => match st with
    | .int y :: .int x :: r => gd_go (M, pc + len, loc, .int (x >>> (y &&& 31)) :: r, m)
    | _ => none
  | .iushr => match st with
    | .int y :: .int x :: r => gd_go (M, pc + len, loc, .int (x.toUInt32 >>> (y.toUInt32 &&& Int32.toUInt32 31)).toInt32 :: r, m)
    | _ => none
  | .ineg => match st with
    | .int x :: r => gd_go (M, pc + len, loc, .int (-x) :: r, m)
    | _ => none
  | .i2b => match st with
    | .int x :: r => gd_go (M, pc + len, loc, .int x.toInt8.toInt32 :: r, m)
    | _ => none
  | .i2c => match st with
    | .int x :: r => gd_go (M, pc + len, loc, .int (x.toUInt32 % 65536).toInt32 :: r, m)
    | _ => none
  | .i2l => match st with
    | .int x :: r => gd_go (M, pc + len, loc, .long x.toInt64 :: r, m)
    | _ => none
  | .lor => match st with
    | .long y :: .long x :: r => gd_go (M, pc + len, loc, .long (x ||| y) :: r, m)
    | _ => none
  | .lsub => match st with
    | .long y :: .long x :: r => gd_go (M, pc + len, loc, .long (x - y) :: r, m)
    | _ => none
  | .lshl => match st with
    | .int y :: .long x :: r => gd_go (M, pc + len, loc, .long (x <<< (y.toInt64 &&& 63)) :: r, m)
    | _ => none
  | .lcmp => match st with
    | .long y :: .long x :: r => gd_go (M, pc + len, loc, .int (lg_cmp x y) :: r, m)
    | _ => none
  | .goto o => gd_go (M, gd_tgt pc o, loc, st, m)
  | .ifCond cd o => match st with
    | .int x :: r => gd_br (gd_ifz cd x) (gd_go (M, gd_tgt pc o, loc, r, m)) (gd_go (M, pc + len, loc, r, m))
    | _ => none
  | .if_icmp cd o => match st with
    | .int y :: .int x :: r => gd_br (gd_ifc cd x y) (gd_go (M, gd_tgt pc o, loc, r, m)) (gd_go (M, pc + len, loc, r, m))
    | _ => none
  | .ifnull o => match st with
    | .ref x :: r => gd_br (Nat.beq x 0) (gd_go (M, gd_tgt pc o, loc, r, m)) (gd_br (Nat.ble 8 x) (gd_go (M, pc + len, loc, r, m)) none)
    | _ => none
  | .ifnonnull o => match st with
    | .ref x :: r => gd_br (Nat.beq x 0) (gd_go (M, pc + len, loc, r, m)) (gd_br (Nat.ble 8 x) (gd_go (M, gd_tgt pc o, loc, r, m)) none)
    | _ => none
  | .tableswitch d lo _ os => match st with
    | .int x :: r => gd_sw (fun o => gd_go (M, gd_tgt pc o, loc, r, m)) lo os.toList d x
    | _ => none
  | .getstatic _ => bif Nat.beq a 4 then psh (.int 1) else psh (.ref a)
  | .getfield _ => match st with
    | .ref x :: r =>
      bif Nat.beq a 11 then (bif Nat.beq x 1 then (bif Nat.beq b 0 then gd_go (M, pc + len, loc, .ref 2 :: r, m) else gd_go (M, pc + len, loc, .int 0 :: r, m)) else none)
      else gd_br (gd_ok (gN m) x a) (gd_go (M, pc + len, loc, (bif Nat.beq c 3 then .long (gJ m x b) else bif Nat.beq c 4 then .ref (gR m x b) else .int (gI m x b)) :: r, m)) none
    | _ => none
  | .putfield _ => match st with
    | .int v :: .ref x :: r => bif Nat.blt c 3 then gd_br (gd_ok (gN m) x a && gd_fitP c v) (gd_go (M, pc + len, loc, r, wI m x b v)) none else none
    | .ref v :: .ref x :: r => bif Nat.beq c 4 then gd_br (gd_ok (gN m) x a) (gd_go (M, pc + len, loc, r, wR m x b v)) none else none
    | .long v :: .ref x :: r => bif Nat.beq c 3 then gd_br (gd_ok (gN m) x a) (gd_go (M, pc + len, loc, r, wJ m x b v)) none else none
    | _ => none
  | .arraylength => match st with
    | .ref x :: r => bif Nat.beq (gr_cls (gd_rc M)) 10 then (bif Nat.beq x 3 then gd_go (M, pc + len, loc, .int (Int32.ofNat (gL m)) :: r, m) else none)
      else bif Nat.beq (gr_cls (gd_rc M)) 11 || Nat.beq (gr_cls (gd_rc M)) 12 then (bif Nat.beq x 2 then gd_go (M, pc + len, loc, .int gd_txn :: r, m) else none)
      else gd_br (Nat.ble 10 (gd_KD x) && Nat.ble (gd_KD x) 14 && decide (x < gN m)) (gd_go (M, pc + len, loc, .int (Int32.ofNat (gd_LN x)) :: r, m)) none
    | _ => none
  | .iaload => match st with
    | .int i :: .ref x :: r => bif Nat.beq (gr_cls (gd_rc M)) 10 then (bif Nat.beq x 3 then gd_br (gd_in i (gL m)) (gd_go (M, pc + len, loc, .int (gI m 3 i.toNatClampNeg) :: r, m)) none else none)
      else gd_br (gd_okA (gN m) x 10 i) (gd_go (M, pc + len, loc, .int (gI m x i.toNatClampNeg) :: r, m)) none
    | _ => none
  | .baload => match st with
    | .int i :: .ref x :: r => bif Nat.beq (gr_cls (gd_rc M)) 12 then (bif Nat.beq x 2 then gd_br (gd_in i gd_txl) (gd_go (M, pc + len, loc, .int (gd_tx i.toNatClampNeg) :: r, m)) none else none)
      else gd_br (gd_okA (gN m) x (bif Nat.beq (gr_bk (gd_rc M)) 12 then 12 else 11) i) (gd_go (M, pc + len, loc, .int (gI m x i.toNatClampNeg) :: r, m)) none
    | _ => none
  | .laload => match st with
    | .int i :: .ref x :: r => gd_br (gd_okA (gN m) x 13 i) (gd_go (M, pc + len, loc, .long (gJ m x i.toNatClampNeg) :: r, m)) none
    | _ => none
  | .aaload => match st with
    | .int i :: .ref x :: r => gd_br (gd_okA (gN m) x 14 i) (gd_go (M, pc + len, loc, .ref (gR m x i.toNatClampNeg) :: r, m)) none
    | _ => none
  | .iastore => match st with
    | .int v :: .int i :: .ref x :: r => gd_br (gd_okA (gN m) x 10 i) (gd_go (M, pc + len, loc, r, wI m x i.toNatClampNeg v)) none
    | _ => none
  | .bastore => match st with
    | .int v :: .int i :: .ref x :: r => bif Nat.beq (gr_bk (gd_rc M)) 12 then gd_br (gd_okA (gN m) x 12 i) (gd_go (M, pc + len, loc, r, wI m x i.toNatClampNeg v.toInt8.toInt32)) none
      else gd_br (gd_okA (gN m) x 11 i) (gd_go (M, pc + len, loc, r, wI m x i.toNatClampNeg (vp_nar .boolean v))) none
    | _ => none
  | .lastore => match st with
    | .long v :: .int i :: .ref x :: r => gd_br (gd_okA (gN m) x 13 i) (gd_go (M, pc + len, loc, r, wJ m x i.toNatClampNeg v)) none
    | _ => none
  | .aastore => match st with
    | .ref v :: .int i :: .ref x :: r => gd_br (gd_okA (gN m) x 14 i && gd_ok (gN m) v 4) (gd_go (M, pc + len, loc, r, wR m x i.toNatClampNeg v)) none
    | _ => none
  | .newarray t => match st with
    | .int n :: r => gd_br (!decide (n < 0) && Nat.beq (gd_KD (gN m)) (gd_akd t) && Nat.beq (gd_LN (gN m)) n.toNatClampNeg && Nat.ble n.toNatClampNeg 100000) (gd_go (M, pc + len, loc, .ref (gN m) :: r, gd_al m n.toNatClampNeg)) none
    | _ => none
  | .anewarray _ => match st with
    | .int n :: r => gd_br (!decide (n < 0) && Nat.beq (gd_KD (gN m)) 14 && Nat.beq (gd_LN (gN m)) n.toNatClampNeg && Nat.ble n.toNatClampNeg 100000) (gd_go (M, pc + len, loc, .ref (gN m) :: r, gd_al m n.toNatClampNeg)) none
    | _ => none
  | .new _ => gd_br (Nat.beq (gd_KD (gN m)) a) (gd_go (M, pc + len, loc, .ref (gN m) :: st, gd_al m b)) none
  | .invokestatic _ => bif Nat.beq c 3 then none else gd_br (Nat.ble b st.length) (gd_inv false M pc a (st.take b).reverse loc (st.drop b) m) none
  | .invokevirtual _ => bif Nat.beq c 3 then none else match st.drop b with
    | .ref x :: r => gd_br (bif Nat.beq (gr_cls (gd_rc a)) 11 then Nat.beq x 1 else gd_ok (gN m) x (gr_cls (gd_rc a))) (gd_inv (!Nat.beq a gd_mCode) M pc a (.ref x :: (st.take b).reverse) loc r m) none
    | _ => none
  | .invokespecial _ => match st.drop b with
    | .ref x :: r => bif Nat.beq c 2 then gd_br (Nat.ble (gd_pcs r) 8 && Nat.ble 1 (gr_fr (gd_rc M)) && Nat.ble 20 (gr_lo (gd_rc M)) && Nat.beq b 0 && Nat.ble 8 x) (gd_go (M, pc + len, loc, r, m)) none else gd_br (Nat.ble 8 x) (gd_inv false M pc a (.ref x :: (st.take b).reverse) loc r m) none
    | _ => none
  | .athrow => match st with
    | .ref x :: _ => bif gd_hnd M pc then none else gd_br (gd_ok (gN m) x 8) (gd_fin (.retAddr 0) m) none
    | _ => none
  | .ireturn => match st with
    | [.int x] => gd_br (gd_fitR (gd_rk (gr_ret (gd_rc M))) x) (gd_fin (.int x) m) none
    | _ => none
  | .lreturn => match st with
    | [.long x] => bif Nat.beq (gd_rk (gr_ret (gd_rc M))) 2 then gd_fin (.long x) m else none
    | _ => none
  | .areturn => match st with
    | [.ref x] => bif Nat.beq (gd_rk (gr_ret (gd_rc M))) 3 then gd_fin (.ref x) m else none
    | _ => none
  | .return_ => match st with
    | [] => bif Nat.beq (gd_rk (gr_ret (gd_rc M))) 0 then gd_fin .null m else none
    | _ => none
  | _ => none
def gd_pre (c : gd_F) : gd_P := match gd_fetch c.1 c.2.1 with
  | none => none
  | some e => gd_step c.1 e c.2.2.1 c.2.2.2.1 c.2.2.2.2
def gd_run : Nat → gd_F → Option (Value × gd_M)
  | 0, _ => none
  | n + 1, c => match gd_pre c with
    | none => none
    | some (.inl o) => some o
    | some (.inr (.inl d)) => gd_run n d
    | some (.inr (.inr (d, k))) => match gd_run n d with
      | none => none
      | some q => match k q.1 q.2 with
        | none => none
        | some (.inl o) => some o
        | some (.inr f) => gd_run n f
theorem gd_run_le : ∀ (n : Nat) (c : gd_F) (o : Value × gd_M), gd_run n c = some o → gd_run (n + 1) c = some o := by
  intro n
  induction n with
  | zero => intro c o h; cases h
  | succ n ih =>
    intro c o h
    unfold gd_run at h ⊢
    cases hp : gd_pre c with
    | none => rw [hp] at h; cases h
    | some x =>
      rw [hp] at h
      rcases x with q | d | ⟨d, k⟩
      · exact h
      · exact ih d o h
      · dsimp only at h ⊢
        cases hd : gd_run n d with
        | none => rw [hd] at h; cases h
        | some q =>
          rw [hd] at h
          rw [ih d q hd]
          dsimp only at h ⊢
          cases hk : k q.1 q.2 with
          | none => rw [hk] at h; cases h
          | some y =>
            rw [hk] at h
            rcases y with y | f
            · exact h
            · exact ih f o h
theorem gd_run_mono {n k : Nat} {c : gd_F} {o : Value × gd_M} (h : gd_run n c = some o) (hk : n ≤ k) : gd_run k c = some o := by
  induction hk with
  | refl => exact h
  | step _ ih => exact gd_run_le _ c o ih
noncomputable def gd_Den (c : gd_F) : Option (Value × gd_M) :=
  @dite _ (∃ n o, gd_run n c = some o) (Classical.propDecidable _) (fun h => some (Classical.choose (Classical.choose_spec h))) (fun _ => none)
theorem gd_Den_of {n : Nat} {c : gd_F} {o : Value × gd_M} (h : gd_run n c = some o) : gd_Den c = some o := by
  have hx : ∃ n o, gd_run n c = some o := ⟨n, o, h⟩
  have h2 := Classical.choose_spec (Classical.choose_spec hx)
  unfold gd_Den
  rw [dif_pos hx]
  have h3 := gd_run_mono h2 (Nat.le_max_left (Classical.choose hx) n)
  have h4 := gd_run_mono h (Nat.le_max_right (Classical.choose hx) n)
  exact h3.symm.trans h4
theorem gd_Den_ex {c : gd_F} {o : Value × gd_M} (h : gd_Den c = some o) : ∃ n, gd_run n c = some o := by
  unfold gd_Den at h
  by_cases hx : ∃ n o, gd_run n c = some o
  · rw [dif_pos hx] at h
    have h2 := Classical.choose_spec (Classical.choose_spec hx)
    exact ⟨_, h2.trans h⟩
  · rw [dif_neg hx] at h
    cases h
noncomputable def gd_DO (o : Option gd_O) : Option (Value × gd_M) := match o with
  | none => none
  | some (.inl o) => some o
  | some (.inr f) => gd_Den f
noncomputable def gd_DP (p : gd_P) : Option (Value × gd_M) := match p with
  | none => none
  | some (.inl o) => some o
  | some (.inr (.inl d)) => gd_Den d
  | some (.inr (.inr (d, k))) => (gd_Den d).bind fun q => gd_DO (k q.1 q.2)
theorem gd_Den_eq (c : gd_F) : gd_Den c = gd_DP (gd_pre c) := by
  have key : ∀ o, gd_Den c = some o ↔ gd_DP (gd_pre c) = some o := by
    intro o
    constructor
    · intro h
      obtain ⟨n, hn⟩ := gd_Den_ex h
      cases n with
      | zero => cases hn
      | succ n =>
        unfold gd_run at hn
        cases hp : gd_pre c with
        | none => rw [hp] at hn; cases hn
        | some x =>
          rw [hp] at hn
          rcases x with q | d | ⟨d, k⟩
          · exact hn
          · exact gd_Den_of hn
          · dsimp only at hn
            cases hd : gd_run n d with
            | none => rw [hd] at hn; cases hn
            | some q =>
              rw [hd] at hn
              dsimp only at hn
              show (gd_Den d).bind _ = _
              rw [gd_Den_of hd]
              show gd_DO (k q.1 q.2) = some o
              cases hk : k q.1 q.2 with
              | none => rw [hk] at hn; cases hn
              | some y =>
                rw [hk] at hn
                rcases y with y | f
                · exact hn
                · exact gd_Den_of hn
    · intro h
      cases hp : gd_pre c with
      | none => rw [hp] at h; cases h
      | some x =>
        rw [hp] at h
        rcases x with q | d | ⟨d, k⟩
        · exact gd_Den_of (n := 1) (by unfold gd_run; rw [hp]; exact h)
        · obtain ⟨n, hn⟩ := gd_Den_ex (show gd_Den d = some o from h)
          exact gd_Den_of (n := n + 1) (by unfold gd_run; rw [hp]; exact hn)
        · have h1 : (gd_Den d).bind (fun q => gd_DO (k q.1 q.2)) = some o := h
          cases hd : gd_Den d with
          | none => rw [hd] at h1; cases h1
          | some q =>
            rw [hd] at h1
            have h2 : gd_DO (k q.1 q.2) = some o := h1
            obtain ⟨n, hn⟩ := gd_Den_ex hd
            cases hk : k q.1 q.2 with
            | none => rw [hk] at h2; cases h2
            | some y =>
              rw [hk] at h2
              rcases y with y | f
              · exact gd_Den_of (n := n + 1) (by unfold gd_run; rw [hp]; dsimp only; rw [hn]; dsimp only; rw [hk]; exact h2)
              · obtain ⟨n2, hn2⟩ := gd_Den_ex (show gd_Den f = some o from h2)
                refine gd_Den_of (n := max n n2 + 1) ?_
                unfold gd_run; rw [hp]; dsimp only
                rw [gd_run_mono hn (Nat.le_max_left n n2)]; dsimp only; rw [hk]
                exact gd_run_mono hn2 (Nat.le_max_right n n2)
  cases h : gd_Den c with
  | some o => exact ((key o).mp h).symm
  | none =>
    cases h2 : gd_DP (gd_pre c) with
    | none => rfl
    | some o => rw [(key o).mpr h2] at h; cases h
