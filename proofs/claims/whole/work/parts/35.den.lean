/-! ===== the denotation, instruction by instruction ===== -/
noncomputable def gd_call (N : Nat) (args : List Value) (m : gd_M) : Option (Value × gd_M) := gd_Den (gd_ent N args m)
/-- what goes on behind a call, by the answer's type; what is thrown goes on to the caller -/
def gd_kI (f : Int32 → gd_M → Option (Value × gd_M)) (q : Value × gd_M) : Option (Value × gd_M) := match q.1 with
  | .int x => f x q.2
  | .retAddr _ => some (.retAddr 0, q.2)
  | _ => none
def gd_kJ (f : Int64 → gd_M → Option (Value × gd_M)) (q : Value × gd_M) : Option (Value × gd_M) := match q.1 with
  | .long x => f x q.2
  | .retAddr _ => some (.retAddr 0, q.2)
  | _ => none
def gd_kR (f : Nat → gd_M → Option (Value × gd_M)) (q : Value × gd_M) : Option (Value × gd_M) := match q.1 with
  | .ref x => f x q.2
  | .retAddr _ => some (.retAddr 0, q.2)
  | _ => none
def gd_kV (f : gd_M → Option (Value × gd_M)) (q : Value × gd_M) : Option (Value × gd_M) := match q.1 with
  | .null => f q.2
  | .retAddr _ => some (.retAddr 0, q.2)
  | _ => none
/-- .. where nothing may be thrown -/
def gd_k0I (f : Int32 → gd_M → Option (Value × gd_M)) (q : Value × gd_M) : Option (Value × gd_M) := match q.1 with
  | .int x => f x q.2
  | _ => none
def gd_k0V (f : gd_M → Option (Value × gd_M)) (q : Value × gd_M) : Option (Value × gd_M) := match q.1 with
  | .null => f q.2
  | _ => none
/-- .. in the reach of the handler -/
def gd_khV (f g : gd_M → Option (Value × gd_M)) (q : Value × gd_M) : Option (Value × gd_M) := match q.1 with
  | .null => f q.2
  | .retAddr _ => g q.2
  | _ => none
theorem gd_kI_i {f : Int32 → gd_M → Option (Value × gd_M)} {x : Int32} {m : gd_M} : gd_kI f (.int x, m) = f x m := rfl
theorem gd_kI_t {f : Int32 → gd_M → Option (Value × gd_M)} {x : Nat} {m : gd_M} : gd_kI f (.retAddr x, m) = some (.retAddr 0, m) := rfl
theorem gd_kJ_j {f : Int64 → gd_M → Option (Value × gd_M)} {x : Int64} {m : gd_M} : gd_kJ f (.long x, m) = f x m := rfl
theorem gd_kR_r {f : Nat → gd_M → Option (Value × gd_M)} {x : Nat} {m : gd_M} : gd_kR f (.ref x, m) = f x m := rfl
theorem gd_kV_v {f : gd_M → Option (Value × gd_M)} {m : gd_M} : gd_kV f (.null, m) = f m := rfl
theorem gd_kV_t {f : gd_M → Option (Value × gd_M)} {x : Nat} {m : gd_M} : gd_kV f (.retAddr x, m) = some (.retAddr 0, m) := rfl
theorem gd_k0I_i {f : Int32 → gd_M → Option (Value × gd_M)} {x : Int32} {m : gd_M} : gd_k0I f (.int x, m) = f x m := rfl
theorem gd_k0V_v {f : gd_M → Option (Value × gd_M)} {m : gd_M} : gd_k0V f (.null, m) = f m := rfl
theorem gd_khV_v {f g : gd_M → Option (Value × gd_M)} {m : gd_M} : gd_khV f g (.null, m) = f m := rfl
theorem gd_khV_t {f g : gd_M → Option (Value × gd_M)} {x : Nat} {m : gd_M} : gd_khV f g (.retAddr x, m) = g m := rfl
theorem gd_ite {α : Type} {c : Prop} {dc : Decidable c} {a b a' b' : α} (h1 : c → a = a') (h2 : ¬ c → b = b') : (if c then a else b) = (if c then a' else b') := by
  by_cases h : c
  · rw [if_pos h, if_pos h]; exact h1 h
  · rw [if_neg h, if_neg h]; exact h2 h
theorem gd_bnd {α β : Type} {x : Option α} {f g : α → Option β} (h : ∀ q, f q = g q) : x.bind f = x.bind g := by
  cases x with
  | none => rfl
  | some q => exact h q
theorem gd_DP_br {b : Bool} {p q : gd_P} : gd_DP (gd_br b p q) = if b = true then gd_DP p else gd_DP q := by cases b <;> rfl
theorem gd_kI_c {f g : Int32 → gd_M → Option (Value × gd_M)} (h : ∀ x m, f x m = g x m) : ∀ q, gd_kI f q = gd_kI g q := by
  intro q; rw [show f = g from funext fun x => funext fun m => h x m]
theorem gd_kJ_c {f g : Int64 → gd_M → Option (Value × gd_M)} (h : ∀ x m, f x m = g x m) : ∀ q, gd_kJ f q = gd_kJ g q := by
  intro q; rw [show f = g from funext fun x => funext fun m => h x m]
theorem gd_kR_c {f g : Nat → gd_M → Option (Value × gd_M)} (h : ∀ x m, f x m = g x m) : ∀ q, gd_kR f q = gd_kR g q := by
  intro q; rw [show f = g from funext fun x => funext fun m => h x m]
theorem gd_kV_c {f g : gd_M → Option (Value × gd_M)} (h : ∀ m, f m = g m) : ∀ q, gd_kV f q = gd_kV g q := by
  intro q; rw [show f = g from funext fun m => h m]
theorem gd_k0I_c {f g : Int32 → gd_M → Option (Value × gd_M)} (h : ∀ x m, f x m = g x m) : ∀ q, gd_k0I f q = gd_k0I g q := by
  intro q; rw [show f = g from funext fun x => funext fun m => h x m]
theorem gd_k0V_c {f g : gd_M → Option (Value × gd_M)} (h : ∀ m, f m = g m) : ∀ q, gd_k0V f q = gd_k0V g q := by
  intro q; rw [show f = g from funext fun m => h m]
theorem gd_khV_c {f g f' g' : gd_M → Option (Value × gd_M)} (h : ∀ m, f m = f' m) (h2 : ∀ m, g m = g' m) : ∀ q, gd_khV f g q = gd_khV f' g' q := by
  intro q; rw [show f = f' from funext fun m => h m, show g = g' from funext fun m => h2 m]
section GDD
variable {M pc len w a b c : Nat} {z : Int} {loc st : List Value} {m : gd_M}
theorem gd_Den_step {e : gd_E} (h : gd_fetch M pc = some e) : gd_Den (M, pc, loc, st, m) = gd_DP (gd_step M e loc st m) := by
  rw [gd_Den_eq]
  unfold gd_pre
  dsimp only
  rw [h]
theorem D_anull  (h : gd_fetch M pc = some (pc, .aconst_null, len, w, a, b, c, z))  : gd_Den (M, pc, loc, st, m) = gd_Den (M, pc + len, loc, .ref 0 :: st, m) := by
  rw [gd_Den_step h]
  rfl
theorem D_iconst {n : Int} {x : Int32} (h : gd_fetch M pc = some (pc, .iconst n, len, w, a, b, c, z)) (hx : Int32.ofInt n = x) : gd_Den (M, pc, loc, st, m) = gd_Den (M, pc + len, loc, .int x :: st, m) := by
  rw [gd_Den_step h]
  subst hx; rfl
theorem D_bipush {n : Int} {x : Int32} (h : gd_fetch M pc = some (pc, .bipush n, len, w, a, b, c, z)) (hx : (Int8.ofInt n).toInt32 = x) : gd_Den (M, pc, loc, st, m) = gd_Den (M, pc + len, loc, .int x :: st, m) := by
  rw [gd_Den_step h]
  subst hx; rfl
theorem D_sipush {n : Int} {x : Int32} (h : gd_fetch M pc = some (pc, .sipush n, len, w, a, b, c, z)) (hx : (Int16.ofInt n).toInt32 = x) : gd_Den (M, pc, loc, st, m) = gd_Den (M, pc + len, loc, .int x :: st, m) := by
  rw [gd_Den_step h]
  subst hx; rfl
theorem D_lconst {n : Fin 2} {x : Int64} (h : gd_fetch M pc = some (pc, .lconst n, len, w, a, b, c, z)) (hx : Int64.ofNat (n : Nat) = x) : gd_Den (M, pc, loc, st, m) = gd_Den (M, pc + len, loc, .long x :: st, m) := by
  rw [gd_Den_step h]
  subst hx; rfl
theorem D_ldc {k : Nat} {x : Int32} (h : gd_fetch M pc = some (pc, .ldc k, len, w, a, b, 0, z)) (hx : Int32.ofInt z = x) : gd_Den (M, pc, loc, st, m) = gd_Den (M, pc + len, loc, .int x :: st, m) := by
  rw [gd_Den_step h]
  subst hx; rfl
theorem D_ldcS {k : Nat} (h : gd_fetch M pc = some (pc, .ldc k, len, w, a, b, 1, z))  : gd_Den (M, pc, loc, st, m) = gd_Den (M, pc + len, loc, .ref 1 :: st, m) := by
  rw [gd_Den_step h]
  rfl
theorem D_ldc_w {k : Nat} {x : Int32} (h : gd_fetch M pc = some (pc, .ldc_w k, len, w, a, b, 0, z)) (hx : Int32.ofInt z = x) : gd_Den (M, pc, loc, st, m) = gd_Den (M, pc + len, loc, .int x :: st, m) := by
  rw [gd_Den_step h]
  subst hx; rfl
theorem D_ldc2_w {k : Nat} {x : Int64} (h : gd_fetch M pc = some (pc, .ldc2_w k, len, w, a, b, c, z)) (hx : Int64.ofInt z = x) : gd_Den (M, pc, loc, st, m) = gd_Den (M, pc + len, loc, .long x :: st, m) := by
  rw [gd_Den_step h]
  subst hx; rfl
theorem D_iload {n : Nat} {x : Int32} (h : gd_fetch M pc = some (pc, .iload n, len, w, a, b, c, z)) (hv : gd_at loc n = .int x) : gd_Den (M, pc, loc, st, m) = gd_Den (M, pc + len, loc, .int x :: st, m) := by
  rw [gd_Den_step h]
  unfold gd_step; dsimp only; rw [hv]; rfl
theorem D_iload_n {n : Fin 4} {x : Int32} (h : gd_fetch M pc = some (pc, .iload_n n, len, w, a, b, c, z)) (hv : gd_at loc n = .int x) : gd_Den (M, pc, loc, st, m) = gd_Den (M, pc + len, loc, .int x :: st, m) := by
  rw [gd_Den_step h]
  unfold gd_step; dsimp only; rw [hv]; rfl
theorem D_aload {n : Nat} {x : Nat} (h : gd_fetch M pc = some (pc, .aload n, len, w, a, b, c, z)) (hv : gd_at loc n = .ref x) : gd_Den (M, pc, loc, st, m) = gd_Den (M, pc + len, loc, .ref x :: st, m) := by
  rw [gd_Den_step h]
  unfold gd_step; dsimp only; rw [hv]; rfl
theorem D_aload_n {n : Fin 4} {x : Nat} (h : gd_fetch M pc = some (pc, .aload_n n, len, w, a, b, c, z)) (hv : gd_at loc n = .ref x) : gd_Den (M, pc, loc, st, m) = gd_Den (M, pc + len, loc, .ref x :: st, m) := by
  rw [gd_Den_step h]
  unfold gd_step; dsimp only; rw [hv]; rfl
theorem D_lload {n : Nat} {x : Int64} (h : gd_fetch M pc = some (pc, .lload n, len, w, a, b, c, z)) (hv : gd_at loc n = .long x) : gd_Den (M, pc, loc, st, m) = gd_Den (M, pc + len, loc, .long x :: st, m) := by
  rw [gd_Den_step h]
  unfold gd_step; dsimp only; rw [hv]; rfl
theorem D_lload_n {n : Fin 4} {x : Int64} (h : gd_fetch M pc = some (pc, .lload_n n, len, w, a, b, c, z)) (hv : gd_at loc n = .long x) : gd_Den (M, pc, loc, st, m) = gd_Den (M, pc + len, loc, .long x :: st, m) := by
  rw [gd_Den_step h]
  unfold gd_step; dsimp only; rw [hv]; rfl
theorem D_istore {n : Nat} {x : Int32} (h : gd_fetch M pc = some (pc, .istore n, len, w, a, b, c, z)) (hs : gd_stOk (gr_lng (gd_rc M)) n (gr_ml (gd_rc M)) = true) : gd_Den (M, pc, loc, .int x :: st, m) = gd_Den (M, pc + len, gd_set loc n (.int x), st, m) := by
  rw [gd_Den_step h]
  unfold gd_step; dsimp only; rw [hs]; rfl
theorem D_istore_n {n : Fin 4} {x : Int32} (h : gd_fetch M pc = some (pc, .istore_n n, len, w, a, b, c, z)) (hs : gd_stOk (gr_lng (gd_rc M)) n (gr_ml (gd_rc M)) = true) : gd_Den (M, pc, loc, .int x :: st, m) = gd_Den (M, pc + len, gd_set loc n (.int x), st, m) := by
  rw [gd_Den_step h]
  unfold gd_step; dsimp only; rw [hs]; rfl
theorem D_astore {n : Nat} {x : Nat} (h : gd_fetch M pc = some (pc, .astore n, len, w, a, b, c, z)) (hs : gd_stOk (gr_lng (gd_rc M)) n (gr_ml (gd_rc M)) = true) : gd_Den (M, pc, loc, .ref x :: st, m) = gd_Den (M, pc + len, gd_set loc n (.ref x), st, m) := by
  rw [gd_Den_step h]
  unfold gd_step; dsimp only; rw [hs]; rfl
theorem D_astore_n {n : Fin 4} {x : Nat} (h : gd_fetch M pc = some (pc, .astore_n n, len, w, a, b, c, z)) (hs : gd_stOk (gr_lng (gd_rc M)) n (gr_ml (gd_rc M)) = true) : gd_Den (M, pc, loc, .ref x :: st, m) = gd_Den (M, pc + len, gd_set loc n (.ref x), st, m) := by
  rw [gd_Den_step h]
  unfold gd_step; dsimp only; rw [hs]; rfl
theorem D_lstore_n {n : Fin 4} {x : Int64} (h : gd_fetch M pc = some (pc, .lstore_n n, len, w, a, b, c, z)) (hs : gd_stLOk (gr_lng (gd_rc M)) n (gr_ml (gd_rc M)) = true) : gd_Den (M, pc, loc, .long x :: st, m) = gd_Den (M, pc + len, gd_set (gd_set loc n (.long x)) (n + 1) .null, st, m) := by
  rw [gd_Den_step h]
  unfold gd_step; dsimp only; rw [hs]; rfl
theorem D_iinc {n : Nat} {k : Int} {x y : Int32} (h : gd_fetch M pc = some (pc, .iinc n k, len, w, a, b, c, z)) (hv : gd_at loc n = .int x) (hy : Int32.ofInt k = y) (hs : gd_stOk (gr_lng (gd_rc M)) n (gr_ml (gd_rc M)) = true) : gd_Den (M, pc, loc, st, m) = gd_Den (M, pc + len, gd_set loc n (.int (x + y)), st, m) := by
  rw [gd_Den_step h]
  subst hy; unfold gd_step; dsimp only; rw [hv]; dsimp only; rw [hs]; rfl
theorem D_dupI {x : Int32} (h : gd_fetch M pc = some (pc, .dup, len, w, a, b, c, z))  : gd_Den (M, pc, loc, .int x :: st, m) = gd_Den (M, pc + len, loc, .int x :: .int x :: st, m) := by
  rw [gd_Den_step h]
  rfl
theorem D_dupR {x : Nat} (h : gd_fetch M pc = some (pc, .dup, len, w, a, b, c, z))  : gd_Den (M, pc, loc, .ref x :: st, m) = gd_Den (M, pc + len, loc, .ref x :: .ref x :: st, m) := by
  rw [gd_Den_step h]
  rfl
theorem D_dup2 {x : Int32} {y : Nat} (h : gd_fetch M pc = some (pc, .dup2, len, w, a, b, c, z))  : gd_Den (M, pc, loc, .int x :: .ref y :: st, m) = gd_Den (M, pc + len, loc, .int x :: .ref y :: .int x :: .ref y :: st, m) := by
  rw [gd_Den_step h]
  rfl
theorem D_popI {x : Int32} (h : gd_fetch M pc = some (pc, .pop, len, w, a, b, c, z))  : gd_Den (M, pc, loc, .int x :: st, m) = gd_Den (M, pc + len, loc, st, m) := by
  rw [gd_Den_step h]
  rfl
theorem D_popR {x : Nat} (h : gd_fetch M pc = some (pc, .pop, len, w, a, b, c, z))  : gd_Den (M, pc, loc, .ref x :: st, m) = gd_Den (M, pc + len, loc, st, m) := by
  rw [gd_Den_step h]
  rfl
theorem D_iadd {x y : Int32} (h : gd_fetch M pc = some (pc, .iadd, len, w, a, b, c, z))  : gd_Den (M, pc, loc, .int y :: .int x :: st, m) = gd_Den (M, pc + len, loc, .int (x + y) :: st, m) := by
  rw [gd_Den_step h]
  rfl
theorem D_isub {x y : Int32} (h : gd_fetch M pc = some (pc, .isub, len, w, a, b, c, z))  : gd_Den (M, pc, loc, .int y :: .int x :: st, m) = gd_Den (M, pc + len, loc, .int (x - y) :: st, m) := by
  rw [gd_Den_step h]
  rfl
theorem D_imul {x y : Int32} (h : gd_fetch M pc = some (pc, .imul, len, w, a, b, c, z))  : gd_Den (M, pc, loc, .int y :: .int x :: st, m) = gd_Den (M, pc + len, loc, .int (x * y) :: st, m) := by
  rw [gd_Den_step h]
  rfl
theorem D_iand {x y : Int32} (h : gd_fetch M pc = some (pc, .iand, len, w, a, b, c, z))  : gd_Den (M, pc, loc, .int y :: .int x :: st, m) = gd_Den (M, pc + len, loc, .int (x &&& y) :: st, m) := by
  rw [gd_Den_step h]
  rfl
theorem D_ior {x y : Int32} (h : gd_fetch M pc = some (pc, .ior, len, w, a, b, c, z))  : gd_Den (M, pc, loc, .int y :: .int x :: st, m) = gd_Den (M, pc + len, loc, .int (x ||| y) :: st, m) := by
  rw [gd_Den_step h]
  rfl
theorem D_ixor {x y : Int32} (h : gd_fetch M pc = some (pc, .ixor, len, w, a, b, c, z))  : gd_Den (M, pc, loc, .int y :: .int x :: st, m) = gd_Den (M, pc + len, loc, .int (x ^^^ y) :: st, m) := by
  rw [gd_Den_step h]
  rfl
theorem D_ishl {x y : Int32} (h : gd_fetch M pc = some (pc, .ishl, len, w, a, b, c, z))  : gd_Den (M, pc, loc, .int y :: .int x :: st, m) = gd_Den (M, pc + len, loc, .int (x <<< (y &&& 31)) :: st, m) := by
  rw [gd_Den_step h]
  rfl
theorem D_ishr {x y : Int32} (h : gd_fetch M pc = some (pc, .ishr, len, w, a, b, c, z))  : gd_Den (M, pc, loc, .int y :: .int x :: st, m) = gd_Den (M, pc + len, loc, .int (x >>> (y &&& 31)) :: st, m) := by
  rw [gd_Den_step h]
  rfl
theorem D_iushr {x y : Int32} (h : gd_fetch M pc = some (pc, .iushr, len, w, a, b, c, z))  : gd_Den (M, pc, loc, .int y :: .int x :: st, m) = gd_Den (M, pc + len, loc, .int ((x.toUInt32 >>> (y.toUInt32 &&& Int32.toUInt32 31)).toInt32) :: st, m) := by
  rw [gd_Den_step h]
  rfl
theorem D_idiv {x y : Int32} (h : gd_fetch M pc = some (pc, .idiv, len, w, a, b, c, z))  : gd_Den (M, pc, loc, .int y :: .int x :: st, m) = if y = 0 then none else gd_Den (M, pc + len, loc, .int (x / y) :: st, m) := by
  rw [gd_Den_step h]
  unfold gd_step; dsimp only; by_cases hy : y = 0
  · rw [if_pos hy, if_pos hy]; rfl
  · rw [if_neg hy, if_neg hy]; rfl
theorem D_irem {x y : Int32} (h : gd_fetch M pc = some (pc, .irem, len, w, a, b, c, z))  : gd_Den (M, pc, loc, .int y :: .int x :: st, m) = if y = 0 then none else gd_Den (M, pc + len, loc, .int (x - x / y * y) :: st, m) := by
  rw [gd_Den_step h]
  unfold gd_step; dsimp only; by_cases hy : y = 0
  · rw [if_pos hy, if_pos hy]; rfl
  · rw [if_neg hy, if_neg hy]; rfl
theorem D_ineg {x : Int32} (h : gd_fetch M pc = some (pc, .ineg, len, w, a, b, c, z))  : gd_Den (M, pc, loc, .int x :: st, m) = gd_Den (M, pc + len, loc, .int (-x) :: st, m) := by
  rw [gd_Den_step h]
  rfl
theorem D_i2b {x : Int32} (h : gd_fetch M pc = some (pc, .i2b, len, w, a, b, c, z))  : gd_Den (M, pc, loc, .int x :: st, m) = gd_Den (M, pc + len, loc, .int (x.toInt8.toInt32) :: st, m) := by
  rw [gd_Den_step h]
  rfl
theorem D_i2c {x : Int32} (h : gd_fetch M pc = some (pc, .i2c, len, w, a, b, c, z))  : gd_Den (M, pc, loc, .int x :: st, m) = gd_Den (M, pc + len, loc, .int ((x.toUInt32 % 65536).toInt32) :: st, m) := by
  rw [gd_Den_step h]
  rfl
theorem D_i2l {x : Int32} (h : gd_fetch M pc = some (pc, .i2l, len, w, a, b, c, z))  : gd_Den (M, pc, loc, .int x :: st, m) = gd_Den (M, pc + len, loc, .long x.toInt64 :: st, m) := by
  rw [gd_Den_step h]
  rfl
theorem D_lor {x y : Int64} (h : gd_fetch M pc = some (pc, .lor, len, w, a, b, c, z))  : gd_Den (M, pc, loc, .long y :: .long x :: st, m) = gd_Den (M, pc + len, loc, .long (x ||| y) :: st, m) := by
  rw [gd_Den_step h]
  rfl
theorem D_lsub {x y : Int64} (h : gd_fetch M pc = some (pc, .lsub, len, w, a, b, c, z))  : gd_Den (M, pc, loc, .long y :: .long x :: st, m) = gd_Den (M, pc + len, loc, .long (x - y) :: st, m) := by
  rw [gd_Den_step h]
  rfl
theorem D_lshl {x : Int64} {y : Int32} (h : gd_fetch M pc = some (pc, .lshl, len, w, a, b, c, z))  : gd_Den (M, pc, loc, .int y :: .long x :: st, m) = gd_Den (M, pc + len, loc, .long (x <<< (y.toInt64 &&& 63)) :: st, m) := by
  rw [gd_Den_step h]
  rfl
theorem D_lcmp {x y : Int64} (h : gd_fetch M pc = some (pc, .lcmp, len, w, a, b, c, z))  : gd_Den (M, pc, loc, .long y :: .long x :: st, m) = gd_Den (M, pc + len, loc, .int (lg_cmp x y) :: st, m) := by
  rw [gd_Den_step h]
  rfl
theorem D_goto {o : Int} {t : Nat} (h : gd_fetch M pc = some (pc, .goto o, len, w, a, b, c, z)) (ht : gd_tgt pc o = t) : gd_Den (M, pc, loc, st, m) = gd_Den (M, t, loc, st, m) := by
  rw [gd_Den_step h]
  subst ht; rfl
theorem D_if_eq {o : Int} {t : Nat} {x : Int32} (h : gd_fetch M pc = some (pc, .ifCond .eq o, len, w, a, b, c, z)) (ht : gd_tgt pc o = t) : gd_Den (M, pc, loc, .int x :: st, m) = if x = 0 then gd_Den (M, t, loc, st, m) else gd_Den (M, pc + len, loc, st, m) := by
  rw [gd_Den_step h]
  subst ht
  unfold gd_step
  dsimp only
  rw [gd_DP_br]
  unfold gd_ifz
  by_cases hc : x = 0
  · rw [if_pos hc]; simp [hc]; rfl
  · rw [if_neg hc]; simp [hc]; rfl
theorem D_if_ne {o : Int} {t : Nat} {x : Int32} (h : gd_fetch M pc = some (pc, .ifCond .ne o, len, w, a, b, c, z)) (ht : gd_tgt pc o = t) : gd_Den (M, pc, loc, .int x :: st, m) = if x = 0 then gd_Den (M, pc + len, loc, st, m) else gd_Den (M, t, loc, st, m) := by
  rw [gd_Den_step h]
  subst ht
  unfold gd_step
  dsimp only
  rw [gd_DP_br]
  unfold gd_ifz
  by_cases hc : x = 0
  · rw [if_pos hc]; simp [hc]; rfl
  · rw [if_neg hc]; simp [hc]; rfl
theorem D_if_lt {o : Int} {t : Nat} {x : Int32} (h : gd_fetch M pc = some (pc, .ifCond .lt o, len, w, a, b, c, z)) (ht : gd_tgt pc o = t) : gd_Den (M, pc, loc, .int x :: st, m) = if x < 0 then gd_Den (M, t, loc, st, m) else gd_Den (M, pc + len, loc, st, m) := by
  rw [gd_Den_step h]
  subst ht
  unfold gd_step
  dsimp only
  rw [gd_DP_br]
  unfold gd_ifz
  by_cases hc : x < 0
  · rw [if_pos hc]; simp [hc]; rfl
  · rw [if_neg hc]; simp [hc]; rfl
theorem D_if_ge {o : Int} {t : Nat} {x : Int32} (h : gd_fetch M pc = some (pc, .ifCond .ge o, len, w, a, b, c, z)) (ht : gd_tgt pc o = t) : gd_Den (M, pc, loc, .int x :: st, m) = if x < 0 then gd_Den (M, pc + len, loc, st, m) else gd_Den (M, t, loc, st, m) := by
  rw [gd_Den_step h]
  subst ht
  unfold gd_step
  dsimp only
  rw [gd_DP_br]
  unfold gd_ifz
  by_cases hc : x < 0
  · rw [if_pos hc]; simp [hc]; rfl
  · rw [if_neg hc]; simp [hc]; rfl
theorem D_if_gt {o : Int} {t : Nat} {x : Int32} (h : gd_fetch M pc = some (pc, .ifCond .gt o, len, w, a, b, c, z)) (ht : gd_tgt pc o = t) : gd_Den (M, pc, loc, .int x :: st, m) = if 0 < x then gd_Den (M, t, loc, st, m) else gd_Den (M, pc + len, loc, st, m) := by
  rw [gd_Den_step h]
  subst ht
  unfold gd_step
  dsimp only
  rw [gd_DP_br]
  unfold gd_ifz
  by_cases hc : 0 < x
  · rw [if_pos hc]; simp [hc]; rfl
  · rw [if_neg hc]; simp [hc]; rfl
theorem D_if_le {o : Int} {t : Nat} {x : Int32} (h : gd_fetch M pc = some (pc, .ifCond .le o, len, w, a, b, c, z)) (ht : gd_tgt pc o = t) : gd_Den (M, pc, loc, .int x :: st, m) = if 0 < x then gd_Den (M, pc + len, loc, st, m) else gd_Den (M, t, loc, st, m) := by
  rw [gd_Den_step h]
  subst ht
  unfold gd_step
  dsimp only
  rw [gd_DP_br]
  unfold gd_ifz
  by_cases hc : 0 < x
  · rw [if_pos hc]; simp [hc]; rfl
  · rw [if_neg hc]; simp [hc]; rfl
theorem D_ic_eq {o : Int} {t : Nat} {x y : Int32} (h : gd_fetch M pc = some (pc, .if_icmp .eq o, len, w, a, b, c, z)) (ht : gd_tgt pc o = t) : gd_Den (M, pc, loc, .int y :: .int x :: st, m) = if x = y then gd_Den (M, t, loc, st, m) else gd_Den (M, pc + len, loc, st, m) := by
  rw [gd_Den_step h]
  subst ht
  unfold gd_step
  dsimp only
  rw [gd_DP_br]
  unfold gd_ifc
  by_cases hc : x = y
  · rw [if_pos hc]; simp [hc]; rfl
  · rw [if_neg hc]; simp [hc]; rfl
theorem D_ic_ne {o : Int} {t : Nat} {x y : Int32} (h : gd_fetch M pc = some (pc, .if_icmp .ne o, len, w, a, b, c, z)) (ht : gd_tgt pc o = t) : gd_Den (M, pc, loc, .int y :: .int x :: st, m) = if x = y then gd_Den (M, pc + len, loc, st, m) else gd_Den (M, t, loc, st, m) := by
  rw [gd_Den_step h]
  subst ht
  unfold gd_step
  dsimp only
  rw [gd_DP_br]
  unfold gd_ifc
  by_cases hc : x = y
  · rw [if_pos hc]; simp [hc]; rfl
  · rw [if_neg hc]; simp [hc]; rfl
theorem D_ic_lt {o : Int} {t : Nat} {x y : Int32} (h : gd_fetch M pc = some (pc, .if_icmp .lt o, len, w, a, b, c, z)) (ht : gd_tgt pc o = t) : gd_Den (M, pc, loc, .int y :: .int x :: st, m) = if x < y then gd_Den (M, t, loc, st, m) else gd_Den (M, pc + len, loc, st, m) := by
  rw [gd_Den_step h]
  subst ht
  unfold gd_step
  dsimp only
  rw [gd_DP_br]
  unfold gd_ifc
  by_cases hc : x < y
  · rw [if_pos hc]; simp [hc]; rfl
  · rw [if_neg hc]; simp [hc]; rfl
theorem D_ic_ge {o : Int} {t : Nat} {x y : Int32} (h : gd_fetch M pc = some (pc, .if_icmp .ge o, len, w, a, b, c, z)) (ht : gd_tgt pc o = t) : gd_Den (M, pc, loc, .int y :: .int x :: st, m) = if x < y then gd_Den (M, pc + len, loc, st, m) else gd_Den (M, t, loc, st, m) := by
  rw [gd_Den_step h]
  subst ht
  unfold gd_step
  dsimp only
  rw [gd_DP_br]
  unfold gd_ifc
  by_cases hc : x < y
  · rw [if_pos hc]; simp [hc]; rfl
  · rw [if_neg hc]; simp [hc]; rfl
theorem D_ic_gt {o : Int} {t : Nat} {x y : Int32} (h : gd_fetch M pc = some (pc, .if_icmp .gt o, len, w, a, b, c, z)) (ht : gd_tgt pc o = t) : gd_Den (M, pc, loc, .int y :: .int x :: st, m) = if y < x then gd_Den (M, t, loc, st, m) else gd_Den (M, pc + len, loc, st, m) := by
  rw [gd_Den_step h]
  subst ht
  unfold gd_step
  dsimp only
  rw [gd_DP_br]
  unfold gd_ifc
  by_cases hc : y < x
  · rw [if_pos hc]; simp [hc]; rfl
  · rw [if_neg hc]; simp [hc]; rfl
theorem D_ic_le {o : Int} {t : Nat} {x y : Int32} (h : gd_fetch M pc = some (pc, .if_icmp .le o, len, w, a, b, c, z)) (ht : gd_tgt pc o = t) : gd_Den (M, pc, loc, .int y :: .int x :: st, m) = if y < x then gd_Den (M, pc + len, loc, st, m) else gd_Den (M, t, loc, st, m) := by
  rw [gd_Den_step h]
  subst ht
  unfold gd_step
  dsimp only
  rw [gd_DP_br]
  unfold gd_ifc
  by_cases hc : y < x
  · rw [if_pos hc]; simp [hc]; rfl
  · rw [if_neg hc]; simp [hc]; rfl
theorem D_ifnull {o : Int} {t x : Nat} (h : gd_fetch M pc = some (pc, .ifnull o, len, w, a, b, c, z)) (ht : gd_tgt pc o = t) : gd_Den (M, pc, loc, .ref x :: st, m) = if x = 0 then gd_Den (M, t, loc, st, m) else if 8 ≤ x then gd_Den (M, pc + len, loc, st, m) else none := by
  rw [gd_Den_step h]
  subst ht
  unfold gd_step
  dsimp only
  rw [gd_DP_br, gd_DP_br]
  by_cases hc : x = 0
  · subst hc; rfl
  · rw [if_neg hc, gd_bf hc, if_neg (by decide)]
    by_cases h8 : 8 ≤ x
    · rw [if_pos h8, if_pos (Nat.ble_eq_true_of_le h8)]; rfl
    · rw [if_neg h8, if_neg (fun q => h8 (Nat.le_of_ble_eq_true q))]; rfl
theorem D_ifnonnull {o : Int} {t x : Nat} (h : gd_fetch M pc = some (pc, .ifnonnull o, len, w, a, b, c, z)) (ht : gd_tgt pc o = t) : gd_Den (M, pc, loc, .ref x :: st, m) = if x = 0 then gd_Den (M, pc + len, loc, st, m) else if 8 ≤ x then gd_Den (M, t, loc, st, m) else none := by
  rw [gd_Den_step h]
  subst ht
  unfold gd_step
  dsimp only
  rw [gd_DP_br, gd_DP_br]
  by_cases hc : x = 0
  · subst hc; rfl
  · rw [if_neg hc, gd_bf hc, if_neg (by decide)]
    by_cases h8 : 8 ≤ x
    · rw [if_pos h8, if_pos (Nat.ble_eq_true_of_le h8)]; rfl
    · rw [if_neg h8, if_neg (fun q => h8 (Nat.le_of_ble_eq_true q))]; rfl
def gd_swD {α : Type} (f : Nat → α) : Int32 → List (Int32 × Nat) → Nat → α
  | _, [], d => f d
  | x, (v, t) :: l, d => if x = v then f t else gd_swD f x l d
theorem gd_sw_D {f : Int → gd_P} {g : Nat → Option (Value × gd_M)} {x : Int32} : ∀ (os : List Int) (lo d : Int) (vs : List (Int32 × Nat)) (t : Nat), (os.zipIdx.map fun q => (Int32.ofInt (lo + q.2), gd_tgt pc q.1)) = vs → gd_tgt pc d = t → (∀ o, gd_DP (f o) = g (gd_tgt pc o)) → gd_DP (gd_sw f lo os d x) = gd_swD g x vs t := by
  intro os
  induction os with
  | nil =>
    intro lo d vs t h1 h2 h3
    subst h1; subst h2
    exact h3 d
  | cons o os ih =>
    intro lo d vs t h1 h2 h3
    subst h1
    rw [List.zipIdx_cons, List.map_cons]
    unfold gd_swD gd_sw
    rw [show lo + ((0 : Nat) : Int) = lo from by omega]
    by_cases hx : x = Int32.ofInt lo
    · rw [if_pos hx, if_pos hx]; exact h3 o
    · rw [if_neg hx, if_neg hx]
      refine ih (lo + 1) d _ t ?_ h2 h3
      have h9 : List.zipIdx os (0 + 1) = (List.zipIdx os 0).map (fun q => (q.1, q.2 + 1)) := by
        apply List.ext_getElem?
        intro i
        rw [List.getElem?_map, List.getElem?_zipIdx, List.getElem?_zipIdx]
        cases os[i]? <;> simp <;> omega
      rw [h9, List.map_map]
      apply List.map_congr_left
      intro q _
      simp only [Function.comp]
      congr 2
      omega
theorem D_tsw {d lo hi : Int} {os : Array Int} {x : Int32} {vs : List (Int32 × Nat)} {t : Nat} (h : gd_fetch M pc = some (pc, .tableswitch d lo hi os, len, w, a, b, c, z)) (hv : (os.toList.zipIdx.map fun q => (Int32.ofInt (lo + q.2), gd_tgt pc q.1)) = vs) (ht : gd_tgt pc d = t) : gd_Den (M, pc, loc, .int x :: st, m) = gd_swD (fun t => gd_Den (M, t, loc, st, m)) x vs t := by
  rw [gd_Den_step h]
  exact gd_sw_D _ _ _ _ _ hv ht (fun _ => rfl)
theorem D_gsI {k : Nat} (h : gd_fetch M pc = some (pc, .getstatic k, len, w, 4, b, c, z))  : gd_Den (M, pc, loc, st, m) = gd_Den (M, pc + len, loc, .int 1 :: st, m) := by
  rw [gd_Den_step h]
  rfl
theorem D_gsR {k : Nat} (h : gd_fetch M pc = some (pc, .getstatic k, len, w, a, b, c, z)) (ha : Nat.beq a 4 = false) : gd_Den (M, pc, loc, st, m) = gd_Den (M, pc + len, loc, .ref a :: st, m) := by
  rw [gd_Den_step h]
  unfold gd_step; dsimp only; rw [ha]; rfl
theorem D_gfV {k : Nat} (h : gd_fetch M pc = some (pc, .getfield k, len, w, 11, 0, c, z))  : gd_Den (M, pc, loc, .ref 1 :: st, m) = gd_Den (M, pc + len, loc, .ref 2 :: st, m) := by
  rw [gd_Den_step h]
  rfl
theorem D_gfC {k : Nat} (h : gd_fetch M pc = some (pc, .getfield k, len, w, 11, 1, c, z))  : gd_Den (M, pc, loc, .ref 1 :: st, m) = gd_Den (M, pc + len, loc, .int 0 :: st, m) := by
  rw [gd_Den_step h]
  rfl
theorem D_gfI {k x : Nat} (h : gd_fetch M pc = some (pc, .getfield k, len, w, a, b, c, z)) (ha : Nat.beq a 11 = false) (hc3 : Nat.beq c 3 = false) (hc4 : Nat.beq c 4 = false) : gd_Den (M, pc, loc, .ref x :: st, m) = if gd_ok (gN m) x a = true then gd_Den (M, pc + len, loc, .int (gI m x b) :: st, m) else none := by
  rw [gd_Den_step h]
  unfold gd_step; dsimp only; rw [ha, cond_false, gd_DP_br]; rw [hc3, hc4]; rfl
theorem D_gfJ {k x : Nat} (h : gd_fetch M pc = some (pc, .getfield k, len, w, a, b, 3, z)) (ha : Nat.beq a 11 = false)  : gd_Den (M, pc, loc, .ref x :: st, m) = if gd_ok (gN m) x a = true then gd_Den (M, pc + len, loc, .long (gJ m x b) :: st, m) else none := by
  rw [gd_Den_step h]
  unfold gd_step; dsimp only; rw [ha, cond_false, gd_DP_br]; rfl
theorem D_gfR {k x : Nat} (h : gd_fetch M pc = some (pc, .getfield k, len, w, a, b, 4, z)) (ha : Nat.beq a 11 = false)  : gd_Den (M, pc, loc, .ref x :: st, m) = if gd_ok (gN m) x a = true then gd_Den (M, pc + len, loc, .ref (gR m x b) :: st, m) else none := by
  rw [gd_Den_step h]
  unfold gd_step; dsimp only; rw [ha, cond_false, gd_DP_br]; rfl
theorem D_pfI {k x : Nat} {v : Int32} (h : gd_fetch M pc = some (pc, .putfield k, len, w, a, b, 0, z))  : gd_Den (M, pc, loc, .int v :: .ref x :: st, m) = if gd_ok (gN m) x a = true then gd_Den (M, pc + len, loc, st, wI m x b v) else none := by
  rw [gd_Den_step h]
  unfold gd_step; dsimp only; rw [show Nat.blt 0 3 = true from rfl, cond_true, gd_DP_br, show (gd_ok (gN m) x a && gd_fitP 0 v) = gd_ok (gN m) x a from by rw [show gd_fitP 0 v = true from rfl, Bool.and_true]]; rfl
theorem D_pfZ {k x : Nat} {v : Int32} (h : gd_fetch M pc = some (pc, .putfield k, len, w, a, b, 1, z))  : gd_Den (M, pc, loc, .int v :: .ref x :: st, m) = if gd_ok (gN m) x a = true then (if gd_bo v = true then gd_Den (M, pc + len, loc, st, wI m x b v) else none) else none := by
  rw [gd_Den_step h]
  unfold gd_step; dsimp only; rw [show Nat.blt 1 3 = true from rfl, cond_true, gd_DP_br, show gd_fitP 1 v = gd_bo v from rfl]
  cases gd_ok (gN m) x a <;> cases gd_bo v <;> rfl
theorem D_pfJ {k x : Nat} {v : Int64} (h : gd_fetch M pc = some (pc, .putfield k, len, w, a, b, 3, z))  : gd_Den (M, pc, loc, .long v :: .ref x :: st, m) = if gd_ok (gN m) x a = true then gd_Den (M, pc + len, loc, st, wJ m x b v) else none := by
  rw [gd_Den_step h]
  unfold gd_step; dsimp only; rw [show Nat.beq 3 3 = true from rfl, cond_true, gd_DP_br]; rfl
theorem D_pfR {k x v : Nat} (h : gd_fetch M pc = some (pc, .putfield k, len, w, a, b, 4, z))  : gd_Den (M, pc, loc, .ref v :: .ref x :: st, m) = if gd_ok (gN m) x a = true then gd_Den (M, pc + len, loc, st, wR m x b v) else none := by
  rw [gd_Den_step h]
  unfold gd_step; dsimp only; rw [show Nat.beq 4 4 = true from rfl, cond_true, gd_DP_br]; rfl
theorem D_alen {x : Nat} (h : gd_fetch M pc = some (pc, .arraylength, len, w, a, b, c, z)) (h10 : Nat.beq (gr_cls (gd_rc M)) 10 = false) (h11 : (Nat.beq (gr_cls (gd_rc M)) 11 || Nat.beq (gr_cls (gd_rc M)) 12) = false) : gd_Den (M, pc, loc, .ref x :: st, m) = if (Nat.ble 10 (gd_KD x) && Nat.ble (gd_KD x) 14 && decide (x < gN m)) = true then gd_Den (M, pc + len, loc, .int (Int32.ofNat (gd_LN x)) :: st, m) else none := by
  rw [gd_Den_step h]
  unfold gd_step; dsimp only; rw [h10, h11, cond_false, cond_false, gd_DP_br]; rfl
theorem D_alenS  (h : gd_fetch M pc = some (pc, .arraylength, len, w, a, b, c, z)) (h10 : Nat.beq (gr_cls (gd_rc M)) 10 = true) : gd_Den (M, pc, loc, .ref 3 :: st, m) = gd_Den (M, pc + len, loc, .int (Int32.ofNat (gL m)) :: st, m) := by
  rw [gd_Den_step h]
  unfold gd_step; dsimp only; rw [h10]; rfl
theorem D_alenT  (h : gd_fetch M pc = some (pc, .arraylength, len, w, a, b, c, z)) (h10 : Nat.beq (gr_cls (gd_rc M)) 10 = false) (h11 : (Nat.beq (gr_cls (gd_rc M)) 11 || Nat.beq (gr_cls (gd_rc M)) 12) = true) : gd_Den (M, pc, loc, .ref 2 :: st, m) = gd_Den (M, pc + len, loc, .int gd_txn :: st, m) := by
  rw [gd_Den_step h]
  unfold gd_step; dsimp only; rw [h10, h11]; rfl
theorem D_iald {x : Nat} {i : Int32} (h : gd_fetch M pc = some (pc, .iaload, len, w, a, b, c, z)) (h10 : Nat.beq (gr_cls (gd_rc M)) 10 = false) : gd_Den (M, pc, loc, .int i :: .ref x :: st, m) = if gd_okA (gN m) x 10 i = true then gd_Den (M, pc + len, loc, .int (gI m x i.toNatClampNeg) :: st, m) else none := by
  rw [gd_Den_step h]
  unfold gd_step; dsimp only; rw [h10, cond_false, gd_DP_br]; rfl
theorem D_ialdS {i : Int32} (h : gd_fetch M pc = some (pc, .iaload, len, w, a, b, c, z)) (h10 : Nat.beq (gr_cls (gd_rc M)) 10 = true) : gd_Den (M, pc, loc, .int i :: .ref 3 :: st, m) = if gd_in i (gL m) = true then gd_Den (M, pc + len, loc, .int (gI m 3 i.toNatClampNeg) :: st, m) else none := by
  rw [gd_Den_step h]
  unfold gd_step; dsimp only; rw [h10, cond_true, show Nat.beq 3 3 = true from rfl, cond_true, gd_DP_br]; rfl
theorem D_bald {x kd : Nat} {i : Int32} (h : gd_fetch M pc = some (pc, .baload, len, w, a, b, c, z)) (h12 : Nat.beq (gr_cls (gd_rc M)) 12 = false) (hk : (bif Nat.beq (gr_bk (gd_rc M)) 12 then 12 else 11) = kd) : gd_Den (M, pc, loc, .int i :: .ref x :: st, m) = if gd_okA (gN m) x kd i = true then gd_Den (M, pc + len, loc, .int (gI m x i.toNatClampNeg) :: st, m) else none := by
  rw [gd_Den_step h]
  subst hk; unfold gd_step; dsimp only; rw [h12, cond_false, gd_DP_br]; rfl
theorem D_baldT {i : Int32} (h : gd_fetch M pc = some (pc, .baload, len, w, a, b, c, z)) (h12 : Nat.beq (gr_cls (gd_rc M)) 12 = true) : gd_Den (M, pc, loc, .int i :: .ref 2 :: st, m) = if gd_in i gd_txl = true then gd_Den (M, pc + len, loc, .int (gd_tx i.toNatClampNeg) :: st, m) else none := by
  rw [gd_Den_step h]
  unfold gd_step; dsimp only; rw [h12, cond_true, show Nat.beq 2 2 = true from rfl, cond_true, gd_DP_br]; rfl
theorem D_lald {x : Nat} {i : Int32} (h : gd_fetch M pc = some (pc, .laload, len, w, a, b, c, z))  : gd_Den (M, pc, loc, .int i :: .ref x :: st, m) = if gd_okA (gN m) x 13 i = true then gd_Den (M, pc + len, loc, .long (gJ m x i.toNatClampNeg) :: st, m) else none := by
  rw [gd_Den_step h]
  unfold gd_step; dsimp only; rw [gd_DP_br]; rfl
theorem D_aald {x : Nat} {i : Int32} (h : gd_fetch M pc = some (pc, .aaload, len, w, a, b, c, z))  : gd_Den (M, pc, loc, .int i :: .ref x :: st, m) = if gd_okA (gN m) x 14 i = true then gd_Den (M, pc + len, loc, .ref (gR m x i.toNatClampNeg) :: st, m) else none := by
  rw [gd_Den_step h]
  unfold gd_step; dsimp only; rw [gd_DP_br]; rfl
theorem D_iast {x : Nat} {i v : Int32} (h : gd_fetch M pc = some (pc, .iastore, len, w, a, b, c, z))  : gd_Den (M, pc, loc, .int v :: .int i :: .ref x :: st, m) = if gd_okA (gN m) x 10 i = true then gd_Den (M, pc + len, loc, st, wI m x i.toNatClampNeg v) else none := by
  rw [gd_Den_step h]
  unfold gd_step; dsimp only; rw [gd_DP_br]; rfl
theorem D_bastB {x : Nat} {i v : Int32} (h : gd_fetch M pc = some (pc, .bastore, len, w, a, b, c, z)) (h12 : Nat.beq (gr_bk (gd_rc M)) 12 = true) : gd_Den (M, pc, loc, .int v :: .int i :: .ref x :: st, m) = if gd_okA (gN m) x 12 i = true then gd_Den (M, pc + len, loc, st, wI m x i.toNatClampNeg v.toInt8.toInt32) else none := by
  rw [gd_Den_step h]
  unfold gd_step; dsimp only; rw [h12, cond_true, gd_DP_br]; rfl
theorem D_bastZ {x : Nat} {i v : Int32} (h : gd_fetch M pc = some (pc, .bastore, len, w, a, b, c, z)) (h12 : Nat.beq (gr_bk (gd_rc M)) 12 = false) : gd_Den (M, pc, loc, .int v :: .int i :: .ref x :: st, m) = if gd_okA (gN m) x 11 i = true then gd_Den (M, pc + len, loc, st, wI m x i.toNatClampNeg (vp_nar .boolean v)) else none := by
  rw [gd_Den_step h]
  unfold gd_step; dsimp only; rw [h12, cond_false, gd_DP_br]; rfl
theorem D_last {x : Nat} {i : Int32} {v : Int64} (h : gd_fetch M pc = some (pc, .lastore, len, w, a, b, c, z))  : gd_Den (M, pc, loc, .long v :: .int i :: .ref x :: st, m) = if gd_okA (gN m) x 13 i = true then gd_Den (M, pc + len, loc, st, wJ m x i.toNatClampNeg v) else none := by
  rw [gd_Den_step h]
  unfold gd_step; dsimp only; rw [gd_DP_br]; rfl
theorem D_aast {x v : Nat} {i : Int32} (h : gd_fetch M pc = some (pc, .aastore, len, w, a, b, c, z))  : gd_Den (M, pc, loc, .ref v :: .int i :: .ref x :: st, m) = if (gd_okA (gN m) x 14 i && gd_ok (gN m) v 4) = true then gd_Den (M, pc + len, loc, st, wR m x i.toNatClampNeg v) else none := by
  rw [gd_Den_step h]
  unfold gd_step; dsimp only; rw [gd_DP_br]; rfl
theorem D_newa {t : ClassFile.ArrayType} {n : Int32} {kd : Nat} (h : gd_fetch M pc = some (pc, .newarray t, len, w, a, b, c, z)) (hk : gd_akd t = kd) : gd_Den (M, pc, loc, .int n :: st, m) = if (!decide (n < 0) && Nat.beq (gd_KD (gN m)) kd && Nat.beq (gd_LN (gN m)) n.toNatClampNeg && Nat.ble n.toNatClampNeg 100000) = true then gd_Den (M, pc + len, loc, .ref (gN m) :: st, gd_al m n.toNatClampNeg) else none := by
  rw [gd_Den_step h]
  subst hk; unfold gd_step; dsimp only; rw [gd_DP_br]; rfl
theorem D_anew {k : Nat} {n : Int32} (h : gd_fetch M pc = some (pc, .anewarray k, len, w, a, b, c, z))  : gd_Den (M, pc, loc, .int n :: st, m) = if (!decide (n < 0) && Nat.beq (gd_KD (gN m)) 14 && Nat.beq (gd_LN (gN m)) n.toNatClampNeg && Nat.ble n.toNatClampNeg 100000) = true then gd_Den (M, pc + len, loc, .ref (gN m) :: st, gd_al m n.toNatClampNeg) else none := by
  rw [gd_Den_step h]
  unfold gd_step; dsimp only; rw [gd_DP_br]; rfl
theorem D_new {k : Nat} (h : gd_fetch M pc = some (pc, .new k, len, w, a, b, c, z))  : gd_Den (M, pc, loc, st, m) = if Nat.beq (gd_KD (gN m)) a = true then gd_Den (M, pc + len, loc, .ref (gN m) :: st, gd_al m b) else none := by
  rw [gd_Den_step h]
  unfold gd_step; dsimp only; rw [gd_DP_br]; rfl
theorem D_ireturn {x : Int32} (h : gd_fetch M pc = some (pc, .ireturn, len, w, a, b, c, z)) (hr : gd_rk (gr_ret (gd_rc M)) = 1) : gd_Den (M, pc, loc, [.int x], m) = some (.int x, m) := by
  rw [gd_Den_step h]
  unfold gd_step; dsimp only; rw [gd_DP_br, hr]; rfl
theorem D_zreturn {x : Int32} (h : gd_fetch M pc = some (pc, .ireturn, len, w, a, b, c, z)) (hr : gd_rk (gr_ret (gd_rc M)) = 4) : gd_Den (M, pc, loc, [.int x], m) = if gd_bo x = true then some (.int x, m) else none := by
  rw [gd_Den_step h]
  unfold gd_step; dsimp only; rw [gd_DP_br, hr]; rfl
theorem D_breturn {x : Int32} (h : gd_fetch M pc = some (pc, .ireturn, len, w, a, b, c, z)) (hr : gd_rk (gr_ret (gd_rc M)) = 5) : gd_Den (M, pc, loc, [.int x], m) = if decide (narrow .byte (.int x) = .int x) = true then some (.int x, m) else none := by
  rw [gd_Den_step h]
  unfold gd_step; dsimp only; rw [gd_DP_br, hr]; rfl
theorem D_creturn {x : Int32} (h : gd_fetch M pc = some (pc, .ireturn, len, w, a, b, c, z)) (hr : gd_rk (gr_ret (gd_rc M)) = 6) : gd_Den (M, pc, loc, [.int x], m) = if decide (narrow .char (.int x) = .int x) = true then some (.int x, m) else none := by
  rw [gd_Den_step h]
  unfold gd_step; dsimp only; rw [gd_DP_br, hr]; rfl
theorem D_lreturn {x : Int64} (h : gd_fetch M pc = some (pc, .lreturn, len, w, a, b, c, z)) (hr : gd_rk (gr_ret (gd_rc M)) = 2) : gd_Den (M, pc, loc, [.long x], m) = some (.long x, m) := by
  rw [gd_Den_step h]
  unfold gd_step; dsimp only; rw [hr]; rfl
theorem D_areturn {x : Nat} (h : gd_fetch M pc = some (pc, .areturn, len, w, a, b, c, z)) (hr : gd_rk (gr_ret (gd_rc M)) = 3) : gd_Den (M, pc, loc, [.ref x], m) = some (.ref x, m) := by
  rw [gd_Den_step h]
  unfold gd_step; dsimp only; rw [hr]; rfl
theorem D_vreturn  (h : gd_fetch M pc = some (pc, .return_, len, w, a, b, c, z)) (hr : gd_rk (gr_ret (gd_rc M)) = 0) : gd_Den (M, pc, loc, [], m) = some (.null, m) := by
  rw [gd_Den_step h]
  unfold gd_step; dsimp only; rw [hr]; rfl
theorem D_athrow {x : Nat} (h : gd_fetch M pc = some (pc, .athrow, len, w, a, b, c, z)) (hh : gd_hnd M pc = false) : gd_Den (M, pc, loc, .ref x :: st, m) = if gd_ok (gN m) x 8 = true then some (.retAddr 0, m) else none := by
  rw [gd_Den_step h]
  unfold gd_step; dsimp only; rw [hh, cond_false, gd_DP_br]; rfl
theorem D_objinit {k x : Nat} (h : gd_fetch M pc = some (pc, .invokespecial k, len, w, a, b, 2, z)) (ho : (Nat.ble (gd_pcs st) 8 && Nat.ble 1 (gr_fr (gd_rc M)) && Nat.ble 20 (gr_lo (gd_rc M)) && Nat.beq b 0) = true) : gd_Den (M, pc, loc, .ref x :: st, m) = if Nat.ble 8 x = true then gd_Den (M, pc + len, loc, st, m) else none := by
  rw [gd_Den_step h]
  obtain ⟨ho1, hb⟩ := gd_andb ho
  obtain rfl := Nat.eq_of_beq_eq_true hb
  unfold gd_step; dsimp only
  rw [List.drop_zero]
  dsimp only
  rw [show Nat.beq 2 2 = true from rfl, cond_true, gd_DP_br, ho, Bool.true_and]; rfl
theorem gd_DP_inv {th : Bool} {N : Nat} {args rest : List Value} (hr : gd_room M N args rest = true) : gd_DP (gd_inv th M pc N args loc rest m) = (gd_call N args m).bind fun q => gd_DO (gd_kon th M pc (gd_rk (gr_ret (gd_rc N))) loc rest q.1 q.2) := by
  unfold gd_inv
  rw [hr]
  rfl
theorem gd_kon_I {rest : List Value} {k : Nat} (hk : k = 1) (hh : gd_hnd M pc = false) : (fun q : Value × gd_M => gd_DO (gd_kon true M pc k loc rest q.1 q.2)) = gd_kI (fun x m1 => gd_Den (M, pc + 3, loc, .int x :: rest, m1)) := by
  subst hk
  funext q
  obtain ⟨v, m1⟩ := q
  cases v <;> first | rfl | (unfold gd_kon; dsimp only; rw [hh]; rfl)
theorem gd_kon_Z {rest : List Value} {k : Nat} (hk : k = 4) (hh : gd_hnd M pc = false) : (fun q : Value × gd_M => gd_DO (gd_kon true M pc k loc rest q.1 q.2)) = gd_kI (fun x m1 => gd_Den (M, pc + 3, loc, .int x :: rest, m1)) := by
  subst hk
  funext q
  obtain ⟨v, m1⟩ := q
  cases v <;> first | rfl | (unfold gd_kon; dsimp only; rw [hh]; rfl)
theorem gd_kon_B {rest : List Value} {k : Nat} (hk : k = 5) (hh : gd_hnd M pc = false) : (fun q : Value × gd_M => gd_DO (gd_kon true M pc k loc rest q.1 q.2)) = gd_kI (fun x m1 => gd_Den (M, pc + 3, loc, .int x :: rest, m1)) := by
  subst hk
  funext q
  obtain ⟨v, m1⟩ := q
  cases v <;> first | rfl | (unfold gd_kon; dsimp only; rw [hh]; rfl)
theorem gd_kon_C {rest : List Value} {k : Nat} (hk : k = 6) (hh : gd_hnd M pc = false) : (fun q : Value × gd_M => gd_DO (gd_kon true M pc k loc rest q.1 q.2)) = gd_kI (fun x m1 => gd_Den (M, pc + 3, loc, .int x :: rest, m1)) := by
  subst hk
  funext q
  obtain ⟨v, m1⟩ := q
  cases v <;> first | rfl | (unfold gd_kon; dsimp only; rw [hh]; rfl)
theorem gd_kon_J {rest : List Value} {k : Nat} (hk : k = 2) (hh : gd_hnd M pc = false) : (fun q : Value × gd_M => gd_DO (gd_kon true M pc k loc rest q.1 q.2)) = gd_kJ (fun x m1 => gd_Den (M, pc + 3, loc, .long x :: rest, m1)) := by
  subst hk
  funext q
  obtain ⟨v, m1⟩ := q
  cases v <;> first | rfl | (unfold gd_kon; dsimp only; rw [hh]; rfl)
theorem gd_kon_R {rest : List Value} {k : Nat} (hk : k = 3) (hh : gd_hnd M pc = false) : (fun q : Value × gd_M => gd_DO (gd_kon true M pc k loc rest q.1 q.2)) = gd_kR (fun x m1 => gd_Den (M, pc + 3, loc, .ref x :: rest, m1)) := by
  subst hk
  funext q
  obtain ⟨v, m1⟩ := q
  cases v <;> first | rfl | (unfold gd_kon; dsimp only; rw [hh]; rfl)
theorem gd_kon_V {rest : List Value} {k : Nat} (hk : k = 0) (hh : gd_hnd M pc = false) : (fun q : Value × gd_M => gd_DO (gd_kon true M pc k loc rest q.1 q.2)) = gd_kV (fun m1 => gd_Den (M, pc + 3, loc, rest, m1)) := by
  subst hk
  funext q
  obtain ⟨v, m1⟩ := q
  cases v <;> first | rfl | (unfold gd_kon; dsimp only; rw [hh]; rfl)
theorem gd_kon_I0 {rest : List Value} {k : Nat} (hk : k = 1) (hh : gd_hnd M pc = false) : (fun q : Value × gd_M => gd_DO (gd_kon false M pc k loc rest q.1 q.2)) = gd_k0I (fun x m1 => gd_Den (M, pc + 3, loc, .int x :: rest, m1)) := by
  subst hk
  funext q
  obtain ⟨v, m1⟩ := q
  cases v <;> first | rfl | (unfold gd_kon; dsimp only; rw [hh]; rfl)
theorem gd_kon_Z0 {rest : List Value} {k : Nat} (hk : k = 4) (hh : gd_hnd M pc = false) : (fun q : Value × gd_M => gd_DO (gd_kon false M pc k loc rest q.1 q.2)) = gd_k0I (fun x m1 => gd_Den (M, pc + 3, loc, .int x :: rest, m1)) := by
  subst hk
  funext q
  obtain ⟨v, m1⟩ := q
  cases v <;> first | rfl | (unfold gd_kon; dsimp only; rw [hh]; rfl)
theorem gd_kon_V0 {rest : List Value} {k : Nat} (hk : k = 0) (hh : gd_hnd M pc = false) : (fun q : Value × gd_M => gd_DO (gd_kon false M pc k loc rest q.1 q.2)) = gd_k0V (fun m1 => gd_Den (M, pc + 3, loc, rest, m1)) := by
  subst hk
  funext q
  obtain ⟨v, m1⟩ := q
  cases v <;> first | rfl | (unfold gd_kon; dsimp only; rw [hh]; rfl)
theorem gd_kon_h {rest : List Value} {k : Nat} (hk : k = 0) (hh : gd_hnd M pc = true) : (fun q : Value × gd_M => gd_DO (gd_kon true M pc k loc rest q.1 q.2)) = gd_khV (fun m1 => gd_Den (M, pc + 3, loc, rest, m1)) (fun m1 => gd_Den (M, 90, gd_set loc 1 .null, [], m1)) := by
  subst hk
  funext q
  obtain ⟨v, m1⟩ := q
  cases v <;> first | rfl | (unfold gd_kon; dsimp only; rw [hh]; rfl)
theorem D_ivI {k x cl : Nat} {args rest : List Value} (h : gd_fetch M pc = some (pc, .invokevirtual k, len, w, a, b, 0, z)) (hd : st.drop b = .ref x :: rest) (ha : .ref x :: (st.take b).reverse = args) (hr : gd_room M a args rest = true) (hk : gd_rk (gr_ret (gd_rc a)) = 1) (hh : gd_hnd M pc = false) (hC : Nat.beq a gd_mCode = false) (h11 : Nat.beq (gr_cls (gd_rc a)) 11 = false) (hcl : gr_cls (gd_rc a) = cl) : gd_Den (M, pc, loc, st, m) = if gd_ok (gN m) x cl = true then (gd_call a args m).bind (gd_kI (fun r m1 => gd_Den (M, pc + 3, loc, .int r :: rest, m1))) else none := by
  rw [gd_Den_step h]
  subst hcl; unfold gd_step; dsimp only; rw [show Nat.beq 0 3 = false from rfl, cond_false, hd]; dsimp only; rw [h11, cond_false, gd_DP_br, ha, hC, show (!false) = true from rfl, gd_DP_inv hr, gd_kon_I hk hh]; rfl
theorem D_ivZ {k x cl : Nat} {args rest : List Value} (h : gd_fetch M pc = some (pc, .invokevirtual k, len, w, a, b, 0, z)) (hd : st.drop b = .ref x :: rest) (ha : .ref x :: (st.take b).reverse = args) (hr : gd_room M a args rest = true) (hk : gd_rk (gr_ret (gd_rc a)) = 4) (hh : gd_hnd M pc = false) (hC : Nat.beq a gd_mCode = false) (h11 : Nat.beq (gr_cls (gd_rc a)) 11 = false) (hcl : gr_cls (gd_rc a) = cl) : gd_Den (M, pc, loc, st, m) = if gd_ok (gN m) x cl = true then (gd_call a args m).bind (gd_kI (fun r m1 => gd_Den (M, pc + 3, loc, .int r :: rest, m1))) else none := by
  rw [gd_Den_step h]
  subst hcl; unfold gd_step; dsimp only; rw [show Nat.beq 0 3 = false from rfl, cond_false, hd]; dsimp only; rw [h11, cond_false, gd_DP_br, ha, hC, show (!false) = true from rfl, gd_DP_inv hr, gd_kon_Z hk hh]; rfl
theorem D_ivJ {k x cl : Nat} {args rest : List Value} (h : gd_fetch M pc = some (pc, .invokevirtual k, len, w, a, b, 0, z)) (hd : st.drop b = .ref x :: rest) (ha : .ref x :: (st.take b).reverse = args) (hr : gd_room M a args rest = true) (hk : gd_rk (gr_ret (gd_rc a)) = 2) (hh : gd_hnd M pc = false) (hC : Nat.beq a gd_mCode = false) (h11 : Nat.beq (gr_cls (gd_rc a)) 11 = false) (hcl : gr_cls (gd_rc a) = cl) : gd_Den (M, pc, loc, st, m) = if gd_ok (gN m) x cl = true then (gd_call a args m).bind (gd_kJ (fun r m1 => gd_Den (M, pc + 3, loc, .long r :: rest, m1))) else none := by
  rw [gd_Den_step h]
  subst hcl; unfold gd_step; dsimp only; rw [show Nat.beq 0 3 = false from rfl, cond_false, hd]; dsimp only; rw [h11, cond_false, gd_DP_br, ha, hC, show (!false) = true from rfl, gd_DP_inv hr, gd_kon_J hk hh]; rfl
theorem D_ivR {k x cl : Nat} {args rest : List Value} (h : gd_fetch M pc = some (pc, .invokevirtual k, len, w, a, b, 0, z)) (hd : st.drop b = .ref x :: rest) (ha : .ref x :: (st.take b).reverse = args) (hr : gd_room M a args rest = true) (hk : gd_rk (gr_ret (gd_rc a)) = 3) (hh : gd_hnd M pc = false) (hC : Nat.beq a gd_mCode = false) (h11 : Nat.beq (gr_cls (gd_rc a)) 11 = false) (hcl : gr_cls (gd_rc a) = cl) : gd_Den (M, pc, loc, st, m) = if gd_ok (gN m) x cl = true then (gd_call a args m).bind (gd_kR (fun r m1 => gd_Den (M, pc + 3, loc, .ref r :: rest, m1))) else none := by
  rw [gd_Den_step h]
  subst hcl; unfold gd_step; dsimp only; rw [show Nat.beq 0 3 = false from rfl, cond_false, hd]; dsimp only; rw [h11, cond_false, gd_DP_br, ha, hC, show (!false) = true from rfl, gd_DP_inv hr, gd_kon_R hk hh]; rfl
theorem D_ivV {k x cl : Nat} {args rest : List Value} (h : gd_fetch M pc = some (pc, .invokevirtual k, len, w, a, b, 0, z)) (hd : st.drop b = .ref x :: rest) (ha : .ref x :: (st.take b).reverse = args) (hr : gd_room M a args rest = true) (hk : gd_rk (gr_ret (gd_rc a)) = 0) (hh : gd_hnd M pc = false) (hC : Nat.beq a gd_mCode = false) (h11 : Nat.beq (gr_cls (gd_rc a)) 11 = false) (hcl : gr_cls (gd_rc a) = cl) : gd_Den (M, pc, loc, st, m) = if gd_ok (gN m) x cl = true then (gd_call a args m).bind (gd_kV (fun m1 => gd_Den (M, pc + 3, loc, rest, m1))) else none := by
  rw [gd_Den_step h]
  subst hcl; unfold gd_step; dsimp only; rw [show Nat.beq 0 3 = false from rfl, cond_false, hd]; dsimp only; rw [h11, cond_false, gd_DP_br, ha, hC, show (!false) = true from rfl, gd_DP_inv hr, gd_kon_V hk hh]; rfl
theorem D_ivSI {k : Nat} {args rest : List Value} (h : gd_fetch M pc = some (pc, .invokevirtual k, len, w, a, b, 0, z)) (hd : st.drop b = .ref 1 :: rest) (ha : .ref 1 :: (st.take b).reverse = args) (hr : gd_room M a args rest = true) (hk : gd_rk (gr_ret (gd_rc a)) = 1) (hh : gd_hnd M pc = false) (hC : Nat.beq a gd_mCode = false) (hcl : Nat.beq (gr_cls (gd_rc a)) 11 = true) : gd_Den (M, pc, loc, st, m) = (gd_call a args m).bind (gd_kI (fun r m1 => gd_Den (M, pc + 3, loc, .int r :: rest, m1))) := by
  rw [gd_Den_step h]
  unfold gd_step; dsimp only; rw [show Nat.beq 0 3 = false from rfl, cond_false, hd]; dsimp only; rw [hcl, cond_true, gd_DP_br, if_pos (show Nat.beq 1 1 = true from rfl), ha, hC, gd_DP_inv hr]; exact congrArg _ (gd_kon_I hk hh)
theorem D_ivSC {k : Nat} {args rest : List Value} (h : gd_fetch M pc = some (pc, .invokevirtual k, len, w, a, b, 0, z)) (hd : st.drop b = .ref 1 :: rest) (ha : .ref 1 :: (st.take b).reverse = args) (hr : gd_room M a args rest = true) (hk : gd_rk (gr_ret (gd_rc a)) = 6) (hh : gd_hnd M pc = false) (hC : Nat.beq a gd_mCode = false) (hcl : Nat.beq (gr_cls (gd_rc a)) 11 = true) : gd_Den (M, pc, loc, st, m) = (gd_call a args m).bind (gd_kI (fun r m1 => gd_Den (M, pc + 3, loc, .int r :: rest, m1))) := by
  rw [gd_Den_step h]
  unfold gd_step; dsimp only; rw [show Nat.beq 0 3 = false from rfl, cond_false, hd]; dsimp only; rw [hcl, cond_true, gd_DP_br, if_pos (show Nat.beq 1 1 = true from rfl), ha, hC, gd_DP_inv hr]; exact congrArg _ (gd_kon_C hk hh)
theorem D_ivSB {k : Nat} {args rest : List Value} (h : gd_fetch M pc = some (pc, .invokevirtual k, len, w, a, b, 0, z)) (hd : st.drop b = .ref 1 :: rest) (ha : .ref 1 :: (st.take b).reverse = args) (hr : gd_room M a args rest = true) (hk : gd_rk (gr_ret (gd_rc a)) = 5) (hh : gd_hnd M pc = false) (hC : Nat.beq a gd_mCode = false) (hcl : Nat.beq (gr_cls (gd_rc a)) 11 = true) : gd_Den (M, pc, loc, st, m) = (gd_call a args m).bind (gd_kI (fun r m1 => gd_Den (M, pc + 3, loc, .int r :: rest, m1))) := by
  rw [gd_Den_step h]
  unfold gd_step; dsimp only; rw [show Nat.beq 0 3 = false from rfl, cond_false, hd]; dsimp only; rw [hcl, cond_true, gd_DP_br, if_pos (show Nat.beq 1 1 = true from rfl), ha, hC, gd_DP_inv hr]; exact congrArg _ (gd_kon_B hk hh)
theorem D_ivSZ {k : Nat} {args rest : List Value} (h : gd_fetch M pc = some (pc, .invokevirtual k, len, w, a, b, 0, z)) (hd : st.drop b = .ref 1 :: rest) (ha : .ref 1 :: (st.take b).reverse = args) (hr : gd_room M a args rest = true) (hk : gd_rk (gr_ret (gd_rc a)) = 4) (hh : gd_hnd M pc = false) (hC : Nat.beq a gd_mCode = false) (hcl : Nat.beq (gr_cls (gd_rc a)) 11 = true) : gd_Den (M, pc, loc, st, m) = (gd_call a args m).bind (gd_kI (fun r m1 => gd_Den (M, pc + 3, loc, .int r :: rest, m1))) := by
  rw [gd_Den_step h]
  unfold gd_step; dsimp only; rw [show Nat.beq 0 3 = false from rfl, cond_false, hd]; dsimp only; rw [hcl, cond_true, gd_DP_br, if_pos (show Nat.beq 1 1 = true from rfl), ha, hC, gd_DP_inv hr]; exact congrArg _ (gd_kon_Z hk hh)
theorem D_ivC {k x cl : Nat} {args rest : List Value} (h : gd_fetch M pc = some (pc, .invokevirtual k, len, w, a, b, 0, z)) (hd : st.drop b = .ref x :: rest) (ha : .ref x :: (st.take b).reverse = args) (hr : gd_room M a args rest = true) (hk : gd_rk (gr_ret (gd_rc a)) = 1) (hh : gd_hnd M pc = false) (hC : Nat.beq a gd_mCode = true) (h11 : Nat.beq (gr_cls (gd_rc a)) 11 = false) (hcl : gr_cls (gd_rc a) = cl) : gd_Den (M, pc, loc, st, m) = if gd_ok (gN m) x cl = true then (gd_call a args m).bind (gd_k0I (fun r m1 => gd_Den (M, pc + 3, loc, .int r :: rest, m1))) else none := by
  rw [gd_Den_step h]
  subst hcl; unfold gd_step; dsimp only; rw [show Nat.beq 0 3 = false from rfl, cond_false, hd]; dsimp only; rw [h11, cond_false, gd_DP_br, ha, hC, show (!true) = false from rfl, gd_DP_inv hr, gd_kon_I0 hk hh]; rfl
theorem D_isI {k : Nat} {args rest : List Value} (h : gd_fetch M pc = some (pc, .invokestatic k, len, w, a, b, 0, z)) (hb : Nat.ble b st.length = true) (hd : st.drop b = rest) (ha : (st.take b).reverse = args) (hr : gd_room M a args rest = true) (hk : gd_rk (gr_ret (gd_rc a)) = 1) (hh : gd_hnd M pc = false)  : gd_Den (M, pc, loc, st, m) = (gd_call a args m).bind (gd_k0I (fun r m1 => gd_Den (M, pc + 3, loc, .int r :: rest, m1))) := by
  rw [gd_Den_step h]
  unfold gd_step; dsimp only; rw [show Nat.beq 0 3 = false from rfl, cond_false, hd, hb, gd_DP_br, if_pos rfl, ha, gd_DP_inv hr]; exact congrArg _ (gd_kon_I0 hk hh)
theorem D_isZ {k : Nat} {args rest : List Value} (h : gd_fetch M pc = some (pc, .invokestatic k, len, w, a, b, 0, z)) (hb : Nat.ble b st.length = true) (hd : st.drop b = rest) (ha : (st.take b).reverse = args) (hr : gd_room M a args rest = true) (hk : gd_rk (gr_ret (gd_rc a)) = 4) (hh : gd_hnd M pc = false)  : gd_Den (M, pc, loc, st, m) = (gd_call a args m).bind (gd_k0I (fun r m1 => gd_Den (M, pc + 3, loc, .int r :: rest, m1))) := by
  rw [gd_Den_step h]
  unfold gd_step; dsimp only; rw [show Nat.beq 0 3 = false from rfl, cond_false, hd, hb, gd_DP_br, if_pos rfl, ha, gd_DP_inv hr]; exact congrArg _ (gd_kon_Z0 hk hh)
theorem D_isV {k : Nat} {args rest : List Value} (h : gd_fetch M pc = some (pc, .invokestatic k, len, w, a, b, 0, z)) (hb : Nat.ble b st.length = true) (hd : st.drop b = rest) (ha : (st.take b).reverse = args) (hr : gd_room M a args rest = true) (hk : gd_rk (gr_ret (gd_rc a)) = 0) (hh : gd_hnd M pc = false)  : gd_Den (M, pc, loc, st, m) = (gd_call a args m).bind (gd_k0V (fun m1 => gd_Den (M, pc + 3, loc, rest, m1))) := by
  rw [gd_Den_step h]
  unfold gd_step; dsimp only; rw [show Nat.beq 0 3 = false from rfl, cond_false, hd, hb, gd_DP_br, if_pos rfl, ha, gd_DP_inv hr]; exact congrArg _ (gd_kon_V0 hk hh)
theorem gd_kon_C0 {rest : List Value} {k : Nat} (hk : k = 6) (hh : gd_hnd M pc = false) : (fun q : Value × gd_M => gd_DO (gd_kon false M pc k loc rest q.1 q.2)) = gd_k0I (fun x m1 => gd_Den (M, pc + 3, loc, .int x :: rest, m1)) := by
  subst hk
  funext q
  obtain ⟨v, m1⟩ := q
  cases v <;> first | rfl | (unfold gd_kon; dsimp only; rw [hh]; rfl)
theorem D_isC {k : Nat} {args rest : List Value} (h : gd_fetch M pc = some (pc, .invokestatic k, len, w, a, b, 0, z)) (hb : Nat.ble b st.length = true) (hd : st.drop b = rest) (ha : (st.take b).reverse = args) (hr : gd_room M a args rest = true) (hk : gd_rk (gr_ret (gd_rc a)) = 6) (hh : gd_hnd M pc = false)  : gd_Den (M, pc, loc, st, m) = (gd_call a args m).bind (gd_k0I (fun r m1 => gd_Den (M, pc + 3, loc, .int r :: rest, m1))) := by
  rw [gd_Den_step h]
  unfold gd_step; dsimp only; rw [show Nat.beq 0 3 = false from rfl, cond_false, hd, hb, gd_DP_br, if_pos rfl, ha, gd_DP_inv hr]; exact congrArg _ (gd_kon_C0 hk hh)
theorem D_isp {k x : Nat} {args rest : List Value} (h : gd_fetch M pc = some (pc, .invokespecial k, len, w, a, b, c, z)) (hc2 : Nat.beq c 2 = false) (hd : st.drop b = .ref x :: rest) (ha : .ref x :: (st.take b).reverse = args) (hr : gd_room M a args rest = true) (hk : gd_rk (gr_ret (gd_rc a)) = 0) (hh : gd_hnd M pc = false)  : gd_Den (M, pc, loc, st, m) = if Nat.ble 8 x = true then (gd_call a args m).bind (gd_k0V (fun m1 => gd_Den (M, pc + 3, loc, rest, m1))) else none := by
  rw [gd_Den_step h]
  unfold gd_step; dsimp only; rw [hd]; dsimp only; rw [hc2, cond_false, gd_DP_br, ha, gd_DP_inv hr, gd_kon_V0 hk hh]; rfl
theorem D_ivh {k x cl : Nat} {args rest : List Value} (h : gd_fetch M pc = some (pc, .invokevirtual k, len, w, a, b, 0, z)) (hd : st.drop b = .ref x :: rest) (ha : .ref x :: (st.take b).reverse = args) (hr : gd_room M a args rest = true) (hk : gd_rk (gr_ret (gd_rc a)) = 0) (hh : gd_hnd M pc = true) (hC : Nat.beq a gd_mCode = false) (h11 : Nat.beq (gr_cls (gd_rc a)) 11 = false) (hcl : gr_cls (gd_rc a) = cl) : gd_Den (M, pc, loc, st, m) = if gd_ok (gN m) x cl = true then (gd_call a args m).bind (gd_khV (fun m1 => gd_Den (M, pc + 3, loc, rest, m1)) (fun m1 => gd_Den (M, 90, gd_set loc 1 .null, [], m1))) else none := by
  rw [gd_Den_step h]
  subst hcl; unfold gd_step; dsimp only; rw [show Nat.beq 0 3 = false from rfl, cond_false, hd]; dsimp only; rw [h11, cond_false, gd_DP_br, ha, hC, show (!false) = true from rfl, gd_DP_inv hr, gd_kon_h hk hh]; rfl
end GDD
