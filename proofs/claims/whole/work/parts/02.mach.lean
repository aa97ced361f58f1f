/-! ===== a small machine over ids instead of addresses; typed contents ===== -/
/-- contents: ints, longs, refs (by id, 0 is null), next id, slots used, the script's length -/
abbrev gd_M : Type := (Nat → Nat → Int32) × (Nat → Nat → Int64) × (Nat → Nat → Nat) × Nat × Nat × Nat
def gI (m : gd_M) (a k : Nat) : Int32 := m.1 a k
def gJ (m : gd_M) (a k : Nat) : Int64 := m.2.1 a k
def gR (m : gd_M) (a k : Nat) : Nat := m.2.2.1 a k
def gN (m : gd_M) : Nat := m.2.2.2.1
def gU (m : gd_M) : Nat := m.2.2.2.2.1
def gL (m : gd_M) : Nat := m.2.2.2.2.2
def gd_up {α : Type} (f : Nat → Nat → α) (a k : Nat) (x : α) : Nat → Nat → α := fun b j => if b = a ∧ j = k then x else f b j
def wI (m : gd_M) (a k : Nat) (x : Int32) : gd_M := (gd_up m.1 a k x, m.2)
def wJ (m : gd_M) (a k : Nat) (x : Int64) : gd_M := (m.1, gd_up m.2.1 a k x, m.2.2)
def wR (m : gd_M) (a k : Nat) (x : Nat) : gd_M := (m.1, m.2.1, gd_up m.2.2.1 a k x, m.2.2.2)
/-- a new cell of z slots -/
def gd_al (m : gd_M) (z : Nat) : gd_M := (m.1, m.2.1, m.2.2.1, m.2.2.2.1 + 1, m.2.2.2.2.1 + z, m.2.2.2.2.2)
abbrev gd_F : Type := Nat × Nat × List Value × List Value × gd_M
abbrev gd_O : Type := (Value × gd_M) ⊕ gd_F
abbrev gd_P : Type := Option ((Value × gd_M) ⊕ (gd_F ⊕ (gd_F × (Value → gd_M → Option gd_O))))
def gd_fin (v : Value) (m : gd_M) : gd_P := some (.inl (v, m))
def gd_go (c : gd_F) : gd_P := some (.inr (.inl c))
def gd_cal (c : gd_F) (k : Value → gd_M → Option gd_O) : gd_P := some (.inr (.inr (c, k)))
def gd_at : List Value → Nat → Value
  | [], _ => .null
  | v :: _, 0 => v
  | _ :: l, n + 1 => gd_at l n
def gd_set : List Value → Nat → Value → List Value
  | [], _, _ => []
  | _ :: l, 0, x => x :: l
  | v :: l, n + 1, x => v :: gd_set l n x
/-- arguments as locals: a long takes two -/
def gd_flat : List Value → List Value
  | [] => []
  | .long x :: l => .long x :: .null :: gd_flat l
  | v :: l => v :: gd_flat l
def gd_pad : Nat → List Value → List Value
  | 0, _ => []
  | n + 1, [] => .null :: gd_pad n []
  | n + 1, v :: l => v :: gd_pad n l
def gd_isL : Value → Bool
  | .long _ => true
  | _ => false
/-- arguments: ints, longs and refs alone; longs only where the method has them -/
def gd_argOk (lng : List Nat) : Nat → List Value → Bool
  | _, [] => true
  | i, .int _ :: l => gd_argOk lng (i + 1) l
  | i, .ref _ :: l => gd_argOk lng (i + 1) l
  | i, .long _ :: l => lng.elem i && gd_argOk lng (i + 2) l
  | _, _ :: _ => false
def gd_nth {α : Type} : List α → Nat → α → α
  | [], _, d => d
  | x :: _, 0, _ => x
  | _ :: l, n + 1, d => gd_nth l n d
/-- a row of a method's code: pc, instruction, length, the word's place, what it names (three numbers, one whole number) -/
abbrev gd_E : Type := Nat × Instr × Nat × Nat × Nat × Nat × Nat × Int
/-- a method: code rows; name, bytes, locals, answer; class; frames and locals that it needs; where longs lie; byte arrays (12) or booleans (11); places of its words -/
abbrev gd_R : Type := List gd_E × MethodName × ByteArray × Nat × Option FieldType × Nat × Nat × Nat × List Nat × Nat × Nat × Nat × Nat × Nat
def gd_find : List gd_E → Nat → Option gd_E
  | [], _ => none
  | e :: l, pc => bif Nat.beq e.1 pc then some e else gd_find l pc
abbrev gr_code (r : gd_R) : List gd_E := r.1
abbrev gr_y (r : gd_R) : MethodName := r.2.1
abbrev gr_b (r : gd_R) : ByteArray := r.2.2.1
abbrev gr_ml (r : gd_R) : Nat := r.2.2.2.1
abbrev gr_ret (r : gd_R) : Option FieldType := r.2.2.2.2.1
abbrev gr_cls (r : gd_R) : Nat := r.2.2.2.2.2.1
abbrev gr_fr (r : gd_R) : Nat := r.2.2.2.2.2.2.1
abbrev gr_lo (r : gd_R) : Nat := r.2.2.2.2.2.2.2.1
abbrev gr_lng (r : gd_R) : List Nat := r.2.2.2.2.2.2.2.2.1
abbrev gr_bk (r : gd_R) : Nat := r.2.2.2.2.2.2.2.2.2.1
abbrev gr_pc (r : gd_R) : Nat := r.2.2.2.2.2.2.2.2.2.2.1
abbrev gr_pi (r : gd_R) : Nat := r.2.2.2.2.2.2.2.2.2.2.2.1
abbrev gr_pn (r : gd_R) : Nat := r.2.2.2.2.2.2.2.2.2.2.2.2.1
abbrev gr_ps (r : gd_R) : Nat := r.2.2.2.2.2.2.2.2.2.2.2.2.2
/-- what a method answers: 0 nothing, 1 int, 2 long, 3 a reference, 4 boolean, 5 byte, 6 char -/
def gd_rk : Option FieldType → Nat
  | none => 0
  | some .int => 1
  | some .long => 2
  | some (.object _) => 3
  | some (.array _) => 3
  | some .boolean => 4
  | some .byte => 5
  | some .char => 6
  | _ => 9
/-- an int fits the answer's type -/
def gd_fit (k : Nat) (x : Int32) : Bool :=
  bif Nat.beq k 1 then true else bif Nat.beq k 4 then decide (narrow .boolean (.int x) = .int x) else bif Nat.beq k 5 then decide (narrow .byte (.int x) = .int x) else bif Nat.beq k 6 then decide (narrow .char (.int x) = .int x) else false
/-- an int kept by a field of a type: 0 int, 1 boolean, 2 byte -/
def gd_fitF (k : Nat) (x : Int32) : Bool :=
  bif Nat.beq k 0 then true else bif Nat.beq k 1 then decide (narrow .boolean (.int x) = .int x) else bif Nat.beq k 2 then decide (narrow .byte (.int x) = .int x) else false
def gd_pcs (st : List Value) : Nat := (st.map fun v => v.category).sum
/-- an index within -/
def gd_in (i : Int32) (n : Nat) : Bool := !(decide (i < 0) || decide (n ≤ i.toNatClampNeg))
def gd_tgt (pc : Nat) (off : Int) : Nat := ((pc : Int) + off).toNat
def gd_sw {α : Type} (f : Int → α) : Int → List Int → Int → Int32 → α
  | _, [], d, _ => f d
  | lo, o :: os, d, x => if x = Int32.ofInt lo then f o else gd_sw f (lo + 1) os d x
