def gd_rc (M : Nat) : gd_R := gd_nth gd_mt M gd_rd
/-! ===== the tables are right: each row of code is what the bytes say, each name what the words say ===== -/
def gd_T (c : Nat) : u_T := match c with
  | 0 => TX0
  | 1 => TX1
  | 2 => TX2
  | 3 => TX3
  | 4 => TX4
  | 5 => TX5
  | 6 => TX6
  | 7 => TX7
  | 8 => TX8
  | _ => TX9
def gd_NN (c : Nat) : Nat := gd_nth [7, 15, 8, 8, 15, 10, 15, 32, 6, 45] c 0
def gd_tc : FieldType → Nat
  | .int => 0
  | .boolean => 1
  | .byte => 2
  | .long => 3
  | .object _ => 4
  | .array _ => 4
  | _ => 9
def gd_il : Instr → Nat
  | .bipush _ | .ldc _ | .iload _ | .aload _ | .lload _ | .istore _ | .astore _ | .lstore _ | .newarray _ => 2
  | .sipush _ | .ldc_w _ | .ldc2_w _ | .iinc _ _ | .ifCond _ _ | .if_icmp _ _ | .goto _ | .ifnull _ | .ifnonnull _ => 3
  | .getfield _ | .putfield _ | .getstatic _ | .invokevirtual _ | .invokespecial _ | .invokestatic _ | .new _ | .anewarray _ => 3
  | _ => 1
def gd_wd (w : Nat) (c : Jvm.Cond) : Bool := decide (lw_tbl[w]? = some c)
def gd_jmp (pc : Nat) (o : Int) : Bool := decide (0 ≤ (pc : Int) + o)
def gd_cw (M : Nat) (r : gd_R) : Jvm.Cond := bif Nat.beq M gd_mCode then .codeWith (gr_y r) (gr_b r) (gr_ml r) (gr_ret r) [(67, 86, 89, 7)] else .code (gr_y r) (gr_b r) (gr_ml r) (gr_ret r)
/-- a method's own words -/
def gd_okM (M : Nat) (r : gd_R) : Bool :=
  gd_wd (gr_pc r) (gd_cw M r) && gd_wd (gr_pn r) (.initialized (gr_y r).cls) && decide ((gr_y r).cls = gd_cn (gr_cls r)) && plainFor (gr_y r) && decide ((gr_y r).cls ≠ "java/lang/invoke/MethodHandle") && decide ((gr_y r).cls ≠ "java/lang/invoke/VarHandle")
/-- a call's words -/
def gd_okC (own : String) (x w a b c : Nat) : Bool :=
  let r := gd_rc a
  (bif Nat.beq c 1 then gd_wd w (.methodLinkNest own x (gr_y r) own) else gd_wd w (.methodLink own x (gr_y r))) && decide ((parseMethodDescriptor (gr_y r).desc).map (fun d => d.parameters.length) = some b) && Nat.blt a gd_mLaw
def gd_okE (r : gd_R) (e : gd_E) : Bool :=
  let pc := e.1
  let len := e.2.2.1
  let w := e.2.2.2.1
  let a := e.2.2.2.2.1
  let b := e.2.2.2.2.2.1
  let c := e.2.2.2.2.2.2.1
  let z := e.2.2.2.2.2.2.2
  let own := gd_cn (gr_cls r)
  decide (decode (gr_b r) pc = .ok (e.2.1, len)) && (match e.2.1 with
  | .tableswitch d lo hi os => gd_jmp pc d && os.toList.all (gd_jmp pc) && decide ((os.size : Int) = hi - lo + 1) && decide (-1000 < lo) && decide (hi < 1000) && decide (lo ≤ hi)
  | .goto o => Nat.beq len 3 && gd_jmp pc o
  | .ifCond _ o => Nat.beq len 3 && gd_jmp pc o
  | .if_icmp _ o => Nat.beq len 3 && gd_jmp pc o
  | .ifnull o => Nat.beq len 3 && gd_jmp pc o
  | .ifnonnull o => Nat.beq len 3 && gd_jmp pc o
  | .ldc x => Nat.beq len 2 && (bif Nat.beq c 0 then gd_wd w (.constant own x (Int32.ofInt z)) else (Nat.beq (gr_cls r) 5 && Nat.beq x 15) || (Nat.beq (gr_cls r) 9 && Nat.beq x 126))
  | .ldc_w x => Nat.beq len 3 && (bif Nat.beq c 0 then gd_wd w (.constant own x (Int32.ofInt z)) else true)
  | .ldc2_w x => Nat.beq len 3 && gd_wd w (.constantLong own x (Int64.ofInt z))
  | .getstatic x => Nat.beq len 3 && (bif Nat.beq a 4 then gd_wd w (.fieldLink own x "java/lang/String" "COMPACT_STRINGS" "Z") else bif Nat.beq a 5 then gd_wd w (.fieldLink own x "jdk/internal/util/Preconditions" "SIOOBE_FORMATTER" "Ljava/util/function/BiFunction;") else bif Nat.beq a 6 then gd_wd w (.fieldLink own x "java/lang/Throwable" "UNASSIGNED_STACK" "[Ljava/lang/StackTraceElement;") else Nat.beq a 7 && gd_wd w (.fieldLink own x "java/lang/Throwable" "SUPPRESSED_SENTINEL" "Ljava/util/List;"))
  | .getfield x => Nat.beq len 3 && (bif Nat.beq a 11 then (bif Nat.beq b 0 then gd_wd w (.fieldLink own x "java/lang/String" "value" "[B") else gd_wd w (.fieldLink own x "java/lang/String" "coder" "B"))
      else Nat.blt a 10 && Nat.blt b (gd_NN a) && gd_wd w (.fieldLink own x (gd_T a b).1 (gd_T a b).2.1 (gd_T a b).2.2.1) && Nat.beq c (gd_tc (gd_ty a b)))
  | .putfield x => Nat.beq len 3 && Nat.blt a 10 && Nat.blt b (gd_NN a) && gd_wd w (.fieldLink own x (gd_T a b).1 (gd_T a b).2.1 (gd_T a b).2.2.1) && Nat.beq c (gd_tc (gd_ty a b)) &&
      (bif (gd_T a b).2.2.2 then decide ((gr_y r).name = "<init>") && decide ((gd_T a b).1 = own) else true)
  | .newarray t => Nat.beq len 2 && gd_wd w (.arrayClass (newarray.typeOf t))
  | .anewarray x => Nat.beq len 3 && gd_wd w (.classLink own x "GymDesk$Routine")
  | .new x => Nat.beq len 3 && Nat.blt a 10 && gd_wd w (.classLink own x (gd_cn a)) && gd_wd c (.instantiable (gd_cn a) b) && Nat.beq b (gd_NN a) && decide (Jvm.Cond.initialized (gd_cn a) ∈ lw_tbl)
  | .invokestatic x => Nat.beq len 3 && (bif Nat.beq c 3 then true else Nat.beq c 0 && gd_okC own x w a b c && gd_wd (gr_pi (gd_rc a)) (.static (gr_y (gd_rc a))))
  | .invokevirtual x => Nat.beq len 3 && (bif Nat.beq c 3 then true else Nat.beq c 0 && gd_okC own x w a b c && gd_wd (gr_pi (gd_rc a)) (.instanceMethod (gr_y (gd_rc a))) && gd_wd (gr_ps (gd_rc a)) (.selects (gr_y (gd_rc a)).cls (gr_y (gd_rc a)) (gr_y (gd_rc a))) && Nat.blt (gr_cls (gd_rc a)) 12 && !Nat.beq (gr_cls (gd_rc a)) 10)
  | .invokespecial x => Nat.beq len 3 && (bif Nat.beq c 2 then gd_wd w (.methodLink own x objectInit) && decide (Jvm.Cond.instanceMethod objectInit ∈ lw_tbl) && decide (Jvm.Cond.code objectInit ⟨#[0xb1]⟩ 1 none ∈ lw_tbl)
      else Nat.blt c 2 && gd_okC own x w a b c && gd_wd (gr_pi (gd_rc a)) (.instanceMethod (gr_y (gd_rc a))) && decide ((gr_y (gd_rc a)).name = "<init>") && decide (gr_ret (gd_rc a) = none) && !Nat.beq a gd_mCode)
  | i => Nat.beq len (gd_il i))
