/-! ===== one step on, whatever the instruction ===== -/
section GDV
variable {p : Program} {l : Launch} {e : Env} {R : Room} {s : State} {mI : MethodId} {args : Array Value} {below : List Frame} {meth : Method} {c : Code} {H : Heap} {locs : List Loc} {cells slots : Nat} {Q : State → Prop}
variable {Z : gd_Zt} {M : Nat} {loc st : List Value} {m : gd_M} {ls : Array Slot} {pc len w a b cc : Nat} {z : Int} {d : gd_F}
set_option maxHeartbeats 4000000 in
theorem gd_stp {i : Instr} (F : gd_FF Z M p R s mI args meth c) (hH : gd_HR Z m H) (hL : gd_LR Z M loc ls) (hS : va_S (gz_A Z) s.heap H locs) (hrm : cells + (gN d.2.2.2.2 - gN m) ≤ R.cells ∧ slots + (gU d.2.2.2.2 - gU m) ≤ R.slots)
    (ho : gd_okE (gd_rc M) (pc, i, len, w, a, b, cc, z) = true) (hs : gd_step M (pc, i, len, w, a, b, cc, z) loc st m = gd_go d) (kk : gd_KK p l e R s mI args below meth c cells slots Q Z M m d) : d.1 = M ∧ W p l e R s mI args below meth c H locs cells slots Q (F0 mI pc ls (st.map (gd_cv Z))) := by
  cases i <;> first | (cases hs; done) | skip
  case aconst_null => exact gd_s_aconst_null F hH hL hS ho hs kk
  case iconst => exact gd_s_iconst F hH hL hS ho hs kk
  case bipush => exact gd_s_bipush F hH hL hS ho hs kk
  case sipush => exact gd_s_sipush F hH hL hS ho hs kk
  case lconst => exact gd_s_lconst F hH hL hS ho hs kk
  case ldc => exact gd_s_ldc F hH hL hS ho hs kk
  case ldc_w => exact gd_s_ldc_w F hH hL hS ho hs kk
  case ldc2_w => exact gd_s_ldc2_w F hH hL hS ho hs kk
  case iload => exact gd_s_iload F hH hL hS ho hs kk
  case iload_n => exact gd_s_iload_n F hH hL hS ho hs kk
  case aload => exact gd_s_aload F hH hL hS ho hs kk
  case aload_n => exact gd_s_aload_n F hH hL hS ho hs kk
  case lload => exact gd_s_lload F hH hL hS ho hs kk
  case lload_n => exact gd_s_lload_n F hH hL hS ho hs kk
  case istore => exact gd_s_istore F hH hL hS ho hs kk
  case istore_n => exact gd_s_istore_n F hH hL hS ho hs kk
  case astore => exact gd_s_astore F hH hL hS ho hs kk
  case astore_n => exact gd_s_astore_n F hH hL hS ho hs kk
  case lstore_n => exact gd_s_lstore_n F hH hL hS ho hs kk
  case iinc => exact gd_s_iinc F hH hL hS ho hs kk
  case dup => exact gd_s_dup F hH hL hS ho hs kk
  case dup2 => exact gd_s_dup2 F hH hL hS ho hs kk
  case pop => exact gd_s_pop F hH hL hS ho hs kk
  case iadd => exact gd_s_iadd F hH hL hS ho hs kk
  case isub => exact gd_s_isub F hH hL hS ho hs kk
  case imul => exact gd_s_imul F hH hL hS ho hs kk
  case idiv => exact gd_s_idiv F hH hL hS ho hs kk
  case irem => exact gd_s_irem F hH hL hS ho hs kk
  case iand => exact gd_s_iand F hH hL hS ho hs kk
  case ior => exact gd_s_ior F hH hL hS ho hs kk
  case ixor => exact gd_s_ixor F hH hL hS ho hs kk
  case ishl => exact gd_s_ishl F hH hL hS ho hs kk
  case ishr => exact gd_s_ishr F hH hL hS ho hs kk
  case iushr => exact gd_s_iushr F hH hL hS ho hs kk
  case ineg => exact gd_s_ineg F hH hL hS ho hs kk
  case i2b => exact gd_s_i2b F hH hL hS ho hs kk
  case i2c => exact gd_s_i2c F hH hL hS ho hs kk
  case i2l => exact gd_s_i2l F hH hL hS ho hs kk
  case lor => exact gd_s_lor F hH hL hS ho hs kk
  case lsub => exact gd_s_lsub F hH hL hS ho hs kk
  case lshl => exact gd_s_lshl F hH hL hS ho hs kk
  case lcmp => exact gd_s_lcmp F hH hL hS ho hs kk
  case goto => exact gd_s_goto F hH hL hS ho hs kk
  case ifCond cd o =>
    cases cd with
    | eq => exact gd_s_ifCond_eq F hH hL hS ho hs kk
    | ne => exact gd_s_ifCond_ne F hH hL hS ho hs kk
    | lt => exact gd_s_ifCond_lt F hH hL hS ho hs kk
    | ge => exact gd_s_ifCond_ge F hH hL hS ho hs kk
    | gt => exact gd_s_ifCond_gt F hH hL hS ho hs kk
    | le => exact gd_s_ifCond_le F hH hL hS ho hs kk
  case if_icmp cd o =>
    cases cd with
    | eq => exact gd_s_if_icmp_eq F hH hL hS ho hs kk
    | ne => exact gd_s_if_icmp_ne F hH hL hS ho hs kk
    | lt => exact gd_s_if_icmp_lt F hH hL hS ho hs kk
    | ge => exact gd_s_if_icmp_ge F hH hL hS ho hs kk
    | gt => exact gd_s_if_icmp_gt F hH hL hS ho hs kk
    | le => exact gd_s_if_icmp_le F hH hL hS ho hs kk
  case ifnull => exact gd_s_ifnull F hH hL hS ho hs kk
  case ifnonnull => exact gd_s_ifnonnull F hH hL hS ho hs kk
  case tableswitch => exact gd_s_tableswitch F hH hL hS ho hs kk
  case getstatic => exact gd_s_getstatic F hH hL hS ho hs kk
  case getfield => exact gd_s_getfield F hH hL hS ho hs kk
  case putfield => exact gd_s_putfield F hH hL hS ho hs kk
  case arraylength => exact gd_s_arraylength F hH hL hS ho hs kk
  case iaload => exact gd_s_iaload F hH hL hS ho hs kk
  case baload => exact gd_s_baload F hH hL hS ho hs kk
  case laload => exact gd_s_laload F hH hL hS ho hs kk
  case aaload => exact gd_s_aaload F hH hL hS ho hs kk
  case iastore => exact gd_s_iastore F hH hL hS ho hs kk
  case bastore => exact gd_s_bastore F hH hL hS ho hs kk
  case lastore => exact gd_s_lastore F hH hL hS ho hs kk
  case aastore => exact gd_s_aastore F hH hL hS ho hs kk
  case newarray => exact gd_s_newarray F hH hL hS hrm ho hs kk
  case anewarray => exact gd_s_anewarray F hH hL hS hrm ho hs kk
  case new => exact gd_s_new F hH hL hS hrm ho hs kk
  case invokespecial k =>
    by_cases hc2 : cc = 2
    · exact gd_s_objinit hc2 F hH hL hS ho hs kk
    · exfalso
      unfold gd_step at hs
      dsimp only at hs
      split at hs
      · rw [gd_bf hc2, cond_false] at hs
        rcases gd_br_eq hs with ⟨h3, h4⟩ | ⟨h3, h4⟩
        · exact absurd h4 gd_inv_go
        · cases h4
      · cases hs
  all_goals
    exfalso
    have hm : ∀ (v : Value) (m : gd_M), gd_go d ≠ gd_fin v m := fun _ _ => gd_go_fin
    unfold gd_step at hs
    dsimp only at hs
    first
      | (rcases gd_cd_eq hs with ⟨h1, h2⟩ | ⟨h1, h2⟩
         · cases h2
         · first
           | (rcases gd_br_eq h2 with ⟨h3, h4⟩ | ⟨h3, h4⟩
              · exact absurd h4 gd_inv_go
              · cases h4)
           | (split at h2
              · rcases gd_br_eq h2 with ⟨h3, h4⟩ | ⟨h3, h4⟩
                · exact absurd h4 gd_inv_go
                · cases h4
              · cases h2))
      | (split at hs
         · first
           | (rcases gd_br_eq hs with ⟨h1, h2⟩ | ⟨h1, h2⟩
              · exact hm _ _ h2.symm
              · cases h2)
           | (rcases gd_cd_eq hs with ⟨h1, h2⟩ | ⟨h1, h2⟩
              · first | exact hm _ _ h2.symm | cases h2
              · first
                | (cases h2; done)
                | (rcases gd_br_eq h2 with ⟨h3, h4⟩ | ⟨h3, h4⟩
                   · exact hm _ _ h4.symm
                   · cases h4))
         · cases hs)
end GDV
