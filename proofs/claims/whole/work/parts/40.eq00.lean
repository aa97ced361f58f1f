/-! java/lang/String.coder ()B -/
set_option maxRecDepth 20000 in
theorem gk_f0_0 : gd_fetch 0 0 = some (0, .getstatic 38, 3, 133, 4, 0, 0, 0) := rfl
set_option maxRecDepth 20000 in
theorem gk_f0_3 : gd_fetch 0 3 = some (3, .ifCond .eq 10, 3, 0, 0, 0, 0, 0) := rfl
set_option maxRecDepth 20000 in
theorem gk_f0_6 : gd_fetch 0 6 = some (6, .aload_n 0, 1, 0, 0, 0, 0, 0) := rfl
set_option maxRecDepth 20000 in
theorem gk_f0_7 : gd_fetch 0 7 = some (7, .getfield 15, 3, 1544, 11, 1, 2, 0) := rfl
set_option maxRecDepth 20000 in
theorem gk_f0_10 : gd_fetch 0 10 = some (10, .goto 4, 3, 0, 0, 0, 0, 0) := rfl
set_option maxRecDepth 20000 in
theorem gk_f0_14 : gd_fetch 0 14 = some (14, .ireturn, 1, 0, 0, 0, 0, 0) := rfl
set_option maxRecDepth 20000 in
set_option maxHeartbeats 4000000 in
theorem q_S_coder  (m : gd_M) : gd_call 0 [.ref 1] m = if decide (narrow .byte (.int 0) = .int 0) = true then some (.int 0, m) else none := by
  refine Eq.trans (show gd_call 0 [.ref 1] m = gd_Den (0, 0, [.ref 1], [], m) from by unfold gd_call gd_ent; rw [gk_ml0]; rfl) ?_
  refine Eq.trans (D_gsI gk_f0_0) ?_
  refine Eq.trans (D_if_eq (t := 13) gk_f0_3 (by decide)) ?_
  refine Eq.trans (if_neg (by decide)) ?_
  refine Eq.trans (D_aload_n (x := 1) gk_f0_6 rfl) ?_
  refine Eq.trans (D_gfC gk_f0_7) ?_
  refine Eq.trans (D_goto (t := 14) gk_f0_10 (by decide)) ?_
  refine Eq.trans (D_breturn gk_f0_14 gk_rk0) ?_
  rfl
/-! java/lang/String.length ()I -/
set_option maxRecDepth 20000 in
theorem gk_f1_0 : gd_fetch 1 0 = some (0, .aload_n 0, 1, 0, 0, 0, 0, 0) := rfl
set_option maxRecDepth 20000 in
theorem gk_f1_1 : gd_fetch 1 1 = some (1, .getfield 9, 3, 1543, 11, 0, 4, 0) := rfl
set_option maxRecDepth 20000 in
theorem gk_f1_4 : gd_fetch 1 4 = some (4, .arraylength, 1, 0, 0, 0, 0, 0) := rfl
set_option maxRecDepth 20000 in
theorem gk_f1_5 : gd_fetch 1 5 = some (5, .aload_n 0, 1, 0, 0, 0, 0, 0) := rfl
set_option maxRecDepth 20000 in
theorem gk_f1_6 : gd_fetch 1 6 = some (6, .invokevirtual 335, 3, 129, 0, 0, 0, 0) := rfl
set_option maxRecDepth 20000 in
theorem gk_f1_9 : gd_fetch 1 9 = some (9, .ishr, 1, 0, 0, 0, 0, 0) := rfl
set_option maxRecDepth 20000 in
theorem gk_f1_10 : gd_fetch 1 10 = some (10, .ireturn, 1, 0, 0, 0, 0, 0) := rfl
set_option maxRecDepth 20000 in
set_option maxHeartbeats 4000000 in
theorem q_S_length  (m : gd_M) : gd_call 1 [.ref 1] m = (gd_call 0 [.ref 1] m).bind (gd_kI fun z3 m1 => some (.int ((gd_txn : Int32) >>> (z3 &&& 31)), m1)) := by
  refine Eq.trans (show gd_call 1 [.ref 1] m = gd_Den (1, 0, [.ref 1], [], m) from by unfold gd_call gd_ent; rw [gk_ml1]; rfl) ?_
  refine Eq.trans (D_aload_n (x := 1) gk_f1_0 rfl) ?_
  refine Eq.trans (D_gfV gk_f1_1) ?_
  refine Eq.trans (D_alenT gk_f1_4 gk_n10_1 gk_t1) ?_
  refine Eq.trans (D_aload_n (x := 1) gk_f1_5 rfl) ?_
  refine Eq.trans (D_ivSB (args := [.ref 1]) (rest := [.int gd_txn]) gk_f1_6 rfl rfl (gd_rmk gk_rm1_0 gk_ln0 gk_ml0 rfl rfl rfl) gk_rk0 (gd_hnd_n gk_nc1) gk_nc0 gk_t11_0) ?_
  refine gd_bnd (gd_kI_c fun z3 m1 => ?_)
  refine Eq.trans (D_ishr gk_f1_9) ?_
  refine Eq.trans (D_ireturn gk_f1_10 gk_rk1) ?_
  rfl
/-! java/lang/String.isLatin1 ()Z -/
set_option maxRecDepth 20000 in
theorem gk_f2_0 : gd_fetch 2 0 = some (0, .getstatic 38, 3, 133, 4, 0, 0, 0) := rfl
set_option maxRecDepth 20000 in
theorem gk_f2_3 : gd_fetch 2 3 = some (3, .ifCond .eq 14, 3, 0, 0, 0, 0, 0) := rfl
set_option maxRecDepth 20000 in
theorem gk_f2_6 : gd_fetch 2 6 = some (6, .aload_n 0, 1, 0, 0, 0, 0, 0) := rfl
set_option maxRecDepth 20000 in
theorem gk_f2_7 : gd_fetch 2 7 = some (7, .getfield 15, 3, 1544, 11, 1, 2, 0) := rfl
set_option maxRecDepth 20000 in
theorem gk_f2_10 : gd_fetch 2 10 = some (10, .ifCond .ne 7, 3, 0, 0, 0, 0, 0) := rfl
set_option maxRecDepth 20000 in
theorem gk_f2_13 : gd_fetch 2 13 = some (13, .iconst 1, 1, 0, 0, 0, 0, 0) := rfl
set_option maxRecDepth 20000 in
theorem gk_f2_14 : gd_fetch 2 14 = some (14, .goto 4, 3, 0, 0, 0, 0, 0) := rfl
set_option maxRecDepth 20000 in
theorem gk_f2_18 : gd_fetch 2 18 = some (18, .ireturn, 1, 0, 0, 0, 0, 0) := rfl
set_option maxRecDepth 20000 in
set_option maxHeartbeats 4000000 in
theorem q_S_isLatin1  (m : gd_M) : gd_call 2 [.ref 1] m = some (.int 1, m) := by
  refine Eq.trans (show gd_call 2 [.ref 1] m = gd_Den (2, 0, [.ref 1], [], m) from by unfold gd_call gd_ent; rw [gk_ml2]; rfl) ?_
  refine Eq.trans (D_gsI gk_f2_0) ?_
  refine Eq.trans (D_if_eq (t := 17) gk_f2_3 (by decide)) ?_
  refine Eq.trans (if_neg (by decide)) ?_
  refine Eq.trans (D_aload_n (x := 1) gk_f2_6 rfl) ?_
  refine Eq.trans (D_gfC gk_f2_7) ?_
  refine Eq.trans (D_if_ne (t := 17) gk_f2_10 (by decide)) ?_
  refine Eq.trans (if_pos (by decide)) ?_
  refine Eq.trans (D_iconst (x := 1) gk_f2_13 gk_c_1) ?_
  refine Eq.trans (D_goto (t := 18) gk_f2_14 (by decide)) ?_
  refine Eq.trans (D_zreturn gk_f2_18 gk_rk2) ?_
  exact if_pos rfl
/-! jdk/internal/util/Preconditions.checkIndex (IILjava/util/function/BiFunction;)I -/
set_option maxRecDepth 20000 in
theorem gk_f3_0 : gd_fetch 3 0 = some (0, .iload_n 0, 1, 0, 0, 0, 0, 0) := rfl
set_option maxRecDepth 20000 in
theorem gk_f3_1 : gd_fetch 3 1 = some (1, .ifCond .lt 8, 3, 0, 0, 0, 0, 0) := rfl
set_option maxRecDepth 20000 in
theorem gk_f3_4 : gd_fetch 3 4 = some (4, .iload_n 0, 1, 0, 0, 0, 0, 0) := rfl
set_option maxRecDepth 20000 in
theorem gk_f3_5 : gd_fetch 3 5 = some (5, .iload_n 1, 1, 0, 0, 0, 0, 0) := rfl
set_option maxRecDepth 20000 in
theorem gk_f3_6 : gd_fetch 3 6 = some (6, .if_icmp .lt 10, 3, 0, 0, 0, 0, 0) := rfl
set_option maxRecDepth 20000 in
theorem gk_f3_9 : gd_fetch 3 9 = some (9, .aload_n 2, 1, 0, 0, 0, 0, 0) := rfl
set_option maxRecDepth 20000 in
theorem gk_f3_10 : gd_fetch 3 10 = some (10, .iload_n 0, 1, 0, 0, 0, 0, 0) := rfl
set_option maxRecDepth 20000 in
theorem gk_f3_11 : gd_fetch 3 11 = some (11, .iload_n 1, 1, 0, 0, 0, 0, 0) := rfl
set_option maxRecDepth 20000 in
theorem gk_f3_12 : gd_fetch 3 12 = some (12, .invokestatic 95, 3, 0, 0, 0, 3, 0) := rfl
set_option maxRecDepth 20000 in
theorem gk_f3_16 : gd_fetch 3 16 = some (16, .iload_n 0, 1, 0, 0, 0, 0, 0) := rfl
set_option maxRecDepth 20000 in
theorem gk_f3_17 : gd_fetch 3 17 = some (17, .ireturn, 1, 0, 0, 0, 0, 0) := rfl
set_option maxRecDepth 20000 in
set_option maxHeartbeats 4000000 in
theorem q_Pr_checkIndex (x0 : Int32) (x1 : Int32) (r2 : Nat) (m : gd_M) : gd_call 3 [.int x0, .int x1, .ref r2] m = if (x0 < 0 : Prop) then (none) else (if (x0 < x1 : Prop) then (some (.int x0, m)) else (none)) := by
  refine Eq.trans (show gd_call 3 [.int x0, .int x1, .ref r2] m = gd_Den (3, 0, [.int x0, .int x1, .ref r2], [], m) from by unfold gd_call gd_ent; rw [gk_ml3]; rfl) ?_
  refine Eq.trans (D_iload_n (x := x0) gk_f3_0 rfl) ?_
  refine Eq.trans (D_if_lt (t := 9) gk_f3_1 (by decide)) ?_
  refine gd_ite (fun h1 => ?_) (fun h2 => ?_)
  · refine Eq.trans (D_aload_n (x := r2) gk_f3_9 rfl) ?_
    refine Eq.trans (D_iload_n (x := x0) gk_f3_10 rfl) ?_
    refine Eq.trans (D_iload_n (x := x1) gk_f3_11 rfl) ?_
    rw [gd_Den_step gk_f3_12]
    rfl
  · refine Eq.trans (D_iload_n (x := x0) gk_f3_4 rfl) ?_
    refine Eq.trans (D_iload_n (x := x1) gk_f3_5 rfl) ?_
    refine Eq.trans (D_ic_lt (t := 16) gk_f3_6 (by decide)) ?_
    refine gd_ite (fun h3 => ?_) (fun h4 => ?_)
    · refine Eq.trans (D_iload_n (x := x0) gk_f3_16 rfl) ?_
      refine Eq.trans (D_ireturn gk_f3_17 gk_rk3) ?_
      rfl
    · refine Eq.trans (D_aload_n (x := r2) gk_f3_9 rfl) ?_
      refine Eq.trans (D_iload_n (x := x0) gk_f3_10 rfl) ?_
      refine Eq.trans (D_iload_n (x := x1) gk_f3_11 rfl) ?_
      rw [gd_Den_step gk_f3_12]
      rfl
/-! java/lang/String.checkIndex (II)V -/
set_option maxRecDepth 20000 in
theorem gk_f4_0 : gd_fetch 4 0 = some (0, .iload_n 0, 1, 0, 0, 0, 0, 0) := rfl
set_option maxRecDepth 20000 in
theorem gk_f4_1 : gd_fetch 4 1 = some (1, .iload_n 1, 1, 0, 0, 0, 0, 0) := rfl
set_option maxRecDepth 20000 in
theorem gk_f4_2 : gd_fetch 4 2 = some (2, .getstatic 1053, 3, 149, 5, 0, 0, 0) := rfl
set_option maxRecDepth 20000 in
theorem gk_f4_5 : gd_fetch 4 5 = some (5, .invokestatic 1059, 3, 151, 3, 3, 0, 0) := rfl
set_option maxRecDepth 20000 in
theorem gk_f4_8 : gd_fetch 4 8 = some (8, .pop, 1, 0, 0, 0, 0, 0) := rfl
set_option maxRecDepth 20000 in
theorem gk_f4_9 : gd_fetch 4 9 = some (9, .return_, 1, 0, 0, 0, 0, 0) := rfl
set_option maxRecDepth 20000 in
set_option maxHeartbeats 4000000 in
theorem q_S_checkIndex (x0 : Int32) (x1 : Int32) (m : gd_M) : gd_call 4 [.int x0, .int x1] m = (gd_call 3 [.int x0, .int x1, .ref 5] m).bind (gd_k0I fun z3 m1 => some (.null, m1)) := by
  refine Eq.trans (show gd_call 4 [.int x0, .int x1] m = gd_Den (4, 0, [.int x0, .int x1], [], m) from by unfold gd_call gd_ent; rw [gk_ml4]; rfl) ?_
  refine Eq.trans (D_iload_n (x := x0) gk_f4_0 rfl) ?_
  refine Eq.trans (D_iload_n (x := x1) gk_f4_1 rfl) ?_
  refine Eq.trans (D_gsR gk_f4_2 (by decide)) ?_
  refine Eq.trans (D_isI (args := [.int x0, .int x1, .ref 5]) (rest := []) gk_f4_5 rfl rfl rfl (gd_rmk gk_rm4_3 gk_ln3 gk_ml3 rfl rfl rfl) gk_rk3 (gd_hnd_n gk_nc4)) ?_
  refine gd_bnd (gd_k0I_c fun z3 m1 => ?_)
  refine Eq.trans (D_popI gk_f4_8) ?_
  refine Eq.trans (D_vreturn gk_f4_9 gk_rk4) ?_
  rfl
/-! java/lang/StringLatin1.charAt ([BI)C -/
set_option maxRecDepth 20000 in
theorem gk_f5_0 : gd_fetch 5 0 = some (0, .iload_n 1, 1, 0, 0, 0, 0, 0) := rfl
set_option maxRecDepth 20000 in
theorem gk_f5_1 : gd_fetch 5 1 = some (1, .aload_n 0, 1, 0, 0, 0, 0, 0) := rfl
set_option maxRecDepth 20000 in
theorem gk_f5_2 : gd_fetch 5 2 = some (2, .arraylength, 1, 0, 0, 0, 0, 0) := rfl
set_option maxRecDepth 20000 in
theorem gk_f5_3 : gd_fetch 5 3 = some (3, .invokestatic 9, 3, 146, 4, 2, 0, 0) := rfl
set_option maxRecDepth 20000 in
theorem gk_f5_6 : gd_fetch 5 6 = some (6, .aload_n 0, 1, 0, 0, 0, 0, 0) := rfl
set_option maxRecDepth 20000 in
theorem gk_f5_7 : gd_fetch 5 7 = some (7, .iload_n 1, 1, 0, 0, 0, 0, 0) := rfl
set_option maxRecDepth 20000 in
theorem gk_f5_8 : gd_fetch 5 8 = some (8, .baload, 1, 0, 0, 0, 0, 0) := rfl
set_option maxRecDepth 20000 in
theorem gk_f5_9 : gd_fetch 5 9 = some (9, .sipush 255, 3, 0, 0, 0, 0, 0) := rfl
set_option maxRecDepth 20000 in
theorem gk_f5_12 : gd_fetch 5 12 = some (12, .iand, 1, 0, 0, 0, 0, 0) := rfl
set_option maxRecDepth 20000 in
theorem gk_f5_13 : gd_fetch 5 13 = some (13, .i2c, 1, 0, 0, 0, 0, 0) := rfl
set_option maxRecDepth 20000 in
theorem gk_f5_14 : gd_fetch 5 14 = some (14, .ireturn, 1, 0, 0, 0, 0, 0) := rfl
set_option maxRecDepth 20000 in
set_option maxHeartbeats 4000000 in
theorem q_S1_charAt (x1 : Int32) (m : gd_M) : gd_call 5 [.ref 2, .int x1] m = (gd_call 4 [.int x1, .int gd_txn] m).bind (gd_k0V fun m1 => if gd_in x1 gd_txl = true then (if decide (narrow .char (.int ((((gd_tx (x1 : Int32).toNatClampNeg) &&& 255) : Int32).toUInt32 % 65536).toInt32) = .int ((((gd_tx (x1 : Int32).toNatClampNeg) &&& 255) : Int32).toUInt32 % 65536).toInt32) = true then some (.int ((((gd_tx (x1 : Int32).toNatClampNeg) &&& 255) : Int32).toUInt32 % 65536).toInt32, m1) else none) else none) := by
  refine Eq.trans (show gd_call 5 [.ref 2, .int x1] m = gd_Den (5, 0, [.ref 2, .int x1], [], m) from by unfold gd_call gd_ent; rw [gk_ml5]; rfl) ?_
  refine Eq.trans (D_iload_n (x := x1) gk_f5_0 rfl) ?_
  refine Eq.trans (D_aload_n (x := 2) gk_f5_1 rfl) ?_
  refine Eq.trans (D_alenT gk_f5_2 gk_n10_5 gk_t5) ?_
  refine Eq.trans (D_isV (args := [.int x1, .int gd_txn]) (rest := []) gk_f5_3 rfl rfl rfl (gd_rmk gk_rm5_4 gk_ln4 gk_ml4 rfl rfl rfl) gk_rk4 (gd_hnd_n gk_nc5)) ?_
  refine gd_bnd (gd_k0V_c fun m1 => ?_)
  refine Eq.trans (D_aload_n (x := 2) gk_f5_6 rfl) ?_
  refine Eq.trans (D_iload_n (x := x1) gk_f5_7 rfl) ?_
  refine Eq.trans (D_baldT gk_f5_8 gk_12t5) ?_
  refine gd_ite (fun h3 => ?_) (fun _ => rfl)
  refine Eq.trans (D_sipush (x := 255) gk_f5_9 gk_s_255) ?_
  refine Eq.trans (D_iand gk_f5_12) ?_
  refine Eq.trans (D_i2c gk_f5_13) ?_
  refine Eq.trans (D_creturn gk_f5_14 gk_rk5) ?_
  rfl
/-! java/lang/String.charAt (I)C -/
set_option maxRecDepth 20000 in
theorem gk_f6_0 : gd_fetch 6 0 = some (0, .aload_n 0, 1, 0, 0, 0, 0, 0) := rfl
set_option maxRecDepth 20000 in
theorem gk_f6_1 : gd_fetch 6 1 = some (1, .invokevirtual 492, 3, 139, 2, 0, 0, 0) := rfl
set_option maxRecDepth 20000 in
theorem gk_f6_4 : gd_fetch 6 4 = some (4, .ifCond .eq 12, 3, 0, 0, 0, 0, 0) := rfl
set_option maxRecDepth 20000 in
theorem gk_f6_7 : gd_fetch 6 7 = some (7, .aload_n 0, 1, 0, 0, 0, 0, 0) := rfl
set_option maxRecDepth 20000 in
theorem gk_f6_8 : gd_fetch 6 8 = some (8, .getfield 9, 3, 1543, 11, 0, 4, 0) := rfl
set_option maxRecDepth 20000 in
theorem gk_f6_11 : gd_fetch 6 11 = some (11, .iload_n 1, 1, 0, 0, 0, 0, 0) := rfl
set_option maxRecDepth 20000 in
theorem gk_f6_12 : gd_fetch 6 12 = some (12, .invokestatic 495, 3, 143, 5, 2, 0, 0) := rfl
set_option maxRecDepth 20000 in
theorem gk_f6_15 : gd_fetch 6 15 = some (15, .ireturn, 1, 0, 0, 0, 0, 0) := rfl
set_option maxRecDepth 20000 in
theorem gk_f6_16 : gd_fetch 6 16 = some (16, .aload_n 0, 1, 0, 0, 0, 0, 0) := rfl
set_option maxRecDepth 20000 in
theorem gk_f6_17 : gd_fetch 6 17 = some (17, .getfield 9, 3, 1543, 11, 0, 4, 0) := rfl
set_option maxRecDepth 20000 in
theorem gk_f6_20 : gd_fetch 6 20 = some (20, .iload_n 1, 1, 0, 0, 0, 0, 0) := rfl
set_option maxRecDepth 20000 in
theorem gk_f6_21 : gd_fetch 6 21 = some (21, .invokestatic 498, 3, 0, 0, 0, 3, 0) := rfl
set_option maxRecDepth 20000 in
set_option maxHeartbeats 4000000 in
theorem q_S_charAt (x1 : Int32) (m : gd_M) : gd_call 6 [.ref 1, .int x1] m = (gd_call 2 [.ref 1] m).bind (gd_kI fun z3 m1 => if (z3 = 0 : Prop) then (none) else ((gd_call 5 [.ref 2, .int x1] m1).bind (gd_k0I fun z8 m6 => if decide (narrow .char (.int z8) = .int z8) = true then some (.int z8, m6) else none))) := by
  refine Eq.trans (show gd_call 6 [.ref 1, .int x1] m = gd_Den (6, 0, [.ref 1, .int x1], [], m) from by unfold gd_call gd_ent; rw [gk_ml6]; rfl) ?_
  refine Eq.trans (D_aload_n (x := 1) gk_f6_0 rfl) ?_
  refine Eq.trans (D_ivSZ (args := [.ref 1]) (rest := []) gk_f6_1 rfl rfl (gd_rmk gk_rm6_2 gk_ln2 gk_ml2 rfl rfl rfl) gk_rk2 (gd_hnd_n gk_nc6) gk_nc2 gk_t11_2) ?_
  refine gd_bnd (gd_kI_c fun z3 m1 => ?_)
  refine Eq.trans (D_if_eq (t := 16) gk_f6_4 (by decide)) ?_
  refine gd_ite (fun h4 => ?_) (fun h5 => ?_)
  · refine Eq.trans (D_aload_n (x := 1) gk_f6_16 rfl) ?_
    refine Eq.trans (D_gfV gk_f6_17) ?_
    refine Eq.trans (D_iload_n (x := x1) gk_f6_20 rfl) ?_
    rw [gd_Den_step gk_f6_21]
    rfl
  · refine Eq.trans (D_aload_n (x := 1) gk_f6_7 rfl) ?_
    refine Eq.trans (D_gfV gk_f6_8) ?_
    refine Eq.trans (D_iload_n (x := x1) gk_f6_11 rfl) ?_
    refine Eq.trans (D_isC (args := [.ref 2, .int x1]) (rest := []) gk_f6_12 rfl rfl rfl (gd_rmk gk_rm6_5 gk_ln5 gk_ml5 rfl rfl rfl) gk_rk5 (gd_hnd_n gk_nc6)) ?_
    refine gd_bnd (gd_k0I_c fun z8 m6 => ?_)
    refine Eq.trans (D_creturn gk_f6_15 gk_rk6) ?_
    rfl
/-! GymDesk$Scanner.<init> ()V -/
set_option maxRecDepth 20000 in
theorem gk_f7_0 : gd_fetch 7 0 = some (0, .aload_n 0, 1, 0, 0, 0, 0, 0) := rfl
set_option maxRecDepth 20000 in
theorem gk_f7_1 : gd_fetch 7 1 = some (1, .invokespecial 3, 3, 123, 0, 0, 2, 0) := rfl
set_option maxRecDepth 20000 in
theorem gk_f7_4 : gd_fetch 7 4 = some (4, .aload_n 0, 1, 0, 0, 0, 0, 0) := rfl
set_option maxRecDepth 20000 in
theorem gk_f7_5 : gd_fetch 7 5 = some (5, .bipush 19, 2, 0, 0, 0, 0, 0) := rfl
set_option maxRecDepth 20000 in
theorem gk_f7_7 : gd_fetch 7 7 = some (7, .newarray .long, 2, 211, 0, 0, 0, 0) := rfl
set_option maxRecDepth 20000 in
theorem gk_f7_9 : gd_fetch 7 9 = some (9, .putfield 11, 3, 173, 5, 0, 4, 1) := rfl
set_option maxRecDepth 20000 in
theorem gk_f7_12 : gd_fetch 7 12 = some (12, .iconst 0, 1, 0, 0, 0, 0, 0) := rfl
set_option maxRecDepth 20000 in
theorem gk_f7_13 : gd_fetch 7 13 = some (13, .istore_n 1, 1, 0, 0, 0, 0, 0) := rfl
set_option maxRecDepth 20000 in
theorem gk_f7_14 : gd_fetch 7 14 = some (14, .iconst 0, 1, 0, 0, 0, 0, 0) := rfl
set_option maxRecDepth 20000 in
theorem gk_f7_15 : gd_fetch 7 15 = some (15, .istore_n 2, 1, 0, 0, 0, 0, 0) := rfl
set_option maxRecDepth 20000 in
theorem gk_f7_16 : gd_fetch 7 16 = some (16, .iload_n 2, 1, 0, 0, 0, 0, 0) := rfl
set_option maxRecDepth 20000 in
theorem gk_f7_17 : gd_fetch 7 17 = some (17, .ldc 15, 2, 124, 0, 0, 1, 0) := rfl
set_option maxRecDepth 20000 in
theorem gk_f7_19 : gd_fetch 7 19 = some (19, .invokevirtual 17, 3, 125, 1, 0, 0, 0) := rfl
set_option maxRecDepth 20000 in
theorem gk_f7_22 : gd_fetch 7 22 = some (22, .if_icmp .ge 57, 3, 0, 0, 0, 0, 0) := rfl
set_option maxRecDepth 20000 in
theorem gk_f7_25 : gd_fetch 7 25 = some (25, .iload_n 1, 1, 0, 0, 0, 0, 0) := rfl
set_option maxRecDepth 20000 in
theorem gk_f7_26 : gd_fetch 7 26 = some (26, .bipush 19, 2, 0, 0, 0, 0, 0) := rfl
set_option maxRecDepth 20000 in
theorem gk_f7_28 : gd_fetch 7 28 = some (28, .if_icmp .ge 51, 3, 0, 0, 0, 0, 0) := rfl
set_option maxRecDepth 20000 in
theorem gk_f7_31 : gd_fetch 7 31 = some (31, .ldc 15, 2, 124, 0, 0, 1, 0) := rfl
set_option maxRecDepth 20000 in
theorem gk_f7_33 : gd_fetch 7 33 = some (33, .iload_n 2, 1, 0, 0, 0, 0, 0) := rfl
set_option maxRecDepth 20000 in
theorem gk_f7_34 : gd_fetch 7 34 = some (34, .invokevirtual 23, 3, 135, 6, 1, 0, 0) := rfl
set_option maxRecDepth 20000 in
theorem gk_f7_37 : gd_fetch 7 37 = some (37, .bipush 32, 2, 0, 0, 0, 0, 0) := rfl
set_option maxRecDepth 20000 in
theorem gk_f7_39 : gd_fetch 7 39 = some (39, .if_icmp .ne 9, 3, 0, 0, 0, 0, 0) := rfl
set_option maxRecDepth 20000 in
theorem gk_f7_42 : gd_fetch 7 42 = some (42, .iinc 1 1, 3, 0, 0, 0, 0, 0) := rfl
set_option maxRecDepth 20000 in
theorem gk_f7_45 : gd_fetch 7 45 = some (45, .goto 28, 3, 0, 0, 0, 0, 0) := rfl
set_option maxRecDepth 20000 in
theorem gk_f7_48 : gd_fetch 7 48 = some (48, .aload_n 0, 1, 0, 0, 0, 0, 0) := rfl
set_option maxRecDepth 20000 in
theorem gk_f7_49 : gd_fetch 7 49 = some (49, .getfield 11, 3, 173, 5, 0, 4, 1) := rfl
set_option maxRecDepth 20000 in
theorem gk_f7_52 : gd_fetch 7 52 = some (52, .iload_n 1, 1, 0, 0, 0, 0, 0) := rfl
set_option maxRecDepth 20000 in
theorem gk_f7_53 : gd_fetch 7 53 = some (53, .aload_n 0, 1, 0, 0, 0, 0, 0) := rfl
set_option maxRecDepth 20000 in
theorem gk_f7_54 : gd_fetch 7 54 = some (54, .getfield 11, 3, 173, 5, 0, 4, 1) := rfl
set_option maxRecDepth 20000 in
theorem gk_f7_57 : gd_fetch 7 57 = some (57, .iload_n 1, 1, 0, 0, 0, 0, 0) := rfl
set_option maxRecDepth 20000 in
theorem gk_f7_58 : gd_fetch 7 58 = some (58, .laload, 1, 0, 0, 0, 0, 0) := rfl
set_option maxRecDepth 20000 in
theorem gk_f7_59 : gd_fetch 7 59 = some (59, .iconst 5, 1, 0, 0, 0, 0, 0) := rfl
set_option maxRecDepth 20000 in
theorem gk_f7_60 : gd_fetch 7 60 = some (60, .lshl, 1, 0, 0, 0, 0, 0) := rfl
set_option maxRecDepth 20000 in
theorem gk_f7_61 : gd_fetch 7 61 = some (61, .ldc 15, 2, 124, 0, 0, 1, 0) := rfl
set_option maxRecDepth 20000 in
theorem gk_f7_63 : gd_fetch 7 63 = some (63, .iload_n 2, 1, 0, 0, 0, 0, 0) := rfl
set_option maxRecDepth 20000 in
theorem gk_f7_64 : gd_fetch 7 64 = some (64, .invokevirtual 23, 3, 135, 6, 1, 0, 0) := rfl
set_option maxRecDepth 20000 in
theorem gk_f7_67 : gd_fetch 7 67 = some (67, .bipush 96, 2, 0, 0, 0, 0, 0) := rfl
set_option maxRecDepth 20000 in
theorem gk_f7_69 : gd_fetch 7 69 = some (69, .isub, 1, 0, 0, 0, 0, 0) := rfl
set_option maxRecDepth 20000 in
theorem gk_f7_70 : gd_fetch 7 70 = some (70, .i2l, 1, 0, 0, 0, 0, 0) := rfl
set_option maxRecDepth 20000 in
theorem gk_f7_71 : gd_fetch 7 71 = some (71, .lor, 1, 0, 0, 0, 0, 0) := rfl
set_option maxRecDepth 20000 in
theorem gk_f7_72 : gd_fetch 7 72 = some (72, .lastore, 1, 0, 0, 0, 0, 0) := rfl
set_option maxRecDepth 20000 in
theorem gk_f7_73 : gd_fetch 7 73 = some (73, .iinc 2 1, 3, 0, 0, 0, 0, 0) := rfl
set_option maxRecDepth 20000 in
theorem gk_f7_76 : gd_fetch 7 76 = some (76, .goto (-60), 3, 0, 0, 0, 0, 0) := rfl
set_option maxRecDepth 20000 in
theorem gk_f7_79 : gd_fetch 7 79 = some (79, .return_, 1, 0, 0, 0, 0, 0) := rfl
set_option maxRecDepth 20000 in
set_option maxHeartbeats 4000000 in
theorem q_Sc_init (r0 : Nat) (m : gd_M) : gd_call 7 [.ref r0] m = if Nat.ble 8 r0 = true then (if (!decide ((19 : Int32) < 0) && Nat.beq (gd_KD (gN m)) 13 && Nat.beq (gd_LN (gN m)) (19 : Int32).toNatClampNeg && Nat.ble (19 : Int32).toNatClampNeg 100000) = true then (if gd_ok (gN m + 1) r0 5 = true then (gd_Den (7, 16, [.ref r0, .int 0, .int 0], [], (wR (gd_al m (19 : Int32).toNatClampNeg) r0 0 (gN m)))) else none) else none) else none := by
  refine Eq.trans (show gd_call 7 [.ref r0] m = gd_Den (7, 0, [.ref r0, .null, .null], [], m) from by unfold gd_call gd_ent; rw [gk_ml7]; rfl) ?_
  refine Eq.trans (D_aload_n (x := r0) gk_f7_0 rfl) ?_
  refine Eq.trans (D_objinit gk_f7_1 gk_oi7) ?_
  refine gd_ite (fun h1 => ?_) (fun _ => rfl)
  refine Eq.trans (D_aload_n (x := r0) gk_f7_4 rfl) ?_
  refine Eq.trans (D_bipush (x := 19) gk_f7_5 gk_b_19) ?_
  refine Eq.trans (D_newa (kd := 13) gk_f7_7 rfl) ?_
  refine gd_ite (fun h3 => ?_) (fun _ => rfl)
  refine Eq.trans (D_pfR gk_f7_9) ?_
  refine gd_ite (fun h4 => ?_) (fun _ => rfl)
  refine Eq.trans (D_iconst (x := 0) gk_f7_12 gk_c_0) ?_
  refine Eq.trans (D_istore_n gk_f7_13 gk_st7_1) ?_
  refine Eq.trans (D_iconst (x := 0) gk_f7_14 gk_c_0) ?_
  refine Eq.trans (D_istore_n gk_f7_15 gk_st7_2) ?_
  rfl
set_option maxRecDepth 20000 in
set_option maxHeartbeats 4000000 in
theorem q_Sc_init_16 (r0 : Nat) (x1 : Int32) (x2 : Int32) (m : gd_M) : gd_Den (7, 16, [.ref r0, .int x1, .int x2], [], m) = (gd_call 1 [.ref 1] m).bind (gd_kI fun z3 m1 => if (x2 < z3 : Prop) then (if (x1 < 19 : Prop) then ((gd_call 6 [.ref 1, .int x2] m1).bind (gd_kI fun z10 m8 => if (z10 = 32 : Prop) then (gd_Den (7, 16, [.ref r0, .int (x1 + 1), .int (x2 + 1)], [], m8)) else (if gd_ok (gN m8) r0 5 = true then (if gd_okA (gN m8) (gR m8 r0 0) 13 x1 = true then ((gd_call 6 [.ref 1, .int x2] m8).bind (gd_kI fun z17 m15 => if gd_okA (gN m15) (gR m8 r0 0) 13 x1 = true then (gd_Den (7, 16, [.ref r0, .int x1, .int (x2 + 1)], [], (wJ m15 (gR m8 r0 0) (x1 : Int32).toNatClampNeg ((((gJ m8 (gR m8 r0 0) (x1 : Int32).toNatClampNeg) : Int64) <<< ((5 : Int32).toInt64 &&& 63)) ||| ((z17 - 96) : Int32).toInt64)))) else none)) else none) else none))) else (some (.null, m1))) else (some (.null, m1))) := by
  refine Eq.trans (D_iload_n (x := x2) gk_f7_16 rfl) ?_
  refine Eq.trans (D_ldcS gk_f7_17) ?_
  refine Eq.trans (D_ivSI (args := [.ref 1]) (rest := [.int x2]) gk_f7_19 rfl rfl (gd_rmk gk_rm7_1 gk_ln1 gk_ml1 rfl rfl rfl) gk_rk1 (gd_hnd_n gk_nc7) gk_nc1 gk_t11_1) ?_
  refine gd_bnd (gd_kI_c fun z3 m1 => ?_)
  refine Eq.trans (D_ic_ge (t := 79) gk_f7_22 (by decide)) ?_
  refine gd_ite (fun h4 => ?_) (fun h5 => ?_)
  · refine Eq.trans (D_iload_n (x := x1) gk_f7_25 rfl) ?_
    refine Eq.trans (D_bipush (x := 19) gk_f7_26 gk_b_19) ?_
    refine Eq.trans (D_ic_ge (t := 79) gk_f7_28 (by decide)) ?_
    refine gd_ite (fun h6 => ?_) (fun h7 => ?_)
    · refine Eq.trans (D_ldcS gk_f7_31) ?_
      refine Eq.trans (D_iload_n (x := x2) gk_f7_33 rfl) ?_
      refine Eq.trans (D_ivSC (args := [.ref 1, .int x2]) (rest := []) gk_f7_34 rfl rfl (gd_rmk gk_rm7_6 gk_ln6 gk_ml6 rfl rfl rfl) gk_rk6 (gd_hnd_n gk_nc7) gk_nc6 gk_t11_6) ?_
      refine gd_bnd (gd_kI_c fun z10 m8 => ?_)
      refine Eq.trans (D_bipush (x := 32) gk_f7_37 gk_b_32) ?_
      refine Eq.trans (D_ic_ne (t := 48) gk_f7_39 (by decide)) ?_
      refine gd_ite (fun h11 => ?_) (fun h12 => ?_)
      · refine Eq.trans (D_iinc (x := x1) (y := 1) gk_f7_42 rfl gk_c_1 gk_st7_1) ?_
        refine Eq.trans (D_goto (t := 73) gk_f7_45 (by decide)) ?_
        refine Eq.trans (D_iinc (x := x2) (y := 1) gk_f7_73 rfl gk_c_1 gk_st7_2) ?_
        refine Eq.trans (D_goto (t := 16) gk_f7_76 (by decide)) ?_
        rfl
      · refine Eq.trans (D_aload_n (x := r0) gk_f7_48 rfl) ?_
        refine Eq.trans (D_gfR gk_f7_49 (by decide)) ?_
        refine gd_ite (fun h13 => ?_) (fun _ => rfl)
        refine Eq.trans (D_iload_n (x := x1) gk_f7_52 rfl) ?_
        refine Eq.trans (D_aload_n (x := r0) gk_f7_53 rfl) ?_
        refine Eq.trans (D_gfR gk_f7_54 (by decide)) ?_
        refine Eq.trans (if_pos h13) ?_
        refine Eq.trans (D_iload_n (x := x1) gk_f7_57 rfl) ?_
        refine Eq.trans (D_lald gk_f7_58) ?_
        refine gd_ite (fun h14 => ?_) (fun _ => rfl)
        refine Eq.trans (D_iconst (x := 5) gk_f7_59 gk_c_5) ?_
        refine Eq.trans (D_lshl gk_f7_60) ?_
        refine Eq.trans (D_ldcS gk_f7_61) ?_
        refine Eq.trans (D_iload_n (x := x2) gk_f7_63 rfl) ?_
        refine Eq.trans (D_ivSC (args := [.ref 1, .int x2]) (rest := [.long (((gJ m8 (gR m8 r0 0) (x1 : Int32).toNatClampNeg) : Int64) <<< ((5 : Int32).toInt64 &&& 63)), .int x1, .ref (gR m8 r0 0)]) gk_f7_64 rfl rfl (gd_rmk gk_rm7_6 gk_ln6 gk_ml6 rfl rfl rfl) gk_rk6 (gd_hnd_n gk_nc7) gk_nc6 gk_t11_6) ?_
        refine gd_bnd (gd_kI_c fun z17 m15 => ?_)
        refine Eq.trans (D_bipush (x := 96) gk_f7_67 gk_b_96) ?_
        refine Eq.trans (D_isub gk_f7_69) ?_
        refine Eq.trans (D_i2l gk_f7_70) ?_
        refine Eq.trans (D_lor gk_f7_71) ?_
        refine Eq.trans (D_last gk_f7_72) ?_
        refine gd_ite (fun h18 => ?_) (fun _ => rfl)
        refine Eq.trans (D_iinc (x := x2) (y := 1) gk_f7_73 rfl gk_c_1 gk_st7_2) ?_
        refine Eq.trans (D_goto (t := 16) gk_f7_76 (by decide)) ?_
        rfl
    · refine Eq.trans (D_vreturn gk_f7_79 gk_rk7) ?_
      rfl
  · refine Eq.trans (D_vreturn gk_f7_79 gk_rk7) ?_
    rfl
/-! GymDesk$Reader.<init> ()V -/
set_option maxRecDepth 20000 in
theorem gk_f8_0 : gd_fetch 8 0 = some (0, .aload_n 0, 1, 0, 0, 0, 0, 0) := rfl
set_option maxRecDepth 20000 in
theorem gk_f8_1 : gd_fetch 8 1 = some (1, .invokespecial 3, 3, 117, 0, 0, 2, 0) := rfl
set_option maxRecDepth 20000 in
theorem gk_f8_4 : gd_fetch 8 4 = some (4, .aload_n 0, 1, 0, 0, 0, 0, 0) := rfl
set_option maxRecDepth 20000 in
theorem gk_f8_5 : gd_fetch 8 5 = some (5, .new 9, 3, 118, 5, 10, 119, 0) := rfl
set_option maxRecDepth 20000 in
theorem gk_f8_8 : gd_fetch 8 8 = some (8, .dup, 1, 0, 0, 0, 0, 0) := rfl
set_option maxRecDepth 20000 in
theorem gk_f8_9 : gd_fetch 8 9 = some (9, .invokespecial 11, 3, 120, 7, 0, 0, 0) := rfl
set_option maxRecDepth 20000 in
theorem gk_f8_12 : gd_fetch 8 12 = some (12, .putfield 12, 3, 212, 3, 0, 4, 1) := rfl
set_option maxRecDepth 20000 in
theorem gk_f8_15 : gd_fetch 8 15 = some (15, .aload_n 0, 1, 0, 0, 0, 0, 0) := rfl
set_option maxRecDepth 20000 in
theorem gk_f8_16 : gd_fetch 8 16 = some (16, .bipush 30, 2, 0, 0, 0, 0, 0) := rfl
set_option maxRecDepth 20000 in
theorem gk_f8_18 : gd_fetch 8 18 = some (18, .newarray .long, 2, 211, 0, 0, 0, 0) := rfl
set_option maxRecDepth 20000 in
theorem gk_f8_20 : gd_fetch 8 20 = some (20, .putfield 18, 3, 213, 3, 1, 4, 1) := rfl
set_option maxRecDepth 20000 in
theorem gk_f8_23 : gd_fetch 8 23 = some (23, .aload_n 0, 1, 0, 0, 0, 0, 0) := rfl
set_option maxRecDepth 20000 in
theorem gk_f8_24 : gd_fetch 8 24 = some (24, .bipush 10, 2, 0, 0, 0, 0, 0) := rfl
set_option maxRecDepth 20000 in
theorem gk_f8_26 : gd_fetch 8 26 = some (26, .newarray .long, 2, 211, 0, 0, 0, 0) := rfl
set_option maxRecDepth 20000 in
theorem gk_f8_28 : gd_fetch 8 28 = some (28, .putfield 22, 3, 214, 3, 2, 4, 1) := rfl
set_option maxRecDepth 20000 in
theorem gk_f8_31 : gd_fetch 8 31 = some (31, .aload_n 0, 1, 0, 0, 0, 0, 0) := rfl
set_option maxRecDepth 20000 in
theorem gk_f8_32 : gd_fetch 8 32 = some (32, .iconst (-1), 1, 0, 0, 0, 0, 0) := rfl
set_option maxRecDepth 20000 in
theorem gk_f8_33 : gd_fetch 8 33 = some (33, .putfield 25, 3, 220, 3, 7, 0, 0) := rfl
set_option maxRecDepth 20000 in
theorem gk_f8_36 : gd_fetch 8 36 = some (36, .return_, 1, 0, 0, 0, 0, 0) := rfl
set_option maxRecDepth 20000 in
set_option maxHeartbeats 4000000 in
theorem q_Re_init (r0 : Nat) (m : gd_M) : gd_call 8 [.ref r0] m = if Nat.ble 8 r0 = true then (if Nat.beq (gd_KD (gN m)) 5 = true then (if Nat.ble 8 (gN m) = true then ((gd_call 7 [.ref (gN m)] (gd_al m 10)).bind (gd_k0V fun m5 => if gd_ok (gN m5) r0 3 = true then (if (!decide ((30 : Int32) < 0) && Nat.beq (gd_KD (gN m5)) 13 && Nat.beq (gd_LN (gN m5)) (30 : Int32).toNatClampNeg && Nat.ble (30 : Int32).toNatClampNeg 100000) = true then (if gd_ok (gN m5 + 1) r0 3 = true then (if (!decide ((10 : Int32) < 0) && Nat.beq (gd_KD (gN m5 + 1)) 13 && Nat.beq (gd_LN (gN m5 + 1)) (10 : Int32).toNatClampNeg && Nat.ble (10 : Int32).toNatClampNeg 100000) = true then (if gd_ok (gN m5 + 2) r0 3 = true then (some (.null, (wI (wR (gd_al (wR (gd_al (wR m5 r0 0 (gN m)) (30 : Int32).toNatClampNeg) r0 1 (gN m5)) (10 : Int32).toNatClampNeg) r0 2 (gN m5 + 1)) r0 7 (-1)))) else none) else none) else none) else none) else none)) else none) else none) else none := by
  refine Eq.trans (show gd_call 8 [.ref r0] m = gd_Den (8, 0, [.ref r0], [], m) from by unfold gd_call gd_ent; rw [gk_ml8]; rfl) ?_
  refine Eq.trans (D_aload_n (x := r0) gk_f8_0 rfl) ?_
  refine Eq.trans (D_objinit gk_f8_1 gk_oi8) ?_
  refine gd_ite (fun h1 => ?_) (fun _ => rfl)
  refine Eq.trans (D_aload_n (x := r0) gk_f8_4 rfl) ?_
  refine Eq.trans (D_new gk_f8_5) ?_
  refine gd_ite (fun h3 => ?_) (fun _ => rfl)
  refine Eq.trans (D_dupR gk_f8_8) ?_
  refine Eq.trans (D_isp (args := [.ref (gN m)]) (rest := [.ref (gN m), .ref r0]) gk_f8_9 rfl rfl rfl (gd_rmk gk_rm8_7 gk_ln7 gk_ml7 rfl rfl rfl) gk_rk7 (gd_hnd_n gk_nc8)) ?_
  refine gd_ite (fun h4 => ?_) (fun _ => rfl)
  refine gd_bnd (gd_k0V_c fun m5 => ?_)
  refine Eq.trans (D_pfR gk_f8_12) ?_
  refine gd_ite (fun h7 => ?_) (fun _ => rfl)
  refine Eq.trans (D_aload_n (x := r0) gk_f8_15 rfl) ?_
  refine Eq.trans (D_bipush (x := 30) gk_f8_16 gk_b_30) ?_
  refine Eq.trans (D_newa (kd := 13) gk_f8_18 rfl) ?_
  refine gd_ite (fun h9 => ?_) (fun _ => rfl)
  refine Eq.trans (D_pfR gk_f8_20) ?_
  refine gd_ite (fun h10 => ?_) (fun _ => rfl)
  refine Eq.trans (D_aload_n (x := r0) gk_f8_23 rfl) ?_
  refine Eq.trans (D_bipush (x := 10) gk_f8_24 gk_b_10) ?_
  refine Eq.trans (D_newa (kd := 13) gk_f8_26 rfl) ?_
  refine gd_ite (fun h12 => ?_) (fun _ => rfl)
  refine Eq.trans (D_pfR gk_f8_28) ?_
  refine gd_ite (fun h13 => ?_) (fun _ => rfl)
  refine Eq.trans (D_aload_n (x := r0) gk_f8_31 rfl) ?_
  refine Eq.trans (D_iconst (x := (-1)) gk_f8_32 gk_c_m1) ?_
  refine Eq.trans (D_pfI gk_f8_33) ?_
  refine Eq.trans (if_pos h13) ?_
  refine Eq.trans (D_vreturn gk_f8_36 gk_rk8) ?_
  rfl
/-! GymDesk$Chooser.<init> ()V -/
set_option maxRecDepth 20000 in
theorem gk_f9_0 : gd_fetch 9 0 = some (0, .aload_n 0, 1, 0, 0, 0, 0, 0) := rfl
set_option maxRecDepth 20000 in
theorem gk_f9_1 : gd_fetch 9 1 = some (1, .invokespecial 3, 3, 244, 0, 0, 2, 0) := rfl
set_option maxRecDepth 20000 in
theorem gk_f9_4 : gd_fetch 9 4 = some (4, .aload_n 0, 1, 0, 0, 0, 0, 0) := rfl
set_option maxRecDepth 20000 in
theorem gk_f9_5 : gd_fetch 9 5 = some (5, .sipush 1280, 3, 0, 0, 0, 0, 0) := rfl
set_option maxRecDepth 20000 in
theorem gk_f9_8 : gd_fetch 9 8 = some (8, .newarray .int, 2, 269, 0, 0, 0, 0) := rfl
set_option maxRecDepth 20000 in
theorem gk_f9_10 : gd_fetch 9 10 = some (10, .putfield 11, 3, 245, 0, 0, 4, 1) := rfl
set_option maxRecDepth 20000 in
theorem gk_f9_13 : gd_fetch 9 13 = some (13, .aload_n 0, 1, 0, 0, 0, 0, 0) := rfl
set_option maxRecDepth 20000 in
theorem gk_f9_14 : gd_fetch 9 14 = some (14, .sipush 1280, 3, 0, 0, 0, 0, 0) := rfl
set_option maxRecDepth 20000 in
theorem gk_f9_17 : gd_fetch 9 17 = some (17, .newarray .int, 2, 269, 0, 0, 0, 0) := rfl
set_option maxRecDepth 20000 in
theorem gk_f9_19 : gd_fetch 9 19 = some (19, .putfield 15, 3, 246, 0, 1, 4, 1) := rfl
set_option maxRecDepth 20000 in
theorem gk_f9_22 : gd_fetch 9 22 = some (22, .aload_n 0, 1, 0, 0, 0, 0, 0) := rfl
set_option maxRecDepth 20000 in
theorem gk_f9_23 : gd_fetch 9 23 = some (23, .iconst 5, 1, 0, 0, 0, 0, 0) := rfl
set_option maxRecDepth 20000 in
theorem gk_f9_24 : gd_fetch 9 24 = some (24, .newarray .int, 2, 269, 0, 0, 0, 0) := rfl
set_option maxRecDepth 20000 in
theorem gk_f9_26 : gd_fetch 9 26 = some (26, .putfield 18, 3, 247, 0, 2, 4, 1) := rfl
set_option maxRecDepth 20000 in
theorem gk_f9_29 : gd_fetch 9 29 = some (29, .aload_n 0, 1, 0, 0, 0, 0, 0) := rfl
set_option maxRecDepth 20000 in
theorem gk_f9_30 : gd_fetch 9 30 = some (30, .iconst 5, 1, 0, 0, 0, 0, 0) := rfl
set_option maxRecDepth 20000 in
theorem gk_f9_31 : gd_fetch 9 31 = some (31, .newarray .int, 2, 269, 0, 0, 0, 0) := rfl
set_option maxRecDepth 20000 in
theorem gk_f9_33 : gd_fetch 9 33 = some (33, .putfield 21, 3, 248, 0, 3, 4, 1) := rfl
set_option maxRecDepth 20000 in
theorem gk_f9_36 : gd_fetch 9 36 = some (36, .return_, 1, 0, 0, 0, 0, 0) := rfl
set_option maxRecDepth 20000 in
set_option maxHeartbeats 4000000 in
theorem q_Ch_init (r0 : Nat) (m : gd_M) : gd_call 9 [.ref r0] m = if Nat.ble 8 r0 = true then (if (!decide ((1280 : Int32) < 0) && Nat.beq (gd_KD (gN m)) 10 && Nat.beq (gd_LN (gN m)) (1280 : Int32).toNatClampNeg && Nat.ble (1280 : Int32).toNatClampNeg 100000) = true then (if gd_ok (gN m + 1) r0 0 = true then (if (!decide ((1280 : Int32) < 0) && Nat.beq (gd_KD (gN m + 1)) 10 && Nat.beq (gd_LN (gN m + 1)) (1280 : Int32).toNatClampNeg && Nat.ble (1280 : Int32).toNatClampNeg 100000) = true then (if gd_ok (gN m + 2) r0 0 = true then (if (!decide ((5 : Int32) < 0) && Nat.beq (gd_KD (gN m + 2)) 10 && Nat.beq (gd_LN (gN m + 2)) (5 : Int32).toNatClampNeg && Nat.ble (5 : Int32).toNatClampNeg 100000) = true then (if gd_ok (gN m + 3) r0 0 = true then (if (!decide ((5 : Int32) < 0) && Nat.beq (gd_KD (gN m + 3)) 10 && Nat.beq (gd_LN (gN m + 3)) (5 : Int32).toNatClampNeg && Nat.ble (5 : Int32).toNatClampNeg 100000) = true then (if gd_ok (gN m + 4) r0 0 = true then (some (.null, (wR (gd_al (wR (gd_al (wR (gd_al (wR (gd_al m (1280 : Int32).toNatClampNeg) r0 0 (gN m)) (1280 : Int32).toNatClampNeg) r0 1 (gN m + 1)) (5 : Int32).toNatClampNeg) r0 2 (gN m + 2)) (5 : Int32).toNatClampNeg) r0 3 (gN m + 3)))) else none) else none) else none) else none) else none) else none) else none) else none) else none := by
  refine Eq.trans (show gd_call 9 [.ref r0] m = gd_Den (9, 0, [.ref r0], [], m) from by unfold gd_call gd_ent; rw [gk_ml9]; rfl) ?_
  refine Eq.trans (D_aload_n (x := r0) gk_f9_0 rfl) ?_
  refine Eq.trans (D_objinit gk_f9_1 gk_oi9) ?_
  refine gd_ite (fun h1 => ?_) (fun _ => rfl)
  refine Eq.trans (D_aload_n (x := r0) gk_f9_4 rfl) ?_
  refine Eq.trans (D_sipush (x := 1280) gk_f9_5 gk_s_1280) ?_
  refine Eq.trans (D_newa (kd := 10) gk_f9_8 rfl) ?_
  refine gd_ite (fun h3 => ?_) (fun _ => rfl)
  refine Eq.trans (D_pfR gk_f9_10) ?_
  refine gd_ite (fun h4 => ?_) (fun _ => rfl)
  refine Eq.trans (D_aload_n (x := r0) gk_f9_13 rfl) ?_
  refine Eq.trans (D_sipush (x := 1280) gk_f9_14 gk_s_1280) ?_
  refine Eq.trans (D_newa (kd := 10) gk_f9_17 rfl) ?_
  refine gd_ite (fun h6 => ?_) (fun _ => rfl)
  refine Eq.trans (D_pfR gk_f9_19) ?_
  refine gd_ite (fun h7 => ?_) (fun _ => rfl)
  refine Eq.trans (D_aload_n (x := r0) gk_f9_22 rfl) ?_
  refine Eq.trans (D_iconst (x := 5) gk_f9_23 gk_c_5) ?_
  refine Eq.trans (D_newa (kd := 10) gk_f9_24 rfl) ?_
  refine gd_ite (fun h9 => ?_) (fun _ => rfl)
  refine Eq.trans (D_pfR gk_f9_26) ?_
  refine gd_ite (fun h10 => ?_) (fun _ => rfl)
  refine Eq.trans (D_aload_n (x := r0) gk_f9_29 rfl) ?_
  refine Eq.trans (D_iconst (x := 5) gk_f9_30 gk_c_5) ?_
  refine Eq.trans (D_newa (kd := 10) gk_f9_31 rfl) ?_
  refine gd_ite (fun h12 => ?_) (fun _ => rfl)
  refine Eq.trans (D_pfR gk_f9_33) ?_
  refine gd_ite (fun h13 => ?_) (fun _ => rfl)
  refine Eq.trans (D_vreturn gk_f9_36 gk_rk9) ?_
  rfl
/-! GymDesk$Ranking.<init> ()V -/
set_option maxRecDepth 20000 in
theorem gk_f10_0 : gd_fetch 10 0 = some (0, .aload_n 0, 1, 0, 0, 0, 0, 0) := rfl
set_option maxRecDepth 20000 in
theorem gk_f10_1 : gd_fetch 10 1 = some (1, .invokespecial 3, 3, 275, 0, 0, 2, 0) := rfl
set_option maxRecDepth 20000 in
theorem gk_f10_4 : gd_fetch 10 4 = some (4, .aload_n 0, 1, 0, 0, 0, 0, 0) := rfl
set_option maxRecDepth 20000 in
theorem gk_f10_5 : gd_fetch 10 5 = some (5, .bipush 40, 2, 0, 0, 0, 0, 0) := rfl
set_option maxRecDepth 20000 in
theorem gk_f10_7 : gd_fetch 10 7 = some (7, .newarray .int, 2, 269, 0, 0, 0, 0) := rfl
set_option maxRecDepth 20000 in
theorem gk_f10_9 : gd_fetch 10 9 = some (9, .putfield 9, 3, 276, 2, 0, 4, 1) := rfl
set_option maxRecDepth 20000 in
theorem gk_f10_12 : gd_fetch 10 12 = some (12, .aload_n 0, 1, 0, 0, 0, 0, 0) := rfl
set_option maxRecDepth 20000 in
theorem gk_f10_13 : gd_fetch 10 13 = some (13, .bipush 40, 2, 0, 0, 0, 0, 0) := rfl
set_option maxRecDepth 20000 in
theorem gk_f10_15 : gd_fetch 10 15 = some (15, .newarray .int, 2, 269, 0, 0, 0, 0) := rfl
set_option maxRecDepth 20000 in
theorem gk_f10_17 : gd_fetch 10 17 = some (17, .putfield 15, 3, 278, 2, 1, 4, 1) := rfl
set_option maxRecDepth 20000 in
theorem gk_f10_20 : gd_fetch 10 20 = some (20, .aload_n 0, 1, 0, 0, 0, 0, 0) := rfl
set_option maxRecDepth 20000 in
theorem gk_f10_21 : gd_fetch 10 21 = some (21, .bipush 40, 2, 0, 0, 0, 0, 0) := rfl
set_option maxRecDepth 20000 in
theorem gk_f10_23 : gd_fetch 10 23 = some (23, .newarray .int, 2, 269, 0, 0, 0, 0) := rfl
set_option maxRecDepth 20000 in
theorem gk_f10_25 : gd_fetch 10 25 = some (25, .putfield 18, 3, 280, 2, 2, 4, 1) := rfl
set_option maxRecDepth 20000 in
theorem gk_f10_28 : gd_fetch 10 28 = some (28, .aload_n 0, 1, 0, 0, 0, 0, 0) := rfl
set_option maxRecDepth 20000 in
theorem gk_f10_29 : gd_fetch 10 29 = some (29, .bipush 40, 2, 0, 0, 0, 0, 0) := rfl
set_option maxRecDepth 20000 in
theorem gk_f10_31 : gd_fetch 10 31 = some (31, .newarray .int, 2, 269, 0, 0, 0, 0) := rfl
set_option maxRecDepth 20000 in
theorem gk_f10_33 : gd_fetch 10 33 = some (33, .putfield 21, 3, 281, 2, 3, 4, 1) := rfl
set_option maxRecDepth 20000 in
theorem gk_f10_36 : gd_fetch 10 36 = some (36, .aload_n 0, 1, 0, 0, 0, 0, 0) := rfl
set_option maxRecDepth 20000 in
theorem gk_f10_37 : gd_fetch 10 37 = some (37, .bipush 10, 2, 0, 0, 0, 0, 0) := rfl
set_option maxRecDepth 20000 in
theorem gk_f10_39 : gd_fetch 10 39 = some (39, .newarray .int, 2, 269, 0, 0, 0, 0) := rfl
set_option maxRecDepth 20000 in
theorem gk_f10_41 : gd_fetch 10 41 = some (41, .putfield 24, 3, 282, 2, 4, 4, 1) := rfl
set_option maxRecDepth 20000 in
theorem gk_f10_44 : gd_fetch 10 44 = some (44, .aload_n 0, 1, 0, 0, 0, 0, 0) := rfl
set_option maxRecDepth 20000 in
theorem gk_f10_45 : gd_fetch 10 45 = some (45, .bipush 10, 2, 0, 0, 0, 0, 0) := rfl
set_option maxRecDepth 20000 in
theorem gk_f10_47 : gd_fetch 10 47 = some (47, .newarray .int, 2, 269, 0, 0, 0, 0) := rfl
set_option maxRecDepth 20000 in
theorem gk_f10_49 : gd_fetch 10 49 = some (49, .putfield 27, 3, 284, 2, 5, 4, 1) := rfl
set_option maxRecDepth 20000 in
theorem gk_f10_52 : gd_fetch 10 52 = some (52, .return_, 1, 0, 0, 0, 0, 0) := rfl
set_option maxRecDepth 20000 in
set_option maxHeartbeats 4000000 in
theorem q_Ra_init (r0 : Nat) (m : gd_M) : gd_call 10 [.ref r0] m = if Nat.ble 8 r0 = true then (if (!decide ((40 : Int32) < 0) && Nat.beq (gd_KD (gN m)) 10 && Nat.beq (gd_LN (gN m)) (40 : Int32).toNatClampNeg && Nat.ble (40 : Int32).toNatClampNeg 100000) = true then (if gd_ok (gN m + 1) r0 2 = true then (if (!decide ((40 : Int32) < 0) && Nat.beq (gd_KD (gN m + 1)) 10 && Nat.beq (gd_LN (gN m + 1)) (40 : Int32).toNatClampNeg && Nat.ble (40 : Int32).toNatClampNeg 100000) = true then (if gd_ok (gN m + 2) r0 2 = true then (if (!decide ((40 : Int32) < 0) && Nat.beq (gd_KD (gN m + 2)) 10 && Nat.beq (gd_LN (gN m + 2)) (40 : Int32).toNatClampNeg && Nat.ble (40 : Int32).toNatClampNeg 100000) = true then (if gd_ok (gN m + 3) r0 2 = true then (if (!decide ((40 : Int32) < 0) && Nat.beq (gd_KD (gN m + 3)) 10 && Nat.beq (gd_LN (gN m + 3)) (40 : Int32).toNatClampNeg && Nat.ble (40 : Int32).toNatClampNeg 100000) = true then (if gd_ok (gN m + 4) r0 2 = true then (if (!decide ((10 : Int32) < 0) && Nat.beq (gd_KD (gN m + 4)) 10 && Nat.beq (gd_LN (gN m + 4)) (10 : Int32).toNatClampNeg && Nat.ble (10 : Int32).toNatClampNeg 100000) = true then (if gd_ok (gN m + 5) r0 2 = true then (if (!decide ((10 : Int32) < 0) && Nat.beq (gd_KD (gN m + 5)) 10 && Nat.beq (gd_LN (gN m + 5)) (10 : Int32).toNatClampNeg && Nat.ble (10 : Int32).toNatClampNeg 100000) = true then (if gd_ok (gN m + 6) r0 2 = true then (some (.null, (wR (gd_al (wR (gd_al (wR (gd_al (wR (gd_al (wR (gd_al (wR (gd_al m (40 : Int32).toNatClampNeg) r0 0 (gN m)) (40 : Int32).toNatClampNeg) r0 1 (gN m + 1)) (40 : Int32).toNatClampNeg) r0 2 (gN m + 2)) (40 : Int32).toNatClampNeg) r0 3 (gN m + 3)) (10 : Int32).toNatClampNeg) r0 4 (gN m + 4)) (10 : Int32).toNatClampNeg) r0 5 (gN m + 5)))) else none) else none) else none) else none) else none) else none) else none) else none) else none) else none) else none) else none) else none := by
  refine Eq.trans (show gd_call 10 [.ref r0] m = gd_Den (10, 0, [.ref r0], [], m) from by unfold gd_call gd_ent; rw [gk_ml10]; rfl) ?_
  refine Eq.trans (D_aload_n (x := r0) gk_f10_0 rfl) ?_
  refine Eq.trans (D_objinit gk_f10_1 gk_oi10) ?_
  refine gd_ite (fun h1 => ?_) (fun _ => rfl)
  refine Eq.trans (D_aload_n (x := r0) gk_f10_4 rfl) ?_
  refine Eq.trans (D_bipush (x := 40) gk_f10_5 gk_b_40) ?_
  refine Eq.trans (D_newa (kd := 10) gk_f10_7 rfl) ?_
  refine gd_ite (fun h3 => ?_) (fun _ => rfl)
  refine Eq.trans (D_pfR gk_f10_9) ?_
  refine gd_ite (fun h4 => ?_) (fun _ => rfl)
  refine Eq.trans (D_aload_n (x := r0) gk_f10_12 rfl) ?_
  refine Eq.trans (D_bipush (x := 40) gk_f10_13 gk_b_40) ?_
  refine Eq.trans (D_newa (kd := 10) gk_f10_15 rfl) ?_
  refine gd_ite (fun h6 => ?_) (fun _ => rfl)
  refine Eq.trans (D_pfR gk_f10_17) ?_
  refine gd_ite (fun h7 => ?_) (fun _ => rfl)
  refine Eq.trans (D_aload_n (x := r0) gk_f10_20 rfl) ?_
  refine Eq.trans (D_bipush (x := 40) gk_f10_21 gk_b_40) ?_
  refine Eq.trans (D_newa (kd := 10) gk_f10_23 rfl) ?_
  refine gd_ite (fun h9 => ?_) (fun _ => rfl)
  refine Eq.trans (D_pfR gk_f10_25) ?_
  refine gd_ite (fun h10 => ?_) (fun _ => rfl)
  refine Eq.trans (D_aload_n (x := r0) gk_f10_28 rfl) ?_
  refine Eq.trans (D_bipush (x := 40) gk_f10_29 gk_b_40) ?_
  refine Eq.trans (D_newa (kd := 10) gk_f10_31 rfl) ?_
  refine gd_ite (fun h12 => ?_) (fun _ => rfl)
  refine Eq.trans (D_pfR gk_f10_33) ?_
  refine gd_ite (fun h13 => ?_) (fun _ => rfl)
  refine Eq.trans (D_aload_n (x := r0) gk_f10_36 rfl) ?_
  refine Eq.trans (D_bipush (x := 10) gk_f10_37 gk_b_10) ?_
  refine Eq.trans (D_newa (kd := 10) gk_f10_39 rfl) ?_
  refine gd_ite (fun h15 => ?_) (fun _ => rfl)
  refine Eq.trans (D_pfR gk_f10_41) ?_
  refine gd_ite (fun h16 => ?_) (fun _ => rfl)
  refine Eq.trans (D_aload_n (x := r0) gk_f10_44 rfl) ?_
  refine Eq.trans (D_bipush (x := 10) gk_f10_45 gk_b_10) ?_
  refine Eq.trans (D_newa (kd := 10) gk_f10_47 rfl) ?_
  refine gd_ite (fun h18 => ?_) (fun _ => rfl)
  refine Eq.trans (D_pfR gk_f10_49) ?_
  refine gd_ite (fun h19 => ?_) (fun _ => rfl)
  refine Eq.trans (D_vreturn gk_f10_52 gk_rk10) ?_
  rfl
/-! GymDesk$Code.clear ()V -/
set_option maxRecDepth 20000 in
theorem gk_f11_0 : gd_fetch 11 0 = some (0, .aload_n 0, 1, 0, 0, 0, 0, 0) := rfl
set_option maxRecDepth 20000 in
theorem gk_f11_1 : gd_fetch 11 1 = some (1, .iconst 0, 1, 0, 0, 0, 0, 0) := rfl
set_option maxRecDepth 20000 in
theorem gk_f11_2 : gd_fetch 11 2 = some (2, .putfield 52, 3, 352, 1, 12, 0, 0) := rfl
set_option maxRecDepth 20000 in
theorem gk_f11_5 : gd_fetch 11 5 = some (5, .aload_n 0, 1, 0, 0, 0, 0, 0) := rfl
set_option maxRecDepth 20000 in
theorem gk_f11_6 : gd_fetch 11 6 = some (6, .iconst 0, 1, 0, 0, 0, 0, 0) := rfl
set_option maxRecDepth 20000 in
theorem gk_f11_7 : gd_fetch 11 7 = some (7, .putfield 56, 3, 355, 1, 13, 0, 0) := rfl
set_option maxRecDepth 20000 in
theorem gk_f11_10 : gd_fetch 11 10 = some (10, .aload_n 0, 1, 0, 0, 0, 0, 0) := rfl
set_option maxRecDepth 20000 in
theorem gk_f11_11 : gd_fetch 11 11 = some (11, .iconst 0, 1, 0, 0, 0, 0, 0) := rfl
set_option maxRecDepth 20000 in
theorem gk_f11_12 : gd_fetch 11 12 = some (12, .putfield 59, 3, 358, 1, 14, 0, 0) := rfl
set_option maxRecDepth 20000 in
theorem gk_f11_15 : gd_fetch 11 15 = some (15, .iconst 0, 1, 0, 0, 0, 0, 0) := rfl
set_option maxRecDepth 20000 in
theorem gk_f11_16 : gd_fetch 11 16 = some (16, .istore_n 1, 1, 0, 0, 0, 0, 0) := rfl
set_option maxRecDepth 20000 in
theorem gk_f11_17 : gd_fetch 11 17 = some (17, .iload_n 1, 1, 0, 0, 0, 0, 0) := rfl
set_option maxRecDepth 20000 in
theorem gk_f11_18 : gd_fetch 11 18 = some (18, .iconst 5, 1, 0, 0, 0, 0, 0) := rfl
set_option maxRecDepth 20000 in
theorem gk_f11_19 : gd_fetch 11 19 = some (19, .if_icmp .ge 30, 3, 0, 0, 0, 0, 0) := rfl
set_option maxRecDepth 20000 in
theorem gk_f11_22 : gd_fetch 11 22 = some (22, .aload_n 0, 1, 0, 0, 0, 0, 0) := rfl
set_option maxRecDepth 20000 in
theorem gk_f11_23 : gd_fetch 11 23 = some (23, .getfield 37, 3, 335, 1, 8, 4, 1) := rfl
set_option maxRecDepth 20000 in
theorem gk_f11_26 : gd_fetch 11 26 = some (26, .iload_n 1, 1, 0, 0, 0, 0, 0) := rfl
set_option maxRecDepth 20000 in
theorem gk_f11_27 : gd_fetch 11 27 = some (27, .iconst 0, 1, 0, 0, 0, 0, 0) := rfl
set_option maxRecDepth 20000 in
theorem gk_f11_28 : gd_fetch 11 28 = some (28, .iastore, 1, 0, 0, 0, 0, 0) := rfl
set_option maxRecDepth 20000 in
theorem gk_f11_29 : gd_fetch 11 29 = some (29, .aload_n 0, 1, 0, 0, 0, 0, 0) := rfl
set_option maxRecDepth 20000 in
theorem gk_f11_30 : gd_fetch 11 30 = some (30, .getfield 40, 3, 339, 1, 9, 4, 1) := rfl
set_option maxRecDepth 20000 in
theorem gk_f11_33 : gd_fetch 11 33 = some (33, .iload_n 1, 1, 0, 0, 0, 0, 0) := rfl
set_option maxRecDepth 20000 in
theorem gk_f11_34 : gd_fetch 11 34 = some (34, .iconst 0, 1, 0, 0, 0, 0, 0) := rfl
set_option maxRecDepth 20000 in
theorem gk_f11_35 : gd_fetch 11 35 = some (35, .iastore, 1, 0, 0, 0, 0, 0) := rfl
set_option maxRecDepth 20000 in
theorem gk_f11_36 : gd_fetch 11 36 = some (36, .aload_n 0, 1, 0, 0, 0, 0, 0) := rfl
set_option maxRecDepth 20000 in
theorem gk_f11_37 : gd_fetch 11 37 = some (37, .getfield 43, 3, 343, 1, 10, 4, 1) := rfl
set_option maxRecDepth 20000 in
theorem gk_f11_40 : gd_fetch 11 40 = some (40, .iload_n 1, 1, 0, 0, 0, 0, 0) := rfl
set_option maxRecDepth 20000 in
theorem gk_f11_41 : gd_fetch 11 41 = some (41, .iconst (-1), 1, 0, 0, 0, 0, 0) := rfl
set_option maxRecDepth 20000 in
theorem gk_f11_42 : gd_fetch 11 42 = some (42, .iastore, 1, 0, 0, 0, 0, 0) := rfl
set_option maxRecDepth 20000 in
theorem gk_f11_43 : gd_fetch 11 43 = some (43, .iinc 1 1, 3, 0, 0, 0, 0, 0) := rfl
set_option maxRecDepth 20000 in
theorem gk_f11_46 : gd_fetch 11 46 = some (46, .goto (-29), 3, 0, 0, 0, 0, 0) := rfl
set_option maxRecDepth 20000 in
theorem gk_f11_49 : gd_fetch 11 49 = some (49, .aload_n 0, 1, 0, 0, 0, 0, 0) := rfl
set_option maxRecDepth 20000 in
theorem gk_f11_50 : gd_fetch 11 50 = some (50, .getfield 46, 3, 347, 1, 11, 4, 1) := rfl
set_option maxRecDepth 20000 in
theorem gk_f11_53 : gd_fetch 11 53 = some (53, .iconst 3, 1, 0, 0, 0, 0, 0) := rfl
set_option maxRecDepth 20000 in
theorem gk_f11_54 : gd_fetch 11 54 = some (54, .iconst 4, 1, 0, 0, 0, 0, 0) := rfl
set_option maxRecDepth 20000 in
theorem gk_f11_55 : gd_fetch 11 55 = some (55, .iastore, 1, 0, 0, 0, 0, 0) := rfl
set_option maxRecDepth 20000 in
theorem gk_f11_56 : gd_fetch 11 56 = some (56, .aload_n 0, 1, 0, 0, 0, 0, 0) := rfl
set_option maxRecDepth 20000 in
theorem gk_f11_57 : gd_fetch 11 57 = some (57, .getfield 46, 3, 347, 1, 11, 4, 1) := rfl
set_option maxRecDepth 20000 in
theorem gk_f11_60 : gd_fetch 11 60 = some (60, .iconst 4, 1, 0, 0, 0, 0, 0) := rfl
set_option maxRecDepth 20000 in
theorem gk_f11_61 : gd_fetch 11 61 = some (61, .iconst 3, 1, 0, 0, 0, 0, 0) := rfl
set_option maxRecDepth 20000 in
theorem gk_f11_62 : gd_fetch 11 62 = some (62, .iastore, 1, 0, 0, 0, 0, 0) := rfl
set_option maxRecDepth 20000 in
theorem gk_f11_63 : gd_fetch 11 63 = some (63, .aload_n 0, 1, 0, 0, 0, 0, 0) := rfl
set_option maxRecDepth 20000 in
theorem gk_f11_64 : gd_fetch 11 64 = some (64, .getfield 46, 3, 347, 1, 11, 4, 1) := rfl
set_option maxRecDepth 20000 in
theorem gk_f11_67 : gd_fetch 11 67 = some (67, .iconst 5, 1, 0, 0, 0, 0, 0) := rfl
set_option maxRecDepth 20000 in
theorem gk_f11_68 : gd_fetch 11 68 = some (68, .bipush 8, 2, 0, 0, 0, 0, 0) := rfl
set_option maxRecDepth 20000 in
theorem gk_f11_70 : gd_fetch 11 70 = some (70, .iastore, 1, 0, 0, 0, 0, 0) := rfl
set_option maxRecDepth 20000 in
theorem gk_f11_71 : gd_fetch 11 71 = some (71, .aload_n 0, 1, 0, 0, 0, 0, 0) := rfl
set_option maxRecDepth 20000 in
theorem gk_f11_72 : gd_fetch 11 72 = some (72, .getfield 46, 3, 347, 1, 11, 4, 1) := rfl
set_option maxRecDepth 20000 in
theorem gk_f11_75 : gd_fetch 11 75 = some (75, .bipush 6, 2, 0, 0, 0, 0, 0) := rfl
set_option maxRecDepth 20000 in
theorem gk_f11_77 : gd_fetch 11 77 = some (77, .iconst 0, 1, 0, 0, 0, 0, 0) := rfl
set_option maxRecDepth 20000 in
theorem gk_f11_78 : gd_fetch 11 78 = some (78, .iastore, 1, 0, 0, 0, 0, 0) := rfl
set_option maxRecDepth 20000 in
theorem gk_f11_79 : gd_fetch 11 79 = some (79, .aload_n 0, 1, 0, 0, 0, 0, 0) := rfl
set_option maxRecDepth 20000 in
theorem gk_f11_80 : gd_fetch 11 80 = some (80, .getfield 46, 3, 347, 1, 11, 4, 1) := rfl
set_option maxRecDepth 20000 in
theorem gk_f11_83 : gd_fetch 11 83 = some (83, .bipush 7, 2, 0, 0, 0, 0, 0) := rfl
set_option maxRecDepth 20000 in
theorem gk_f11_85 : gd_fetch 11 85 = some (85, .iconst 0, 1, 0, 0, 0, 0, 0) := rfl
set_option maxRecDepth 20000 in
theorem gk_f11_86 : gd_fetch 11 86 = some (86, .iastore, 1, 0, 0, 0, 0, 0) := rfl
set_option maxRecDepth 20000 in
theorem gk_f11_87 : gd_fetch 11 87 = some (87, .aload_n 0, 1, 0, 0, 0, 0, 0) := rfl
set_option maxRecDepth 20000 in
theorem gk_f11_88 : gd_fetch 11 88 = some (88, .getfield 46, 3, 347, 1, 11, 4, 1) := rfl
set_option maxRecDepth 20000 in
theorem gk_f11_91 : gd_fetch 11 91 = some (91, .bipush 8, 2, 0, 0, 0, 0, 0) := rfl
set_option maxRecDepth 20000 in
theorem gk_f11_93 : gd_fetch 11 93 = some (93, .iconst 4, 1, 0, 0, 0, 0, 0) := rfl
set_option maxRecDepth 20000 in
theorem gk_f11_94 : gd_fetch 11 94 = some (94, .iastore, 1, 0, 0, 0, 0, 0) := rfl
set_option maxRecDepth 20000 in
theorem gk_f11_95 : gd_fetch 11 95 = some (95, .aload_n 0, 1, 0, 0, 0, 0, 0) := rfl
set_option maxRecDepth 20000 in
theorem gk_f11_96 : gd_fetch 11 96 = some (96, .getfield 46, 3, 347, 1, 11, 4, 1) := rfl
set_option maxRecDepth 20000 in
theorem gk_f11_99 : gd_fetch 11 99 = some (99, .bipush 9, 2, 0, 0, 0, 0, 0) := rfl
set_option maxRecDepth 20000 in
theorem gk_f11_101 : gd_fetch 11 101 = some (101, .iconst 3, 1, 0, 0, 0, 0, 0) := rfl
set_option maxRecDepth 20000 in
theorem gk_f11_102 : gd_fetch 11 102 = some (102, .iastore, 1, 0, 0, 0, 0, 0) := rfl
set_option maxRecDepth 20000 in
theorem gk_f11_103 : gd_fetch 11 103 = some (103, .aload_n 0, 1, 0, 0, 0, 0, 0) := rfl
set_option maxRecDepth 20000 in
theorem gk_f11_104 : gd_fetch 11 104 = some (104, .getfield 46, 3, 347, 1, 11, 4, 1) := rfl
set_option maxRecDepth 20000 in
theorem gk_f11_107 : gd_fetch 11 107 = some (107, .bipush 10, 2, 0, 0, 0, 0, 0) := rfl
set_option maxRecDepth 20000 in
theorem gk_f11_109 : gd_fetch 11 109 = some (109, .bipush 8, 2, 0, 0, 0, 0, 0) := rfl
set_option maxRecDepth 20000 in
theorem gk_f11_111 : gd_fetch 11 111 = some (111, .iastore, 1, 0, 0, 0, 0, 0) := rfl
set_option maxRecDepth 20000 in
theorem gk_f11_112 : gd_fetch 11 112 = some (112, .aload_n 0, 1, 0, 0, 0, 0, 0) := rfl
set_option maxRecDepth 20000 in
theorem gk_f11_113 : gd_fetch 11 113 = some (113, .getfield 46, 3, 347, 1, 11, 4, 1) := rfl
set_option maxRecDepth 20000 in
theorem gk_f11_116 : gd_fetch 11 116 = some (116, .bipush 11, 2, 0, 0, 0, 0, 0) := rfl
set_option maxRecDepth 20000 in
theorem gk_f11_118 : gd_fetch 11 118 = some (118, .iconst 2, 1, 0, 0, 0, 0, 0) := rfl
set_option maxRecDepth 20000 in
theorem gk_f11_119 : gd_fetch 11 119 = some (119, .iastore, 1, 0, 0, 0, 0, 0) := rfl
set_option maxRecDepth 20000 in
theorem gk_f11_120 : gd_fetch 11 120 = some (120, .return_, 1, 0, 0, 0, 0, 0) := rfl
set_option maxRecDepth 20000 in
set_option maxHeartbeats 4000000 in
theorem q_Co_clear (r0 : Nat) (m : gd_M) : gd_call 11 [.ref r0] m = if gd_ok (gN m) r0 1 = true then (gd_Den (11, 17, [.ref r0, .int 0], [], (wI (wI (wI m r0 12 0) r0 13 0) r0 14 0))) else none := by
  refine Eq.trans (show gd_call 11 [.ref r0] m = gd_Den (11, 0, [.ref r0, .null], [], m) from by unfold gd_call gd_ent; rw [gk_ml11]; rfl) ?_
  refine Eq.trans (D_aload_n (x := r0) gk_f11_0 rfl) ?_
  refine Eq.trans (D_iconst (x := 0) gk_f11_1 gk_c_0) ?_
  refine Eq.trans (D_pfI gk_f11_2) ?_
  refine gd_ite (fun h1 => ?_) (fun _ => rfl)
  refine Eq.trans (D_aload_n (x := r0) gk_f11_5 rfl) ?_
  refine Eq.trans (D_iconst (x := 0) gk_f11_6 gk_c_0) ?_
  refine Eq.trans (D_pfI gk_f11_7) ?_
  refine Eq.trans (if_pos h1) ?_
  refine Eq.trans (D_aload_n (x := r0) gk_f11_10 rfl) ?_
  refine Eq.trans (D_iconst (x := 0) gk_f11_11 gk_c_0) ?_
  refine Eq.trans (D_pfI gk_f11_12) ?_
  refine Eq.trans (if_pos h1) ?_
  refine Eq.trans (D_iconst (x := 0) gk_f11_15 gk_c_0) ?_
  refine Eq.trans (D_istore_n gk_f11_16 gk_st11_1) ?_
  rfl
set_option maxRecDepth 20000 in
set_option maxHeartbeats 4000000 in
theorem q_Co_clear_17 (r0 : Nat) (x1 : Int32) (m : gd_M) : gd_Den (11, 17, [.ref r0, .int x1], [], m) = if (x1 < 5 : Prop) then (if gd_ok (gN m) r0 1 = true then (if gd_okA (gN m) (gR m r0 8) 10 x1 = true then (if gd_okA (gN m) (gR m r0 9) 10 x1 = true then (if gd_okA (gN m) (gR m r0 10) 10 x1 = true then (gd_Den (11, 17, [.ref r0, .int (x1 + 1)], [], (wI (wI (wI m (gR m r0 8) (x1 : Int32).toNatClampNeg 0) (gR m r0 9) (x1 : Int32).toNatClampNeg 0) (gR m r0 10) (x1 : Int32).toNatClampNeg (-1)))) else none) else none) else none) else none) else (if gd_ok (gN m) r0 1 = true then (if gd_okA (gN m) (gR m r0 11) 10 3 = true then (if gd_okA (gN m) (gR m r0 11) 10 4 = true then (if gd_okA (gN m) (gR m r0 11) 10 5 = true then (if gd_okA (gN m) (gR m r0 11) 10 6 = true then (if gd_okA (gN m) (gR m r0 11) 10 7 = true then (if gd_okA (gN m) (gR m r0 11) 10 8 = true then (if gd_okA (gN m) (gR m r0 11) 10 9 = true then (if gd_okA (gN m) (gR m r0 11) 10 10 = true then (if gd_okA (gN m) (gR m r0 11) 10 11 = true then (some (.null, (wI (wI (wI (wI (wI (wI (wI (wI (wI m (gR m r0 11) (3 : Int32).toNatClampNeg 4) (gR m r0 11) (4 : Int32).toNatClampNeg 3) (gR m r0 11) (5 : Int32).toNatClampNeg 8) (gR m r0 11) (6 : Int32).toNatClampNeg 0) (gR m r0 11) (7 : Int32).toNatClampNeg 0) (gR m r0 11) (8 : Int32).toNatClampNeg 4) (gR m r0 11) (9 : Int32).toNatClampNeg 3) (gR m r0 11) (10 : Int32).toNatClampNeg 8) (gR m r0 11) (11 : Int32).toNatClampNeg 2))) else none) else none) else none) else none) else none) else none) else none) else none) else none) else none) := by
  refine Eq.trans (D_iload_n (x := x1) gk_f11_17 rfl) ?_
  refine Eq.trans (D_iconst (x := 5) gk_f11_18 gk_c_5) ?_
  refine Eq.trans (D_ic_ge (t := 49) gk_f11_19 (by decide)) ?_
  refine gd_ite (fun h1 => ?_) (fun h2 => ?_)
  · refine Eq.trans (D_aload_n (x := r0) gk_f11_22 rfl) ?_
    refine Eq.trans (D_gfR gk_f11_23 (by decide)) ?_
    refine gd_ite (fun h3 => ?_) (fun _ => rfl)
    refine Eq.trans (D_iload_n (x := x1) gk_f11_26 rfl) ?_
    refine Eq.trans (D_iconst (x := 0) gk_f11_27 gk_c_0) ?_
    refine Eq.trans (D_iast gk_f11_28) ?_
    refine gd_ite (fun h4 => ?_) (fun _ => rfl)
    refine Eq.trans (D_aload_n (x := r0) gk_f11_29 rfl) ?_
    refine Eq.trans (D_gfR gk_f11_30 (by decide)) ?_
    refine Eq.trans (if_pos h3) ?_
    refine Eq.trans (D_iload_n (x := x1) gk_f11_33 rfl) ?_
    refine Eq.trans (D_iconst (x := 0) gk_f11_34 gk_c_0) ?_
    refine Eq.trans (D_iast gk_f11_35) ?_
    refine gd_ite (fun h5 => ?_) (fun _ => rfl)
    refine Eq.trans (D_aload_n (x := r0) gk_f11_36 rfl) ?_
    refine Eq.trans (D_gfR gk_f11_37 (by decide)) ?_
    refine Eq.trans (if_pos h3) ?_
    refine Eq.trans (D_iload_n (x := x1) gk_f11_40 rfl) ?_
    refine Eq.trans (D_iconst (x := (-1)) gk_f11_41 gk_c_m1) ?_
    refine Eq.trans (D_iast gk_f11_42) ?_
    refine gd_ite (fun h6 => ?_) (fun _ => rfl)
    refine Eq.trans (D_iinc (x := x1) (y := 1) gk_f11_43 rfl gk_c_1 gk_st11_1) ?_
    refine Eq.trans (D_goto (t := 17) gk_f11_46 (by decide)) ?_
    rfl
  · refine Eq.trans (D_aload_n (x := r0) gk_f11_49 rfl) ?_
    refine Eq.trans (D_gfR gk_f11_50 (by decide)) ?_
    refine gd_ite (fun h7 => ?_) (fun _ => rfl)
    refine Eq.trans (D_iconst (x := 3) gk_f11_53 gk_c_3) ?_
    refine Eq.trans (D_iconst (x := 4) gk_f11_54 gk_c_4) ?_
    refine Eq.trans (D_iast gk_f11_55) ?_
    refine gd_ite (fun h8 => ?_) (fun _ => rfl)
    refine Eq.trans (D_aload_n (x := r0) gk_f11_56 rfl) ?_
    refine Eq.trans (D_gfR gk_f11_57 (by decide)) ?_
    refine Eq.trans (if_pos h7) ?_
    refine Eq.trans (D_iconst (x := 4) gk_f11_60 gk_c_4) ?_
    refine Eq.trans (D_iconst (x := 3) gk_f11_61 gk_c_3) ?_
    refine Eq.trans (D_iast gk_f11_62) ?_
    refine gd_ite (fun h9 => ?_) (fun _ => rfl)
    refine Eq.trans (D_aload_n (x := r0) gk_f11_63 rfl) ?_
    refine Eq.trans (D_gfR gk_f11_64 (by decide)) ?_
    refine Eq.trans (if_pos h7) ?_
    refine Eq.trans (D_iconst (x := 5) gk_f11_67 gk_c_5) ?_
    refine Eq.trans (D_bipush (x := 8) gk_f11_68 gk_b_8) ?_
    refine Eq.trans (D_iast gk_f11_70) ?_
    refine gd_ite (fun h10 => ?_) (fun _ => rfl)
    refine Eq.trans (D_aload_n (x := r0) gk_f11_71 rfl) ?_
    refine Eq.trans (D_gfR gk_f11_72 (by decide)) ?_
    refine Eq.trans (if_pos h7) ?_
    refine Eq.trans (D_bipush (x := 6) gk_f11_75 gk_b_6) ?_
    refine Eq.trans (D_iconst (x := 0) gk_f11_77 gk_c_0) ?_
    refine Eq.trans (D_iast gk_f11_78) ?_
    refine gd_ite (fun h11 => ?_) (fun _ => rfl)
    refine Eq.trans (D_aload_n (x := r0) gk_f11_79 rfl) ?_
    refine Eq.trans (D_gfR gk_f11_80 (by decide)) ?_
    refine Eq.trans (if_pos h7) ?_
    refine Eq.trans (D_bipush (x := 7) gk_f11_83 gk_b_7) ?_
    refine Eq.trans (D_iconst (x := 0) gk_f11_85 gk_c_0) ?_
    refine Eq.trans (D_iast gk_f11_86) ?_
    refine gd_ite (fun h12 => ?_) (fun _ => rfl)
    refine Eq.trans (D_aload_n (x := r0) gk_f11_87 rfl) ?_
    refine Eq.trans (D_gfR gk_f11_88 (by decide)) ?_
    refine Eq.trans (if_pos h7) ?_
    refine Eq.trans (D_bipush (x := 8) gk_f11_91 gk_b_8) ?_
    refine Eq.trans (D_iconst (x := 4) gk_f11_93 gk_c_4) ?_
    refine Eq.trans (D_iast gk_f11_94) ?_
    refine gd_ite (fun h13 => ?_) (fun _ => rfl)
    refine Eq.trans (D_aload_n (x := r0) gk_f11_95 rfl) ?_
    refine Eq.trans (D_gfR gk_f11_96 (by decide)) ?_
    refine Eq.trans (if_pos h7) ?_
    refine Eq.trans (D_bipush (x := 9) gk_f11_99 gk_b_9) ?_
    refine Eq.trans (D_iconst (x := 3) gk_f11_101 gk_c_3) ?_
    refine Eq.trans (D_iast gk_f11_102) ?_
    refine gd_ite (fun h14 => ?_) (fun _ => rfl)
    refine Eq.trans (D_aload_n (x := r0) gk_f11_103 rfl) ?_
    refine Eq.trans (D_gfR gk_f11_104 (by decide)) ?_
    refine Eq.trans (if_pos h7) ?_
    refine Eq.trans (D_bipush (x := 10) gk_f11_107 gk_b_10) ?_
    refine Eq.trans (D_bipush (x := 8) gk_f11_109 gk_b_8) ?_
    refine Eq.trans (D_iast gk_f11_111) ?_
    refine gd_ite (fun h15 => ?_) (fun _ => rfl)
    refine Eq.trans (D_aload_n (x := r0) gk_f11_112 rfl) ?_
    refine Eq.trans (D_gfR gk_f11_113 (by decide)) ?_
    refine Eq.trans (if_pos h7) ?_
    refine Eq.trans (D_bipush (x := 11) gk_f11_116 gk_b_11) ?_
    refine Eq.trans (D_iconst (x := 2) gk_f11_118 gk_c_2) ?_
    refine Eq.trans (D_iast gk_f11_119) ?_
    refine gd_ite (fun h16 => ?_) (fun _ => rfl)
    refine Eq.trans (D_vreturn gk_f11_120 gk_rk11) ?_
    rfl
/-! GymDesk$Code.<init> ()V -/
set_option maxRecDepth 20000 in
theorem gk_f12_0 : gd_fetch 12 0 = some (0, .aload_n 0, 1, 0, 0, 0, 0, 0) := rfl
set_option maxRecDepth 20000 in
theorem gk_f12_1 : gd_fetch 12 1 = some (1, .invokespecial 3, 3, 313, 0, 0, 2, 0) := rfl
set_option maxRecDepth 20000 in
theorem gk_f12_4 : gd_fetch 12 4 = some (4, .aload_n 0, 1, 0, 0, 0, 0, 0) := rfl
set_option maxRecDepth 20000 in
theorem gk_f12_5 : gd_fetch 12 5 = some (5, .bipush 30, 2, 0, 0, 0, 0, 0) := rfl
set_option maxRecDepth 20000 in
theorem gk_f12_7 : gd_fetch 12 7 = some (7, .newarray .int, 2, 269, 0, 0, 0, 0) := rfl
set_option maxRecDepth 20000 in
theorem gk_f12_9 : gd_fetch 12 9 = some (9, .putfield 9, 3, 318, 1, 0, 4, 1) := rfl
set_option maxRecDepth 20000 in
theorem gk_f12_12 : gd_fetch 12 12 = some (12, .aload_n 0, 1, 0, 0, 0, 0, 0) := rfl
set_option maxRecDepth 20000 in
theorem gk_f12_13 : gd_fetch 12 13 = some (13, .bipush 30, 2, 0, 0, 0, 0, 0) := rfl
set_option maxRecDepth 20000 in
theorem gk_f12_15 : gd_fetch 12 15 = some (15, .newarray .int, 2, 269, 0, 0, 0, 0) := rfl
set_option maxRecDepth 20000 in
theorem gk_f12_17 : gd_fetch 12 17 = some (17, .putfield 15, 3, 321, 1, 1, 4, 1) := rfl
set_option maxRecDepth 20000 in
theorem gk_f12_20 : gd_fetch 12 20 = some (20, .aload_n 0, 1, 0, 0, 0, 0, 0) := rfl
set_option maxRecDepth 20000 in
theorem gk_f12_21 : gd_fetch 12 21 = some (21, .bipush 30, 2, 0, 0, 0, 0, 0) := rfl
set_option maxRecDepth 20000 in
theorem gk_f12_23 : gd_fetch 12 23 = some (23, .newarray .int, 2, 269, 0, 0, 0, 0) := rfl
set_option maxRecDepth 20000 in
theorem gk_f12_25 : gd_fetch 12 25 = some (25, .putfield 18, 3, 324, 1, 2, 4, 1) := rfl
set_option maxRecDepth 20000 in
theorem gk_f12_28 : gd_fetch 12 28 = some (28, .aload_n 0, 1, 0, 0, 0, 0, 0) := rfl
set_option maxRecDepth 20000 in
theorem gk_f12_29 : gd_fetch 12 29 = some (29, .bipush 20, 2, 0, 0, 0, 0, 0) := rfl
set_option maxRecDepth 20000 in
theorem gk_f12_31 : gd_fetch 12 31 = some (31, .newarray .int, 2, 269, 0, 0, 0, 0) := rfl
set_option maxRecDepth 20000 in
theorem gk_f12_33 : gd_fetch 12 33 = some (33, .putfield 21, 3, 328, 1, 3, 4, 1) := rfl
set_option maxRecDepth 20000 in
theorem gk_f12_36 : gd_fetch 12 36 = some (36, .aload_n 0, 1, 0, 0, 0, 0, 0) := rfl
set_option maxRecDepth 20000 in
theorem gk_f12_37 : gd_fetch 12 37 = some (37, .bipush 20, 2, 0, 0, 0, 0, 0) := rfl
set_option maxRecDepth 20000 in
theorem gk_f12_39 : gd_fetch 12 39 = some (39, .newarray .int, 2, 269, 0, 0, 0, 0) := rfl
set_option maxRecDepth 20000 in
theorem gk_f12_41 : gd_fetch 12 41 = some (41, .putfield 24, 3, 329, 1, 4, 4, 1) := rfl
set_option maxRecDepth 20000 in
theorem gk_f12_44 : gd_fetch 12 44 = some (44, .aload_n 0, 1, 0, 0, 0, 0, 0) := rfl
set_option maxRecDepth 20000 in
theorem gk_f12_45 : gd_fetch 12 45 = some (45, .bipush 20, 2, 0, 0, 0, 0, 0) := rfl
set_option maxRecDepth 20000 in
theorem gk_f12_47 : gd_fetch 12 47 = some (47, .newarray .int, 2, 269, 0, 0, 0, 0) := rfl
set_option maxRecDepth 20000 in
theorem gk_f12_49 : gd_fetch 12 49 = some (49, .putfield 27, 3, 330, 1, 5, 4, 1) := rfl
set_option maxRecDepth 20000 in
theorem gk_f12_52 : gd_fetch 12 52 = some (52, .aload_n 0, 1, 0, 0, 0, 0, 0) := rfl
set_option maxRecDepth 20000 in
theorem gk_f12_53 : gd_fetch 12 53 = some (53, .bipush 10, 2, 0, 0, 0, 0, 0) := rfl
set_option maxRecDepth 20000 in
theorem gk_f12_55 : gd_fetch 12 55 = some (55, .newarray .int, 2, 269, 0, 0, 0, 0) := rfl
set_option maxRecDepth 20000 in
theorem gk_f12_57 : gd_fetch 12 57 = some (57, .putfield 30, 3, 331, 1, 6, 4, 1) := rfl
set_option maxRecDepth 20000 in
theorem gk_f12_60 : gd_fetch 12 60 = some (60, .aload_n 0, 1, 0, 0, 0, 0, 0) := rfl
set_option maxRecDepth 20000 in
theorem gk_f12_61 : gd_fetch 12 61 = some (61, .bipush 10, 2, 0, 0, 0, 0, 0) := rfl
set_option maxRecDepth 20000 in
theorem gk_f12_63 : gd_fetch 12 63 = some (63, .newarray .boolean, 2, 393, 0, 0, 0, 0) := rfl
set_option maxRecDepth 20000 in
theorem gk_f12_65 : gd_fetch 12 65 = some (65, .putfield 33, 3, 333, 1, 7, 4, 1) := rfl
set_option maxRecDepth 20000 in
theorem gk_f12_68 : gd_fetch 12 68 = some (68, .aload_n 0, 1, 0, 0, 0, 0, 0) := rfl
set_option maxRecDepth 20000 in
theorem gk_f12_69 : gd_fetch 12 69 = some (69, .iconst 5, 1, 0, 0, 0, 0, 0) := rfl
set_option maxRecDepth 20000 in
theorem gk_f12_70 : gd_fetch 12 70 = some (70, .newarray .int, 2, 269, 0, 0, 0, 0) := rfl
set_option maxRecDepth 20000 in
theorem gk_f12_72 : gd_fetch 12 72 = some (72, .putfield 37, 3, 335, 1, 8, 4, 1) := rfl
set_option maxRecDepth 20000 in
theorem gk_f12_75 : gd_fetch 12 75 = some (75, .aload_n 0, 1, 0, 0, 0, 0, 0) := rfl
set_option maxRecDepth 20000 in
theorem gk_f12_76 : gd_fetch 12 76 = some (76, .iconst 5, 1, 0, 0, 0, 0, 0) := rfl
set_option maxRecDepth 20000 in
theorem gk_f12_77 : gd_fetch 12 77 = some (77, .newarray .int, 2, 269, 0, 0, 0, 0) := rfl
set_option maxRecDepth 20000 in
theorem gk_f12_79 : gd_fetch 12 79 = some (79, .putfield 40, 3, 339, 1, 9, 4, 1) := rfl
set_option maxRecDepth 20000 in
theorem gk_f12_82 : gd_fetch 12 82 = some (82, .aload_n 0, 1, 0, 0, 0, 0, 0) := rfl
set_option maxRecDepth 20000 in
theorem gk_f12_83 : gd_fetch 12 83 = some (83, .iconst 5, 1, 0, 0, 0, 0, 0) := rfl
set_option maxRecDepth 20000 in
theorem gk_f12_84 : gd_fetch 12 84 = some (84, .newarray .int, 2, 269, 0, 0, 0, 0) := rfl
set_option maxRecDepth 20000 in
theorem gk_f12_86 : gd_fetch 12 86 = some (86, .putfield 43, 3, 343, 1, 10, 4, 1) := rfl
set_option maxRecDepth 20000 in
theorem gk_f12_89 : gd_fetch 12 89 = some (89, .aload_n 0, 1, 0, 0, 0, 0, 0) := rfl
set_option maxRecDepth 20000 in
theorem gk_f12_90 : gd_fetch 12 90 = some (90, .bipush 12, 2, 0, 0, 0, 0, 0) := rfl
set_option maxRecDepth 20000 in
theorem gk_f12_92 : gd_fetch 12 92 = some (92, .newarray .int, 2, 269, 0, 0, 0, 0) := rfl
set_option maxRecDepth 20000 in
theorem gk_f12_94 : gd_fetch 12 94 = some (94, .putfield 46, 3, 347, 1, 11, 4, 1) := rfl
set_option maxRecDepth 20000 in
theorem gk_f12_97 : gd_fetch 12 97 = some (97, .aload_n 0, 1, 0, 0, 0, 0, 0) := rfl
set_option maxRecDepth 20000 in
theorem gk_f12_98 : gd_fetch 12 98 = some (98, .invokevirtual 49, 3, 314, 11, 0, 0, 0) := rfl
set_option maxRecDepth 20000 in
theorem gk_f12_101 : gd_fetch 12 101 = some (101, .return_, 1, 0, 0, 0, 0, 0) := rfl
set_option maxRecDepth 20000 in
set_option maxHeartbeats 4000000 in
theorem q_Co_init (r0 : Nat) (m : gd_M) : gd_call 12 [.ref r0] m = if Nat.ble 8 r0 = true then (if (!decide ((30 : Int32) < 0) && Nat.beq (gd_KD (gN m)) 10 && Nat.beq (gd_LN (gN m)) (30 : Int32).toNatClampNeg && Nat.ble (30 : Int32).toNatClampNeg 100000) = true then (if gd_ok (gN m + 1) r0 1 = true then (if (!decide ((30 : Int32) < 0) && Nat.beq (gd_KD (gN m + 1)) 10 && Nat.beq (gd_LN (gN m + 1)) (30 : Int32).toNatClampNeg && Nat.ble (30 : Int32).toNatClampNeg 100000) = true then (if gd_ok (gN m + 2) r0 1 = true then (if (!decide ((30 : Int32) < 0) && Nat.beq (gd_KD (gN m + 2)) 10 && Nat.beq (gd_LN (gN m + 2)) (30 : Int32).toNatClampNeg && Nat.ble (30 : Int32).toNatClampNeg 100000) = true then (if gd_ok (gN m + 3) r0 1 = true then (if (!decide ((20 : Int32) < 0) && Nat.beq (gd_KD (gN m + 3)) 10 && Nat.beq (gd_LN (gN m + 3)) (20 : Int32).toNatClampNeg && Nat.ble (20 : Int32).toNatClampNeg 100000) = true then (if gd_ok (gN m + 4) r0 1 = true then (if (!decide ((20 : Int32) < 0) && Nat.beq (gd_KD (gN m + 4)) 10 && Nat.beq (gd_LN (gN m + 4)) (20 : Int32).toNatClampNeg && Nat.ble (20 : Int32).toNatClampNeg 100000) = true then (if gd_ok (gN m + 5) r0 1 = true then (if (!decide ((20 : Int32) < 0) && Nat.beq (gd_KD (gN m + 5)) 10 && Nat.beq (gd_LN (gN m + 5)) (20 : Int32).toNatClampNeg && Nat.ble (20 : Int32).toNatClampNeg 100000) = true then (if gd_ok (gN m + 6) r0 1 = true then (if (!decide ((10 : Int32) < 0) && Nat.beq (gd_KD (gN m + 6)) 10 && Nat.beq (gd_LN (gN m + 6)) (10 : Int32).toNatClampNeg && Nat.ble (10 : Int32).toNatClampNeg 100000) = true then (if gd_ok (gN m + 7) r0 1 = true then (if (!decide ((10 : Int32) < 0) && Nat.beq (gd_KD (gN m + 7)) 11 && Nat.beq (gd_LN (gN m + 7)) (10 : Int32).toNatClampNeg && Nat.ble (10 : Int32).toNatClampNeg 100000) = true then (if gd_ok (gN m + 8) r0 1 = true then (if (!decide ((5 : Int32) < 0) && Nat.beq (gd_KD (gN m + 8)) 10 && Nat.beq (gd_LN (gN m + 8)) (5 : Int32).toNatClampNeg && Nat.ble (5 : Int32).toNatClampNeg 100000) = true then (if gd_ok (gN m + 9) r0 1 = true then (if (!decide ((5 : Int32) < 0) && Nat.beq (gd_KD (gN m + 9)) 10 && Nat.beq (gd_LN (gN m + 9)) (5 : Int32).toNatClampNeg && Nat.ble (5 : Int32).toNatClampNeg 100000) = true then (if gd_ok (gN m + 10) r0 1 = true then (if (!decide ((5 : Int32) < 0) && Nat.beq (gd_KD (gN m + 10)) 10 && Nat.beq (gd_LN (gN m + 10)) (5 : Int32).toNatClampNeg && Nat.ble (5 : Int32).toNatClampNeg 100000) = true then (if gd_ok (gN m + 11) r0 1 = true then (if (!decide ((12 : Int32) < 0) && Nat.beq (gd_KD (gN m + 11)) 10 && Nat.beq (gd_LN (gN m + 11)) (12 : Int32).toNatClampNeg && Nat.ble (12 : Int32).toNatClampNeg 100000) = true then (if gd_ok (gN m + 12) r0 1 = true then ((gd_call 11 [.ref r0] (wR (gd_al (wR (gd_al (wR (gd_al (wR (gd_al (wR (gd_al (wR (gd_al (wR (gd_al (wR (gd_al (wR (gd_al (wR (gd_al (wR (gd_al (wR (gd_al m (30 : Int32).toNatClampNeg) r0 0 (gN m)) (30 : Int32).toNatClampNeg) r0 1 (gN m + 1)) (30 : Int32).toNatClampNeg) r0 2 (gN m + 2)) (20 : Int32).toNatClampNeg) r0 3 (gN m + 3)) (20 : Int32).toNatClampNeg) r0 4 (gN m + 4)) (20 : Int32).toNatClampNeg) r0 5 (gN m + 5)) (10 : Int32).toNatClampNeg) r0 6 (gN m + 6)) (10 : Int32).toNatClampNeg) r0 7 (gN m + 7)) (5 : Int32).toNatClampNeg) r0 8 (gN m + 8)) (5 : Int32).toNatClampNeg) r0 9 (gN m + 9)) (5 : Int32).toNatClampNeg) r0 10 (gN m + 10)) (12 : Int32).toNatClampNeg) r0 11 (gN m + 11))).bind (gd_kV fun m38 => some (.null, m38))) else none) else none) else none) else none) else none) else none) else none) else none) else none) else none) else none) else none) else none) else none) else none) else none) else none) else none) else none) else none) else none) else none) else none) else none) else none := by
  refine Eq.trans (show gd_call 12 [.ref r0] m = gd_Den (12, 0, [.ref r0], [], m) from by unfold gd_call gd_ent; rw [gk_ml12]; rfl) ?_
  refine Eq.trans (D_aload_n (x := r0) gk_f12_0 rfl) ?_
  refine Eq.trans (D_objinit gk_f12_1 gk_oi12) ?_
  refine gd_ite (fun h1 => ?_) (fun _ => rfl)
  refine Eq.trans (D_aload_n (x := r0) gk_f12_4 rfl) ?_
  refine Eq.trans (D_bipush (x := 30) gk_f12_5 gk_b_30) ?_
  refine Eq.trans (D_newa (kd := 10) gk_f12_7 rfl) ?_
  refine gd_ite (fun h3 => ?_) (fun _ => rfl)
  refine Eq.trans (D_pfR gk_f12_9) ?_
  refine gd_ite (fun h4 => ?_) (fun _ => rfl)
  refine Eq.trans (D_aload_n (x := r0) gk_f12_12 rfl) ?_
  refine Eq.trans (D_bipush (x := 30) gk_f12_13 gk_b_30) ?_
  refine Eq.trans (D_newa (kd := 10) gk_f12_15 rfl) ?_
  refine gd_ite (fun h6 => ?_) (fun _ => rfl)
  refine Eq.trans (D_pfR gk_f12_17) ?_
  refine gd_ite (fun h7 => ?_) (fun _ => rfl)
  refine Eq.trans (D_aload_n (x := r0) gk_f12_20 rfl) ?_
  refine Eq.trans (D_bipush (x := 30) gk_f12_21 gk_b_30) ?_
  refine Eq.trans (D_newa (kd := 10) gk_f12_23 rfl) ?_
  refine gd_ite (fun h9 => ?_) (fun _ => rfl)
  refine Eq.trans (D_pfR gk_f12_25) ?_
  refine gd_ite (fun h10 => ?_) (fun _ => rfl)
  refine Eq.trans (D_aload_n (x := r0) gk_f12_28 rfl) ?_
  refine Eq.trans (D_bipush (x := 20) gk_f12_29 gk_b_20) ?_
  refine Eq.trans (D_newa (kd := 10) gk_f12_31 rfl) ?_
  refine gd_ite (fun h12 => ?_) (fun _ => rfl)
  refine Eq.trans (D_pfR gk_f12_33) ?_
  refine gd_ite (fun h13 => ?_) (fun _ => rfl)
  refine Eq.trans (D_aload_n (x := r0) gk_f12_36 rfl) ?_
  refine Eq.trans (D_bipush (x := 20) gk_f12_37 gk_b_20) ?_
  refine Eq.trans (D_newa (kd := 10) gk_f12_39 rfl) ?_
  refine gd_ite (fun h15 => ?_) (fun _ => rfl)
  refine Eq.trans (D_pfR gk_f12_41) ?_
  refine gd_ite (fun h16 => ?_) (fun _ => rfl)
  refine Eq.trans (D_aload_n (x := r0) gk_f12_44 rfl) ?_
  refine Eq.trans (D_bipush (x := 20) gk_f12_45 gk_b_20) ?_
  refine Eq.trans (D_newa (kd := 10) gk_f12_47 rfl) ?_
  refine gd_ite (fun h18 => ?_) (fun _ => rfl)
  refine Eq.trans (D_pfR gk_f12_49) ?_
  refine gd_ite (fun h19 => ?_) (fun _ => rfl)
  refine Eq.trans (D_aload_n (x := r0) gk_f12_52 rfl) ?_
  refine Eq.trans (D_bipush (x := 10) gk_f12_53 gk_b_10) ?_
  refine Eq.trans (D_newa (kd := 10) gk_f12_55 rfl) ?_
  refine gd_ite (fun h21 => ?_) (fun _ => rfl)
  refine Eq.trans (D_pfR gk_f12_57) ?_
  refine gd_ite (fun h22 => ?_) (fun _ => rfl)
  refine Eq.trans (D_aload_n (x := r0) gk_f12_60 rfl) ?_
  refine Eq.trans (D_bipush (x := 10) gk_f12_61 gk_b_10) ?_
  refine Eq.trans (D_newa (kd := 11) gk_f12_63 rfl) ?_
  refine gd_ite (fun h24 => ?_) (fun _ => rfl)
  refine Eq.trans (D_pfR gk_f12_65) ?_
  refine gd_ite (fun h25 => ?_) (fun _ => rfl)
  refine Eq.trans (D_aload_n (x := r0) gk_f12_68 rfl) ?_
  refine Eq.trans (D_iconst (x := 5) gk_f12_69 gk_c_5) ?_
  refine Eq.trans (D_newa (kd := 10) gk_f12_70 rfl) ?_
  refine gd_ite (fun h27 => ?_) (fun _ => rfl)
  refine Eq.trans (D_pfR gk_f12_72) ?_
  refine gd_ite (fun h28 => ?_) (fun _ => rfl)
  refine Eq.trans (D_aload_n (x := r0) gk_f12_75 rfl) ?_
  refine Eq.trans (D_iconst (x := 5) gk_f12_76 gk_c_5) ?_
  refine Eq.trans (D_newa (kd := 10) gk_f12_77 rfl) ?_
  refine gd_ite (fun h30 => ?_) (fun _ => rfl)
  refine Eq.trans (D_pfR gk_f12_79) ?_
  refine gd_ite (fun h31 => ?_) (fun _ => rfl)
  refine Eq.trans (D_aload_n (x := r0) gk_f12_82 rfl) ?_
  refine Eq.trans (D_iconst (x := 5) gk_f12_83 gk_c_5) ?_
  refine Eq.trans (D_newa (kd := 10) gk_f12_84 rfl) ?_
  refine gd_ite (fun h33 => ?_) (fun _ => rfl)
  refine Eq.trans (D_pfR gk_f12_86) ?_
  refine gd_ite (fun h34 => ?_) (fun _ => rfl)
  refine Eq.trans (D_aload_n (x := r0) gk_f12_89 rfl) ?_
  refine Eq.trans (D_bipush (x := 12) gk_f12_90 gk_b_12) ?_
  refine Eq.trans (D_newa (kd := 10) gk_f12_92 rfl) ?_
  refine gd_ite (fun h36 => ?_) (fun _ => rfl)
  refine Eq.trans (D_pfR gk_f12_94) ?_
  refine gd_ite (fun h37 => ?_) (fun _ => rfl)
  refine Eq.trans (D_aload_n (x := r0) gk_f12_97 rfl) ?_
  refine Eq.trans (D_ivV (cl := 1) (args := [.ref r0]) (rest := []) gk_f12_98 rfl rfl (gd_rmk gk_rm12_11 gk_ln11 gk_ml11 rfl rfl rfl) gk_rk11 (gd_hnd_n gk_nc12) gk_nc11 gk_n11_11 gk_cl11) ?_
  refine Eq.trans (if_pos h37) ?_
  refine gd_bnd (gd_kV_c fun m38 => ?_)
  refine Eq.trans (D_vreturn gk_f12_101 gk_rk12) ?_
  rfl
/-! GymDesk$Routine.<init> ()V -/
set_option maxRecDepth 20000 in
theorem gk_f13_0 : gd_fetch 13 0 = some (0, .aload_n 0, 1, 0, 0, 0, 0, 0) := rfl
set_option maxRecDepth 20000 in
theorem gk_f13_1 : gd_fetch 13 1 = some (1, .invokespecial 3, 3, 398, 0, 0, 2, 0) := rfl
set_option maxRecDepth 20000 in
theorem gk_f13_4 : gd_fetch 13 4 = some (4, .aload_n 0, 1, 0, 0, 0, 0, 0) := rfl
set_option maxRecDepth 20000 in
theorem gk_f13_5 : gd_fetch 13 5 = some (5, .bipush 16, 2, 0, 0, 0, 0, 0) := rfl
set_option maxRecDepth 20000 in
theorem gk_f13_7 : gd_fetch 13 7 = some (7, .newarray .int, 2, 269, 0, 0, 0, 0) := rfl
set_option maxRecDepth 20000 in
theorem gk_f13_9 : gd_fetch 13 9 = some (9, .putfield 9, 3, 399, 4, 0, 4, 1) := rfl
set_option maxRecDepth 20000 in
theorem gk_f13_12 : gd_fetch 13 12 = some (12, .aload_n 0, 1, 0, 0, 0, 0, 0) := rfl
set_option maxRecDepth 20000 in
theorem gk_f13_13 : gd_fetch 13 13 = some (13, .bipush 6, 2, 0, 0, 0, 0, 0) := rfl
set_option maxRecDepth 20000 in
theorem gk_f13_15 : gd_fetch 13 15 = some (15, .newarray .int, 2, 269, 0, 0, 0, 0) := rfl
set_option maxRecDepth 20000 in
theorem gk_f13_17 : gd_fetch 13 17 = some (17, .putfield 15, 3, 402, 4, 1, 4, 1) := rfl
set_option maxRecDepth 20000 in
theorem gk_f13_20 : gd_fetch 13 20 = some (20, .aload_n 0, 1, 0, 0, 0, 0, 0) := rfl
set_option maxRecDepth 20000 in
theorem gk_f13_21 : gd_fetch 13 21 = some (21, .bipush 10, 2, 0, 0, 0, 0, 0) := rfl
set_option maxRecDepth 20000 in
theorem gk_f13_23 : gd_fetch 13 23 = some (23, .newarray .int, 2, 269, 0, 0, 0, 0) := rfl
set_option maxRecDepth 20000 in
theorem gk_f13_25 : gd_fetch 13 25 = some (25, .putfield 18, 3, 403, 4, 2, 4, 1) := rfl
set_option maxRecDepth 20000 in
theorem gk_f13_28 : gd_fetch 13 28 = some (28, .return_, 1, 0, 0, 0, 0, 0) := rfl
set_option maxRecDepth 20000 in
set_option maxHeartbeats 4000000 in
theorem q_Ro_init (r0 : Nat) (m : gd_M) : gd_call 13 [.ref r0] m = if Nat.ble 8 r0 = true then (if (!decide ((16 : Int32) < 0) && Nat.beq (gd_KD (gN m)) 10 && Nat.beq (gd_LN (gN m)) (16 : Int32).toNatClampNeg && Nat.ble (16 : Int32).toNatClampNeg 100000) = true then (if gd_ok (gN m + 1) r0 4 = true then (if (!decide ((6 : Int32) < 0) && Nat.beq (gd_KD (gN m + 1)) 10 && Nat.beq (gd_LN (gN m + 1)) (6 : Int32).toNatClampNeg && Nat.ble (6 : Int32).toNatClampNeg 100000) = true then (if gd_ok (gN m + 2) r0 4 = true then (if (!decide ((10 : Int32) < 0) && Nat.beq (gd_KD (gN m + 2)) 10 && Nat.beq (gd_LN (gN m + 2)) (10 : Int32).toNatClampNeg && Nat.ble (10 : Int32).toNatClampNeg 100000) = true then (if gd_ok (gN m + 3) r0 4 = true then (some (.null, (wR (gd_al (wR (gd_al (wR (gd_al m (16 : Int32).toNatClampNeg) r0 0 (gN m)) (6 : Int32).toNatClampNeg) r0 1 (gN m + 1)) (10 : Int32).toNatClampNeg) r0 2 (gN m + 2)))) else none) else none) else none) else none) else none) else none) else none := by
  refine Eq.trans (show gd_call 13 [.ref r0] m = gd_Den (13, 0, [.ref r0], [], m) from by unfold gd_call gd_ent; rw [gk_ml13]; rfl) ?_
  refine Eq.trans (D_aload_n (x := r0) gk_f13_0 rfl) ?_
  refine Eq.trans (D_objinit gk_f13_1 gk_oi13) ?_
  refine gd_ite (fun h1 => ?_) (fun _ => rfl)
  refine Eq.trans (D_aload_n (x := r0) gk_f13_4 rfl) ?_
  refine Eq.trans (D_bipush (x := 16) gk_f13_5 gk_b_16) ?_
  refine Eq.trans (D_newa (kd := 10) gk_f13_7 rfl) ?_
  refine gd_ite (fun h3 => ?_) (fun _ => rfl)
  refine Eq.trans (D_pfR gk_f13_9) ?_
  refine gd_ite (fun h4 => ?_) (fun _ => rfl)
  refine Eq.trans (D_aload_n (x := r0) gk_f13_12 rfl) ?_
  refine Eq.trans (D_bipush (x := 6) gk_f13_13 gk_b_6) ?_
  refine Eq.trans (D_newa (kd := 10) gk_f13_15 rfl) ?_
  refine gd_ite (fun h6 => ?_) (fun _ => rfl)
  refine Eq.trans (D_pfR gk_f13_17) ?_
  refine gd_ite (fun h7 => ?_) (fun _ => rfl)
  refine Eq.trans (D_aload_n (x := r0) gk_f13_20 rfl) ?_
  refine Eq.trans (D_bipush (x := 10) gk_f13_21 gk_b_10) ?_
  refine Eq.trans (D_newa (kd := 10) gk_f13_23 rfl) ?_
  refine gd_ite (fun h9 => ?_) (fun _ => rfl)
  refine Eq.trans (D_pfR gk_f13_25) ?_
  refine gd_ite (fun h10 => ?_) (fun _ => rfl)
  refine Eq.trans (D_vreturn gk_f13_28 gk_rk13) ?_
  rfl
/-! GymDesk.<init> ()V -/
set_option maxRecDepth 20000 in
theorem gk_f14_0 : gd_fetch 14 0 = some (0, .aload_n 0, 1, 0, 0, 0, 0, 0) := rfl
set_option maxRecDepth 20000 in
theorem gk_f14_1 : gd_fetch 14 1 = some (1, .invokespecial 1, 3, 109, 0, 0, 2, 0) := rfl
set_option maxRecDepth 20000 in
theorem gk_f14_4 : gd_fetch 14 4 = some (4, .aload_n 0, 1, 0, 0, 0, 0, 0) := rfl
set_option maxRecDepth 20000 in
theorem gk_f14_5 : gd_fetch 14 5 = some (5, .sipush 3000, 3, 0, 0, 0, 0, 0) := rfl
set_option maxRecDepth 20000 in
theorem gk_f14_8 : gd_fetch 14 8 = some (8, .newarray .byte, 2, 210, 0, 0, 0, 0) := rfl
set_option maxRecDepth 20000 in
theorem gk_f14_10 : gd_fetch 14 10 = some (10, .putfield 9, 3, 460, 6, 0, 4, 1) := rfl
set_option maxRecDepth 20000 in
theorem gk_f14_13 : gd_fetch 14 13 = some (13, .aload_n 0, 1, 0, 0, 0, 0, 0) := rfl
set_option maxRecDepth 20000 in
theorem gk_f14_14 : gd_fetch 14 14 = some (14, .new 13, 3, 112, 3, 8, 113, 0) := rfl
set_option maxRecDepth 20000 in
theorem gk_f14_17 : gd_fetch 14 17 = some (17, .dup, 1, 0, 0, 0, 0, 0) := rfl
set_option maxRecDepth 20000 in
theorem gk_f14_18 : gd_fetch 14 18 = some (18, .invokespecial 15, 3, 114, 8, 0, 1, 0) := rfl
set_option maxRecDepth 20000 in
theorem gk_f14_21 : gd_fetch 14 21 = some (21, .putfield 16, 3, 461, 6, 1, 4, 1) := rfl
set_option maxRecDepth 20000 in
theorem gk_f14_24 : gd_fetch 14 24 = some (24, .aload_n 0, 1, 0, 0, 0, 0, 0) := rfl
set_option maxRecDepth 20000 in
theorem gk_f14_25 : gd_fetch 14 25 = some (25, .new 20, 3, 239, 0, 7, 240, 0) := rfl
set_option maxRecDepth 20000 in
theorem gk_f14_28 : gd_fetch 14 28 = some (28, .dup, 1, 0, 0, 0, 0, 0) := rfl
set_option maxRecDepth 20000 in
theorem gk_f14_29 : gd_fetch 14 29 = some (29, .invokespecial 22, 3, 241, 9, 0, 1, 0) := rfl
set_option maxRecDepth 20000 in
theorem gk_f14_32 : gd_fetch 14 32 = some (32, .putfield 23, 3, 462, 6, 2, 4, 1) := rfl
set_option maxRecDepth 20000 in
theorem gk_f14_35 : gd_fetch 14 35 = some (35, .aload_n 0, 1, 0, 0, 0, 0, 0) := rfl
set_option maxRecDepth 20000 in
theorem gk_f14_36 : gd_fetch 14 36 = some (36, .new 27, 3, 270, 2, 8, 271, 0) := rfl
set_option maxRecDepth 20000 in
theorem gk_f14_39 : gd_fetch 14 39 = some (39, .dup, 1, 0, 0, 0, 0, 0) := rfl
set_option maxRecDepth 20000 in
theorem gk_f14_40 : gd_fetch 14 40 = some (40, .invokespecial 29, 3, 272, 10, 0, 1, 0) := rfl
set_option maxRecDepth 20000 in
theorem gk_f14_43 : gd_fetch 14 43 = some (43, .putfield 30, 3, 463, 6, 3, 4, 1) := rfl
set_option maxRecDepth 20000 in
theorem gk_f14_46 : gd_fetch 14 46 = some (46, .aload_n 0, 1, 0, 0, 0, 0, 0) := rfl
set_option maxRecDepth 20000 in
theorem gk_f14_47 : gd_fetch 14 47 = some (47, .sipush 160, 3, 0, 0, 0, 0, 0) := rfl
set_option maxRecDepth 20000 in
theorem gk_f14_50 : gd_fetch 14 50 = some (50, .anewarray 34, 3, 306, 4, 0, 0, 0) := rfl
set_option maxRecDepth 20000 in
theorem gk_f14_53 : gd_fetch 14 53 = some (53, .putfield 36, 3, 464, 6, 4, 4, 1) := rfl
set_option maxRecDepth 20000 in
theorem gk_f14_56 : gd_fetch 14 56 = some (56, .aload_n 0, 1, 0, 0, 0, 0, 0) := rfl
set_option maxRecDepth 20000 in
theorem gk_f14_57 : gd_fetch 14 57 = some (57, .bipush 40, 2, 0, 0, 0, 0, 0) := rfl
set_option maxRecDepth 20000 in
theorem gk_f14_59 : gd_fetch 14 59 = some (59, .newarray .int, 2, 269, 0, 0, 0, 0) := rfl
set_option maxRecDepth 20000 in
theorem gk_f14_61 : gd_fetch 14 61 = some (61, .putfield 40, 3, 465, 6, 5, 4, 1) := rfl
set_option maxRecDepth 20000 in
theorem gk_f14_64 : gd_fetch 14 64 = some (64, .aload_n 0, 1, 0, 0, 0, 0, 0) := rfl
set_option maxRecDepth 20000 in
theorem gk_f14_65 : gd_fetch 14 65 = some (65, .bipush 40, 2, 0, 0, 0, 0, 0) := rfl
set_option maxRecDepth 20000 in
theorem gk_f14_67 : gd_fetch 14 67 = some (67, .newarray .int, 2, 269, 0, 0, 0, 0) := rfl
set_option maxRecDepth 20000 in
theorem gk_f14_69 : gd_fetch 14 69 = some (69, .putfield 44, 3, 466, 6, 6, 4, 1) := rfl
set_option maxRecDepth 20000 in
theorem gk_f14_72 : gd_fetch 14 72 = some (72, .aload_n 0, 1, 0, 0, 0, 0, 0) := rfl
set_option maxRecDepth 20000 in
theorem gk_f14_73 : gd_fetch 14 73 = some (73, .bipush 10, 2, 0, 0, 0, 0, 0) := rfl
set_option maxRecDepth 20000 in
theorem gk_f14_75 : gd_fetch 14 75 = some (75, .newarray .int, 2, 269, 0, 0, 0, 0) := rfl
set_option maxRecDepth 20000 in
theorem gk_f14_77 : gd_fetch 14 77 = some (77, .putfield 47, 3, 467, 6, 7, 4, 1) := rfl
set_option maxRecDepth 20000 in
theorem gk_f14_80 : gd_fetch 14 80 = some (80, .aload_n 0, 1, 0, 0, 0, 0, 0) := rfl
set_option maxRecDepth 20000 in
theorem gk_f14_81 : gd_fetch 14 81 = some (81, .bipush 6, 2, 0, 0, 0, 0, 0) := rfl
set_option maxRecDepth 20000 in
theorem gk_f14_83 : gd_fetch 14 83 = some (83, .newarray .int, 2, 269, 0, 0, 0, 0) := rfl
set_option maxRecDepth 20000 in
theorem gk_f14_85 : gd_fetch 14 85 = some (85, .putfield 50, 3, 468, 6, 8, 4, 1) := rfl
set_option maxRecDepth 20000 in
theorem gk_f14_88 : gd_fetch 14 88 = some (88, .aload_n 0, 1, 0, 0, 0, 0, 0) := rfl
set_option maxRecDepth 20000 in
theorem gk_f14_89 : gd_fetch 14 89 = some (89, .new 53, 3, 308, 1, 15, 309, 0) := rfl
set_option maxRecDepth 20000 in
theorem gk_f14_92 : gd_fetch 14 92 = some (92, .dup, 1, 0, 0, 0, 0, 0) := rfl
set_option maxRecDepth 20000 in
theorem gk_f14_93 : gd_fetch 14 93 = some (93, .invokespecial 55, 3, 310, 12, 0, 0, 0) := rfl
set_option maxRecDepth 20000 in
theorem gk_f14_96 : gd_fetch 14 96 = some (96, .putfield 56, 3, 469, 6, 9, 4, 0) := rfl
set_option maxRecDepth 20000 in
theorem gk_f14_99 : gd_fetch 14 99 = some (99, .aload_n 0, 1, 0, 0, 0, 0, 0) := rfl
set_option maxRecDepth 20000 in
theorem gk_f14_100 : gd_fetch 14 100 = some (100, .new 53, 3, 308, 1, 15, 309, 0) := rfl
set_option maxRecDepth 20000 in
theorem gk_f14_103 : gd_fetch 14 103 = some (103, .dup, 1, 0, 0, 0, 0, 0) := rfl
set_option maxRecDepth 20000 in
theorem gk_f14_104 : gd_fetch 14 104 = some (104, .invokespecial 55, 3, 310, 12, 0, 0, 0) := rfl
set_option maxRecDepth 20000 in
theorem gk_f14_107 : gd_fetch 14 107 = some (107, .putfield 60, 3, 470, 6, 10, 4, 0) := rfl
set_option maxRecDepth 20000 in
theorem gk_f14_110 : gd_fetch 14 110 = some (110, .iconst 0, 1, 0, 0, 0, 0, 0) := rfl
set_option maxRecDepth 20000 in
theorem gk_f14_111 : gd_fetch 14 111 = some (111, .istore_n 1, 1, 0, 0, 0, 0, 0) := rfl
set_option maxRecDepth 20000 in
theorem gk_f14_112 : gd_fetch 14 112 = some (112, .iload_n 1, 1, 0, 0, 0, 0, 0) := rfl
set_option maxRecDepth 20000 in
theorem gk_f14_113 : gd_fetch 14 113 = some (113, .aload_n 0, 1, 0, 0, 0, 0, 0) := rfl
set_option maxRecDepth 20000 in
theorem gk_f14_114 : gd_fetch 14 114 = some (114, .getfield 36, 3, 464, 6, 4, 4, 1) := rfl
set_option maxRecDepth 20000 in
theorem gk_f14_117 : gd_fetch 14 117 = some (117, .arraylength, 1, 0, 0, 0, 0, 0) := rfl
set_option maxRecDepth 20000 in
theorem gk_f14_118 : gd_fetch 14 118 = some (118, .if_icmp .ge 22, 3, 0, 0, 0, 0, 0) := rfl
set_option maxRecDepth 20000 in
theorem gk_f14_121 : gd_fetch 14 121 = some (121, .aload_n 0, 1, 0, 0, 0, 0, 0) := rfl
set_option maxRecDepth 20000 in
theorem gk_f14_122 : gd_fetch 14 122 = some (122, .getfield 36, 3, 464, 6, 4, 4, 1) := rfl
set_option maxRecDepth 20000 in
theorem gk_f14_125 : gd_fetch 14 125 = some (125, .iload_n 1, 1, 0, 0, 0, 0, 0) := rfl
set_option maxRecDepth 20000 in
theorem gk_f14_126 : gd_fetch 14 126 = some (126, .new 34, 3, 306, 4, 15, 394, 0) := rfl
set_option maxRecDepth 20000 in
theorem gk_f14_129 : gd_fetch 14 129 = some (129, .dup, 1, 0, 0, 0, 0, 0) := rfl
set_option maxRecDepth 20000 in
theorem gk_f14_130 : gd_fetch 14 130 = some (130, .invokespecial 63, 3, 395, 13, 0, 1, 0) := rfl
set_option maxRecDepth 20000 in
theorem gk_f14_133 : gd_fetch 14 133 = some (133, .aastore, 1, 0, 0, 0, 0, 0) := rfl
set_option maxRecDepth 20000 in
theorem gk_f14_134 : gd_fetch 14 134 = some (134, .iinc 1 1, 3, 0, 0, 0, 0, 0) := rfl
set_option maxRecDepth 20000 in
theorem gk_f14_137 : gd_fetch 14 137 = some (137, .goto (-25), 3, 0, 0, 0, 0, 0) := rfl
set_option maxRecDepth 20000 in
theorem gk_f14_140 : gd_fetch 14 140 = some (140, .return_, 1, 0, 0, 0, 0, 0) := rfl
set_option maxRecDepth 20000 in
set_option maxHeartbeats 4000000 in
theorem q_X_init (r0 : Nat) (m : gd_M) : gd_call 14 [.ref r0] m = if Nat.ble 8 r0 = true then (if (!decide ((3000 : Int32) < 0) && Nat.beq (gd_KD (gN m)) 12 && Nat.beq (gd_LN (gN m)) (3000 : Int32).toNatClampNeg && Nat.ble (3000 : Int32).toNatClampNeg 100000) = true then (if gd_ok (gN m + 1) r0 6 = true then (if Nat.beq (gd_KD (gN m + 1)) 3 = true then (if Nat.ble 8 (gN m + 1) = true then ((gd_call 8 [.ref (gN m + 1)] (gd_al (wR (gd_al m (3000 : Int32).toNatClampNeg) r0 0 (gN m)) 8)).bind (gd_k0V fun m8 => if gd_ok (gN m8) r0 6 = true then (if Nat.beq (gd_KD (gN m8)) 0 = true then (if Nat.ble 8 (gN m8) = true then ((gd_call 9 [.ref (gN m8)] (gd_al (wR m8 r0 1 (gN m + 1)) 7)).bind (gd_k0V fun m14 => if gd_ok (gN m14) r0 6 = true then (if Nat.beq (gd_KD (gN m14)) 2 = true then (if Nat.ble 8 (gN m14) = true then ((gd_call 10 [.ref (gN m14)] (gd_al (wR m14 r0 2 (gN m8)) 8)).bind (gd_k0V fun m20 => if gd_ok (gN m20) r0 6 = true then (if (!decide ((160 : Int32) < 0) && Nat.beq (gd_KD (gN m20)) 14 && Nat.beq (gd_LN (gN m20)) (160 : Int32).toNatClampNeg && Nat.ble (160 : Int32).toNatClampNeg 100000) = true then (if gd_ok (gN m20 + 1) r0 6 = true then (if (!decide ((40 : Int32) < 0) && Nat.beq (gd_KD (gN m20 + 1)) 10 && Nat.beq (gd_LN (gN m20 + 1)) (40 : Int32).toNatClampNeg && Nat.ble (40 : Int32).toNatClampNeg 100000) = true then (if gd_ok (gN m20 + 2) r0 6 = true then (if (!decide ((40 : Int32) < 0) && Nat.beq (gd_KD (gN m20 + 2)) 10 && Nat.beq (gd_LN (gN m20 + 2)) (40 : Int32).toNatClampNeg && Nat.ble (40 : Int32).toNatClampNeg 100000) = true then (if gd_ok (gN m20 + 3) r0 6 = true then (if (!decide ((10 : Int32) < 0) && Nat.beq (gd_KD (gN m20 + 3)) 10 && Nat.beq (gd_LN (gN m20 + 3)) (10 : Int32).toNatClampNeg && Nat.ble (10 : Int32).toNatClampNeg 100000) = true then (if gd_ok (gN m20 + 4) r0 6 = true then (if (!decide ((6 : Int32) < 0) && Nat.beq (gd_KD (gN m20 + 4)) 10 && Nat.beq (gd_LN (gN m20 + 4)) (6 : Int32).toNatClampNeg && Nat.ble (6 : Int32).toNatClampNeg 100000) = true then (if gd_ok (gN m20 + 5) r0 6 = true then (if Nat.beq (gd_KD (gN m20 + 5)) 1 = true then (if Nat.ble 8 (gN m20 + 5) = true then ((gd_call 12 [.ref (gN m20 + 5)] (gd_al (wR (gd_al (wR (gd_al (wR (gd_al (wR (gd_al (wR (gd_al (wR m20 r0 3 (gN m14)) (160 : Int32).toNatClampNeg) r0 4 (gN m20)) (40 : Int32).toNatClampNeg) r0 5 (gN m20 + 1)) (40 : Int32).toNatClampNeg) r0 6 (gN m20 + 2)) (10 : Int32).toNatClampNeg) r0 7 (gN m20 + 3)) (6 : Int32).toNatClampNeg) r0 8 (gN m20 + 4)) 15)).bind (gd_k0V fun m41 => if gd_ok (gN m41) r0 6 = true then (if Nat.beq (gd_KD (gN m41)) 1 = true then (if Nat.ble 8 (gN m41) = true then ((gd_call 12 [.ref (gN m41)] (gd_al (wR m41 r0 9 (gN m20 + 5)) 15)).bind (gd_k0V fun m47 => if gd_ok (gN m47) r0 6 = true then (gd_Den (14, 112, [.ref r0, .int 0], [], (wR m47 r0 10 (gN m41)))) else none)) else none) else none) else none)) else none) else none) else none) else none) else none) else none) else none) else none) else none) else none) else none) else none) else none)) else none) else none) else none)) else none) else none) else none)) else none) else none) else none) else none) else none := by
  refine Eq.trans (show gd_call 14 [.ref r0] m = gd_Den (14, 0, [.ref r0, .null], [], m) from by unfold gd_call gd_ent; rw [gk_ml14]; rfl) ?_
  refine Eq.trans (D_aload_n (x := r0) gk_f14_0 rfl) ?_
  refine Eq.trans (D_objinit gk_f14_1 gk_oi14) ?_
  refine gd_ite (fun h1 => ?_) (fun _ => rfl)
  refine Eq.trans (D_aload_n (x := r0) gk_f14_4 rfl) ?_
  refine Eq.trans (D_sipush (x := 3000) gk_f14_5 gk_s_3000) ?_
  refine Eq.trans (D_newa (kd := 12) gk_f14_8 rfl) ?_
  refine gd_ite (fun h3 => ?_) (fun _ => rfl)
  refine Eq.trans (D_pfR gk_f14_10) ?_
  refine gd_ite (fun h4 => ?_) (fun _ => rfl)
  refine Eq.trans (D_aload_n (x := r0) gk_f14_13 rfl) ?_
  refine Eq.trans (D_new gk_f14_14) ?_
  refine gd_ite (fun h6 => ?_) (fun _ => rfl)
  refine Eq.trans (D_dupR gk_f14_17) ?_
  refine Eq.trans (D_isp (args := [.ref (gN m + 1)]) (rest := [.ref (gN m + 1), .ref r0]) gk_f14_18 rfl rfl rfl (gd_rmk gk_rm14_8 gk_ln8 gk_ml8 rfl rfl rfl) gk_rk8 (gd_hnd_n gk_nc14)) ?_
  refine gd_ite (fun h7 => ?_) (fun _ => rfl)
  refine gd_bnd (gd_k0V_c fun m8 => ?_)
  refine Eq.trans (D_pfR gk_f14_21) ?_
  refine gd_ite (fun h10 => ?_) (fun _ => rfl)
  refine Eq.trans (D_aload_n (x := r0) gk_f14_24 rfl) ?_
  refine Eq.trans (D_new gk_f14_25) ?_
  refine gd_ite (fun h12 => ?_) (fun _ => rfl)
  refine Eq.trans (D_dupR gk_f14_28) ?_
  refine Eq.trans (D_isp (args := [.ref (gN m8)]) (rest := [.ref (gN m8), .ref r0]) gk_f14_29 rfl rfl rfl (gd_rmk gk_rm14_9 gk_ln9 gk_ml9 rfl rfl rfl) gk_rk9 (gd_hnd_n gk_nc14)) ?_
  refine gd_ite (fun h13 => ?_) (fun _ => rfl)
  refine gd_bnd (gd_k0V_c fun m14 => ?_)
  refine Eq.trans (D_pfR gk_f14_32) ?_
  refine gd_ite (fun h16 => ?_) (fun _ => rfl)
  refine Eq.trans (D_aload_n (x := r0) gk_f14_35 rfl) ?_
  refine Eq.trans (D_new gk_f14_36) ?_
  refine gd_ite (fun h18 => ?_) (fun _ => rfl)
  refine Eq.trans (D_dupR gk_f14_39) ?_
  refine Eq.trans (D_isp (args := [.ref (gN m14)]) (rest := [.ref (gN m14), .ref r0]) gk_f14_40 rfl rfl rfl (gd_rmk gk_rm14_10 gk_ln10 gk_ml10 rfl rfl rfl) gk_rk10 (gd_hnd_n gk_nc14)) ?_
  refine gd_ite (fun h19 => ?_) (fun _ => rfl)
  refine gd_bnd (gd_k0V_c fun m20 => ?_)
  refine Eq.trans (D_pfR gk_f14_43) ?_
  refine gd_ite (fun h22 => ?_) (fun _ => rfl)
  refine Eq.trans (D_aload_n (x := r0) gk_f14_46 rfl) ?_
  refine Eq.trans (D_sipush (x := 160) gk_f14_47 gk_s_160) ?_
  refine Eq.trans (D_anew gk_f14_50) ?_
  refine gd_ite (fun h24 => ?_) (fun _ => rfl)
  refine Eq.trans (D_pfR gk_f14_53) ?_
  refine gd_ite (fun h25 => ?_) (fun _ => rfl)
  refine Eq.trans (D_aload_n (x := r0) gk_f14_56 rfl) ?_
  refine Eq.trans (D_bipush (x := 40) gk_f14_57 gk_b_40) ?_
  refine Eq.trans (D_newa (kd := 10) gk_f14_59 rfl) ?_
  refine gd_ite (fun h27 => ?_) (fun _ => rfl)
  refine Eq.trans (D_pfR gk_f14_61) ?_
  refine gd_ite (fun h28 => ?_) (fun _ => rfl)
  refine Eq.trans (D_aload_n (x := r0) gk_f14_64 rfl) ?_
  refine Eq.trans (D_bipush (x := 40) gk_f14_65 gk_b_40) ?_
  refine Eq.trans (D_newa (kd := 10) gk_f14_67 rfl) ?_
  refine gd_ite (fun h30 => ?_) (fun _ => rfl)
  refine Eq.trans (D_pfR gk_f14_69) ?_
  refine gd_ite (fun h31 => ?_) (fun _ => rfl)
  refine Eq.trans (D_aload_n (x := r0) gk_f14_72 rfl) ?_
  refine Eq.trans (D_bipush (x := 10) gk_f14_73 gk_b_10) ?_
  refine Eq.trans (D_newa (kd := 10) gk_f14_75 rfl) ?_
  refine gd_ite (fun h33 => ?_) (fun _ => rfl)
  refine Eq.trans (D_pfR gk_f14_77) ?_
  refine gd_ite (fun h34 => ?_) (fun _ => rfl)
  refine Eq.trans (D_aload_n (x := r0) gk_f14_80 rfl) ?_
  refine Eq.trans (D_bipush (x := 6) gk_f14_81 gk_b_6) ?_
  refine Eq.trans (D_newa (kd := 10) gk_f14_83 rfl) ?_
  refine gd_ite (fun h36 => ?_) (fun _ => rfl)
  refine Eq.trans (D_pfR gk_f14_85) ?_
  refine gd_ite (fun h37 => ?_) (fun _ => rfl)
  refine Eq.trans (D_aload_n (x := r0) gk_f14_88 rfl) ?_
  refine Eq.trans (D_new gk_f14_89) ?_
  refine gd_ite (fun h39 => ?_) (fun _ => rfl)
  refine Eq.trans (D_dupR gk_f14_92) ?_
  refine Eq.trans (D_isp (args := [.ref (gN m20 + 5)]) (rest := [.ref (gN m20 + 5), .ref r0]) gk_f14_93 rfl rfl rfl (gd_rmk gk_rm14_12 gk_ln12 gk_ml12 rfl rfl rfl) gk_rk12 (gd_hnd_n gk_nc14)) ?_
  refine gd_ite (fun h40 => ?_) (fun _ => rfl)
  refine gd_bnd (gd_k0V_c fun m41 => ?_)
  refine Eq.trans (D_pfR gk_f14_96) ?_
  refine gd_ite (fun h43 => ?_) (fun _ => rfl)
  refine Eq.trans (D_aload_n (x := r0) gk_f14_99 rfl) ?_
  refine Eq.trans (D_new gk_f14_100) ?_
  refine gd_ite (fun h45 => ?_) (fun _ => rfl)
  refine Eq.trans (D_dupR gk_f14_103) ?_
  refine Eq.trans (D_isp (args := [.ref (gN m41)]) (rest := [.ref (gN m41), .ref r0]) gk_f14_104 rfl rfl rfl (gd_rmk gk_rm14_12 gk_ln12 gk_ml12 rfl rfl rfl) gk_rk12 (gd_hnd_n gk_nc14)) ?_
  refine gd_ite (fun h46 => ?_) (fun _ => rfl)
  refine gd_bnd (gd_k0V_c fun m47 => ?_)
  refine Eq.trans (D_pfR gk_f14_107) ?_
  refine gd_ite (fun h49 => ?_) (fun _ => rfl)
  refine Eq.trans (D_iconst (x := 0) gk_f14_110 gk_c_0) ?_
  refine Eq.trans (D_istore_n gk_f14_111 gk_st14_1) ?_
  rfl
set_option maxRecDepth 20000 in
set_option maxHeartbeats 4000000 in
theorem q_X_init_112 (r0 : Nat) (x1 : Int32) (m : gd_M) : gd_Den (14, 112, [.ref r0, .int x1], [], m) = if gd_ok (gN m) r0 6 = true then (if (Nat.ble 10 (gd_KD (gR m r0 4)) && Nat.ble (gd_KD (gR m r0 4)) 14 && decide ((gR m r0 4) < (gN m))) = true then (if (x1 < (Int32.ofNat (gd_LN (gR m r0 4))) : Prop) then (if Nat.beq (gd_KD (gN m)) 4 = true then (if Nat.ble 8 (gN m) = true then ((gd_call 13 [.ref (gN m)] (gd_al m 15)).bind (gd_k0V fun m8 => if (gd_okA (gN m8) (gR m r0 4) 14 x1 && gd_ok (gN m8) (gN m) 4) = true then (gd_Den (14, 112, [.ref r0, .int (x1 + 1)], [], (wR m8 (gR m r0 4) (x1 : Int32).toNatClampNeg (gN m)))) else none)) else none) else none) else (some (.null, m))) else none) else none := by
  refine Eq.trans (D_iload_n (x := x1) gk_f14_112 rfl) ?_
  refine Eq.trans (D_aload_n (x := r0) gk_f14_113 rfl) ?_
  refine Eq.trans (D_gfR gk_f14_114 (by decide)) ?_
  refine gd_ite (fun h1 => ?_) (fun _ => rfl)
  refine Eq.trans (D_alen gk_f14_117 gk_n10_14 gk_nt14) ?_
  refine gd_ite (fun h2 => ?_) (fun _ => rfl)
  refine Eq.trans (D_ic_ge (t := 140) gk_f14_118 (by decide)) ?_
  refine gd_ite (fun h3 => ?_) (fun h4 => ?_)
  · refine Eq.trans (D_aload_n (x := r0) gk_f14_121 rfl) ?_
    refine Eq.trans (D_gfR gk_f14_122 (by decide)) ?_
    refine Eq.trans (if_pos h1) ?_
    refine Eq.trans (D_iload_n (x := x1) gk_f14_125 rfl) ?_
    refine Eq.trans (D_new gk_f14_126) ?_
    refine gd_ite (fun h6 => ?_) (fun _ => rfl)
    refine Eq.trans (D_dupR gk_f14_129) ?_
    refine Eq.trans (D_isp (args := [.ref (gN m)]) (rest := [.ref (gN m), .int x1, .ref (gR m r0 4)]) gk_f14_130 rfl rfl rfl (gd_rmk gk_rm14_13 gk_ln13 gk_ml13 rfl rfl rfl) gk_rk13 (gd_hnd_n gk_nc14)) ?_
    refine gd_ite (fun h7 => ?_) (fun _ => rfl)
    refine gd_bnd (gd_k0V_c fun m8 => ?_)
    refine Eq.trans (D_aast gk_f14_133) ?_
    refine gd_ite (fun h10 => ?_) (fun _ => rfl)
    refine Eq.trans (D_iinc (x := x1) (y := 1) gk_f14_134 rfl gk_c_1 gk_st14_1) ?_
    refine Eq.trans (D_goto (t := 112) gk_f14_137 (by decide)) ?_
    rfl
  · refine Eq.trans (D_vreturn gk_f14_140 gk_rk14) ?_
    rfl
/-! java/lang/Throwable.<init> (Ljava/lang/String;Ljava/lang/Throwable;ZZ)V -/
set_option maxRecDepth 20000 in
theorem gk_f15_0 : gd_fetch 15 0 = some (0, .aload_n 0, 1, 0, 0, 0, 0, 0) := rfl
set_option maxRecDepth 20000 in
theorem gk_f15_1 : gd_fetch 15 1 = some (1, .invokespecial 1, 3, 985, 0, 0, 2, 0) := rfl
set_option maxRecDepth 20000 in
theorem gk_f15_4 : gd_fetch 15 4 = some (4, .aload_n 0, 1, 0, 0, 0, 0, 0) := rfl
set_option maxRecDepth 20000 in
theorem gk_f15_5 : gd_fetch 15 5 = some (5, .aload_n 0, 1, 0, 0, 0, 0, 0) := rfl
set_option maxRecDepth 20000 in
theorem gk_f15_6 : gd_fetch 15 6 = some (6, .putfield 7, 3, 1013, 8, 0, 4, 0) := rfl
set_option maxRecDepth 20000 in
theorem gk_f15_9 : gd_fetch 15 9 = some (9, .aload_n 0, 1, 0, 0, 0, 0, 0) := rfl
set_option maxRecDepth 20000 in
theorem gk_f15_10 : gd_fetch 15 10 = some (10, .getstatic 13, 3, 986, 6, 0, 0, 0) := rfl
set_option maxRecDepth 20000 in
theorem gk_f15_13 : gd_fetch 15 13 = some (13, .putfield 17, 3, 1014, 8, 1, 4, 0) := rfl
set_option maxRecDepth 20000 in
theorem gk_f15_16 : gd_fetch 15 16 = some (16, .aload_n 0, 1, 0, 0, 0, 0, 0) := rfl
set_option maxRecDepth 20000 in
theorem gk_f15_17 : gd_fetch 15 17 = some (17, .getstatic 20, 3, 988, 7, 0, 0, 0) := rfl
set_option maxRecDepth 20000 in
theorem gk_f15_20 : gd_fetch 15 20 = some (20, .putfield 24, 3, 1015, 8, 2, 4, 0) := rfl
set_option maxRecDepth 20000 in
theorem gk_f15_23 : gd_fetch 15 23 = some (23, .iload 4, 2, 0, 0, 0, 0, 0) := rfl
set_option maxRecDepth 20000 in
theorem gk_f15_25 : gd_fetch 15 25 = some (25, .ifCond .eq 11, 3, 0, 0, 0, 0, 0) := rfl
set_option maxRecDepth 20000 in
theorem gk_f15_28 : gd_fetch 15 28 = some (28, .aload_n 0, 1, 0, 0, 0, 0, 0) := rfl
set_option maxRecDepth 20000 in
theorem gk_f15_29 : gd_fetch 15 29 = some (29, .invokevirtual 27, 3, 0, 0, 0, 3, 0) := rfl
set_option maxRecDepth 20000 in
theorem gk_f15_36 : gd_fetch 15 36 = some (36, .aload_n 0, 1, 0, 0, 0, 0, 0) := rfl
set_option maxRecDepth 20000 in
theorem gk_f15_37 : gd_fetch 15 37 = some (37, .aconst_null, 1, 0, 0, 0, 0, 0) := rfl
set_option maxRecDepth 20000 in
theorem gk_f15_38 : gd_fetch 15 38 = some (38, .putfield 17, 3, 1014, 8, 1, 4, 0) := rfl
set_option maxRecDepth 20000 in
theorem gk_f15_41 : gd_fetch 15 41 = some (41, .aload_n 0, 1, 0, 0, 0, 0, 0) := rfl
set_option maxRecDepth 20000 in
theorem gk_f15_42 : gd_fetch 15 42 = some (42, .aload_n 1, 1, 0, 0, 0, 0, 0) := rfl
set_option maxRecDepth 20000 in
theorem gk_f15_43 : gd_fetch 15 43 = some (43, .putfield 31, 3, 1012, 8, 3, 4, 0) := rfl
set_option maxRecDepth 20000 in
theorem gk_f15_46 : gd_fetch 15 46 = some (46, .aload_n 0, 1, 0, 0, 0, 0, 0) := rfl
set_option maxRecDepth 20000 in
theorem gk_f15_47 : gd_fetch 15 47 = some (47, .aload_n 2, 1, 0, 0, 0, 0, 0) := rfl
set_option maxRecDepth 20000 in
theorem gk_f15_48 : gd_fetch 15 48 = some (48, .putfield 7, 3, 1013, 8, 0, 4, 0) := rfl
set_option maxRecDepth 20000 in
theorem gk_f15_51 : gd_fetch 15 51 = some (51, .iload_n 3, 1, 0, 0, 0, 0, 0) := rfl
set_option maxRecDepth 20000 in
theorem gk_f15_52 : gd_fetch 15 52 = some (52, .ifCond .ne 8, 3, 0, 0, 0, 0, 0) := rfl
set_option maxRecDepth 20000 in
theorem gk_f15_55 : gd_fetch 15 55 = some (55, .aload_n 0, 1, 0, 0, 0, 0, 0) := rfl
set_option maxRecDepth 20000 in
theorem gk_f15_56 : gd_fetch 15 56 = some (56, .aconst_null, 1, 0, 0, 0, 0, 0) := rfl
set_option maxRecDepth 20000 in
theorem gk_f15_57 : gd_fetch 15 57 = some (57, .putfield 24, 3, 1015, 8, 2, 4, 0) := rfl
set_option maxRecDepth 20000 in
theorem gk_f15_60 : gd_fetch 15 60 = some (60, .return_, 1, 0, 0, 0, 0, 0) := rfl
set_option maxRecDepth 20000 in
set_option maxHeartbeats 4000000 in
theorem q_Th_init (r0 : Nat) (r1 : Nat) (r2 : Nat) (x3 : Int32) (x4 : Int32) (m : gd_M) : gd_call 15 [.ref r0, .ref r1, .ref r2, .int x3, .int x4] m = if Nat.ble 8 r0 = true then (if gd_ok (gN m) r0 8 = true then (if (x4 = 0 : Prop) then (if (x3 = 0 : Prop) then (some (.null, (wR (wR (wR (wR (wR (wR (wR m r0 0 r0) r0 1 6) r0 2 7) r0 1 0) r0 3 r1) r0 0 r2) r0 2 0))) else (some (.null, (wR (wR (wR (wR (wR (wR m r0 0 r0) r0 1 6) r0 2 7) r0 1 0) r0 3 r1) r0 0 r2)))) else (none)) else none) else none := by
  refine Eq.trans (show gd_call 15 [.ref r0, .ref r1, .ref r2, .int x3, .int x4] m = gd_Den (15, 0, [.ref r0, .ref r1, .ref r2, .int x3, .int x4], [], m) from by unfold gd_call gd_ent; rw [gk_ml15]; rfl) ?_
  refine Eq.trans (D_aload_n (x := r0) gk_f15_0 rfl) ?_
  refine Eq.trans (D_objinit gk_f15_1 gk_oi15) ?_
  refine gd_ite (fun h1 => ?_) (fun _ => rfl)
  refine Eq.trans (D_aload_n (x := r0) gk_f15_4 rfl) ?_
  refine Eq.trans (D_aload_n (x := r0) gk_f15_5 rfl) ?_
  refine Eq.trans (D_pfR gk_f15_6) ?_
  refine gd_ite (fun h2 => ?_) (fun _ => rfl)
  refine Eq.trans (D_aload_n (x := r0) gk_f15_9 rfl) ?_
  refine Eq.trans (D_gsR gk_f15_10 (by decide)) ?_
  refine Eq.trans (D_pfR gk_f15_13) ?_
  refine Eq.trans (if_pos h2) ?_
  refine Eq.trans (D_aload_n (x := r0) gk_f15_16 rfl) ?_
  refine Eq.trans (D_gsR gk_f15_17 (by decide)) ?_
  refine Eq.trans (D_pfR gk_f15_20) ?_
  refine Eq.trans (if_pos h2) ?_
  refine Eq.trans (D_iload (x := x4) gk_f15_23 rfl) ?_
  refine Eq.trans (D_if_eq (t := 36) gk_f15_25 (by decide)) ?_
  refine gd_ite (fun h3 => ?_) (fun h4 => ?_)
  · refine Eq.trans (D_aload_n (x := r0) gk_f15_36 rfl) ?_
    refine Eq.trans (D_anull gk_f15_37) ?_
    refine Eq.trans (D_pfR gk_f15_38) ?_
    refine Eq.trans (if_pos h2) ?_
    refine Eq.trans (D_aload_n (x := r0) gk_f15_41 rfl) ?_
    refine Eq.trans (D_aload_n (x := r1) gk_f15_42 rfl) ?_
    refine Eq.trans (D_pfR gk_f15_43) ?_
    refine Eq.trans (if_pos h2) ?_
    refine Eq.trans (D_aload_n (x := r0) gk_f15_46 rfl) ?_
    refine Eq.trans (D_aload_n (x := r2) gk_f15_47 rfl) ?_
    refine Eq.trans (D_pfR gk_f15_48) ?_
    refine Eq.trans (if_pos h2) ?_
    refine Eq.trans (D_iload_n (x := x3) gk_f15_51 rfl) ?_
    refine Eq.trans (D_if_ne (t := 60) gk_f15_52 (by decide)) ?_
    refine gd_ite (fun h5 => ?_) (fun h6 => ?_)
    · refine Eq.trans (D_aload_n (x := r0) gk_f15_55 rfl) ?_
      refine Eq.trans (D_anull gk_f15_56) ?_
      refine Eq.trans (D_pfR gk_f15_57) ?_
      refine Eq.trans (if_pos h2) ?_
      refine Eq.trans (D_vreturn gk_f15_60 gk_rk15) ?_
      rfl
    · refine Eq.trans (D_vreturn gk_f15_60 gk_rk15) ?_
      rfl
  · refine Eq.trans (D_aload_n (x := r0) gk_f15_28 rfl) ?_
    rw [gd_Den_step gk_f15_29]
    rfl
/-! java/lang/Exception.<init> (Ljava/lang/String;Ljava/lang/Throwable;ZZ)V -/
set_option maxRecDepth 20000 in
theorem gk_f16_0 : gd_fetch 16 0 = some (0, .aload_n 0, 1, 0, 0, 0, 0, 0) := rfl
set_option maxRecDepth 20000 in
theorem gk_f16_1 : gd_fetch 16 1 = some (1, .aload_n 1, 1, 0, 0, 0, 0, 0) := rfl
set_option maxRecDepth 20000 in
theorem gk_f16_2 : gd_fetch 16 2 = some (2, .aload_n 2, 1, 0, 0, 0, 0, 0) := rfl
set_option maxRecDepth 20000 in
theorem gk_f16_3 : gd_fetch 16 3 = some (3, .iload_n 3, 1, 0, 0, 0, 0, 0) := rfl
set_option maxRecDepth 20000 in
theorem gk_f16_4 : gd_fetch 16 4 = some (4, .iload 4, 2, 0, 0, 0, 0, 0) := rfl
set_option maxRecDepth 20000 in
theorem gk_f16_6 : gd_fetch 16 6 = some (6, .invokespecial 16, 3, 1008, 15, 4, 0, 0) := rfl
set_option maxRecDepth 20000 in
theorem gk_f16_9 : gd_fetch 16 9 = some (9, .return_, 1, 0, 0, 0, 0, 0) := rfl
set_option maxRecDepth 20000 in
set_option maxHeartbeats 4000000 in
theorem q_Ex_init (r0 : Nat) (r1 : Nat) (r2 : Nat) (x3 : Int32) (x4 : Int32) (m : gd_M) : gd_call 16 [.ref r0, .ref r1, .ref r2, .int x3, .int x4] m = if Nat.ble 8 r0 = true then ((gd_call 15 [.ref r0, .ref r1, .ref r2, .int x3, .int x4] m).bind (gd_k0V fun m2 => some (.null, m2))) else none := by
  refine Eq.trans (show gd_call 16 [.ref r0, .ref r1, .ref r2, .int x3, .int x4] m = gd_Den (16, 0, [.ref r0, .ref r1, .ref r2, .int x3, .int x4], [], m) from by unfold gd_call gd_ent; rw [gk_ml16]; rfl) ?_
  refine Eq.trans (D_aload_n (x := r0) gk_f16_0 rfl) ?_
  refine Eq.trans (D_aload_n (x := r1) gk_f16_1 rfl) ?_
  refine Eq.trans (D_aload_n (x := r2) gk_f16_2 rfl) ?_
  refine Eq.trans (D_iload_n (x := x3) gk_f16_3 rfl) ?_
  refine Eq.trans (D_iload (x := x4) gk_f16_4 rfl) ?_
  refine Eq.trans (D_isp (args := [.ref r0, .ref r1, .ref r2, .int x3, .int x4]) (rest := []) gk_f16_6 rfl rfl rfl (gd_rmk gk_rm16_15 gk_ln15 gk_ml15 rfl rfl rfl) gk_rk15 (gd_hnd_n gk_nc16)) ?_
  refine gd_ite (fun h1 => ?_) (fun _ => rfl)
  refine gd_bnd (gd_k0V_c fun m2 => ?_)
  refine Eq.trans (D_vreturn gk_f16_9 gk_rk16) ?_
  rfl
/-! java/lang/RuntimeException.<init> (Ljava/lang/String;Ljava/lang/Throwable;ZZ)V -/
set_option maxRecDepth 20000 in
theorem gk_f17_0 : gd_fetch 17 0 = some (0, .aload_n 0, 1, 0, 0, 0, 0, 0) := rfl
set_option maxRecDepth 20000 in
theorem gk_f17_1 : gd_fetch 17 1 = some (1, .aload_n 1, 1, 0, 0, 0, 0, 0) := rfl
set_option maxRecDepth 20000 in
theorem gk_f17_2 : gd_fetch 17 2 = some (2, .aload_n 2, 1, 0, 0, 0, 0, 0) := rfl
set_option maxRecDepth 20000 in
theorem gk_f17_3 : gd_fetch 17 3 = some (3, .iload_n 3, 1, 0, 0, 0, 0, 0) := rfl
set_option maxRecDepth 20000 in
theorem gk_f17_4 : gd_fetch 17 4 = some (4, .iload 4, 2, 0, 0, 0, 0, 0) := rfl
set_option maxRecDepth 20000 in
theorem gk_f17_6 : gd_fetch 17 6 = some (6, .invokespecial 16, 3, 1005, 16, 4, 0, 0) := rfl
set_option maxRecDepth 20000 in
theorem gk_f17_9 : gd_fetch 17 9 = some (9, .return_, 1, 0, 0, 0, 0, 0) := rfl
set_option maxRecDepth 20000 in
set_option maxHeartbeats 4000000 in
theorem q_Rt_init (r0 : Nat) (r1 : Nat) (r2 : Nat) (x3 : Int32) (x4 : Int32) (m : gd_M) : gd_call 17 [.ref r0, .ref r1, .ref r2, .int x3, .int x4] m = if Nat.ble 8 r0 = true then ((gd_call 16 [.ref r0, .ref r1, .ref r2, .int x3, .int x4] m).bind (gd_k0V fun m2 => some (.null, m2))) else none := by
  refine Eq.trans (show gd_call 17 [.ref r0, .ref r1, .ref r2, .int x3, .int x4] m = gd_Den (17, 0, [.ref r0, .ref r1, .ref r2, .int x3, .int x4], [], m) from by unfold gd_call gd_ent; rw [gk_ml17]; rfl) ?_
  refine Eq.trans (D_aload_n (x := r0) gk_f17_0 rfl) ?_
  refine Eq.trans (D_aload_n (x := r1) gk_f17_1 rfl) ?_
  refine Eq.trans (D_aload_n (x := r2) gk_f17_2 rfl) ?_
  refine Eq.trans (D_iload_n (x := x3) gk_f17_3 rfl) ?_
  refine Eq.trans (D_iload (x := x4) gk_f17_4 rfl) ?_
  refine Eq.trans (D_isp (args := [.ref r0, .ref r1, .ref r2, .int x3, .int x4]) (rest := []) gk_f17_6 rfl rfl rfl (gd_rmk gk_rm17_16 gk_ln16 gk_ml16 rfl rfl rfl) gk_rk16 (gd_hnd_n gk_nc17)) ?_
  refine gd_ite (fun h1 => ?_) (fun _ => rfl)
  refine gd_bnd (gd_k0V_c fun m2 => ?_)
  refine Eq.trans (D_vreturn gk_f17_9 gk_rk17) ?_
  rfl
/-! GymDeskModel$Stop.<init> ()V -/
set_option maxRecDepth 20000 in
theorem gk_f18_0 : gd_fetch 18 0 = some (0, .aload_n 0, 1, 0, 0, 0, 0, 0) := rfl
set_option maxRecDepth 20000 in
theorem gk_f18_1 : gd_fetch 18 1 = some (1, .aconst_null, 1, 0, 0, 0, 0, 0) := rfl
set_option maxRecDepth 20000 in
theorem gk_f18_2 : gd_fetch 18 2 = some (2, .aconst_null, 1, 0, 0, 0, 0, 0) := rfl
set_option maxRecDepth 20000 in
theorem gk_f18_3 : gd_fetch 18 3 = some (3, .iconst 0, 1, 0, 0, 0, 0, 0) := rfl
set_option maxRecDepth 20000 in
theorem gk_f18_4 : gd_fetch 18 4 = some (4, .iconst 0, 1, 0, 0, 0, 0, 0) := rfl
set_option maxRecDepth 20000 in
theorem gk_f18_5 : gd_fetch 18 5 = some (5, .invokespecial 1, 3, 1002, 17, 4, 0, 0) := rfl
set_option maxRecDepth 20000 in
theorem gk_f18_8 : gd_fetch 18 8 = some (8, .return_, 1, 0, 0, 0, 0, 0) := rfl
set_option maxRecDepth 20000 in
set_option maxHeartbeats 4000000 in
theorem q_St_init (r0 : Nat) (m : gd_M) : gd_call 18 [.ref r0] m = if Nat.ble 8 r0 = true then ((gd_call 17 [.ref r0, .ref 0, .ref 0, .int 0, .int 0] m).bind (gd_k0V fun m2 => some (.null, m2))) else none := by
  refine Eq.trans (show gd_call 18 [.ref r0] m = gd_Den (18, 0, [.ref r0], [], m) from by unfold gd_call gd_ent; rw [gk_ml18]; rfl) ?_
  refine Eq.trans (D_aload_n (x := r0) gk_f18_0 rfl) ?_
  refine Eq.trans (D_anull gk_f18_1) ?_
  refine Eq.trans (D_anull gk_f18_2) ?_
  refine Eq.trans (D_iconst (x := 0) gk_f18_3 gk_c_0) ?_
  refine Eq.trans (D_iconst (x := 0) gk_f18_4 gk_c_0) ?_
  refine Eq.trans (D_isp (args := [.ref r0, .ref 0, .ref 0, .int 0, .int 0]) (rest := []) gk_f18_5 rfl rfl rfl (gd_rmk gk_rm18_17 gk_ln17 gk_ml17 rfl rfl rfl) gk_rk17 (gd_hnd_n gk_nc18)) ?_
  refine gd_ite (fun h1 => ?_) (fun _ => rfl)
  refine gd_bnd (gd_k0V_c fun m2 => ?_)
  refine Eq.trans (D_vreturn gk_f18_8 gk_rk18) ?_
  rfl
/-! GymDeskModel$Code.<init> ()V -/
set_option maxRecDepth 20000 in
theorem gk_f19_0 : gd_fetch 19 0 = some (0, .aload_n 0, 1, 0, 0, 0, 0, 0) := rfl
set_option maxRecDepth 20000 in
theorem gk_f19_1 : gd_fetch 19 1 = some (1, .invokespecial 3, 3, 1029, 0, 0, 2, 0) := rfl
set_option maxRecDepth 20000 in
theorem gk_f19_4 : gd_fetch 19 4 = some (4, .aload_n 0, 1, 0, 0, 0, 0, 0) := rfl
set_option maxRecDepth 20000 in
theorem gk_f19_5 : gd_fetch 19 5 = some (5, .bipush 31, 2, 0, 0, 0, 0, 0) := rfl
set_option maxRecDepth 20000 in
theorem gk_f19_7 : gd_fetch 19 7 = some (7, .newarray .long, 2, 211, 0, 0, 0, 0) := rfl
set_option maxRecDepth 20000 in
theorem gk_f19_9 : gd_fetch 19 9 = some (9, .putfield 9, 3, 1036, 7, 3, 4, 1) := rfl
set_option maxRecDepth 20000 in
theorem gk_f19_12 : gd_fetch 19 12 = some (12, .aload_n 0, 1, 0, 0, 0, 0, 0) := rfl
set_option maxRecDepth 20000 in
theorem gk_f19_13 : gd_fetch 19 13 = some (13, .bipush 31, 2, 0, 0, 0, 0, 0) := rfl
set_option maxRecDepth 20000 in
theorem gk_f19_15 : gd_fetch 19 15 = some (15, .newarray .long, 2, 211, 0, 0, 0, 0) := rfl
set_option maxRecDepth 20000 in
theorem gk_f19_17 : gd_fetch 19 17 = some (17, .putfield 15, 3, 1038, 7, 4, 4, 1) := rfl
set_option maxRecDepth 20000 in
theorem gk_f19_20 : gd_fetch 19 20 = some (20, .aload_n 0, 1, 0, 0, 0, 0, 0) := rfl
set_option maxRecDepth 20000 in
theorem gk_f19_21 : gd_fetch 19 21 = some (21, .bipush 11, 2, 0, 0, 0, 0, 0) := rfl
set_option maxRecDepth 20000 in
theorem gk_f19_23 : gd_fetch 19 23 = some (23, .newarray .long, 2, 211, 0, 0, 0, 0) := rfl
set_option maxRecDepth 20000 in
theorem gk_f19_25 : gd_fetch 19 25 = some (25, .putfield 18, 3, 1040, 7, 5, 4, 1) := rfl
set_option maxRecDepth 20000 in
theorem gk_f19_28 : gd_fetch 19 28 = some (28, .aload_n 0, 1, 0, 0, 0, 0, 0) := rfl
set_option maxRecDepth 20000 in
theorem gk_f19_29 : gd_fetch 19 29 = some (29, .bipush 11, 2, 0, 0, 0, 0, 0) := rfl
set_option maxRecDepth 20000 in
theorem gk_f19_31 : gd_fetch 19 31 = some (31, .newarray .long, 2, 211, 0, 0, 0, 0) := rfl
set_option maxRecDepth 20000 in
theorem gk_f19_33 : gd_fetch 19 33 = some (33, .putfield 21, 3, 1042, 7, 6, 4, 1) := rfl
set_option maxRecDepth 20000 in
theorem gk_f19_36 : gd_fetch 19 36 = some (36, .aload_n 0, 1, 0, 0, 0, 0, 0) := rfl
set_option maxRecDepth 20000 in
theorem gk_f19_37 : gd_fetch 19 37 = some (37, .bipush 31, 2, 0, 0, 0, 0, 0) := rfl
set_option maxRecDepth 20000 in
theorem gk_f19_39 : gd_fetch 19 39 = some (39, .newarray .int, 2, 269, 0, 0, 0, 0) := rfl
set_option maxRecDepth 20000 in
theorem gk_f19_41 : gd_fetch 19 41 = some (41, .putfield 24, 3, 1044, 7, 7, 4, 1) := rfl
set_option maxRecDepth 20000 in
theorem gk_f19_44 : gd_fetch 19 44 = some (44, .aload_n 0, 1, 0, 0, 0, 0, 0) := rfl
set_option maxRecDepth 20000 in
theorem gk_f19_45 : gd_fetch 19 45 = some (45, .bipush 31, 2, 0, 0, 0, 0, 0) := rfl
set_option maxRecDepth 20000 in
theorem gk_f19_47 : gd_fetch 19 47 = some (47, .newarray .int, 2, 269, 0, 0, 0, 0) := rfl
set_option maxRecDepth 20000 in
theorem gk_f19_49 : gd_fetch 19 49 = some (49, .putfield 28, 3, 1046, 7, 8, 4, 1) := rfl
set_option maxRecDepth 20000 in
theorem gk_f19_52 : gd_fetch 19 52 = some (52, .aload_n 0, 1, 0, 0, 0, 0, 0) := rfl
set_option maxRecDepth 20000 in
theorem gk_f19_53 : gd_fetch 19 53 = some (53, .bipush 31, 2, 0, 0, 0, 0, 0) := rfl
set_option maxRecDepth 20000 in
theorem gk_f19_55 : gd_fetch 19 55 = some (55, .newarray .int, 2, 269, 0, 0, 0, 0) := rfl
set_option maxRecDepth 20000 in
theorem gk_f19_57 : gd_fetch 19 57 = some (57, .putfield 31, 3, 1048, 7, 9, 4, 1) := rfl
set_option maxRecDepth 20000 in
theorem gk_f19_60 : gd_fetch 19 60 = some (60, .aload_n 0, 1, 0, 0, 0, 0, 0) := rfl
set_option maxRecDepth 20000 in
theorem gk_f19_61 : gd_fetch 19 61 = some (61, .bipush 21, 2, 0, 0, 0, 0, 0) := rfl
set_option maxRecDepth 20000 in
theorem gk_f19_63 : gd_fetch 19 63 = some (63, .newarray .int, 2, 269, 0, 0, 0, 0) := rfl
set_option maxRecDepth 20000 in
theorem gk_f19_65 : gd_fetch 19 65 = some (65, .putfield 34, 3, 1050, 7, 10, 4, 1) := rfl
set_option maxRecDepth 20000 in
theorem gk_f19_68 : gd_fetch 19 68 = some (68, .aload_n 0, 1, 0, 0, 0, 0, 0) := rfl
set_option maxRecDepth 20000 in
theorem gk_f19_69 : gd_fetch 19 69 = some (69, .bipush 21, 2, 0, 0, 0, 0, 0) := rfl
set_option maxRecDepth 20000 in
theorem gk_f19_71 : gd_fetch 19 71 = some (71, .newarray .int, 2, 269, 0, 0, 0, 0) := rfl
set_option maxRecDepth 20000 in
theorem gk_f19_73 : gd_fetch 19 73 = some (73, .putfield 37, 3, 1052, 7, 11, 4, 1) := rfl
set_option maxRecDepth 20000 in
theorem gk_f19_76 : gd_fetch 19 76 = some (76, .aload_n 0, 1, 0, 0, 0, 0, 0) := rfl
set_option maxRecDepth 20000 in
theorem gk_f19_77 : gd_fetch 19 77 = some (77, .bipush 21, 2, 0, 0, 0, 0, 0) := rfl
set_option maxRecDepth 20000 in
theorem gk_f19_79 : gd_fetch 19 79 = some (79, .newarray .int, 2, 269, 0, 0, 0, 0) := rfl
set_option maxRecDepth 20000 in
theorem gk_f19_81 : gd_fetch 19 81 = some (81, .putfield 40, 3, 1054, 7, 12, 4, 1) := rfl
set_option maxRecDepth 20000 in
theorem gk_f19_84 : gd_fetch 19 84 = some (84, .aload_n 0, 1, 0, 0, 0, 0, 0) := rfl
set_option maxRecDepth 20000 in
theorem gk_f19_85 : gd_fetch 19 85 = some (85, .bipush 11, 2, 0, 0, 0, 0, 0) := rfl
set_option maxRecDepth 20000 in
theorem gk_f19_87 : gd_fetch 19 87 = some (87, .newarray .int, 2, 269, 0, 0, 0, 0) := rfl
set_option maxRecDepth 20000 in
theorem gk_f19_89 : gd_fetch 19 89 = some (89, .putfield 43, 3, 1056, 7, 13, 4, 1) := rfl
set_option maxRecDepth 20000 in
theorem gk_f19_92 : gd_fetch 19 92 = some (92, .aload_n 0, 1, 0, 0, 0, 0, 0) := rfl
set_option maxRecDepth 20000 in
theorem gk_f19_93 : gd_fetch 19 93 = some (93, .bipush 11, 2, 0, 0, 0, 0, 0) := rfl
set_option maxRecDepth 20000 in
theorem gk_f19_95 : gd_fetch 19 95 = some (95, .newarray .boolean, 2, 393, 0, 0, 0, 0) := rfl
set_option maxRecDepth 20000 in
theorem gk_f19_97 : gd_fetch 19 97 = some (97, .putfield 46, 3, 1058, 7, 14, 4, 1) := rfl
set_option maxRecDepth 20000 in
theorem gk_f19_100 : gd_fetch 19 100 = some (100, .aload_n 0, 1, 0, 0, 0, 0, 0) := rfl
set_option maxRecDepth 20000 in
theorem gk_f19_101 : gd_fetch 19 101 = some (101, .iconst 5, 1, 0, 0, 0, 0, 0) := rfl
set_option maxRecDepth 20000 in
theorem gk_f19_102 : gd_fetch 19 102 = some (102, .newarray .int, 2, 269, 0, 0, 0, 0) := rfl
set_option maxRecDepth 20000 in
theorem gk_f19_104 : gd_fetch 19 104 = some (104, .putfield 50, 3, 1060, 7, 15, 4, 1) := rfl
set_option maxRecDepth 20000 in
theorem gk_f19_107 : gd_fetch 19 107 = some (107, .aload_n 0, 1, 0, 0, 0, 0, 0) := rfl
set_option maxRecDepth 20000 in
theorem gk_f19_108 : gd_fetch 19 108 = some (108, .iconst 5, 1, 0, 0, 0, 0, 0) := rfl
set_option maxRecDepth 20000 in
theorem gk_f19_109 : gd_fetch 19 109 = some (109, .newarray .int, 2, 269, 0, 0, 0, 0) := rfl
set_option maxRecDepth 20000 in
theorem gk_f19_111 : gd_fetch 19 111 = some (111, .putfield 53, 3, 1062, 7, 16, 4, 1) := rfl
set_option maxRecDepth 20000 in
theorem gk_f19_114 : gd_fetch 19 114 = some (114, .aload_n 0, 1, 0, 0, 0, 0, 0) := rfl
set_option maxRecDepth 20000 in
theorem gk_f19_115 : gd_fetch 19 115 = some (115, .iconst 5, 1, 0, 0, 0, 0, 0) := rfl
set_option maxRecDepth 20000 in
theorem gk_f19_116 : gd_fetch 19 116 = some (116, .newarray .int, 2, 269, 0, 0, 0, 0) := rfl
set_option maxRecDepth 20000 in
theorem gk_f19_118 : gd_fetch 19 118 = some (118, .putfield 56, 3, 1064, 7, 17, 4, 1) := rfl
set_option maxRecDepth 20000 in
theorem gk_f19_121 : gd_fetch 19 121 = some (121, .return_, 1, 0, 0, 0, 0, 0) := rfl
set_option maxRecDepth 20000 in
set_option maxHeartbeats 4000000 in
theorem q_MC_init (r0 : Nat) (m : gd_M) : gd_call 19 [.ref r0] m = if Nat.ble 8 r0 = true then (if (!decide ((31 : Int32) < 0) && Nat.beq (gd_KD (gN m)) 13 && Nat.beq (gd_LN (gN m)) (31 : Int32).toNatClampNeg && Nat.ble (31 : Int32).toNatClampNeg 100000) = true then (if gd_ok (gN m + 1) r0 7 = true then (if (!decide ((31 : Int32) < 0) && Nat.beq (gd_KD (gN m + 1)) 13 && Nat.beq (gd_LN (gN m + 1)) (31 : Int32).toNatClampNeg && Nat.ble (31 : Int32).toNatClampNeg 100000) = true then (if gd_ok (gN m + 2) r0 7 = true then (if (!decide ((11 : Int32) < 0) && Nat.beq (gd_KD (gN m + 2)) 13 && Nat.beq (gd_LN (gN m + 2)) (11 : Int32).toNatClampNeg && Nat.ble (11 : Int32).toNatClampNeg 100000) = true then (if gd_ok (gN m + 3) r0 7 = true then (if (!decide ((11 : Int32) < 0) && Nat.beq (gd_KD (gN m + 3)) 13 && Nat.beq (gd_LN (gN m + 3)) (11 : Int32).toNatClampNeg && Nat.ble (11 : Int32).toNatClampNeg 100000) = true then (if gd_ok (gN m + 4) r0 7 = true then (if (!decide ((31 : Int32) < 0) && Nat.beq (gd_KD (gN m + 4)) 10 && Nat.beq (gd_LN (gN m + 4)) (31 : Int32).toNatClampNeg && Nat.ble (31 : Int32).toNatClampNeg 100000) = true then (if gd_ok (gN m + 5) r0 7 = true then (if (!decide ((31 : Int32) < 0) && Nat.beq (gd_KD (gN m + 5)) 10 && Nat.beq (gd_LN (gN m + 5)) (31 : Int32).toNatClampNeg && Nat.ble (31 : Int32).toNatClampNeg 100000) = true then (if gd_ok (gN m + 6) r0 7 = true then (if (!decide ((31 : Int32) < 0) && Nat.beq (gd_KD (gN m + 6)) 10 && Nat.beq (gd_LN (gN m + 6)) (31 : Int32).toNatClampNeg && Nat.ble (31 : Int32).toNatClampNeg 100000) = true then (if gd_ok (gN m + 7) r0 7 = true then (if (!decide ((21 : Int32) < 0) && Nat.beq (gd_KD (gN m + 7)) 10 && Nat.beq (gd_LN (gN m + 7)) (21 : Int32).toNatClampNeg && Nat.ble (21 : Int32).toNatClampNeg 100000) = true then (if gd_ok (gN m + 8) r0 7 = true then (if (!decide ((21 : Int32) < 0) && Nat.beq (gd_KD (gN m + 8)) 10 && Nat.beq (gd_LN (gN m + 8)) (21 : Int32).toNatClampNeg && Nat.ble (21 : Int32).toNatClampNeg 100000) = true then (if gd_ok (gN m + 9) r0 7 = true then (if (!decide ((21 : Int32) < 0) && Nat.beq (gd_KD (gN m + 9)) 10 && Nat.beq (gd_LN (gN m + 9)) (21 : Int32).toNatClampNeg && Nat.ble (21 : Int32).toNatClampNeg 100000) = true then (if gd_ok (gN m + 10) r0 7 = true then (if (!decide ((11 : Int32) < 0) && Nat.beq (gd_KD (gN m + 10)) 10 && Nat.beq (gd_LN (gN m + 10)) (11 : Int32).toNatClampNeg && Nat.ble (11 : Int32).toNatClampNeg 100000) = true then (if gd_ok (gN m + 11) r0 7 = true then (if (!decide ((11 : Int32) < 0) && Nat.beq (gd_KD (gN m + 11)) 11 && Nat.beq (gd_LN (gN m + 11)) (11 : Int32).toNatClampNeg && Nat.ble (11 : Int32).toNatClampNeg 100000) = true then (if gd_ok (gN m + 12) r0 7 = true then (if (!decide ((5 : Int32) < 0) && Nat.beq (gd_KD (gN m + 12)) 10 && Nat.beq (gd_LN (gN m + 12)) (5 : Int32).toNatClampNeg && Nat.ble (5 : Int32).toNatClampNeg 100000) = true then (if gd_ok (gN m + 13) r0 7 = true then (if (!decide ((5 : Int32) < 0) && Nat.beq (gd_KD (gN m + 13)) 10 && Nat.beq (gd_LN (gN m + 13)) (5 : Int32).toNatClampNeg && Nat.ble (5 : Int32).toNatClampNeg 100000) = true then (if gd_ok (gN m + 14) r0 7 = true then (if (!decide ((5 : Int32) < 0) && Nat.beq (gd_KD (gN m + 14)) 10 && Nat.beq (gd_LN (gN m + 14)) (5 : Int32).toNatClampNeg && Nat.ble (5 : Int32).toNatClampNeg 100000) = true then (if gd_ok (gN m + 15) r0 7 = true then (some (.null, (wR (gd_al (wR (gd_al (wR (gd_al (wR (gd_al (wR (gd_al (wR (gd_al (wR (gd_al (wR (gd_al (wR (gd_al (wR (gd_al (wR (gd_al (wR (gd_al (wR (gd_al (wR (gd_al (wR (gd_al m (31 : Int32).toNatClampNeg) r0 3 (gN m)) (31 : Int32).toNatClampNeg) r0 4 (gN m + 1)) (11 : Int32).toNatClampNeg) r0 5 (gN m + 2)) (11 : Int32).toNatClampNeg) r0 6 (gN m + 3)) (31 : Int32).toNatClampNeg) r0 7 (gN m + 4)) (31 : Int32).toNatClampNeg) r0 8 (gN m + 5)) (31 : Int32).toNatClampNeg) r0 9 (gN m + 6)) (21 : Int32).toNatClampNeg) r0 10 (gN m + 7)) (21 : Int32).toNatClampNeg) r0 11 (gN m + 8)) (21 : Int32).toNatClampNeg) r0 12 (gN m + 9)) (11 : Int32).toNatClampNeg) r0 13 (gN m + 10)) (11 : Int32).toNatClampNeg) r0 14 (gN m + 11)) (5 : Int32).toNatClampNeg) r0 15 (gN m + 12)) (5 : Int32).toNatClampNeg) r0 16 (gN m + 13)) (5 : Int32).toNatClampNeg) r0 17 (gN m + 14)))) else none) else none) else none) else none) else none) else none) else none) else none) else none) else none) else none) else none) else none) else none) else none) else none) else none) else none) else none) else none) else none) else none) else none) else none) else none) else none) else none) else none) else none) else none) else none := by
  refine Eq.trans (show gd_call 19 [.ref r0] m = gd_Den (19, 0, [.ref r0], [], m) from by unfold gd_call gd_ent; rw [gk_ml19]; rfl) ?_
  refine Eq.trans (D_aload_n (x := r0) gk_f19_0 rfl) ?_
  refine Eq.trans (D_objinit gk_f19_1 gk_oi19) ?_
  refine gd_ite (fun h1 => ?_) (fun _ => rfl)
  refine Eq.trans (D_aload_n (x := r0) gk_f19_4 rfl) ?_
  refine Eq.trans (D_bipush (x := 31) gk_f19_5 gk_b_31) ?_
  refine Eq.trans (D_newa (kd := 13) gk_f19_7 rfl) ?_
  refine gd_ite (fun h3 => ?_) (fun _ => rfl)
  refine Eq.trans (D_pfR gk_f19_9) ?_
  refine gd_ite (fun h4 => ?_) (fun _ => rfl)
  refine Eq.trans (D_aload_n (x := r0) gk_f19_12 rfl) ?_
  refine Eq.trans (D_bipush (x := 31) gk_f19_13 gk_b_31) ?_
  refine Eq.trans (D_newa (kd := 13) gk_f19_15 rfl) ?_
  refine gd_ite (fun h6 => ?_) (fun _ => rfl)
  refine Eq.trans (D_pfR gk_f19_17) ?_
  refine gd_ite (fun h7 => ?_) (fun _ => rfl)
  refine Eq.trans (D_aload_n (x := r0) gk_f19_20 rfl) ?_
  refine Eq.trans (D_bipush (x := 11) gk_f19_21 gk_b_11) ?_
  refine Eq.trans (D_newa (kd := 13) gk_f19_23 rfl) ?_
  refine gd_ite (fun h9 => ?_) (fun _ => rfl)
  refine Eq.trans (D_pfR gk_f19_25) ?_
  refine gd_ite (fun h10 => ?_) (fun _ => rfl)
  refine Eq.trans (D_aload_n (x := r0) gk_f19_28 rfl) ?_
  refine Eq.trans (D_bipush (x := 11) gk_f19_29 gk_b_11) ?_
  refine Eq.trans (D_newa (kd := 13) gk_f19_31 rfl) ?_
  refine gd_ite (fun h12 => ?_) (fun _ => rfl)
  refine Eq.trans (D_pfR gk_f19_33) ?_
  refine gd_ite (fun h13 => ?_) (fun _ => rfl)
  refine Eq.trans (D_aload_n (x := r0) gk_f19_36 rfl) ?_
  refine Eq.trans (D_bipush (x := 31) gk_f19_37 gk_b_31) ?_
  refine Eq.trans (D_newa (kd := 10) gk_f19_39 rfl) ?_
  refine gd_ite (fun h15 => ?_) (fun _ => rfl)
  refine Eq.trans (D_pfR gk_f19_41) ?_
  refine gd_ite (fun h16 => ?_) (fun _ => rfl)
  refine Eq.trans (D_aload_n (x := r0) gk_f19_44 rfl) ?_
  refine Eq.trans (D_bipush (x := 31) gk_f19_45 gk_b_31) ?_
  refine Eq.trans (D_newa (kd := 10) gk_f19_47 rfl) ?_
  refine gd_ite (fun h18 => ?_) (fun _ => rfl)
  refine Eq.trans (D_pfR gk_f19_49) ?_
  refine gd_ite (fun h19 => ?_) (fun _ => rfl)
  refine Eq.trans (D_aload_n (x := r0) gk_f19_52 rfl) ?_
  refine Eq.trans (D_bipush (x := 31) gk_f19_53 gk_b_31) ?_
  refine Eq.trans (D_newa (kd := 10) gk_f19_55 rfl) ?_
  refine gd_ite (fun h21 => ?_) (fun _ => rfl)
  refine Eq.trans (D_pfR gk_f19_57) ?_
  refine gd_ite (fun h22 => ?_) (fun _ => rfl)
  refine Eq.trans (D_aload_n (x := r0) gk_f19_60 rfl) ?_
  refine Eq.trans (D_bipush (x := 21) gk_f19_61 gk_b_21) ?_
  refine Eq.trans (D_newa (kd := 10) gk_f19_63 rfl) ?_
  refine gd_ite (fun h24 => ?_) (fun _ => rfl)
  refine Eq.trans (D_pfR gk_f19_65) ?_
  refine gd_ite (fun h25 => ?_) (fun _ => rfl)
  refine Eq.trans (D_aload_n (x := r0) gk_f19_68 rfl) ?_
  refine Eq.trans (D_bipush (x := 21) gk_f19_69 gk_b_21) ?_
  refine Eq.trans (D_newa (kd := 10) gk_f19_71 rfl) ?_
  refine gd_ite (fun h27 => ?_) (fun _ => rfl)
  refine Eq.trans (D_pfR gk_f19_73) ?_
  refine gd_ite (fun h28 => ?_) (fun _ => rfl)
  refine Eq.trans (D_aload_n (x := r0) gk_f19_76 rfl) ?_
  refine Eq.trans (D_bipush (x := 21) gk_f19_77 gk_b_21) ?_
  refine Eq.trans (D_newa (kd := 10) gk_f19_79 rfl) ?_
  refine gd_ite (fun h30 => ?_) (fun _ => rfl)
  refine Eq.trans (D_pfR gk_f19_81) ?_
  refine gd_ite (fun h31 => ?_) (fun _ => rfl)
  refine Eq.trans (D_aload_n (x := r0) gk_f19_84 rfl) ?_
  refine Eq.trans (D_bipush (x := 11) gk_f19_85 gk_b_11) ?_
  refine Eq.trans (D_newa (kd := 10) gk_f19_87 rfl) ?_
  refine gd_ite (fun h33 => ?_) (fun _ => rfl)
  refine Eq.trans (D_pfR gk_f19_89) ?_
  refine gd_ite (fun h34 => ?_) (fun _ => rfl)
  refine Eq.trans (D_aload_n (x := r0) gk_f19_92 rfl) ?_
  refine Eq.trans (D_bipush (x := 11) gk_f19_93 gk_b_11) ?_
  refine Eq.trans (D_newa (kd := 11) gk_f19_95 rfl) ?_
  refine gd_ite (fun h36 => ?_) (fun _ => rfl)
  refine Eq.trans (D_pfR gk_f19_97) ?_
  refine gd_ite (fun h37 => ?_) (fun _ => rfl)
  refine Eq.trans (D_aload_n (x := r0) gk_f19_100 rfl) ?_
  refine Eq.trans (D_iconst (x := 5) gk_f19_101 gk_c_5) ?_
  refine Eq.trans (D_newa (kd := 10) gk_f19_102 rfl) ?_
  refine gd_ite (fun h39 => ?_) (fun _ => rfl)
  refine Eq.trans (D_pfR gk_f19_104) ?_
  refine gd_ite (fun h40 => ?_) (fun _ => rfl)
  refine Eq.trans (D_aload_n (x := r0) gk_f19_107 rfl) ?_
  refine Eq.trans (D_iconst (x := 5) gk_f19_108 gk_c_5) ?_
  refine Eq.trans (D_newa (kd := 10) gk_f19_109 rfl) ?_
  refine gd_ite (fun h42 => ?_) (fun _ => rfl)
  refine Eq.trans (D_pfR gk_f19_111) ?_
  refine gd_ite (fun h43 => ?_) (fun _ => rfl)
  refine Eq.trans (D_aload_n (x := r0) gk_f19_114 rfl) ?_
  refine Eq.trans (D_iconst (x := 5) gk_f19_115 gk_c_5) ?_
  refine Eq.trans (D_newa (kd := 10) gk_f19_116 rfl) ?_
  refine gd_ite (fun h45 => ?_) (fun _ => rfl)
  refine Eq.trans (D_pfR gk_f19_118) ?_
  refine gd_ite (fun h46 => ?_) (fun _ => rfl)
  refine Eq.trans (D_vreturn gk_f19_121 gk_rk19) ?_
  rfl
/-! GymDeskModel$Code.begin ()V -/
set_option maxRecDepth 20000 in
theorem gk_f20_0 : gd_fetch 20 0 = some (0, .aload_n 0, 1, 0, 0, 0, 0, 0) := rfl
set_option maxRecDepth 20000 in
theorem gk_f20_1 : gd_fetch 20 1 = some (1, .iconst 0, 1, 0, 0, 0, 0, 0) := rfl
set_option maxRecDepth 20000 in
theorem gk_f20_2 : gd_fetch 20 2 = some (2, .putfield 59, 3, 1030, 7, 0, 0, 0) := rfl
set_option maxRecDepth 20000 in
theorem gk_f20_5 : gd_fetch 20 5 = some (5, .aload_n 0, 1, 0, 0, 0, 0, 0) := rfl
set_option maxRecDepth 20000 in
theorem gk_f20_6 : gd_fetch 20 6 = some (6, .iconst 0, 1, 0, 0, 0, 0, 0) := rfl
set_option maxRecDepth 20000 in
theorem gk_f20_7 : gd_fetch 20 7 = some (7, .putfield 63, 3, 1032, 7, 1, 0, 0) := rfl
set_option maxRecDepth 20000 in
theorem gk_f20_10 : gd_fetch 20 10 = some (10, .aload_n 0, 1, 0, 0, 0, 0, 0) := rfl
set_option maxRecDepth 20000 in
theorem gk_f20_11 : gd_fetch 20 11 = some (11, .iconst 0, 1, 0, 0, 0, 0, 0) := rfl
set_option maxRecDepth 20000 in
theorem gk_f20_12 : gd_fetch 20 12 = some (12, .putfield 66, 3, 1034, 7, 2, 0, 0) := rfl
set_option maxRecDepth 20000 in
theorem gk_f20_15 : gd_fetch 20 15 = some (15, .iconst 0, 1, 0, 0, 0, 0, 0) := rfl
set_option maxRecDepth 20000 in
theorem gk_f20_16 : gd_fetch 20 16 = some (16, .istore_n 1, 1, 0, 0, 0, 0, 0) := rfl
set_option maxRecDepth 20000 in
theorem gk_f20_17 : gd_fetch 20 17 = some (17, .iload_n 1, 1, 0, 0, 0, 0, 0) := rfl
set_option maxRecDepth 20000 in
theorem gk_f20_18 : gd_fetch 20 18 = some (18, .iconst 5, 1, 0, 0, 0, 0, 0) := rfl
set_option maxRecDepth 20000 in
theorem gk_f20_19 : gd_fetch 20 19 = some (19, .if_icmp .ge 30, 3, 0, 0, 0, 0, 0) := rfl
set_option maxRecDepth 20000 in
theorem gk_f20_22 : gd_fetch 20 22 = some (22, .aload_n 0, 1, 0, 0, 0, 0, 0) := rfl
set_option maxRecDepth 20000 in
theorem gk_f20_23 : gd_fetch 20 23 = some (23, .getfield 50, 3, 1060, 7, 15, 4, 1) := rfl
set_option maxRecDepth 20000 in
theorem gk_f20_26 : gd_fetch 20 26 = some (26, .iload_n 1, 1, 0, 0, 0, 0, 0) := rfl
set_option maxRecDepth 20000 in
theorem gk_f20_27 : gd_fetch 20 27 = some (27, .iconst 0, 1, 0, 0, 0, 0, 0) := rfl
set_option maxRecDepth 20000 in
theorem gk_f20_28 : gd_fetch 20 28 = some (28, .iastore, 1, 0, 0, 0, 0, 0) := rfl
set_option maxRecDepth 20000 in
theorem gk_f20_29 : gd_fetch 20 29 = some (29, .aload_n 0, 1, 0, 0, 0, 0, 0) := rfl
set_option maxRecDepth 20000 in
theorem gk_f20_30 : gd_fetch 20 30 = some (30, .getfield 53, 3, 1062, 7, 16, 4, 1) := rfl
set_option maxRecDepth 20000 in
theorem gk_f20_33 : gd_fetch 20 33 = some (33, .iload_n 1, 1, 0, 0, 0, 0, 0) := rfl
set_option maxRecDepth 20000 in
theorem gk_f20_34 : gd_fetch 20 34 = some (34, .iconst 0, 1, 0, 0, 0, 0, 0) := rfl
set_option maxRecDepth 20000 in
theorem gk_f20_35 : gd_fetch 20 35 = some (35, .iastore, 1, 0, 0, 0, 0, 0) := rfl
set_option maxRecDepth 20000 in
theorem gk_f20_36 : gd_fetch 20 36 = some (36, .aload_n 0, 1, 0, 0, 0, 0, 0) := rfl
set_option maxRecDepth 20000 in
theorem gk_f20_37 : gd_fetch 20 37 = some (37, .getfield 56, 3, 1064, 7, 17, 4, 1) := rfl
set_option maxRecDepth 20000 in
theorem gk_f20_40 : gd_fetch 20 40 = some (40, .iload_n 1, 1, 0, 0, 0, 0, 0) := rfl
set_option maxRecDepth 20000 in
theorem gk_f20_41 : gd_fetch 20 41 = some (41, .iconst (-1), 1, 0, 0, 0, 0, 0) := rfl
set_option maxRecDepth 20000 in
theorem gk_f20_42 : gd_fetch 20 42 = some (42, .iastore, 1, 0, 0, 0, 0, 0) := rfl
set_option maxRecDepth 20000 in
theorem gk_f20_43 : gd_fetch 20 43 = some (43, .iinc 1 1, 3, 0, 0, 0, 0, 0) := rfl
set_option maxRecDepth 20000 in
theorem gk_f20_46 : gd_fetch 20 46 = some (46, .goto (-29), 3, 0, 0, 0, 0, 0) := rfl
set_option maxRecDepth 20000 in
theorem gk_f20_49 : gd_fetch 20 49 = some (49, .aload_n 0, 1, 0, 0, 0, 0, 0) := rfl
set_option maxRecDepth 20000 in
theorem gk_f20_50 : gd_fetch 20 50 = some (50, .bipush 8, 2, 0, 0, 0, 0, 0) := rfl
set_option maxRecDepth 20000 in
theorem gk_f20_52 : gd_fetch 20 52 = some (52, .putfield 69, 3, 1066, 7, 18, 0, 0) := rfl
set_option maxRecDepth 20000 in
theorem gk_f20_55 : gd_fetch 20 55 = some (55, .aload_n 0, 1, 0, 0, 0, 0, 0) := rfl
set_option maxRecDepth 20000 in
theorem gk_f20_56 : gd_fetch 20 56 = some (56, .iconst 0, 1, 0, 0, 0, 0, 0) := rfl
set_option maxRecDepth 20000 in
theorem gk_f20_57 : gd_fetch 20 57 = some (57, .putfield 72, 3, 1068, 7, 19, 0, 0) := rfl
set_option maxRecDepth 20000 in
theorem gk_f20_60 : gd_fetch 20 60 = some (60, .aload_n 0, 1, 0, 0, 0, 0, 0) := rfl
set_option maxRecDepth 20000 in
theorem gk_f20_61 : gd_fetch 20 61 = some (61, .iconst 0, 1, 0, 0, 0, 0, 0) := rfl
set_option maxRecDepth 20000 in
theorem gk_f20_62 : gd_fetch 20 62 = some (62, .putfield 75, 3, 1070, 7, 20, 0, 0) := rfl
set_option maxRecDepth 20000 in
theorem gk_f20_65 : gd_fetch 20 65 = some (65, .aload_n 0, 1, 0, 0, 0, 0, 0) := rfl
set_option maxRecDepth 20000 in
theorem gk_f20_66 : gd_fetch 20 66 = some (66, .iconst 4, 1, 0, 0, 0, 0, 0) := rfl
set_option maxRecDepth 20000 in
theorem gk_f20_67 : gd_fetch 20 67 = some (67, .putfield 78, 3, 1072, 7, 21, 0, 0) := rfl
set_option maxRecDepth 20000 in
theorem gk_f20_70 : gd_fetch 20 70 = some (70, .aload_n 0, 1, 0, 0, 0, 0, 0) := rfl
set_option maxRecDepth 20000 in
theorem gk_f20_71 : gd_fetch 20 71 = some (71, .iconst 3, 1, 0, 0, 0, 0, 0) := rfl
set_option maxRecDepth 20000 in
theorem gk_f20_72 : gd_fetch 20 72 = some (72, .putfield 81, 3, 1074, 7, 22, 0, 0) := rfl
set_option maxRecDepth 20000 in
theorem gk_f20_75 : gd_fetch 20 75 = some (75, .aload_n 0, 1, 0, 0, 0, 0, 0) := rfl
set_option maxRecDepth 20000 in
theorem gk_f20_76 : gd_fetch 20 76 = some (76, .iconst 4, 1, 0, 0, 0, 0, 0) := rfl
set_option maxRecDepth 20000 in
theorem gk_f20_77 : gd_fetch 20 77 = some (77, .putfield 84, 3, 1076, 7, 23, 0, 0) := rfl
set_option maxRecDepth 20000 in
theorem gk_f20_80 : gd_fetch 20 80 = some (80, .aload_n 0, 1, 0, 0, 0, 0, 0) := rfl
set_option maxRecDepth 20000 in
theorem gk_f20_81 : gd_fetch 20 81 = some (81, .iconst 3, 1, 0, 0, 0, 0, 0) := rfl
set_option maxRecDepth 20000 in
theorem gk_f20_82 : gd_fetch 20 82 = some (82, .putfield 87, 3, 1078, 7, 24, 0, 0) := rfl
set_option maxRecDepth 20000 in
theorem gk_f20_85 : gd_fetch 20 85 = some (85, .aload_n 0, 1, 0, 0, 0, 0, 0) := rfl
set_option maxRecDepth 20000 in
theorem gk_f20_86 : gd_fetch 20 86 = some (86, .bipush 8, 2, 0, 0, 0, 0, 0) := rfl
set_option maxRecDepth 20000 in
theorem gk_f20_88 : gd_fetch 20 88 = some (88, .putfield 90, 3, 1080, 7, 25, 0, 0) := rfl
set_option maxRecDepth 20000 in
theorem gk_f20_91 : gd_fetch 20 91 = some (91, .aload_n 0, 1, 0, 0, 0, 0, 0) := rfl
set_option maxRecDepth 20000 in
theorem gk_f20_92 : gd_fetch 20 92 = some (92, .iconst 2, 1, 0, 0, 0, 0, 0) := rfl
set_option maxRecDepth 20000 in
theorem gk_f20_93 : gd_fetch 20 93 = some (93, .putfield 93, 3, 1082, 7, 26, 0, 0) := rfl
set_option maxRecDepth 20000 in
theorem gk_f20_96 : gd_fetch 20 96 = some (96, .aload_n 0, 1, 0, 0, 0, 0, 0) := rfl
set_option maxRecDepth 20000 in
theorem gk_f20_97 : gd_fetch 20 97 = some (97, .iconst 0, 1, 0, 0, 0, 0, 0) := rfl
set_option maxRecDepth 20000 in
theorem gk_f20_98 : gd_fetch 20 98 = some (98, .putfield 96, 3, 1084, 7, 27, 1, 0) := rfl
set_option maxRecDepth 20000 in
theorem gk_f20_101 : gd_fetch 20 101 = some (101, .aload_n 0, 1, 0, 0, 0, 0, 0) := rfl
set_option maxRecDepth 20000 in
theorem gk_f20_102 : gd_fetch 20 102 = some (102, .iconst 0, 1, 0, 0, 0, 0, 0) := rfl
set_option maxRecDepth 20000 in
theorem gk_f20_103 : gd_fetch 20 103 = some (103, .putfield 100, 3, 1086, 7, 28, 1, 0) := rfl
set_option maxRecDepth 20000 in
theorem gk_f20_106 : gd_fetch 20 106 = some (106, .aload_n 0, 1, 0, 0, 0, 0, 0) := rfl
set_option maxRecDepth 20000 in
theorem gk_f20_107 : gd_fetch 20 107 = some (107, .iconst 0, 1, 0, 0, 0, 0, 0) := rfl
set_option maxRecDepth 20000 in
theorem gk_f20_108 : gd_fetch 20 108 = some (108, .putfield 103, 3, 1088, 7, 29, 1, 0) := rfl
set_option maxRecDepth 20000 in
theorem gk_f20_111 : gd_fetch 20 111 = some (111, .aload_n 0, 1, 0, 0, 0, 0, 0) := rfl
set_option maxRecDepth 20000 in
theorem gk_f20_112 : gd_fetch 20 112 = some (112, .iconst 0, 1, 0, 0, 0, 0, 0) := rfl
set_option maxRecDepth 20000 in
theorem gk_f20_113 : gd_fetch 20 113 = some (113, .putfield 106, 3, 1090, 7, 30, 1, 0) := rfl
set_option maxRecDepth 20000 in
theorem gk_f20_116 : gd_fetch 20 116 = some (116, .aload_n 0, 1, 0, 0, 0, 0, 0) := rfl
set_option maxRecDepth 20000 in
theorem gk_f20_117 : gd_fetch 20 117 = some (117, .iconst 0, 1, 0, 0, 0, 0, 0) := rfl
set_option maxRecDepth 20000 in
theorem gk_f20_118 : gd_fetch 20 118 = some (118, .putfield 109, 3, 1092, 7, 31, 1, 0) := rfl
set_option maxRecDepth 20000 in
theorem gk_f20_121 : gd_fetch 20 121 = some (121, .return_, 1, 0, 0, 0, 0, 0) := rfl
set_option maxRecDepth 20000 in
set_option maxHeartbeats 4000000 in
theorem q_MC_begin (r0 : Nat) (m : gd_M) : gd_call 20 [.ref r0] m = if gd_ok (gN m) r0 7 = true then (gd_Den (20, 17, [.ref r0, .int 0], [], (wI (wI (wI m r0 0 0) r0 1 0) r0 2 0))) else none := by
  refine Eq.trans (show gd_call 20 [.ref r0] m = gd_Den (20, 0, [.ref r0, .null], [], m) from by unfold gd_call gd_ent; rw [gk_ml20]; rfl) ?_
  refine Eq.trans (D_aload_n (x := r0) gk_f20_0 rfl) ?_
  refine Eq.trans (D_iconst (x := 0) gk_f20_1 gk_c_0) ?_
  refine Eq.trans (D_pfI gk_f20_2) ?_
  refine gd_ite (fun h1 => ?_) (fun _ => rfl)
  refine Eq.trans (D_aload_n (x := r0) gk_f20_5 rfl) ?_
  refine Eq.trans (D_iconst (x := 0) gk_f20_6 gk_c_0) ?_
  refine Eq.trans (D_pfI gk_f20_7) ?_
  refine Eq.trans (if_pos h1) ?_
  refine Eq.trans (D_aload_n (x := r0) gk_f20_10 rfl) ?_
  refine Eq.trans (D_iconst (x := 0) gk_f20_11 gk_c_0) ?_
  refine Eq.trans (D_pfI gk_f20_12) ?_
  refine Eq.trans (if_pos h1) ?_
  refine Eq.trans (D_iconst (x := 0) gk_f20_15 gk_c_0) ?_
  refine Eq.trans (D_istore_n gk_f20_16 gk_st20_1) ?_
  rfl
set_option maxRecDepth 20000 in
set_option maxHeartbeats 4000000 in
theorem q_MC_begin_17 (r0 : Nat) (x1 : Int32) (m : gd_M) : gd_Den (20, 17, [.ref r0, .int x1], [], m) = if (x1 < 5 : Prop) then (if gd_ok (gN m) r0 7 = true then (if gd_okA (gN m) (gR m r0 15) 10 x1 = true then (if gd_okA (gN m) (gR m r0 16) 10 x1 = true then (if gd_okA (gN m) (gR m r0 17) 10 x1 = true then (gd_Den (20, 17, [.ref r0, .int (x1 + 1)], [], (wI (wI (wI m (gR m r0 15) (x1 : Int32).toNatClampNeg 0) (gR m r0 16) (x1 : Int32).toNatClampNeg 0) (gR m r0 17) (x1 : Int32).toNatClampNeg (-1)))) else none) else none) else none) else none) else (if gd_ok (gN m) r0 7 = true then (some (.null, (wI (wI (wI (wI (wI (wI (wI (wI (wI (wI (wI (wI (wI (wI m r0 18 8) r0 19 0) r0 20 0) r0 21 4) r0 22 3) r0 23 4) r0 24 3) r0 25 8) r0 26 2) r0 27 0) r0 28 0) r0 29 0) r0 30 0) r0 31 0))) else none) := by
  refine Eq.trans (D_iload_n (x := x1) gk_f20_17 rfl) ?_
  refine Eq.trans (D_iconst (x := 5) gk_f20_18 gk_c_5) ?_
  refine Eq.trans (D_ic_ge (t := 49) gk_f20_19 (by decide)) ?_
  refine gd_ite (fun h1 => ?_) (fun h2 => ?_)
  · refine Eq.trans (D_aload_n (x := r0) gk_f20_22 rfl) ?_
    refine Eq.trans (D_gfR gk_f20_23 (by decide)) ?_
    refine gd_ite (fun h3 => ?_) (fun _ => rfl)
    refine Eq.trans (D_iload_n (x := x1) gk_f20_26 rfl) ?_
    refine Eq.trans (D_iconst (x := 0) gk_f20_27 gk_c_0) ?_
    refine Eq.trans (D_iast gk_f20_28) ?_
    refine gd_ite (fun h4 => ?_) (fun _ => rfl)
    refine Eq.trans (D_aload_n (x := r0) gk_f20_29 rfl) ?_
    refine Eq.trans (D_gfR gk_f20_30 (by decide)) ?_
    refine Eq.trans (if_pos h3) ?_
    refine Eq.trans (D_iload_n (x := x1) gk_f20_33 rfl) ?_
    refine Eq.trans (D_iconst (x := 0) gk_f20_34 gk_c_0) ?_
    refine Eq.trans (D_iast gk_f20_35) ?_
    refine gd_ite (fun h5 => ?_) (fun _ => rfl)
    refine Eq.trans (D_aload_n (x := r0) gk_f20_36 rfl) ?_
    refine Eq.trans (D_gfR gk_f20_37 (by decide)) ?_
    refine Eq.trans (if_pos h3) ?_
    refine Eq.trans (D_iload_n (x := x1) gk_f20_40 rfl) ?_
    refine Eq.trans (D_iconst (x := (-1)) gk_f20_41 gk_c_m1) ?_
    refine Eq.trans (D_iast gk_f20_42) ?_
    refine gd_ite (fun h6 => ?_) (fun _ => rfl)
    refine Eq.trans (D_iinc (x := x1) (y := 1) gk_f20_43 rfl gk_c_1 gk_st20_1) ?_
    refine Eq.trans (D_goto (t := 17) gk_f20_46 (by decide)) ?_
    rfl
  · refine Eq.trans (D_aload_n (x := r0) gk_f20_49 rfl) ?_
    refine Eq.trans (D_bipush (x := 8) gk_f20_50 gk_b_8) ?_
    refine Eq.trans (D_pfI gk_f20_52) ?_
    refine gd_ite (fun h7 => ?_) (fun _ => rfl)
    refine Eq.trans (D_aload_n (x := r0) gk_f20_55 rfl) ?_
    refine Eq.trans (D_iconst (x := 0) gk_f20_56 gk_c_0) ?_
    refine Eq.trans (D_pfI gk_f20_57) ?_
    refine Eq.trans (if_pos h7) ?_
    refine Eq.trans (D_aload_n (x := r0) gk_f20_60 rfl) ?_
    refine Eq.trans (D_iconst (x := 0) gk_f20_61 gk_c_0) ?_
    refine Eq.trans (D_pfI gk_f20_62) ?_
    refine Eq.trans (if_pos h7) ?_
    refine Eq.trans (D_aload_n (x := r0) gk_f20_65 rfl) ?_
    refine Eq.trans (D_iconst (x := 4) gk_f20_66 gk_c_4) ?_
    refine Eq.trans (D_pfI gk_f20_67) ?_
    refine Eq.trans (if_pos h7) ?_
    refine Eq.trans (D_aload_n (x := r0) gk_f20_70 rfl) ?_
    refine Eq.trans (D_iconst (x := 3) gk_f20_71 gk_c_3) ?_
    refine Eq.trans (D_pfI gk_f20_72) ?_
    refine Eq.trans (if_pos h7) ?_
    refine Eq.trans (D_aload_n (x := r0) gk_f20_75 rfl) ?_
    refine Eq.trans (D_iconst (x := 4) gk_f20_76 gk_c_4) ?_
    refine Eq.trans (D_pfI gk_f20_77) ?_
    refine Eq.trans (if_pos h7) ?_
    refine Eq.trans (D_aload_n (x := r0) gk_f20_80 rfl) ?_
    refine Eq.trans (D_iconst (x := 3) gk_f20_81 gk_c_3) ?_
    refine Eq.trans (D_pfI gk_f20_82) ?_
    refine Eq.trans (if_pos h7) ?_
    refine Eq.trans (D_aload_n (x := r0) gk_f20_85 rfl) ?_
    refine Eq.trans (D_bipush (x := 8) gk_f20_86 gk_b_8) ?_
    refine Eq.trans (D_pfI gk_f20_88) ?_
    refine Eq.trans (if_pos h7) ?_
    refine Eq.trans (D_aload_n (x := r0) gk_f20_91 rfl) ?_
    refine Eq.trans (D_iconst (x := 2) gk_f20_92 gk_c_2) ?_
    refine Eq.trans (D_pfI gk_f20_93) ?_
    refine Eq.trans (if_pos h7) ?_
    refine Eq.trans (D_aload_n (x := r0) gk_f20_96 rfl) ?_
    refine Eq.trans (D_iconst (x := 0) gk_f20_97 gk_c_0) ?_
    refine Eq.trans (D_pfZ gk_f20_98) ?_
    refine Eq.trans (if_pos h7) ?_
    refine Eq.trans (if_pos rfl) ?_
    refine Eq.trans (D_aload_n (x := r0) gk_f20_101 rfl) ?_
    refine Eq.trans (D_iconst (x := 0) gk_f20_102 gk_c_0) ?_
    refine Eq.trans (D_pfZ gk_f20_103) ?_
    refine Eq.trans (if_pos h7) ?_
    refine Eq.trans (if_pos rfl) ?_
    refine Eq.trans (D_aload_n (x := r0) gk_f20_106 rfl) ?_
    refine Eq.trans (D_iconst (x := 0) gk_f20_107 gk_c_0) ?_
    refine Eq.trans (D_pfZ gk_f20_108) ?_
    refine Eq.trans (if_pos h7) ?_
    refine Eq.trans (if_pos rfl) ?_
    refine Eq.trans (D_aload_n (x := r0) gk_f20_111 rfl) ?_
    refine Eq.trans (D_iconst (x := 0) gk_f20_112 gk_c_0) ?_
    refine Eq.trans (D_pfZ gk_f20_113) ?_
    refine Eq.trans (if_pos h7) ?_
    refine Eq.trans (if_pos rfl) ?_
    refine Eq.trans (D_aload_n (x := r0) gk_f20_116 rfl) ?_
    refine Eq.trans (D_iconst (x := 0) gk_f20_117 gk_c_0) ?_
    refine Eq.trans (D_pfZ gk_f20_118) ?_
    refine Eq.trans (if_pos h7) ?_
    refine Eq.trans (if_pos rfl) ?_
    refine Eq.trans (D_vreturn gk_f20_121 gk_rk20) ?_
    rfl
/-! GymDeskModel.<init> ()V -/
set_option maxRecDepth 20000 in
theorem gk_f21_0 : gd_fetch 21 0 = some (0, .aload_n 0, 1, 0, 0, 0, 0, 0) := rfl
set_option maxRecDepth 20000 in
theorem gk_f21_1 : gd_fetch 21 1 = some (1, .invokespecial 1, 3, 959, 0, 0, 2, 0) := rfl
set_option maxRecDepth 20000 in
theorem gk_f21_4 : gd_fetch 21 4 = some (4, .aload_n 0, 1, 0, 0, 0, 0, 0) := rfl
set_option maxRecDepth 20000 in
theorem gk_f21_5 : gd_fetch 21 5 = some (5, .new 7, 3, 960, 8, 6, 961, 0) := rfl
set_option maxRecDepth 20000 in
theorem gk_f21_8 : gd_fetch 21 8 = some (8, .dup, 1, 0, 0, 0, 0, 0) := rfl
set_option maxRecDepth 20000 in
theorem gk_f21_9 : gd_fetch 21 9 = some (9, .invokespecial 9, 3, 999, 18, 0, 0, 0) := rfl
set_option maxRecDepth 20000 in
theorem gk_f21_12 : gd_fetch 21 12 = some (12, .putfield 10, 3, 1163, 9, 0, 4, 1) := rfl
set_option maxRecDepth 20000 in
theorem gk_f21_15 : gd_fetch 21 15 = some (15, .aload_n 0, 1, 0, 0, 0, 0, 0) := rfl
set_option maxRecDepth 20000 in
theorem gk_f21_16 : gd_fetch 21 16 = some (16, .new 16, 3, 1024, 7, 32, 1025, 0) := rfl
set_option maxRecDepth 20000 in
theorem gk_f21_19 : gd_fetch 21 19 = some (19, .dup, 1, 0, 0, 0, 0, 0) := rfl
set_option maxRecDepth 20000 in
theorem gk_f21_20 : gd_fetch 21 20 = some (20, .invokespecial 18, 3, 1026, 19, 0, 1, 0) := rfl
set_option maxRecDepth 20000 in
theorem gk_f21_23 : gd_fetch 21 23 = some (23, .putfield 19, 3, 1164, 9, 1, 4, 0) := rfl
set_option maxRecDepth 20000 in
theorem gk_f21_26 : gd_fetch 21 26 = some (26, .aload_n 0, 1, 0, 0, 0, 0, 0) := rfl
set_option maxRecDepth 20000 in
theorem gk_f21_27 : gd_fetch 21 27 = some (27, .new 16, 3, 1024, 7, 32, 1025, 0) := rfl
set_option maxRecDepth 20000 in
theorem gk_f21_30 : gd_fetch 21 30 = some (30, .dup, 1, 0, 0, 0, 0, 0) := rfl
set_option maxRecDepth 20000 in
theorem gk_f21_31 : gd_fetch 21 31 = some (31, .invokespecial 18, 3, 1026, 19, 0, 1, 0) := rfl
set_option maxRecDepth 20000 in
theorem gk_f21_34 : gd_fetch 21 34 = some (34, .putfield 23, 3, 1165, 9, 2, 4, 0) := rfl
set_option maxRecDepth 20000 in
theorem gk_f21_37 : gd_fetch 21 37 = some (37, .aload_n 0, 1, 0, 0, 0, 0, 0) := rfl
set_option maxRecDepth 20000 in
theorem gk_f21_38 : gd_fetch 21 38 = some (38, .sipush 3000, 3, 0, 0, 0, 0, 0) := rfl
set_option maxRecDepth 20000 in
theorem gk_f21_41 : gd_fetch 21 41 = some (41, .newarray .byte, 2, 210, 0, 0, 0, 0) := rfl
set_option maxRecDepth 20000 in
theorem gk_f21_43 : gd_fetch 21 43 = some (43, .putfield 26, 3, 1166, 9, 3, 4, 1) := rfl
set_option maxRecDepth 20000 in
theorem gk_f21_46 : gd_fetch 21 46 = some (46, .aload_n 0, 1, 0, 0, 0, 0, 0) := rfl
set_option maxRecDepth 20000 in
theorem gk_f21_47 : gd_fetch 21 47 = some (47, .iconst (-1), 1, 0, 0, 0, 0, 0) := rfl
set_option maxRecDepth 20000 in
theorem gk_f21_48 : gd_fetch 21 48 = some (48, .putfield 30, 3, 1178, 9, 15, 0, 0) := rfl
set_option maxRecDepth 20000 in
theorem gk_f21_51 : gd_fetch 21 51 = some (51, .aload_n 0, 1, 0, 0, 0, 0, 0) := rfl
set_option maxRecDepth 20000 in
theorem gk_f21_52 : gd_fetch 21 52 = some (52, .iconst 5, 1, 0, 0, 0, 0, 0) := rfl
set_option maxRecDepth 20000 in
theorem gk_f21_53 : gd_fetch 21 53 = some (53, .newarray .boolean, 2, 393, 0, 0, 0, 0) := rfl
set_option maxRecDepth 20000 in
theorem gk_f21_55 : gd_fetch 21 55 = some (55, .putfield 34, 3, 1179, 9, 16, 4, 1) := rfl
set_option maxRecDepth 20000 in
theorem gk_f21_58 : gd_fetch 21 58 = some (58, .aload_n 0, 1, 0, 0, 0, 0, 0) := rfl
set_option maxRecDepth 20000 in
theorem gk_f21_59 : gd_fetch 21 59 = some (59, .iconst 5, 1, 0, 0, 0, 0, 0) := rfl
set_option maxRecDepth 20000 in
theorem gk_f21_60 : gd_fetch 21 60 = some (60, .newarray .boolean, 2, 393, 0, 0, 0, 0) := rfl
set_option maxRecDepth 20000 in
theorem gk_f21_62 : gd_fetch 21 62 = some (62, .putfield 38, 3, 1180, 9, 17, 4, 1) := rfl
set_option maxRecDepth 20000 in
theorem gk_f21_65 : gd_fetch 21 65 = some (65, .aload_n 0, 1, 0, 0, 0, 0, 0) := rfl
set_option maxRecDepth 20000 in
theorem gk_f21_66 : gd_fetch 21 66 = some (66, .bipush 40, 2, 0, 0, 0, 0, 0) := rfl
set_option maxRecDepth 20000 in
theorem gk_f21_68 : gd_fetch 21 68 = some (68, .newarray .int, 2, 269, 0, 0, 0, 0) := rfl
set_option maxRecDepth 20000 in
theorem gk_f21_70 : gd_fetch 21 70 = some (70, .putfield 41, 3, 1183, 9, 20, 4, 1) := rfl
set_option maxRecDepth 20000 in
theorem gk_f21_73 : gd_fetch 21 73 = some (73, .aload_n 0, 1, 0, 0, 0, 0, 0) := rfl
set_option maxRecDepth 20000 in
theorem gk_f21_74 : gd_fetch 21 74 = some (74, .bipush 10, 2, 0, 0, 0, 0, 0) := rfl
set_option maxRecDepth 20000 in
theorem gk_f21_76 : gd_fetch 21 76 = some (76, .newarray .int, 2, 269, 0, 0, 0, 0) := rfl
set_option maxRecDepth 20000 in
theorem gk_f21_78 : gd_fetch 21 78 = some (78, .putfield 45, 3, 1184, 9, 21, 4, 1) := rfl
set_option maxRecDepth 20000 in
theorem gk_f21_81 : gd_fetch 21 81 = some (81, .aload_n 0, 1, 0, 0, 0, 0, 0) := rfl
set_option maxRecDepth 20000 in
theorem gk_f21_82 : gd_fetch 21 82 = some (82, .sipush 200, 3, 0, 0, 0, 0, 0) := rfl
set_option maxRecDepth 20000 in
theorem gk_f21_85 : gd_fetch 21 85 = some (85, .newarray .boolean, 2, 393, 0, 0, 0, 0) := rfl
set_option maxRecDepth 20000 in
theorem gk_f21_87 : gd_fetch 21 87 = some (87, .putfield 48, 3, 1185, 9, 22, 4, 1) := rfl
set_option maxRecDepth 20000 in
theorem gk_f21_90 : gd_fetch 21 90 = some (90, .aload_n 0, 1, 0, 0, 0, 0, 0) := rfl
set_option maxRecDepth 20000 in
theorem gk_f21_91 : gd_fetch 21 91 = some (91, .sipush 160, 3, 0, 0, 0, 0, 0) := rfl
set_option maxRecDepth 20000 in
theorem gk_f21_94 : gd_fetch 21 94 = some (94, .newarray .boolean, 2, 393, 0, 0, 0, 0) := rfl
set_option maxRecDepth 20000 in
theorem gk_f21_96 : gd_fetch 21 96 = some (96, .putfield 51, 3, 1186, 9, 23, 4, 1) := rfl
set_option maxRecDepth 20000 in
theorem gk_f21_99 : gd_fetch 21 99 = some (99, .aload_n 0, 1, 0, 0, 0, 0, 0) := rfl
set_option maxRecDepth 20000 in
theorem gk_f21_100 : gd_fetch 21 100 = some (100, .sipush 160, 3, 0, 0, 0, 0, 0) := rfl
set_option maxRecDepth 20000 in
theorem gk_f21_103 : gd_fetch 21 103 = some (103, .newarray .int, 2, 269, 0, 0, 0, 0) := rfl
set_option maxRecDepth 20000 in
theorem gk_f21_105 : gd_fetch 21 105 = some (105, .putfield 54, 3, 1187, 9, 24, 4, 1) := rfl
set_option maxRecDepth 20000 in
theorem gk_f21_108 : gd_fetch 21 108 = some (108, .aload_n 0, 1, 0, 0, 0, 0, 0) := rfl
set_option maxRecDepth 20000 in
theorem gk_f21_109 : gd_fetch 21 109 = some (109, .sipush 2560, 3, 0, 0, 0, 0, 0) := rfl
set_option maxRecDepth 20000 in
theorem gk_f21_112 : gd_fetch 21 112 = some (112, .newarray .int, 2, 269, 0, 0, 0, 0) := rfl
set_option maxRecDepth 20000 in
theorem gk_f21_114 : gd_fetch 21 114 = some (114, .putfield 57, 3, 1188, 9, 25, 4, 1) := rfl
set_option maxRecDepth 20000 in
theorem gk_f21_117 : gd_fetch 21 117 = some (117, .aload_n 0, 1, 0, 0, 0, 0, 0) := rfl
set_option maxRecDepth 20000 in
theorem gk_f21_118 : gd_fetch 21 118 = some (118, .sipush 960, 3, 0, 0, 0, 0, 0) := rfl
set_option maxRecDepth 20000 in
theorem gk_f21_121 : gd_fetch 21 121 = some (121, .newarray .int, 2, 269, 0, 0, 0, 0) := rfl
set_option maxRecDepth 20000 in
theorem gk_f21_123 : gd_fetch 21 123 = some (123, .putfield 60, 3, 1189, 9, 26, 4, 1) := rfl
set_option maxRecDepth 20000 in
theorem gk_f21_126 : gd_fetch 21 126 = some (126, .aload_n 0, 1, 0, 0, 0, 0, 0) := rfl
set_option maxRecDepth 20000 in
theorem gk_f21_127 : gd_fetch 21 127 = some (127, .sipush 160, 3, 0, 0, 0, 0, 0) := rfl
set_option maxRecDepth 20000 in
theorem gk_f21_130 : gd_fetch 21 130 = some (130, .newarray .int, 2, 269, 0, 0, 0, 0) := rfl
set_option maxRecDepth 20000 in
theorem gk_f21_132 : gd_fetch 21 132 = some (132, .putfield 63, 3, 1190, 9, 27, 4, 1) := rfl
set_option maxRecDepth 20000 in
theorem gk_f21_135 : gd_fetch 21 135 = some (135, .aload_n 0, 1, 0, 0, 0, 0, 0) := rfl
set_option maxRecDepth 20000 in
theorem gk_f21_136 : gd_fetch 21 136 = some (136, .sipush 160, 3, 0, 0, 0, 0, 0) := rfl
set_option maxRecDepth 20000 in
theorem gk_f21_139 : gd_fetch 21 139 = some (139, .newarray .int, 2, 269, 0, 0, 0, 0) := rfl
set_option maxRecDepth 20000 in
theorem gk_f21_141 : gd_fetch 21 141 = some (141, .putfield 66, 3, 1191, 9, 28, 4, 1) := rfl
set_option maxRecDepth 20000 in
theorem gk_f21_144 : gd_fetch 21 144 = some (144, .aload_n 0, 1, 0, 0, 0, 0, 0) := rfl
set_option maxRecDepth 20000 in
theorem gk_f21_145 : gd_fetch 21 145 = some (145, .sipush 25600, 3, 0, 0, 0, 0, 0) := rfl
set_option maxRecDepth 20000 in
theorem gk_f21_148 : gd_fetch 21 148 = some (148, .newarray .boolean, 2, 393, 0, 0, 0, 0) := rfl
set_option maxRecDepth 20000 in
theorem gk_f21_150 : gd_fetch 21 150 = some (150, .putfield 69, 3, 1192, 9, 29, 4, 1) := rfl
set_option maxRecDepth 20000 in
theorem gk_f21_153 : gd_fetch 21 153 = some (153, .aload_n 0, 1, 0, 0, 0, 0, 0) := rfl
set_option maxRecDepth 20000 in
theorem gk_f21_154 : gd_fetch 21 154 = some (154, .sipush 160, 3, 0, 0, 0, 0, 0) := rfl
set_option maxRecDepth 20000 in
theorem gk_f21_157 : gd_fetch 21 157 = some (157, .newarray .int, 2, 269, 0, 0, 0, 0) := rfl
set_option maxRecDepth 20000 in
theorem gk_f21_159 : gd_fetch 21 159 = some (159, .putfield 72, 3, 1193, 9, 30, 4, 1) := rfl
set_option maxRecDepth 20000 in
theorem gk_f21_162 : gd_fetch 21 162 = some (162, .aload_n 0, 1, 0, 0, 0, 0, 0) := rfl
set_option maxRecDepth 20000 in
theorem gk_f21_163 : gd_fetch 21 163 = some (163, .sipush 160, 3, 0, 0, 0, 0, 0) := rfl
set_option maxRecDepth 20000 in
theorem gk_f21_166 : gd_fetch 21 166 = some (166, .newarray .int, 2, 269, 0, 0, 0, 0) := rfl
set_option maxRecDepth 20000 in
theorem gk_f21_168 : gd_fetch 21 168 = some (168, .putfield 75, 3, 1194, 9, 31, 4, 1) := rfl
set_option maxRecDepth 20000 in
theorem gk_f21_171 : gd_fetch 21 171 = some (171, .aload_n 0, 1, 0, 0, 0, 0, 0) := rfl
set_option maxRecDepth 20000 in
theorem gk_f21_172 : gd_fetch 21 172 = some (172, .sipush 160, 3, 0, 0, 0, 0, 0) := rfl
set_option maxRecDepth 20000 in
theorem gk_f21_175 : gd_fetch 21 175 = some (175, .newarray .int, 2, 269, 0, 0, 0, 0) := rfl
set_option maxRecDepth 20000 in
theorem gk_f21_177 : gd_fetch 21 177 = some (177, .putfield 78, 3, 1195, 9, 32, 4, 1) := rfl
set_option maxRecDepth 20000 in
theorem gk_f21_180 : gd_fetch 21 180 = some (180, .aload_n 0, 1, 0, 0, 0, 0, 0) := rfl
set_option maxRecDepth 20000 in
theorem gk_f21_181 : gd_fetch 21 181 = some (181, .sipush 160, 3, 0, 0, 0, 0, 0) := rfl
set_option maxRecDepth 20000 in
theorem gk_f21_184 : gd_fetch 21 184 = some (184, .newarray .int, 2, 269, 0, 0, 0, 0) := rfl
set_option maxRecDepth 20000 in
theorem gk_f21_186 : gd_fetch 21 186 = some (186, .putfield 81, 3, 1196, 9, 33, 4, 1) := rfl
set_option maxRecDepth 20000 in
theorem gk_f21_189 : gd_fetch 21 189 = some (189, .aload_n 0, 1, 0, 0, 0, 0, 0) := rfl
set_option maxRecDepth 20000 in
theorem gk_f21_190 : gd_fetch 21 190 = some (190, .sipush 160, 3, 0, 0, 0, 0, 0) := rfl
set_option maxRecDepth 20000 in
theorem gk_f21_193 : gd_fetch 21 193 = some (193, .newarray .boolean, 2, 393, 0, 0, 0, 0) := rfl
set_option maxRecDepth 20000 in
theorem gk_f21_195 : gd_fetch 21 195 = some (195, .putfield 84, 3, 1197, 9, 34, 4, 1) := rfl
set_option maxRecDepth 20000 in
theorem gk_f21_198 : gd_fetch 21 198 = some (198, .aload_n 0, 1, 0, 0, 0, 0, 0) := rfl
set_option maxRecDepth 20000 in
theorem gk_f21_199 : gd_fetch 21 199 = some (199, .iconst 5, 1, 0, 0, 0, 0, 0) := rfl
set_option maxRecDepth 20000 in
theorem gk_f21_200 : gd_fetch 21 200 = some (200, .newarray .int, 2, 269, 0, 0, 0, 0) := rfl
set_option maxRecDepth 20000 in
theorem gk_f21_202 : gd_fetch 21 202 = some (202, .putfield 87, 3, 1198, 9, 35, 4, 1) := rfl
set_option maxRecDepth 20000 in
theorem gk_f21_205 : gd_fetch 21 205 = some (205, .aload_n 0, 1, 0, 0, 0, 0, 0) := rfl
set_option maxRecDepth 20000 in
theorem gk_f21_206 : gd_fetch 21 206 = some (206, .bipush 40, 2, 0, 0, 0, 0, 0) := rfl
set_option maxRecDepth 20000 in
theorem gk_f21_208 : gd_fetch 21 208 = some (208, .newarray .int, 2, 269, 0, 0, 0, 0) := rfl
set_option maxRecDepth 20000 in
theorem gk_f21_210 : gd_fetch 21 210 = some (210, .putfield 90, 3, 1199, 9, 36, 4, 1) := rfl
set_option maxRecDepth 20000 in
theorem gk_f21_213 : gd_fetch 21 213 = some (213, .aload_n 0, 1, 0, 0, 0, 0, 0) := rfl
set_option maxRecDepth 20000 in
theorem gk_f21_214 : gd_fetch 21 214 = some (214, .bipush 40, 2, 0, 0, 0, 0, 0) := rfl
set_option maxRecDepth 20000 in
theorem gk_f21_216 : gd_fetch 21 216 = some (216, .newarray .int, 2, 269, 0, 0, 0, 0) := rfl
set_option maxRecDepth 20000 in
theorem gk_f21_218 : gd_fetch 21 218 = some (218, .putfield 93, 3, 1200, 9, 37, 4, 1) := rfl
set_option maxRecDepth 20000 in
theorem gk_f21_221 : gd_fetch 21 221 = some (221, .aload_n 0, 1, 0, 0, 0, 0, 0) := rfl
set_option maxRecDepth 20000 in
theorem gk_f21_222 : gd_fetch 21 222 = some (222, .bipush 40, 2, 0, 0, 0, 0, 0) := rfl
set_option maxRecDepth 20000 in
theorem gk_f21_224 : gd_fetch 21 224 = some (224, .newarray .int, 2, 269, 0, 0, 0, 0) := rfl
set_option maxRecDepth 20000 in
theorem gk_f21_226 : gd_fetch 21 226 = some (226, .putfield 96, 3, 1201, 9, 38, 4, 1) := rfl
set_option maxRecDepth 20000 in
theorem gk_f21_229 : gd_fetch 21 229 = some (229, .aload_n 0, 1, 0, 0, 0, 0, 0) := rfl
set_option maxRecDepth 20000 in
theorem gk_f21_230 : gd_fetch 21 230 = some (230, .bipush 40, 2, 0, 0, 0, 0, 0) := rfl
set_option maxRecDepth 20000 in
theorem gk_f21_232 : gd_fetch 21 232 = some (232, .newarray .int, 2, 269, 0, 0, 0, 0) := rfl
set_option maxRecDepth 20000 in
theorem gk_f21_234 : gd_fetch 21 234 = some (234, .putfield 99, 3, 1202, 9, 39, 4, 1) := rfl
set_option maxRecDepth 20000 in
theorem gk_f21_237 : gd_fetch 21 237 = some (237, .aload_n 0, 1, 0, 0, 0, 0, 0) := rfl
set_option maxRecDepth 20000 in
theorem gk_f21_238 : gd_fetch 21 238 = some (238, .bipush 10, 2, 0, 0, 0, 0, 0) := rfl
set_option maxRecDepth 20000 in
theorem gk_f21_240 : gd_fetch 21 240 = some (240, .newarray .int, 2, 269, 0, 0, 0, 0) := rfl
set_option maxRecDepth 20000 in
theorem gk_f21_242 : gd_fetch 21 242 = some (242, .putfield 102, 3, 1204, 9, 41, 4, 1) := rfl
set_option maxRecDepth 20000 in
theorem gk_f21_245 : gd_fetch 21 245 = some (245, .aload_n 0, 1, 0, 0, 0, 0, 0) := rfl
set_option maxRecDepth 20000 in
theorem gk_f21_246 : gd_fetch 21 246 = some (246, .bipush 10, 2, 0, 0, 0, 0, 0) := rfl
set_option maxRecDepth 20000 in
theorem gk_f21_248 : gd_fetch 21 248 = some (248, .newarray .int, 2, 269, 0, 0, 0, 0) := rfl
set_option maxRecDepth 20000 in
theorem gk_f21_250 : gd_fetch 21 250 = some (250, .putfield 105, 3, 1205, 9, 42, 4, 1) := rfl
set_option maxRecDepth 20000 in
theorem gk_f21_253 : gd_fetch 21 253 = some (253, .aload_n 0, 1, 0, 0, 0, 0, 0) := rfl
set_option maxRecDepth 20000 in
theorem gk_f21_254 : gd_fetch 21 254 = some (254, .bipush 40, 2, 0, 0, 0, 0, 0) := rfl
set_option maxRecDepth 20000 in
theorem gk_f21_256 : gd_fetch 21 256 = some (256, .newarray .int, 2, 269, 0, 0, 0, 0) := rfl
set_option maxRecDepth 20000 in
theorem gk_f21_258 : gd_fetch 21 258 = some (258, .putfield 108, 3, 1207, 9, 44, 4, 1) := rfl
set_option maxRecDepth 20000 in
theorem gk_f21_261 : gd_fetch 21 261 = some (261, .aload_n 0, 1, 0, 0, 0, 0, 0) := rfl
set_option maxRecDepth 20000 in
theorem gk_f21_262 : gd_fetch 21 262 = some (262, .getfield 19, 3, 1164, 9, 1, 4, 0) := rfl
set_option maxRecDepth 20000 in
theorem gk_f21_265 : gd_fetch 21 265 = some (265, .invokevirtual 111, 3, 1159, 20, 0, 0, 0) := rfl
set_option maxRecDepth 20000 in
theorem gk_f21_268 : gd_fetch 21 268 = some (268, .return_, 1, 0, 0, 0, 0, 0) := rfl
set_option maxRecDepth 20000 in
set_option maxHeartbeats 4000000 in
theorem q_Mo_init (r0 : Nat) (m : gd_M) : gd_call 21 [.ref r0] m = if Nat.ble 8 r0 = true then (if Nat.beq (gd_KD (gN m)) 8 = true then (if Nat.ble 8 (gN m) = true then ((gd_call 18 [.ref (gN m)] (gd_al m 6)).bind (gd_k0V fun m5 => if gd_ok (gN m5) r0 9 = true then (if Nat.beq (gd_KD (gN m5)) 7 = true then (if Nat.ble 8 (gN m5) = true then ((gd_call 19 [.ref (gN m5)] (gd_al (wR m5 r0 0 (gN m)) 32)).bind (gd_k0V fun m11 => if gd_ok (gN m11) r0 9 = true then (if Nat.beq (gd_KD (gN m11)) 7 = true then (if Nat.ble 8 (gN m11) = true then ((gd_call 19 [.ref (gN m11)] (gd_al (wR m11 r0 1 (gN m5)) 32)).bind (gd_k0V fun m17 => if gd_ok (gN m17) r0 9 = true then (if (!decide ((3000 : Int32) < 0) && Nat.beq (gd_KD (gN m17)) 12 && Nat.beq (gd_LN (gN m17)) (3000 : Int32).toNatClampNeg && Nat.ble (3000 : Int32).toNatClampNeg 100000) = true then (if gd_ok (gN m17 + 1) r0 9 = true then (if (!decide ((5 : Int32) < 0) && Nat.beq (gd_KD (gN m17 + 1)) 11 && Nat.beq (gd_LN (gN m17 + 1)) (5 : Int32).toNatClampNeg && Nat.ble (5 : Int32).toNatClampNeg 100000) = true then (if gd_ok (gN m17 + 2) r0 9 = true then (if (!decide ((5 : Int32) < 0) && Nat.beq (gd_KD (gN m17 + 2)) 11 && Nat.beq (gd_LN (gN m17 + 2)) (5 : Int32).toNatClampNeg && Nat.ble (5 : Int32).toNatClampNeg 100000) = true then (if gd_ok (gN m17 + 3) r0 9 = true then (if (!decide ((40 : Int32) < 0) && Nat.beq (gd_KD (gN m17 + 3)) 10 && Nat.beq (gd_LN (gN m17 + 3)) (40 : Int32).toNatClampNeg && Nat.ble (40 : Int32).toNatClampNeg 100000) = true then (if gd_ok (gN m17 + 4) r0 9 = true then (if (!decide ((10 : Int32) < 0) && Nat.beq (gd_KD (gN m17 + 4)) 10 && Nat.beq (gd_LN (gN m17 + 4)) (10 : Int32).toNatClampNeg && Nat.ble (10 : Int32).toNatClampNeg 100000) = true then (if gd_ok (gN m17 + 5) r0 9 = true then (if (!decide ((200 : Int32) < 0) && Nat.beq (gd_KD (gN m17 + 5)) 11 && Nat.beq (gd_LN (gN m17 + 5)) (200 : Int32).toNatClampNeg && Nat.ble (200 : Int32).toNatClampNeg 100000) = true then (if gd_ok (gN m17 + 6) r0 9 = true then (if (!decide ((160 : Int32) < 0) && Nat.beq (gd_KD (gN m17 + 6)) 11 && Nat.beq (gd_LN (gN m17 + 6)) (160 : Int32).toNatClampNeg && Nat.ble (160 : Int32).toNatClampNeg 100000) = true then (if gd_ok (gN m17 + 7) r0 9 = true then (if (!decide ((160 : Int32) < 0) && Nat.beq (gd_KD (gN m17 + 7)) 10 && Nat.beq (gd_LN (gN m17 + 7)) (160 : Int32).toNatClampNeg && Nat.ble (160 : Int32).toNatClampNeg 100000) = true then (if gd_ok (gN m17 + 8) r0 9 = true then (if (!decide ((2560 : Int32) < 0) && Nat.beq (gd_KD (gN m17 + 8)) 10 && Nat.beq (gd_LN (gN m17 + 8)) (2560 : Int32).toNatClampNeg && Nat.ble (2560 : Int32).toNatClampNeg 100000) = true then (if gd_ok (gN m17 + 9) r0 9 = true then (if (!decide ((960 : Int32) < 0) && Nat.beq (gd_KD (gN m17 + 9)) 10 && Nat.beq (gd_LN (gN m17 + 9)) (960 : Int32).toNatClampNeg && Nat.ble (960 : Int32).toNatClampNeg 100000) = true then (if gd_ok (gN m17 + 10) r0 9 = true then (if (!decide ((160 : Int32) < 0) && Nat.beq (gd_KD (gN m17 + 10)) 10 && Nat.beq (gd_LN (gN m17 + 10)) (160 : Int32).toNatClampNeg && Nat.ble (160 : Int32).toNatClampNeg 100000) = true then (if gd_ok (gN m17 + 11) r0 9 = true then (if (!decide ((160 : Int32) < 0) && Nat.beq (gd_KD (gN m17 + 11)) 10 && Nat.beq (gd_LN (gN m17 + 11)) (160 : Int32).toNatClampNeg && Nat.ble (160 : Int32).toNatClampNeg 100000) = true then (if gd_ok (gN m17 + 12) r0 9 = true then (if (!decide ((25600 : Int32) < 0) && Nat.beq (gd_KD (gN m17 + 12)) 11 && Nat.beq (gd_LN (gN m17 + 12)) (25600 : Int32).toNatClampNeg && Nat.ble (25600 : Int32).toNatClampNeg 100000) = true then (if gd_ok (gN m17 + 13) r0 9 = true then (if (!decide ((160 : Int32) < 0) && Nat.beq (gd_KD (gN m17 + 13)) 10 && Nat.beq (gd_LN (gN m17 + 13)) (160 : Int32).toNatClampNeg && Nat.ble (160 : Int32).toNatClampNeg 100000) = true then (if gd_ok (gN m17 + 14) r0 9 = true then (if (!decide ((160 : Int32) < 0) && Nat.beq (gd_KD (gN m17 + 14)) 10 && Nat.beq (gd_LN (gN m17 + 14)) (160 : Int32).toNatClampNeg && Nat.ble (160 : Int32).toNatClampNeg 100000) = true then (if gd_ok (gN m17 + 15) r0 9 = true then (if (!decide ((160 : Int32) < 0) && Nat.beq (gd_KD (gN m17 + 15)) 10 && Nat.beq (gd_LN (gN m17 + 15)) (160 : Int32).toNatClampNeg && Nat.ble (160 : Int32).toNatClampNeg 100000) = true then (if gd_ok (gN m17 + 16) r0 9 = true then (if (!decide ((160 : Int32) < 0) && Nat.beq (gd_KD (gN m17 + 16)) 10 && Nat.beq (gd_LN (gN m17 + 16)) (160 : Int32).toNatClampNeg && Nat.ble (160 : Int32).toNatClampNeg 100000) = true then (if gd_ok (gN m17 + 17) r0 9 = true then (if (!decide ((160 : Int32) < 0) && Nat.beq (gd_KD (gN m17 + 17)) 11 && Nat.beq (gd_LN (gN m17 + 17)) (160 : Int32).toNatClampNeg && Nat.ble (160 : Int32).toNatClampNeg 100000) = true then (if gd_ok (gN m17 + 18) r0 9 = true then (if (!decide ((5 : Int32) < 0) && Nat.beq (gd_KD (gN m17 + 18)) 10 && Nat.beq (gd_LN (gN m17 + 18)) (5 : Int32).toNatClampNeg && Nat.ble (5 : Int32).toNatClampNeg 100000) = true then (if gd_ok (gN m17 + 19) r0 9 = true then (if (!decide ((40 : Int32) < 0) && Nat.beq (gd_KD (gN m17 + 19)) 10 && Nat.beq (gd_LN (gN m17 + 19)) (40 : Int32).toNatClampNeg && Nat.ble (40 : Int32).toNatClampNeg 100000) = true then (if gd_ok (gN m17 + 20) r0 9 = true then (if (!decide ((40 : Int32) < 0) && Nat.beq (gd_KD (gN m17 + 20)) 10 && Nat.beq (gd_LN (gN m17 + 20)) (40 : Int32).toNatClampNeg && Nat.ble (40 : Int32).toNatClampNeg 100000) = true then (if gd_ok (gN m17 + 21) r0 9 = true then (if (!decide ((40 : Int32) < 0) && Nat.beq (gd_KD (gN m17 + 21)) 10 && Nat.beq (gd_LN (gN m17 + 21)) (40 : Int32).toNatClampNeg && Nat.ble (40 : Int32).toNatClampNeg 100000) = true then (if gd_ok (gN m17 + 22) r0 9 = true then (if (!decide ((40 : Int32) < 0) && Nat.beq (gd_KD (gN m17 + 22)) 10 && Nat.beq (gd_LN (gN m17 + 22)) (40 : Int32).toNatClampNeg && Nat.ble (40 : Int32).toNatClampNeg 100000) = true then (if gd_ok (gN m17 + 23) r0 9 = true then (if (!decide ((10 : Int32) < 0) && Nat.beq (gd_KD (gN m17 + 23)) 10 && Nat.beq (gd_LN (gN m17 + 23)) (10 : Int32).toNatClampNeg && Nat.ble (10 : Int32).toNatClampNeg 100000) = true then (if gd_ok (gN m17 + 24) r0 9 = true then (if (!decide ((10 : Int32) < 0) && Nat.beq (gd_KD (gN m17 + 24)) 10 && Nat.beq (gd_LN (gN m17 + 24)) (10 : Int32).toNatClampNeg && Nat.ble (10 : Int32).toNatClampNeg 100000) = true then (if gd_ok (gN m17 + 25) r0 9 = true then (if (!decide ((40 : Int32) < 0) && Nat.beq (gd_KD (gN m17 + 25)) 10 && Nat.beq (gd_LN (gN m17 + 25)) (40 : Int32).toNatClampNeg && Nat.ble (40 : Int32).toNatClampNeg 100000) = true then (if gd_ok (gN m17 + 26) r0 9 = true then (if gd_ok (gN m17 + 26) (gR (wR (gd_al (wR (gd_al (wR (gd_al (wR (gd_al (wR (gd_al (wR (gd_al (wR (gd_al (wR (gd_al (wR (gd_al (wR (gd_al (wR (gd_al (wR (gd_al (wR (gd_al (wR (gd_al (wR (gd_al (wR (gd_al (wR (gd_al (wR (gd_al (wR (gd_al (wR (gd_al (wR (gd_al (wR (gd_al (wR (gd_al (wR (gd_al (wR (gd_al (wI (wR (gd_al (wR m17 r0 2 (gN m11)) (3000 : Int32).toNatClampNeg) r0 3 (gN m17)) r0 15 (-1)) (5 : Int32).toNatClampNeg) r0 16 (gN m17 + 1)) (5 : Int32).toNatClampNeg) r0 17 (gN m17 + 2)) (40 : Int32).toNatClampNeg) r0 20 (gN m17 + 3)) (10 : Int32).toNatClampNeg) r0 21 (gN m17 + 4)) (200 : Int32).toNatClampNeg) r0 22 (gN m17 + 5)) (160 : Int32).toNatClampNeg) r0 23 (gN m17 + 6)) (160 : Int32).toNatClampNeg) r0 24 (gN m17 + 7)) (2560 : Int32).toNatClampNeg) r0 25 (gN m17 + 8)) (960 : Int32).toNatClampNeg) r0 26 (gN m17 + 9)) (160 : Int32).toNatClampNeg) r0 27 (gN m17 + 10)) (160 : Int32).toNatClampNeg) r0 28 (gN m17 + 11)) (25600 : Int32).toNatClampNeg) r0 29 (gN m17 + 12)) (160 : Int32).toNatClampNeg) r0 30 (gN m17 + 13)) (160 : Int32).toNatClampNeg) r0 31 (gN m17 + 14)) (160 : Int32).toNatClampNeg) r0 32 (gN m17 + 15)) (160 : Int32).toNatClampNeg) r0 33 (gN m17 + 16)) (160 : Int32).toNatClampNeg) r0 34 (gN m17 + 17)) (5 : Int32).toNatClampNeg) r0 35 (gN m17 + 18)) (40 : Int32).toNatClampNeg) r0 36 (gN m17 + 19)) (40 : Int32).toNatClampNeg) r0 37 (gN m17 + 20)) (40 : Int32).toNatClampNeg) r0 38 (gN m17 + 21)) (40 : Int32).toNatClampNeg) r0 39 (gN m17 + 22)) (10 : Int32).toNatClampNeg) r0 41 (gN m17 + 23)) (10 : Int32).toNatClampNeg) r0 42 (gN m17 + 24)) (40 : Int32).toNatClampNeg) r0 44 (gN m17 + 25)) r0 1) 7 = true then ((gd_call 20 [.ref (gR (wR (gd_al (wR (gd_al (wR (gd_al (wR (gd_al (wR (gd_al (wR (gd_al (wR (gd_al (wR (gd_al (wR (gd_al (wR (gd_al (wR (gd_al (wR (gd_al (wR (gd_al (wR (gd_al (wR (gd_al (wR (gd_al (wR (gd_al (wR (gd_al (wR (gd_al (wR (gd_al (wR (gd_al (wR (gd_al (wR (gd_al (wR (gd_al (wR (gd_al (wI (wR (gd_al (wR m17 r0 2 (gN m11)) (3000 : Int32).toNatClampNeg) r0 3 (gN m17)) r0 15 (-1)) (5 : Int32).toNatClampNeg) r0 16 (gN m17 + 1)) (5 : Int32).toNatClampNeg) r0 17 (gN m17 + 2)) (40 : Int32).toNatClampNeg) r0 20 (gN m17 + 3)) (10 : Int32).toNatClampNeg) r0 21 (gN m17 + 4)) (200 : Int32).toNatClampNeg) r0 22 (gN m17 + 5)) (160 : Int32).toNatClampNeg) r0 23 (gN m17 + 6)) (160 : Int32).toNatClampNeg) r0 24 (gN m17 + 7)) (2560 : Int32).toNatClampNeg) r0 25 (gN m17 + 8)) (960 : Int32).toNatClampNeg) r0 26 (gN m17 + 9)) (160 : Int32).toNatClampNeg) r0 27 (gN m17 + 10)) (160 : Int32).toNatClampNeg) r0 28 (gN m17 + 11)) (25600 : Int32).toNatClampNeg) r0 29 (gN m17 + 12)) (160 : Int32).toNatClampNeg) r0 30 (gN m17 + 13)) (160 : Int32).toNatClampNeg) r0 31 (gN m17 + 14)) (160 : Int32).toNatClampNeg) r0 32 (gN m17 + 15)) (160 : Int32).toNatClampNeg) r0 33 (gN m17 + 16)) (160 : Int32).toNatClampNeg) r0 34 (gN m17 + 17)) (5 : Int32).toNatClampNeg) r0 35 (gN m17 + 18)) (40 : Int32).toNatClampNeg) r0 36 (gN m17 + 19)) (40 : Int32).toNatClampNeg) r0 37 (gN m17 + 20)) (40 : Int32).toNatClampNeg) r0 38 (gN m17 + 21)) (40 : Int32).toNatClampNeg) r0 39 (gN m17 + 22)) (10 : Int32).toNatClampNeg) r0 41 (gN m17 + 23)) (10 : Int32).toNatClampNeg) r0 42 (gN m17 + 24)) (40 : Int32).toNatClampNeg) r0 44 (gN m17 + 25)) r0 1)] (wR (gd_al (wR (gd_al (wR (gd_al (wR (gd_al (wR (gd_al (wR (gd_al (wR (gd_al (wR (gd_al (wR (gd_al (wR (gd_al (wR (gd_al (wR (gd_al (wR (gd_al (wR (gd_al (wR (gd_al (wR (gd_al (wR (gd_al (wR (gd_al (wR (gd_al (wR (gd_al (wR (gd_al (wR (gd_al (wR (gd_al (wR (gd_al (wR (gd_al (wI (wR (gd_al (wR m17 r0 2 (gN m11)) (3000 : Int32).toNatClampNeg) r0 3 (gN m17)) r0 15 (-1)) (5 : Int32).toNatClampNeg) r0 16 (gN m17 + 1)) (5 : Int32).toNatClampNeg) r0 17 (gN m17 + 2)) (40 : Int32).toNatClampNeg) r0 20 (gN m17 + 3)) (10 : Int32).toNatClampNeg) r0 21 (gN m17 + 4)) (200 : Int32).toNatClampNeg) r0 22 (gN m17 + 5)) (160 : Int32).toNatClampNeg) r0 23 (gN m17 + 6)) (160 : Int32).toNatClampNeg) r0 24 (gN m17 + 7)) (2560 : Int32).toNatClampNeg) r0 25 (gN m17 + 8)) (960 : Int32).toNatClampNeg) r0 26 (gN m17 + 9)) (160 : Int32).toNatClampNeg) r0 27 (gN m17 + 10)) (160 : Int32).toNatClampNeg) r0 28 (gN m17 + 11)) (25600 : Int32).toNatClampNeg) r0 29 (gN m17 + 12)) (160 : Int32).toNatClampNeg) r0 30 (gN m17 + 13)) (160 : Int32).toNatClampNeg) r0 31 (gN m17 + 14)) (160 : Int32).toNatClampNeg) r0 32 (gN m17 + 15)) (160 : Int32).toNatClampNeg) r0 33 (gN m17 + 16)) (160 : Int32).toNatClampNeg) r0 34 (gN m17 + 17)) (5 : Int32).toNatClampNeg) r0 35 (gN m17 + 18)) (40 : Int32).toNatClampNeg) r0 36 (gN m17 + 19)) (40 : Int32).toNatClampNeg) r0 37 (gN m17 + 20)) (40 : Int32).toNatClampNeg) r0 38 (gN m17 + 21)) (40 : Int32).toNatClampNeg) r0 39 (gN m17 + 22)) (10 : Int32).toNatClampNeg) r0 41 (gN m17 + 23)) (10 : Int32).toNatClampNeg) r0 42 (gN m17 + 24)) (40 : Int32).toNatClampNeg) r0 44 (gN m17 + 25))).bind (gd_kV fun m99 => some (.null, m99))) else none) else none) else none) else none) else none) else none) else none) else none) else none) else none) else none) else none) else none) else none) else none) else none) else none) else none) else none) else none) else none) else none) else none) else none) else none) else none) else none) else none) else none) else none) else none) else none) else none) else none) else none) else none) else none) else none) else none) else none) else none) else none) else none) else none) else none) else none) else none) else none) else none) else none) else none) else none) else none) else none)) else none) else none) else none)) else none) else none) else none)) else none) else none) else none := by
  refine Eq.trans (show gd_call 21 [.ref r0] m = gd_Den (21, 0, [.ref r0], [], m) from by unfold gd_call gd_ent; rw [gk_ml21]; rfl) ?_
  refine Eq.trans (D_aload_n (x := r0) gk_f21_0 rfl) ?_
  refine Eq.trans (D_objinit gk_f21_1 gk_oi21) ?_
  refine gd_ite (fun h1 => ?_) (fun _ => rfl)
  refine Eq.trans (D_aload_n (x := r0) gk_f21_4 rfl) ?_
  refine Eq.trans (D_new gk_f21_5) ?_
  refine gd_ite (fun h3 => ?_) (fun _ => rfl)
  refine Eq.trans (D_dupR gk_f21_8) ?_
  refine Eq.trans (D_isp (args := [.ref (gN m)]) (rest := [.ref (gN m), .ref r0]) gk_f21_9 rfl rfl rfl (gd_rmk gk_rm21_18 gk_ln18 gk_ml18 rfl rfl rfl) gk_rk18 (gd_hnd_n gk_nc21)) ?_
  refine gd_ite (fun h4 => ?_) (fun _ => rfl)
  refine gd_bnd (gd_k0V_c fun m5 => ?_)
  refine Eq.trans (D_pfR gk_f21_12) ?_
  refine gd_ite (fun h7 => ?_) (fun _ => rfl)
  refine Eq.trans (D_aload_n (x := r0) gk_f21_15 rfl) ?_
  refine Eq.trans (D_new gk_f21_16) ?_
  refine gd_ite (fun h9 => ?_) (fun _ => rfl)
  refine Eq.trans (D_dupR gk_f21_19) ?_
  refine Eq.trans (D_isp (args := [.ref (gN m5)]) (rest := [.ref (gN m5), .ref r0]) gk_f21_20 rfl rfl rfl (gd_rmk gk_rm21_19 gk_ln19 gk_ml19 rfl rfl rfl) gk_rk19 (gd_hnd_n gk_nc21)) ?_
  refine gd_ite (fun h10 => ?_) (fun _ => rfl)
  refine gd_bnd (gd_k0V_c fun m11 => ?_)
  refine Eq.trans (D_pfR gk_f21_23) ?_
  refine gd_ite (fun h13 => ?_) (fun _ => rfl)
  refine Eq.trans (D_aload_n (x := r0) gk_f21_26 rfl) ?_
  refine Eq.trans (D_new gk_f21_27) ?_
  refine gd_ite (fun h15 => ?_) (fun _ => rfl)
  refine Eq.trans (D_dupR gk_f21_30) ?_
  refine Eq.trans (D_isp (args := [.ref (gN m11)]) (rest := [.ref (gN m11), .ref r0]) gk_f21_31 rfl rfl rfl (gd_rmk gk_rm21_19 gk_ln19 gk_ml19 rfl rfl rfl) gk_rk19 (gd_hnd_n gk_nc21)) ?_
  refine gd_ite (fun h16 => ?_) (fun _ => rfl)
  refine gd_bnd (gd_k0V_c fun m17 => ?_)
  refine Eq.trans (D_pfR gk_f21_34) ?_
  refine gd_ite (fun h19 => ?_) (fun _ => rfl)
  refine Eq.trans (D_aload_n (x := r0) gk_f21_37 rfl) ?_
  refine Eq.trans (D_sipush (x := 3000) gk_f21_38 gk_s_3000) ?_
  refine Eq.trans (D_newa (kd := 12) gk_f21_41 rfl) ?_
  refine gd_ite (fun h21 => ?_) (fun _ => rfl)
  refine Eq.trans (D_pfR gk_f21_43) ?_
  refine gd_ite (fun h22 => ?_) (fun _ => rfl)
  refine Eq.trans (D_aload_n (x := r0) gk_f21_46 rfl) ?_
  refine Eq.trans (D_iconst (x := (-1)) gk_f21_47 gk_c_m1) ?_
  refine Eq.trans (D_pfI gk_f21_48) ?_
  refine Eq.trans (if_pos h22) ?_
  refine Eq.trans (D_aload_n (x := r0) gk_f21_51 rfl) ?_
  refine Eq.trans (D_iconst (x := 5) gk_f21_52 gk_c_5) ?_
  refine Eq.trans (D_newa (kd := 11) gk_f21_53 rfl) ?_
  refine gd_ite (fun h24 => ?_) (fun _ => rfl)
  refine Eq.trans (D_pfR gk_f21_55) ?_
  refine gd_ite (fun h25 => ?_) (fun _ => rfl)
  refine Eq.trans (D_aload_n (x := r0) gk_f21_58 rfl) ?_
  refine Eq.trans (D_iconst (x := 5) gk_f21_59 gk_c_5) ?_
  refine Eq.trans (D_newa (kd := 11) gk_f21_60 rfl) ?_
  refine gd_ite (fun h27 => ?_) (fun _ => rfl)
  refine Eq.trans (D_pfR gk_f21_62) ?_
  refine gd_ite (fun h28 => ?_) (fun _ => rfl)
  refine Eq.trans (D_aload_n (x := r0) gk_f21_65 rfl) ?_
  refine Eq.trans (D_bipush (x := 40) gk_f21_66 gk_b_40) ?_
  refine Eq.trans (D_newa (kd := 10) gk_f21_68 rfl) ?_
  refine gd_ite (fun h30 => ?_) (fun _ => rfl)
  refine Eq.trans (D_pfR gk_f21_70) ?_
  refine gd_ite (fun h31 => ?_) (fun _ => rfl)
  refine Eq.trans (D_aload_n (x := r0) gk_f21_73 rfl) ?_
  refine Eq.trans (D_bipush (x := 10) gk_f21_74 gk_b_10) ?_
  refine Eq.trans (D_newa (kd := 10) gk_f21_76 rfl) ?_
  refine gd_ite (fun h33 => ?_) (fun _ => rfl)
  refine Eq.trans (D_pfR gk_f21_78) ?_
  refine gd_ite (fun h34 => ?_) (fun _ => rfl)
  refine Eq.trans (D_aload_n (x := r0) gk_f21_81 rfl) ?_
  refine Eq.trans (D_sipush (x := 200) gk_f21_82 gk_s_200) ?_
  refine Eq.trans (D_newa (kd := 11) gk_f21_85 rfl) ?_
  refine gd_ite (fun h36 => ?_) (fun _ => rfl)
  refine Eq.trans (D_pfR gk_f21_87) ?_
  refine gd_ite (fun h37 => ?_) (fun _ => rfl)
  refine Eq.trans (D_aload_n (x := r0) gk_f21_90 rfl) ?_
  refine Eq.trans (D_sipush (x := 160) gk_f21_91 gk_s_160) ?_
  refine Eq.trans (D_newa (kd := 11) gk_f21_94 rfl) ?_
  refine gd_ite (fun h39 => ?_) (fun _ => rfl)
  refine Eq.trans (D_pfR gk_f21_96) ?_
  refine gd_ite (fun h40 => ?_) (fun _ => rfl)
  refine Eq.trans (D_aload_n (x := r0) gk_f21_99 rfl) ?_
  refine Eq.trans (D_sipush (x := 160) gk_f21_100 gk_s_160) ?_
  refine Eq.trans (D_newa (kd := 10) gk_f21_103 rfl) ?_
  refine gd_ite (fun h42 => ?_) (fun _ => rfl)
  refine Eq.trans (D_pfR gk_f21_105) ?_
  refine gd_ite (fun h43 => ?_) (fun _ => rfl)
  refine Eq.trans (D_aload_n (x := r0) gk_f21_108 rfl) ?_
  refine Eq.trans (D_sipush (x := 2560) gk_f21_109 gk_s_2560) ?_
  refine Eq.trans (D_newa (kd := 10) gk_f21_112 rfl) ?_
  refine gd_ite (fun h45 => ?_) (fun _ => rfl)
  refine Eq.trans (D_pfR gk_f21_114) ?_
  refine gd_ite (fun h46 => ?_) (fun _ => rfl)
  refine Eq.trans (D_aload_n (x := r0) gk_f21_117 rfl) ?_
  refine Eq.trans (D_sipush (x := 960) gk_f21_118 gk_s_960) ?_
  refine Eq.trans (D_newa (kd := 10) gk_f21_121 rfl) ?_
  refine gd_ite (fun h48 => ?_) (fun _ => rfl)
  refine Eq.trans (D_pfR gk_f21_123) ?_
  refine gd_ite (fun h49 => ?_) (fun _ => rfl)
  refine Eq.trans (D_aload_n (x := r0) gk_f21_126 rfl) ?_
  refine Eq.trans (D_sipush (x := 160) gk_f21_127 gk_s_160) ?_
  refine Eq.trans (D_newa (kd := 10) gk_f21_130 rfl) ?_
  refine gd_ite (fun h51 => ?_) (fun _ => rfl)
  refine Eq.trans (D_pfR gk_f21_132) ?_
  refine gd_ite (fun h52 => ?_) (fun _ => rfl)
  refine Eq.trans (D_aload_n (x := r0) gk_f21_135 rfl) ?_
  refine Eq.trans (D_sipush (x := 160) gk_f21_136 gk_s_160) ?_
  refine Eq.trans (D_newa (kd := 10) gk_f21_139 rfl) ?_
  refine gd_ite (fun h54 => ?_) (fun _ => rfl)
  refine Eq.trans (D_pfR gk_f21_141) ?_
  refine gd_ite (fun h55 => ?_) (fun _ => rfl)
  refine Eq.trans (D_aload_n (x := r0) gk_f21_144 rfl) ?_
  refine Eq.trans (D_sipush (x := 25600) gk_f21_145 gk_s_25600) ?_
  refine Eq.trans (D_newa (kd := 11) gk_f21_148 rfl) ?_
  refine gd_ite (fun h57 => ?_) (fun _ => rfl)
  refine Eq.trans (D_pfR gk_f21_150) ?_
  refine gd_ite (fun h58 => ?_) (fun _ => rfl)
  refine Eq.trans (D_aload_n (x := r0) gk_f21_153 rfl) ?_
  refine Eq.trans (D_sipush (x := 160) gk_f21_154 gk_s_160) ?_
  refine Eq.trans (D_newa (kd := 10) gk_f21_157 rfl) ?_
  refine gd_ite (fun h60 => ?_) (fun _ => rfl)
  refine Eq.trans (D_pfR gk_f21_159) ?_
  refine gd_ite (fun h61 => ?_) (fun _ => rfl)
  refine Eq.trans (D_aload_n (x := r0) gk_f21_162 rfl) ?_
  refine Eq.trans (D_sipush (x := 160) gk_f21_163 gk_s_160) ?_
  refine Eq.trans (D_newa (kd := 10) gk_f21_166 rfl) ?_
  refine gd_ite (fun h63 => ?_) (fun _ => rfl)
  refine Eq.trans (D_pfR gk_f21_168) ?_
  refine gd_ite (fun h64 => ?_) (fun _ => rfl)
  refine Eq.trans (D_aload_n (x := r0) gk_f21_171 rfl) ?_
  refine Eq.trans (D_sipush (x := 160) gk_f21_172 gk_s_160) ?_
  refine Eq.trans (D_newa (kd := 10) gk_f21_175 rfl) ?_
  refine gd_ite (fun h66 => ?_) (fun _ => rfl)
  refine Eq.trans (D_pfR gk_f21_177) ?_
  refine gd_ite (fun h67 => ?_) (fun _ => rfl)
  refine Eq.trans (D_aload_n (x := r0) gk_f21_180 rfl) ?_
  refine Eq.trans (D_sipush (x := 160) gk_f21_181 gk_s_160) ?_
  refine Eq.trans (D_newa (kd := 10) gk_f21_184 rfl) ?_
  refine gd_ite (fun h69 => ?_) (fun _ => rfl)
  refine Eq.trans (D_pfR gk_f21_186) ?_
  refine gd_ite (fun h70 => ?_) (fun _ => rfl)
  refine Eq.trans (D_aload_n (x := r0) gk_f21_189 rfl) ?_
  refine Eq.trans (D_sipush (x := 160) gk_f21_190 gk_s_160) ?_
  refine Eq.trans (D_newa (kd := 11) gk_f21_193 rfl) ?_
  refine gd_ite (fun h72 => ?_) (fun _ => rfl)
  refine Eq.trans (D_pfR gk_f21_195) ?_
  refine gd_ite (fun h73 => ?_) (fun _ => rfl)
  refine Eq.trans (D_aload_n (x := r0) gk_f21_198 rfl) ?_
  refine Eq.trans (D_iconst (x := 5) gk_f21_199 gk_c_5) ?_
  refine Eq.trans (D_newa (kd := 10) gk_f21_200 rfl) ?_
  refine gd_ite (fun h75 => ?_) (fun _ => rfl)
  refine Eq.trans (D_pfR gk_f21_202) ?_
  refine gd_ite (fun h76 => ?_) (fun _ => rfl)
  refine Eq.trans (D_aload_n (x := r0) gk_f21_205 rfl) ?_
  refine Eq.trans (D_bipush (x := 40) gk_f21_206 gk_b_40) ?_
  refine Eq.trans (D_newa (kd := 10) gk_f21_208 rfl) ?_
  refine gd_ite (fun h78 => ?_) (fun _ => rfl)
  refine Eq.trans (D_pfR gk_f21_210) ?_
  refine gd_ite (fun h79 => ?_) (fun _ => rfl)
  refine Eq.trans (D_aload_n (x := r0) gk_f21_213 rfl) ?_
  refine Eq.trans (D_bipush (x := 40) gk_f21_214 gk_b_40) ?_
  refine Eq.trans (D_newa (kd := 10) gk_f21_216 rfl) ?_
  refine gd_ite (fun h81 => ?_) (fun _ => rfl)
  refine Eq.trans (D_pfR gk_f21_218) ?_
  refine gd_ite (fun h82 => ?_) (fun _ => rfl)
  refine Eq.trans (D_aload_n (x := r0) gk_f21_221 rfl) ?_
  refine Eq.trans (D_bipush (x := 40) gk_f21_222 gk_b_40) ?_
  refine Eq.trans (D_newa (kd := 10) gk_f21_224 rfl) ?_
  refine gd_ite (fun h84 => ?_) (fun _ => rfl)
  refine Eq.trans (D_pfR gk_f21_226) ?_
  refine gd_ite (fun h85 => ?_) (fun _ => rfl)
  refine Eq.trans (D_aload_n (x := r0) gk_f21_229 rfl) ?_
  refine Eq.trans (D_bipush (x := 40) gk_f21_230 gk_b_40) ?_
  refine Eq.trans (D_newa (kd := 10) gk_f21_232 rfl) ?_
  refine gd_ite (fun h87 => ?_) (fun _ => rfl)
  refine Eq.trans (D_pfR gk_f21_234) ?_
  refine gd_ite (fun h88 => ?_) (fun _ => rfl)
  refine Eq.trans (D_aload_n (x := r0) gk_f21_237 rfl) ?_
  refine Eq.trans (D_bipush (x := 10) gk_f21_238 gk_b_10) ?_
  refine Eq.trans (D_newa (kd := 10) gk_f21_240 rfl) ?_
  refine gd_ite (fun h90 => ?_) (fun _ => rfl)
  refine Eq.trans (D_pfR gk_f21_242) ?_
  refine gd_ite (fun h91 => ?_) (fun _ => rfl)
  refine Eq.trans (D_aload_n (x := r0) gk_f21_245 rfl) ?_
  refine Eq.trans (D_bipush (x := 10) gk_f21_246 gk_b_10) ?_
  refine Eq.trans (D_newa (kd := 10) gk_f21_248 rfl) ?_
  refine gd_ite (fun h93 => ?_) (fun _ => rfl)
  refine Eq.trans (D_pfR gk_f21_250) ?_
  refine gd_ite (fun h94 => ?_) (fun _ => rfl)
  refine Eq.trans (D_aload_n (x := r0) gk_f21_253 rfl) ?_
  refine Eq.trans (D_bipush (x := 40) gk_f21_254 gk_b_40) ?_
  refine Eq.trans (D_newa (kd := 10) gk_f21_256 rfl) ?_
  refine gd_ite (fun h96 => ?_) (fun _ => rfl)
  refine Eq.trans (D_pfR gk_f21_258) ?_
  refine gd_ite (fun h97 => ?_) (fun _ => rfl)
  refine Eq.trans (D_aload_n (x := r0) gk_f21_261 rfl) ?_
  refine Eq.trans (D_gfR gk_f21_262 (by decide)) ?_
  refine Eq.trans (if_pos h97) ?_
  refine Eq.trans (D_ivV (cl := 7) (args := [.ref (gR (wR (gd_al (wR (gd_al (wR (gd_al (wR (gd_al (wR (gd_al (wR (gd_al (wR (gd_al (wR (gd_al (wR (gd_al (wR (gd_al (wR (gd_al (wR (gd_al (wR (gd_al (wR (gd_al (wR (gd_al (wR (gd_al (wR (gd_al (wR (gd_al (wR (gd_al (wR (gd_al (wR (gd_al (wR (gd_al (wR (gd_al (wR (gd_al (wR (gd_al (wI (wR (gd_al (wR m17 r0 2 (gN m11)) (3000 : Int32).toNatClampNeg) r0 3 (gN m17)) r0 15 (-1)) (5 : Int32).toNatClampNeg) r0 16 (gN m17 + 1)) (5 : Int32).toNatClampNeg) r0 17 (gN m17 + 2)) (40 : Int32).toNatClampNeg) r0 20 (gN m17 + 3)) (10 : Int32).toNatClampNeg) r0 21 (gN m17 + 4)) (200 : Int32).toNatClampNeg) r0 22 (gN m17 + 5)) (160 : Int32).toNatClampNeg) r0 23 (gN m17 + 6)) (160 : Int32).toNatClampNeg) r0 24 (gN m17 + 7)) (2560 : Int32).toNatClampNeg) r0 25 (gN m17 + 8)) (960 : Int32).toNatClampNeg) r0 26 (gN m17 + 9)) (160 : Int32).toNatClampNeg) r0 27 (gN m17 + 10)) (160 : Int32).toNatClampNeg) r0 28 (gN m17 + 11)) (25600 : Int32).toNatClampNeg) r0 29 (gN m17 + 12)) (160 : Int32).toNatClampNeg) r0 30 (gN m17 + 13)) (160 : Int32).toNatClampNeg) r0 31 (gN m17 + 14)) (160 : Int32).toNatClampNeg) r0 32 (gN m17 + 15)) (160 : Int32).toNatClampNeg) r0 33 (gN m17 + 16)) (160 : Int32).toNatClampNeg) r0 34 (gN m17 + 17)) (5 : Int32).toNatClampNeg) r0 35 (gN m17 + 18)) (40 : Int32).toNatClampNeg) r0 36 (gN m17 + 19)) (40 : Int32).toNatClampNeg) r0 37 (gN m17 + 20)) (40 : Int32).toNatClampNeg) r0 38 (gN m17 + 21)) (40 : Int32).toNatClampNeg) r0 39 (gN m17 + 22)) (10 : Int32).toNatClampNeg) r0 41 (gN m17 + 23)) (10 : Int32).toNatClampNeg) r0 42 (gN m17 + 24)) (40 : Int32).toNatClampNeg) r0 44 (gN m17 + 25)) r0 1)]) (rest := []) gk_f21_265 rfl rfl (gd_rmk gk_rm21_20 gk_ln20 gk_ml20 rfl rfl rfl) gk_rk20 (gd_hnd_n gk_nc21) gk_nc20 gk_n11_20 gk_cl20) ?_
  refine gd_ite (fun h98 => ?_) (fun _ => rfl)
  refine gd_bnd (gd_kV_c fun m99 => ?_)
  refine Eq.trans (D_vreturn gk_f21_268 gk_rk21) ?_
  rfl
/-! GymDesk.putBytes (I)V -/
set_option maxRecDepth 20000 in
theorem gk_f22_0 : gd_fetch 22 0 = some (0, .bipush 24, 2, 0, 0, 0, 0, 0) := rfl
set_option maxRecDepth 20000 in
theorem gk_f22_2 : gd_fetch 22 2 = some (2, .istore_n 2, 1, 0, 0, 0, 0, 0) := rfl
set_option maxRecDepth 20000 in
theorem gk_f22_3 : gd_fetch 22 3 = some (3, .iload_n 2, 1, 0, 0, 0, 0, 0) := rfl
set_option maxRecDepth 20000 in
theorem gk_f22_4 : gd_fetch 22 4 = some (4, .ifCond .lt 42, 3, 0, 0, 0, 0, 0) := rfl
set_option maxRecDepth 20000 in
theorem gk_f22_7 : gd_fetch 22 7 = some (7, .aload_n 0, 1, 0, 0, 0, 0, 0) := rfl
set_option maxRecDepth 20000 in
theorem gk_f22_8 : gd_fetch 22 8 = some (8, .getfield 64, 3, 471, 6, 11, 0, 0) := rfl
set_option maxRecDepth 20000 in
theorem gk_f22_11 : gd_fetch 22 11 = some (11, .sipush 3000, 3, 0, 0, 0, 0, 0) := rfl
set_option maxRecDepth 20000 in
theorem gk_f22_14 : gd_fetch 22 14 = some (14, .if_icmp .ge 26, 3, 0, 0, 0, 0, 0) := rfl
set_option maxRecDepth 20000 in
theorem gk_f22_17 : gd_fetch 22 17 = some (17, .aload_n 0, 1, 0, 0, 0, 0, 0) := rfl
set_option maxRecDepth 20000 in
theorem gk_f22_18 : gd_fetch 22 18 = some (18, .getfield 9, 3, 460, 6, 0, 4, 1) := rfl
set_option maxRecDepth 20000 in
theorem gk_f22_21 : gd_fetch 22 21 = some (21, .aload_n 0, 1, 0, 0, 0, 0, 0) := rfl
set_option maxRecDepth 20000 in
theorem gk_f22_22 : gd_fetch 22 22 = some (22, .getfield 64, 3, 471, 6, 11, 0, 0) := rfl
set_option maxRecDepth 20000 in
theorem gk_f22_25 : gd_fetch 22 25 = some (25, .iload_n 1, 1, 0, 0, 0, 0, 0) := rfl
set_option maxRecDepth 20000 in
theorem gk_f22_26 : gd_fetch 22 26 = some (26, .iload_n 2, 1, 0, 0, 0, 0, 0) := rfl
set_option maxRecDepth 20000 in
theorem gk_f22_27 : gd_fetch 22 27 = some (27, .iushr, 1, 0, 0, 0, 0, 0) := rfl
set_option maxRecDepth 20000 in
theorem gk_f22_28 : gd_fetch 22 28 = some (28, .i2b, 1, 0, 0, 0, 0, 0) := rfl
set_option maxRecDepth 20000 in
theorem gk_f22_29 : gd_fetch 22 29 = some (29, .bastore, 1, 0, 0, 0, 0, 0) := rfl
set_option maxRecDepth 20000 in
theorem gk_f22_30 : gd_fetch 22 30 = some (30, .aload_n 0, 1, 0, 0, 0, 0, 0) := rfl
set_option maxRecDepth 20000 in
theorem gk_f22_31 : gd_fetch 22 31 = some (31, .dup, 1, 0, 0, 0, 0, 0) := rfl
set_option maxRecDepth 20000 in
theorem gk_f22_32 : gd_fetch 22 32 = some (32, .getfield 64, 3, 471, 6, 11, 0, 0) := rfl
set_option maxRecDepth 20000 in
theorem gk_f22_35 : gd_fetch 22 35 = some (35, .iconst 1, 1, 0, 0, 0, 0, 0) := rfl
set_option maxRecDepth 20000 in
theorem gk_f22_36 : gd_fetch 22 36 = some (36, .iadd, 1, 0, 0, 0, 0, 0) := rfl
set_option maxRecDepth 20000 in
theorem gk_f22_37 : gd_fetch 22 37 = some (37, .putfield 64, 3, 471, 6, 11, 0, 0) := rfl
set_option maxRecDepth 20000 in
theorem gk_f22_40 : gd_fetch 22 40 = some (40, .iinc 2 (-8), 3, 0, 0, 0, 0, 0) := rfl
set_option maxRecDepth 20000 in
theorem gk_f22_43 : gd_fetch 22 43 = some (43, .goto (-40), 3, 0, 0, 0, 0, 0) := rfl
set_option maxRecDepth 20000 in
theorem gk_f22_46 : gd_fetch 22 46 = some (46, .return_, 1, 0, 0, 0, 0, 0) := rfl
set_option maxRecDepth 20000 in
set_option maxHeartbeats 4000000 in
theorem q_X_putBytes (r0 : Nat) (x1 : Int32) (m : gd_M) : gd_call 22 [.ref r0, .int x1] m = gd_Den (22, 3, [.ref r0, .int x1, .int 24], [], m) := by
  refine Eq.trans (show gd_call 22 [.ref r0, .int x1] m = gd_Den (22, 0, [.ref r0, .int x1, .null], [], m) from by unfold gd_call gd_ent; rw [gk_ml22]; rfl) ?_
  refine Eq.trans (D_bipush (x := 24) gk_f22_0 gk_b_24) ?_
  refine Eq.trans (D_istore_n gk_f22_2 gk_st22_2) ?_
  rfl
set_option maxRecDepth 20000 in
set_option maxHeartbeats 4000000 in
theorem q_X_putBytes_3 (r0 : Nat) (x1 : Int32) (x2 : Int32) (m : gd_M) : gd_Den (22, 3, [.ref r0, .int x1, .int x2], [], m) = if (x2 < 0 : Prop) then (some (.null, m)) else (if gd_ok (gN m) r0 6 = true then (if ((gI m r0 11) < 3000 : Prop) then (if gd_okA (gN m) (gR m r0 0) 12 (gI m r0 11) = true then (gd_Den (22, 3, [.ref r0, .int x1, .int (x2 + (-8))], [], (wI (wI m (gR m r0 0) ((gI m r0 11) : Int32).toNatClampNeg (((((x1 : Int32).toUInt32 >>> ((x2 : Int32).toUInt32 &&& Int32.toUInt32 31)).toInt32) : Int32).toInt8.toInt32 : Int32).toInt8.toInt32) r0 11 ((gI (wI m (gR m r0 0) ((gI m r0 11) : Int32).toNatClampNeg (((((x1 : Int32).toUInt32 >>> ((x2 : Int32).toUInt32 &&& Int32.toUInt32 31)).toInt32) : Int32).toInt8.toInt32 : Int32).toInt8.toInt32) r0 11) + 1)))) else none) else (gd_Den (22, 3, [.ref r0, .int x1, .int (x2 + (-8))], [], m))) else none) := by
  refine Eq.trans (D_iload_n (x := x2) gk_f22_3 rfl) ?_
  refine Eq.trans (D_if_lt (t := 46) gk_f22_4 (by decide)) ?_
  refine gd_ite (fun h1 => ?_) (fun h2 => ?_)
  · refine Eq.trans (D_vreturn gk_f22_46 gk_rk22) ?_
    rfl
  · refine Eq.trans (D_aload_n (x := r0) gk_f22_7 rfl) ?_
    refine Eq.trans (D_gfI gk_f22_8 (by decide) (by decide) (by decide)) ?_
    refine gd_ite (fun h3 => ?_) (fun _ => rfl)
    refine Eq.trans (D_sipush (x := 3000) gk_f22_11 gk_s_3000) ?_
    refine Eq.trans (D_ic_ge (t := 40) gk_f22_14 (by decide)) ?_
    refine gd_ite (fun h4 => ?_) (fun h5 => ?_)
    · refine Eq.trans (D_aload_n (x := r0) gk_f22_17 rfl) ?_
      refine Eq.trans (D_gfR gk_f22_18 (by decide)) ?_
      refine Eq.trans (if_pos h3) ?_
      refine Eq.trans (D_aload_n (x := r0) gk_f22_21 rfl) ?_
      refine Eq.trans (D_gfI gk_f22_22 (by decide) (by decide) (by decide)) ?_
      refine Eq.trans (if_pos h3) ?_
      refine Eq.trans (D_iload_n (x := x1) gk_f22_25 rfl) ?_
      refine Eq.trans (D_iload_n (x := x2) gk_f22_26 rfl) ?_
      refine Eq.trans (D_iushr gk_f22_27) ?_
      refine Eq.trans (D_i2b gk_f22_28) ?_
      refine Eq.trans (D_bastB gk_f22_29 gk_b12_22) ?_
      refine gd_ite (fun h6 => ?_) (fun _ => rfl)
      refine Eq.trans (D_aload_n (x := r0) gk_f22_30 rfl) ?_
      refine Eq.trans (D_dupR gk_f22_31) ?_
      refine Eq.trans (D_gfI gk_f22_32 (by decide) (by decide) (by decide)) ?_
      refine Eq.trans (if_pos h3) ?_
      refine Eq.trans (D_iconst (x := 1) gk_f22_35 gk_c_1) ?_
      refine Eq.trans (D_iadd gk_f22_36) ?_
      refine Eq.trans (D_pfI gk_f22_37) ?_
      refine Eq.trans (if_pos h3) ?_
      refine Eq.trans (D_iinc (x := x2) (y := (-8)) gk_f22_40 rfl gk_c_m8 gk_st22_2) ?_
      refine Eq.trans (D_goto (t := 3) gk_f22_43 (by decide)) ?_
      rfl
    · refine Eq.trans (D_iinc (x := x2) (y := (-8)) gk_f22_40 rfl gk_c_m8 gk_st22_2) ?_
      refine Eq.trans (D_goto (t := 3) gk_f22_43 (by decide)) ?_
      rfl
/-! GymDesk.feed (IIIII)I -/
set_option maxRecDepth 20000 in
theorem gk_f23_0 : gd_fetch 23 0 = some (0, .aload_n 0, 1, 0, 0, 0, 0, 0) := rfl
set_option maxRecDepth 20000 in
theorem gk_f23_1 : gd_fetch 23 1 = some (1, .getfield 64, 3, 471, 6, 11, 0, 0) := rfl
set_option maxRecDepth 20000 in
theorem gk_f23_4 : gd_fetch 23 4 = some (4, .bipush 20, 2, 0, 0, 0, 0, 0) := rfl
set_option maxRecDepth 20000 in
theorem gk_f23_6 : gd_fetch 23 6 = some (6, .iadd, 1, 0, 0, 0, 0, 0) := rfl
set_option maxRecDepth 20000 in
theorem gk_f23_7 : gd_fetch 23 7 = some (7, .sipush 3000, 3, 0, 0, 0, 0, 0) := rfl
set_option maxRecDepth 20000 in
theorem gk_f23_10 : gd_fetch 23 10 = some (10, .if_icmp .le 6, 3, 0, 0, 0, 0, 0) := rfl
set_option maxRecDepth 20000 in
theorem gk_f23_13 : gd_fetch 23 13 = some (13, .bipush (-3), 2, 0, 0, 0, 0, 0) := rfl
set_option maxRecDepth 20000 in
theorem gk_f23_15 : gd_fetch 23 15 = some (15, .ireturn, 1, 0, 0, 0, 0, 0) := rfl
set_option maxRecDepth 20000 in
theorem gk_f23_16 : gd_fetch 23 16 = some (16, .aload_n 0, 1, 0, 0, 0, 0, 0) := rfl
set_option maxRecDepth 20000 in
theorem gk_f23_17 : gd_fetch 23 17 = some (17, .iload_n 1, 1, 0, 0, 0, 0, 0) := rfl
set_option maxRecDepth 20000 in
theorem gk_f23_18 : gd_fetch 23 18 = some (18, .invokevirtual 68, 3, 510, 22, 1, 0, 0) := rfl
set_option maxRecDepth 20000 in
theorem gk_f23_21 : gd_fetch 23 21 = some (21, .aload_n 0, 1, 0, 0, 0, 0, 0) := rfl
set_option maxRecDepth 20000 in
theorem gk_f23_22 : gd_fetch 23 22 = some (22, .iload_n 2, 1, 0, 0, 0, 0, 0) := rfl
set_option maxRecDepth 20000 in
theorem gk_f23_23 : gd_fetch 23 23 = some (23, .invokevirtual 68, 3, 510, 22, 1, 0, 0) := rfl
set_option maxRecDepth 20000 in
theorem gk_f23_26 : gd_fetch 23 26 = some (26, .aload_n 0, 1, 0, 0, 0, 0, 0) := rfl
set_option maxRecDepth 20000 in
theorem gk_f23_27 : gd_fetch 23 27 = some (27, .iload_n 3, 1, 0, 0, 0, 0, 0) := rfl
set_option maxRecDepth 20000 in
theorem gk_f23_28 : gd_fetch 23 28 = some (28, .invokevirtual 68, 3, 510, 22, 1, 0, 0) := rfl
set_option maxRecDepth 20000 in
theorem gk_f23_31 : gd_fetch 23 31 = some (31, .aload_n 0, 1, 0, 0, 0, 0, 0) := rfl
set_option maxRecDepth 20000 in
theorem gk_f23_32 : gd_fetch 23 32 = some (32, .iload 4, 2, 0, 0, 0, 0, 0) := rfl
set_option maxRecDepth 20000 in
theorem gk_f23_34 : gd_fetch 23 34 = some (34, .invokevirtual 68, 3, 510, 22, 1, 0, 0) := rfl
set_option maxRecDepth 20000 in
theorem gk_f23_37 : gd_fetch 23 37 = some (37, .aload_n 0, 1, 0, 0, 0, 0, 0) := rfl
set_option maxRecDepth 20000 in
theorem gk_f23_38 : gd_fetch 23 38 = some (38, .iload 5, 2, 0, 0, 0, 0, 0) := rfl
set_option maxRecDepth 20000 in
theorem gk_f23_40 : gd_fetch 23 40 = some (40, .invokevirtual 68, 3, 510, 22, 1, 0, 0) := rfl
set_option maxRecDepth 20000 in
theorem gk_f23_43 : gd_fetch 23 43 = some (43, .aload_n 0, 1, 0, 0, 0, 0, 0) := rfl
set_option maxRecDepth 20000 in
theorem gk_f23_44 : gd_fetch 23 44 = some (44, .getfield 64, 3, 471, 6, 11, 0, 0) := rfl
set_option maxRecDepth 20000 in
theorem gk_f23_47 : gd_fetch 23 47 = some (47, .ireturn, 1, 0, 0, 0, 0, 0) := rfl
set_option maxRecDepth 20000 in
set_option maxHeartbeats 4000000 in
theorem q_X_feed (r0 : Nat) (x1 : Int32) (x2 : Int32) (x3 : Int32) (x4 : Int32) (x5 : Int32) (m : gd_M) : gd_call 23 [.ref r0, .int x1, .int x2, .int x3, .int x4, .int x5] m = if gd_ok (gN m) r0 6 = true then (if (3000 < ((gI m r0 11) + 20) : Prop) then (some (.int (-3), m)) else ((gd_call 22 [.ref r0, .int x1] m).bind (gd_kV fun m4 => if gd_ok (gN m4) r0 6 = true then ((gd_call 22 [.ref r0, .int x2] m4).bind (gd_kV fun m7 => if gd_ok (gN m7) r0 6 = true then ((gd_call 22 [.ref r0, .int x3] m7).bind (gd_kV fun m10 => if gd_ok (gN m10) r0 6 = true then ((gd_call 22 [.ref r0, .int x4] m10).bind (gd_kV fun m13 => if gd_ok (gN m13) r0 6 = true then ((gd_call 22 [.ref r0, .int x5] m13).bind (gd_kV fun m16 => if gd_ok (gN m16) r0 6 = true then (some (.int (gI m16 r0 11), m16)) else none)) else none)) else none)) else none)) else none))) else none := by
  refine Eq.trans (show gd_call 23 [.ref r0, .int x1, .int x2, .int x3, .int x4, .int x5] m = gd_Den (23, 0, [.ref r0, .int x1, .int x2, .int x3, .int x4, .int x5], [], m) from by unfold gd_call gd_ent; rw [gk_ml23]; rfl) ?_
  refine Eq.trans (D_aload_n (x := r0) gk_f23_0 rfl) ?_
  refine Eq.trans (D_gfI gk_f23_1 (by decide) (by decide) (by decide)) ?_
  refine gd_ite (fun h1 => ?_) (fun _ => rfl)
  refine Eq.trans (D_bipush (x := 20) gk_f23_4 gk_b_20) ?_
  refine Eq.trans (D_iadd gk_f23_6) ?_
  refine Eq.trans (D_sipush (x := 3000) gk_f23_7 gk_s_3000) ?_
  refine Eq.trans (D_ic_le (t := 16) gk_f23_10 (by decide)) ?_
  refine gd_ite (fun h2 => ?_) (fun h3 => ?_)
  · refine Eq.trans (D_bipush (x := (-3)) gk_f23_13 gk_b_m3) ?_
    refine Eq.trans (D_ireturn gk_f23_15 gk_rk23) ?_
    rfl
  · refine Eq.trans (D_aload_n (x := r0) gk_f23_16 rfl) ?_
    refine Eq.trans (D_iload_n (x := x1) gk_f23_17 rfl) ?_
    refine Eq.trans (D_ivV (cl := 6) (args := [.ref r0, .int x1]) (rest := []) gk_f23_18 rfl rfl (gd_rmk gk_rm23_22 gk_ln22 gk_ml22 rfl rfl rfl) gk_rk22 (gd_hnd_n gk_nc23) gk_nc22 gk_n11_22 gk_cl22) ?_
    refine Eq.trans (if_pos h1) ?_
    refine gd_bnd (gd_kV_c fun m4 => ?_)
    refine Eq.trans (D_aload_n (x := r0) gk_f23_21 rfl) ?_
    refine Eq.trans (D_iload_n (x := x2) gk_f23_22 rfl) ?_
    refine Eq.trans (D_ivV (cl := 6) (args := [.ref r0, .int x2]) (rest := []) gk_f23_23 rfl rfl (gd_rmk gk_rm23_22 gk_ln22 gk_ml22 rfl rfl rfl) gk_rk22 (gd_hnd_n gk_nc23) gk_nc22 gk_n11_22 gk_cl22) ?_
    refine gd_ite (fun h6 => ?_) (fun _ => rfl)
    refine gd_bnd (gd_kV_c fun m7 => ?_)
    refine Eq.trans (D_aload_n (x := r0) gk_f23_26 rfl) ?_
    refine Eq.trans (D_iload_n (x := x3) gk_f23_27 rfl) ?_
    refine Eq.trans (D_ivV (cl := 6) (args := [.ref r0, .int x3]) (rest := []) gk_f23_28 rfl rfl (gd_rmk gk_rm23_22 gk_ln22 gk_ml22 rfl rfl rfl) gk_rk22 (gd_hnd_n gk_nc23) gk_nc22 gk_n11_22 gk_cl22) ?_
    refine gd_ite (fun h9 => ?_) (fun _ => rfl)
    refine gd_bnd (gd_kV_c fun m10 => ?_)
    refine Eq.trans (D_aload_n (x := r0) gk_f23_31 rfl) ?_
    refine Eq.trans (D_iload (x := x4) gk_f23_32 rfl) ?_
    refine Eq.trans (D_ivV (cl := 6) (args := [.ref r0, .int x4]) (rest := []) gk_f23_34 rfl rfl (gd_rmk gk_rm23_22 gk_ln22 gk_ml22 rfl rfl rfl) gk_rk22 (gd_hnd_n gk_nc23) gk_nc22 gk_n11_22 gk_cl22) ?_
    refine gd_ite (fun h12 => ?_) (fun _ => rfl)
    refine gd_bnd (gd_kV_c fun m13 => ?_)
    refine Eq.trans (D_aload_n (x := r0) gk_f23_37 rfl) ?_
    refine Eq.trans (D_iload (x := x5) gk_f23_38 rfl) ?_
    refine Eq.trans (D_ivV (cl := 6) (args := [.ref r0, .int x5]) (rest := []) gk_f23_40 rfl rfl (gd_rmk gk_rm23_22 gk_ln22 gk_ml22 rfl rfl rfl) gk_rk22 (gd_hnd_n gk_nc23) gk_nc22 gk_n11_22 gk_cl22) ?_
    refine gd_ite (fun h15 => ?_) (fun _ => rfl)
    refine gd_bnd (gd_kV_c fun m16 => ?_)
    refine Eq.trans (D_aload_n (x := r0) gk_f23_43 rfl) ?_
    refine Eq.trans (D_gfI gk_f23_44 (by decide) (by decide) (by decide)) ?_
    refine gd_ite (fun h18 => ?_) (fun _ => rfl)
    refine Eq.trans (D_ireturn gk_f23_47 gk_rk23) ?_
    rfl
/-! GymDeskModel.feed (IIIII)I -/
set_option maxRecDepth 20000 in
theorem gk_f24_0 : gd_fetch 24 0 = some (0, .aload_n 0, 1, 0, 0, 0, 0, 0) := rfl
set_option maxRecDepth 20000 in
theorem gk_f24_1 : gd_fetch 24 1 = some (1, .getfield 114, 3, 1167, 9, 4, 0, 0) := rfl
set_option maxRecDepth 20000 in
theorem gk_f24_4 : gd_fetch 24 4 = some (4, .bipush 20, 2, 0, 0, 0, 0, 0) := rfl
set_option maxRecDepth 20000 in
theorem gk_f24_6 : gd_fetch 24 6 = some (6, .iadd, 1, 0, 0, 0, 0, 0) := rfl
set_option maxRecDepth 20000 in
theorem gk_f24_7 : gd_fetch 24 7 = some (7, .sipush 3000, 3, 0, 0, 0, 0, 0) := rfl
set_option maxRecDepth 20000 in
theorem gk_f24_10 : gd_fetch 24 10 = some (10, .if_icmp .le 6, 3, 0, 0, 0, 0, 0) := rfl
set_option maxRecDepth 20000 in
theorem gk_f24_13 : gd_fetch 24 13 = some (13, .bipush (-3), 2, 0, 0, 0, 0, 0) := rfl
set_option maxRecDepth 20000 in
theorem gk_f24_15 : gd_fetch 24 15 = some (15, .ireturn, 1, 0, 0, 0, 0, 0) := rfl
set_option maxRecDepth 20000 in
theorem gk_f24_16 : gd_fetch 24 16 = some (16, .iconst 0, 1, 0, 0, 0, 0, 0) := rfl
set_option maxRecDepth 20000 in
theorem gk_f24_17 : gd_fetch 24 17 = some (17, .istore 6, 2, 0, 0, 0, 0, 0) := rfl
set_option maxRecDepth 20000 in
theorem gk_f24_19 : gd_fetch 24 19 = some (19, .iload 6, 2, 0, 0, 0, 0, 0) := rfl
set_option maxRecDepth 20000 in
theorem gk_f24_21 : gd_fetch 24 21 = some (21, .iconst 5, 1, 0, 0, 0, 0, 0) := rfl
set_option maxRecDepth 20000 in
theorem gk_f24_22 : gd_fetch 24 22 = some (22, .if_icmp .ge 93, 3, 0, 0, 0, 0, 0) := rfl
set_option maxRecDepth 20000 in
theorem gk_f24_25 : gd_fetch 24 25 = some (25, .iload 6, 2, 0, 0, 0, 0, 0) := rfl
set_option maxRecDepth 20000 in
theorem gk_f24_27 : gd_fetch 24 27 = some (27, .ifCond .ne 7, 3, 0, 0, 0, 0, 0) := rfl
set_option maxRecDepth 20000 in
theorem gk_f24_30 : gd_fetch 24 30 = some (30, .iload_n 1, 1, 0, 0, 0, 0, 0) := rfl
set_option maxRecDepth 20000 in
theorem gk_f24_31 : gd_fetch 24 31 = some (31, .goto 36, 3, 0, 0, 0, 0, 0) := rfl
set_option maxRecDepth 20000 in
theorem gk_f24_34 : gd_fetch 24 34 = some (34, .iload 6, 2, 0, 0, 0, 0, 0) := rfl
set_option maxRecDepth 20000 in
theorem gk_f24_36 : gd_fetch 24 36 = some (36, .iconst 1, 1, 0, 0, 0, 0, 0) := rfl
set_option maxRecDepth 20000 in
theorem gk_f24_37 : gd_fetch 24 37 = some (37, .if_icmp .ne 7, 3, 0, 0, 0, 0, 0) := rfl
set_option maxRecDepth 20000 in
theorem gk_f24_40 : gd_fetch 24 40 = some (40, .iload_n 2, 1, 0, 0, 0, 0, 0) := rfl
set_option maxRecDepth 20000 in
theorem gk_f24_41 : gd_fetch 24 41 = some (41, .goto 26, 3, 0, 0, 0, 0, 0) := rfl
set_option maxRecDepth 20000 in
theorem gk_f24_44 : gd_fetch 24 44 = some (44, .iload 6, 2, 0, 0, 0, 0, 0) := rfl
set_option maxRecDepth 20000 in
theorem gk_f24_46 : gd_fetch 24 46 = some (46, .iconst 2, 1, 0, 0, 0, 0, 0) := rfl
set_option maxRecDepth 20000 in
theorem gk_f24_47 : gd_fetch 24 47 = some (47, .if_icmp .ne 7, 3, 0, 0, 0, 0, 0) := rfl
set_option maxRecDepth 20000 in
theorem gk_f24_50 : gd_fetch 24 50 = some (50, .iload_n 3, 1, 0, 0, 0, 0, 0) := rfl
set_option maxRecDepth 20000 in
theorem gk_f24_51 : gd_fetch 24 51 = some (51, .goto 16, 3, 0, 0, 0, 0, 0) := rfl
set_option maxRecDepth 20000 in
theorem gk_f24_54 : gd_fetch 24 54 = some (54, .iload 6, 2, 0, 0, 0, 0, 0) := rfl
set_option maxRecDepth 20000 in
theorem gk_f24_56 : gd_fetch 24 56 = some (56, .iconst 3, 1, 0, 0, 0, 0, 0) := rfl
set_option maxRecDepth 20000 in
theorem gk_f24_57 : gd_fetch 24 57 = some (57, .if_icmp .ne 8, 3, 0, 0, 0, 0, 0) := rfl
set_option maxRecDepth 20000 in
theorem gk_f24_60 : gd_fetch 24 60 = some (60, .iload 4, 2, 0, 0, 0, 0, 0) := rfl
set_option maxRecDepth 20000 in
theorem gk_f24_62 : gd_fetch 24 62 = some (62, .goto 5, 3, 0, 0, 0, 0, 0) := rfl
set_option maxRecDepth 20000 in
theorem gk_f24_65 : gd_fetch 24 65 = some (65, .iload 5, 2, 0, 0, 0, 0, 0) := rfl
set_option maxRecDepth 20000 in
theorem gk_f24_67 : gd_fetch 24 67 = some (67, .istore 7, 2, 0, 0, 0, 0, 0) := rfl
set_option maxRecDepth 20000 in
theorem gk_f24_69 : gd_fetch 24 69 = some (69, .bipush 24, 2, 0, 0, 0, 0, 0) := rfl
set_option maxRecDepth 20000 in
theorem gk_f24_71 : gd_fetch 24 71 = some (71, .istore 8, 2, 0, 0, 0, 0, 0) := rfl
set_option maxRecDepth 20000 in
theorem gk_f24_73 : gd_fetch 24 73 = some (73, .iload 8, 2, 0, 0, 0, 0, 0) := rfl
set_option maxRecDepth 20000 in
theorem gk_f24_75 : gd_fetch 24 75 = some (75, .ifCond .lt 34, 3, 0, 0, 0, 0, 0) := rfl
set_option maxRecDepth 20000 in
theorem gk_f24_78 : gd_fetch 24 78 = some (78, .aload_n 0, 1, 0, 0, 0, 0, 0) := rfl
set_option maxRecDepth 20000 in
theorem gk_f24_79 : gd_fetch 24 79 = some (79, .getfield 26, 3, 1166, 9, 3, 4, 1) := rfl
set_option maxRecDepth 20000 in
theorem gk_f24_82 : gd_fetch 24 82 = some (82, .aload_n 0, 1, 0, 0, 0, 0, 0) := rfl
set_option maxRecDepth 20000 in
theorem gk_f24_83 : gd_fetch 24 83 = some (83, .getfield 114, 3, 1167, 9, 4, 0, 0) := rfl
set_option maxRecDepth 20000 in
theorem gk_f24_86 : gd_fetch 24 86 = some (86, .iload 7, 2, 0, 0, 0, 0, 0) := rfl
set_option maxRecDepth 20000 in
theorem gk_f24_88 : gd_fetch 24 88 = some (88, .iload 8, 2, 0, 0, 0, 0, 0) := rfl
set_option maxRecDepth 20000 in
theorem gk_f24_90 : gd_fetch 24 90 = some (90, .ishr, 1, 0, 0, 0, 0, 0) := rfl
set_option maxRecDepth 20000 in
theorem gk_f24_91 : gd_fetch 24 91 = some (91, .i2b, 1, 0, 0, 0, 0, 0) := rfl
set_option maxRecDepth 20000 in
theorem gk_f24_92 : gd_fetch 24 92 = some (92, .bastore, 1, 0, 0, 0, 0, 0) := rfl
set_option maxRecDepth 20000 in
theorem gk_f24_93 : gd_fetch 24 93 = some (93, .aload_n 0, 1, 0, 0, 0, 0, 0) := rfl
set_option maxRecDepth 20000 in
theorem gk_f24_94 : gd_fetch 24 94 = some (94, .dup, 1, 0, 0, 0, 0, 0) := rfl
set_option maxRecDepth 20000 in
theorem gk_f24_95 : gd_fetch 24 95 = some (95, .getfield 114, 3, 1167, 9, 4, 0, 0) := rfl
set_option maxRecDepth 20000 in
theorem gk_f24_98 : gd_fetch 24 98 = some (98, .iconst 1, 1, 0, 0, 0, 0, 0) := rfl
set_option maxRecDepth 20000 in
theorem gk_f24_99 : gd_fetch 24 99 = some (99, .iadd, 1, 0, 0, 0, 0, 0) := rfl
set_option maxRecDepth 20000 in
theorem gk_f24_100 : gd_fetch 24 100 = some (100, .putfield 114, 3, 1167, 9, 4, 0, 0) := rfl
set_option maxRecDepth 20000 in
theorem gk_f24_103 : gd_fetch 24 103 = some (103, .iinc 8 (-8), 3, 0, 0, 0, 0, 0) := rfl
set_option maxRecDepth 20000 in
theorem gk_f24_106 : gd_fetch 24 106 = some (106, .goto (-33), 3, 0, 0, 0, 0, 0) := rfl
set_option maxRecDepth 20000 in
theorem gk_f24_109 : gd_fetch 24 109 = some (109, .iinc 6 1, 3, 0, 0, 0, 0, 0) := rfl
set_option maxRecDepth 20000 in
theorem gk_f24_112 : gd_fetch 24 112 = some (112, .goto (-93), 3, 0, 0, 0, 0, 0) := rfl
set_option maxRecDepth 20000 in
theorem gk_f24_115 : gd_fetch 24 115 = some (115, .aload_n 0, 1, 0, 0, 0, 0, 0) := rfl
set_option maxRecDepth 20000 in
theorem gk_f24_116 : gd_fetch 24 116 = some (116, .getfield 114, 3, 1167, 9, 4, 0, 0) := rfl
set_option maxRecDepth 20000 in
theorem gk_f24_119 : gd_fetch 24 119 = some (119, .ireturn, 1, 0, 0, 0, 0, 0) := rfl
set_option maxRecDepth 20000 in
set_option maxHeartbeats 4000000 in
theorem q_Mo_feed (r0 : Nat) (x1 : Int32) (x2 : Int32) (x3 : Int32) (x4 : Int32) (x5 : Int32) (m : gd_M) : gd_call 24 [.ref r0, .int x1, .int x2, .int x3, .int x4, .int x5] m = if gd_ok (gN m) r0 9 = true then (if (3000 < ((gI m r0 4) + 20) : Prop) then (some (.int (-3), m)) else (gd_Den (24, 19, [.ref r0, .int x1, .int x2, .int x3, .int x4, .int x5, .int 0, .null, .null], [], m))) else none := by
  refine Eq.trans (show gd_call 24 [.ref r0, .int x1, .int x2, .int x3, .int x4, .int x5] m = gd_Den (24, 0, [.ref r0, .int x1, .int x2, .int x3, .int x4, .int x5, .null, .null, .null], [], m) from by unfold gd_call gd_ent; rw [gk_ml24]; rfl) ?_
  refine Eq.trans (D_aload_n (x := r0) gk_f24_0 rfl) ?_
  refine Eq.trans (D_gfI gk_f24_1 (by decide) (by decide) (by decide)) ?_
  refine gd_ite (fun h1 => ?_) (fun _ => rfl)
  refine Eq.trans (D_bipush (x := 20) gk_f24_4 gk_b_20) ?_
  refine Eq.trans (D_iadd gk_f24_6) ?_
  refine Eq.trans (D_sipush (x := 3000) gk_f24_7 gk_s_3000) ?_
  refine Eq.trans (D_ic_le (t := 16) gk_f24_10 (by decide)) ?_
  refine gd_ite (fun h2 => ?_) (fun h3 => ?_)
  · refine Eq.trans (D_bipush (x := (-3)) gk_f24_13 gk_b_m3) ?_
    refine Eq.trans (D_ireturn gk_f24_15 gk_rk24) ?_
    rfl
  · refine Eq.trans (D_iconst (x := 0) gk_f24_16 gk_c_0) ?_
    refine Eq.trans (D_istore gk_f24_17 gk_st24_6) ?_
    rfl
set_option maxRecDepth 20000 in
set_option maxHeartbeats 4000000 in
theorem q_Mo_feed_19 (r0 : Nat) (x1 : Int32) (x2 : Int32) (x3 : Int32) (x4 : Int32) (x5 : Int32) (x6 : Int32) (v7 : Value) (v8 : Value) (m : gd_M) : gd_Den (24, 19, [.ref r0, .int x1, .int x2, .int x3, .int x4, .int x5, .int x6, v7, v8], [], m) = if (x6 < 5 : Prop) then (if (x6 = 0 : Prop) then (gd_Den (24, 73, [.ref r0, .int x1, .int x2, .int x3, .int x4, .int x5, .int x6, .int x1, .int 24], [], m)) else (if (x6 = 1 : Prop) then (gd_Den (24, 73, [.ref r0, .int x1, .int x2, .int x3, .int x4, .int x5, .int x6, .int x2, .int 24], [], m)) else (if (x6 = 2 : Prop) then (gd_Den (24, 73, [.ref r0, .int x1, .int x2, .int x3, .int x4, .int x5, .int x6, .int x3, .int 24], [], m)) else (if (x6 = 3 : Prop) then (gd_Den (24, 73, [.ref r0, .int x1, .int x2, .int x3, .int x4, .int x5, .int x6, .int x4, .int 24], [], m)) else (gd_Den (24, 73, [.ref r0, .int x1, .int x2, .int x3, .int x4, .int x5, .int x6, .int x5, .int 24], [], m)))))) else (if gd_ok (gN m) r0 9 = true then (some (.int (gI m r0 4), m)) else none) := by
  refine Eq.trans (D_iload (x := x6) gk_f24_19 rfl) ?_
  refine Eq.trans (D_iconst (x := 5) gk_f24_21 gk_c_5) ?_
  refine Eq.trans (D_ic_ge (t := 115) gk_f24_22 (by decide)) ?_
  refine gd_ite (fun h1 => ?_) (fun h2 => ?_)
  · refine Eq.trans (D_iload (x := x6) gk_f24_25 rfl) ?_
    refine Eq.trans (D_if_ne (t := 34) gk_f24_27 (by decide)) ?_
    refine gd_ite (fun h3 => ?_) (fun h4 => ?_)
    · refine Eq.trans (D_iload_n (x := x1) gk_f24_30 rfl) ?_
      refine Eq.trans (D_goto (t := 67) gk_f24_31 (by decide)) ?_
      refine Eq.trans (D_istore gk_f24_67 gk_st24_7) ?_
      refine Eq.trans (D_bipush (x := 24) gk_f24_69 gk_b_24) ?_
      refine Eq.trans (D_istore gk_f24_71 gk_st24_8) ?_
      rfl
    · refine Eq.trans (D_iload (x := x6) gk_f24_34 rfl) ?_
      refine Eq.trans (D_iconst (x := 1) gk_f24_36 gk_c_1) ?_
      refine Eq.trans (D_ic_ne (t := 44) gk_f24_37 (by decide)) ?_
      refine gd_ite (fun h5 => ?_) (fun h6 => ?_)
      · refine Eq.trans (D_iload_n (x := x2) gk_f24_40 rfl) ?_
        refine Eq.trans (D_goto (t := 67) gk_f24_41 (by decide)) ?_
        refine Eq.trans (D_istore gk_f24_67 gk_st24_7) ?_
        refine Eq.trans (D_bipush (x := 24) gk_f24_69 gk_b_24) ?_
        refine Eq.trans (D_istore gk_f24_71 gk_st24_8) ?_
        rfl
      · refine Eq.trans (D_iload (x := x6) gk_f24_44 rfl) ?_
        refine Eq.trans (D_iconst (x := 2) gk_f24_46 gk_c_2) ?_
        refine Eq.trans (D_ic_ne (t := 54) gk_f24_47 (by decide)) ?_
        refine gd_ite (fun h7 => ?_) (fun h8 => ?_)
        · refine Eq.trans (D_iload_n (x := x3) gk_f24_50 rfl) ?_
          refine Eq.trans (D_goto (t := 67) gk_f24_51 (by decide)) ?_
          refine Eq.trans (D_istore gk_f24_67 gk_st24_7) ?_
          refine Eq.trans (D_bipush (x := 24) gk_f24_69 gk_b_24) ?_
          refine Eq.trans (D_istore gk_f24_71 gk_st24_8) ?_
          rfl
        · refine Eq.trans (D_iload (x := x6) gk_f24_54 rfl) ?_
          refine Eq.trans (D_iconst (x := 3) gk_f24_56 gk_c_3) ?_
          refine Eq.trans (D_ic_ne (t := 65) gk_f24_57 (by decide)) ?_
          refine gd_ite (fun h9 => ?_) (fun h10 => ?_)
          · refine Eq.trans (D_iload (x := x4) gk_f24_60 rfl) ?_
            refine Eq.trans (D_goto (t := 67) gk_f24_62 (by decide)) ?_
            refine Eq.trans (D_istore gk_f24_67 gk_st24_7) ?_
            refine Eq.trans (D_bipush (x := 24) gk_f24_69 gk_b_24) ?_
            refine Eq.trans (D_istore gk_f24_71 gk_st24_8) ?_
            rfl
          · refine Eq.trans (D_iload (x := x5) gk_f24_65 rfl) ?_
            refine Eq.trans (D_istore gk_f24_67 gk_st24_7) ?_
            refine Eq.trans (D_bipush (x := 24) gk_f24_69 gk_b_24) ?_
            refine Eq.trans (D_istore gk_f24_71 gk_st24_8) ?_
            rfl
  · refine Eq.trans (D_aload_n (x := r0) gk_f24_115 rfl) ?_
    refine Eq.trans (D_gfI gk_f24_116 (by decide) (by decide) (by decide)) ?_
    refine gd_ite (fun h11 => ?_) (fun _ => rfl)
    refine Eq.trans (D_ireturn gk_f24_119 gk_rk24) ?_
    rfl
set_option maxRecDepth 20000 in
set_option maxHeartbeats 4000000 in
theorem q_Mo_feed_73 (r0 : Nat) (x1 : Int32) (x2 : Int32) (x3 : Int32) (x4 : Int32) (x5 : Int32) (x6 : Int32) (x7 : Int32) (x8 : Int32) (m : gd_M) : gd_Den (24, 73, [.ref r0, .int x1, .int x2, .int x3, .int x4, .int x5, .int x6, .int x7, .int x8], [], m) = if (x8 < 0 : Prop) then (gd_Den (24, 19, [.ref r0, .int x1, .int x2, .int x3, .int x4, .int x5, .int (x6 + 1), .int x7, .int x8], [], m)) else (if gd_ok (gN m) r0 9 = true then (if gd_okA (gN m) (gR m r0 3) 12 (gI m r0 4) = true then (gd_Den (24, 73, [.ref r0, .int x1, .int x2, .int x3, .int x4, .int x5, .int x6, .int x7, .int (x8 + (-8))], [], (wI (wI m (gR m r0 3) ((gI m r0 4) : Int32).toNatClampNeg ((((x7 : Int32) >>> (x8 &&& 31)) : Int32).toInt8.toInt32 : Int32).toInt8.toInt32) r0 4 ((gI (wI m (gR m r0 3) ((gI m r0 4) : Int32).toNatClampNeg ((((x7 : Int32) >>> (x8 &&& 31)) : Int32).toInt8.toInt32 : Int32).toInt8.toInt32) r0 4) + 1)))) else none) else none) := by
  refine Eq.trans (D_iload (x := x8) gk_f24_73 rfl) ?_
  refine Eq.trans (D_if_lt (t := 109) gk_f24_75 (by decide)) ?_
  refine gd_ite (fun h1 => ?_) (fun h2 => ?_)
  · refine Eq.trans (D_iinc (x := x6) (y := 1) gk_f24_109 rfl gk_c_1 gk_st24_6) ?_
    refine Eq.trans (D_goto (t := 19) gk_f24_112 (by decide)) ?_
    rfl
  · refine Eq.trans (D_aload_n (x := r0) gk_f24_78 rfl) ?_
    refine Eq.trans (D_gfR gk_f24_79 (by decide)) ?_
    refine gd_ite (fun h3 => ?_) (fun _ => rfl)
    refine Eq.trans (D_aload_n (x := r0) gk_f24_82 rfl) ?_
    refine Eq.trans (D_gfI gk_f24_83 (by decide) (by decide) (by decide)) ?_
    refine Eq.trans (if_pos h3) ?_
    refine Eq.trans (D_iload (x := x7) gk_f24_86 rfl) ?_
    refine Eq.trans (D_iload (x := x8) gk_f24_88 rfl) ?_
    refine Eq.trans (D_ishr gk_f24_90) ?_
    refine Eq.trans (D_i2b gk_f24_91) ?_
    refine Eq.trans (D_bastB gk_f24_92 gk_b12_24) ?_
    refine gd_ite (fun h4 => ?_) (fun _ => rfl)
    refine Eq.trans (D_aload_n (x := r0) gk_f24_93 rfl) ?_
    refine Eq.trans (D_dupR gk_f24_94) ?_
    refine Eq.trans (D_gfI gk_f24_95 (by decide) (by decide) (by decide)) ?_
    refine Eq.trans (if_pos h3) ?_
    refine Eq.trans (D_iconst (x := 1) gk_f24_98 gk_c_1) ?_
    refine Eq.trans (D_iadd gk_f24_99) ?_
    refine Eq.trans (D_pfI gk_f24_100) ?_
    refine Eq.trans (if_pos h3) ?_
    refine Eq.trans (D_iinc (x := x8) (y := (-8)) gk_f24_103 rfl gk_c_m8 gk_st24_8) ?_
    refine Eq.trans (D_goto (t := 73) gk_f24_106 (by decide)) ?_
    rfl
/-! GymDesk.end (I)I -/
set_option maxRecDepth 20000 in
theorem gk_f25_0 : gd_fetch 25 0 = some (0, .iload_n 1, 1, 0, 0, 0, 0, 0) := rfl
set_option maxRecDepth 20000 in
theorem gk_f25_1 : gd_fetch 25 1 = some (1, .ifCond .lt 11, 3, 0, 0, 0, 0, 0) := rfl
set_option maxRecDepth 20000 in
theorem gk_f25_4 : gd_fetch 25 4 = some (4, .iload_n 1, 1, 0, 0, 0, 0, 0) := rfl
set_option maxRecDepth 20000 in
theorem gk_f25_5 : gd_fetch 25 5 = some (5, .aload_n 0, 1, 0, 0, 0, 0, 0) := rfl
set_option maxRecDepth 20000 in
theorem gk_f25_6 : gd_fetch 25 6 = some (6, .getfield 64, 3, 471, 6, 11, 0, 0) := rfl
set_option maxRecDepth 20000 in
theorem gk_f25_9 : gd_fetch 25 9 = some (9, .if_icmp .le 5, 3, 0, 0, 0, 0, 0) := rfl
set_option maxRecDepth 20000 in
theorem gk_f25_12 : gd_fetch 25 12 = some (12, .iconst (-1), 1, 0, 0, 0, 0, 0) := rfl
set_option maxRecDepth 20000 in
theorem gk_f25_13 : gd_fetch 25 13 = some (13, .ireturn, 1, 0, 0, 0, 0, 0) := rfl
set_option maxRecDepth 20000 in
theorem gk_f25_14 : gd_fetch 25 14 = some (14, .aload_n 0, 1, 0, 0, 0, 0, 0) := rfl
set_option maxRecDepth 20000 in
theorem gk_f25_15 : gd_fetch 25 15 = some (15, .iload_n 1, 1, 0, 0, 0, 0, 0) := rfl
set_option maxRecDepth 20000 in
theorem gk_f25_16 : gd_fetch 25 16 = some (16, .putfield 64, 3, 471, 6, 11, 0, 0) := rfl
set_option maxRecDepth 20000 in
theorem gk_f25_19 : gd_fetch 25 19 = some (19, .iload_n 1, 1, 0, 0, 0, 0, 0) := rfl
set_option maxRecDepth 20000 in
theorem gk_f25_20 : gd_fetch 25 20 = some (20, .ireturn, 1, 0, 0, 0, 0, 0) := rfl
set_option maxRecDepth 20000 in
set_option maxHeartbeats 4000000 in
theorem q_X_end (r0 : Nat) (x1 : Int32) (m : gd_M) : gd_call 25 [.ref r0, .int x1] m = if (x1 < 0 : Prop) then (some (.int (-1), m)) else (if gd_ok (gN m) r0 6 = true then (if ((gI m r0 11) < x1 : Prop) then (some (.int (-1), m)) else (some (.int x1, (wI m r0 11 x1)))) else none) := by
  refine Eq.trans (show gd_call 25 [.ref r0, .int x1] m = gd_Den (25, 0, [.ref r0, .int x1], [], m) from by unfold gd_call gd_ent; rw [gk_ml25]; rfl) ?_
  refine Eq.trans (D_iload_n (x := x1) gk_f25_0 rfl) ?_
  refine Eq.trans (D_if_lt (t := 12) gk_f25_1 (by decide)) ?_
  refine gd_ite (fun h1 => ?_) (fun h2 => ?_)
  · refine Eq.trans (D_iconst (x := (-1)) gk_f25_12 gk_c_m1) ?_
    refine Eq.trans (D_ireturn gk_f25_13 gk_rk25) ?_
    rfl
  · refine Eq.trans (D_iload_n (x := x1) gk_f25_4 rfl) ?_
    refine Eq.trans (D_aload_n (x := r0) gk_f25_5 rfl) ?_
    refine Eq.trans (D_gfI gk_f25_6 (by decide) (by decide) (by decide)) ?_
    refine gd_ite (fun h3 => ?_) (fun _ => rfl)
    refine Eq.trans (D_ic_le (t := 14) gk_f25_9 (by decide)) ?_
    refine gd_ite (fun h4 => ?_) (fun h5 => ?_)
    · refine Eq.trans (D_iconst (x := (-1)) gk_f25_12 gk_c_m1) ?_
      refine Eq.trans (D_ireturn gk_f25_13 gk_rk25) ?_
      rfl
    · refine Eq.trans (D_aload_n (x := r0) gk_f25_14 rfl) ?_
      refine Eq.trans (D_iload_n (x := x1) gk_f25_15 rfl) ?_
      refine Eq.trans (D_pfI gk_f25_16) ?_
      refine Eq.trans (if_pos h3) ?_
      refine Eq.trans (D_iload_n (x := x1) gk_f25_19 rfl) ?_
      refine Eq.trans (D_ireturn gk_f25_20 gk_rk25) ?_
      rfl
/-! GymDeskModel.end (I)I -/
set_option maxRecDepth 20000 in
theorem gk_f26_0 : gd_fetch 26 0 = some (0, .iload_n 1, 1, 0, 0, 0, 0, 0) := rfl
set_option maxRecDepth 20000 in
theorem gk_f26_1 : gd_fetch 26 1 = some (1, .ifCond .lt 11, 3, 0, 0, 0, 0, 0) := rfl
set_option maxRecDepth 20000 in
theorem gk_f26_4 : gd_fetch 26 4 = some (4, .iload_n 1, 1, 0, 0, 0, 0, 0) := rfl
set_option maxRecDepth 20000 in
theorem gk_f26_5 : gd_fetch 26 5 = some (5, .aload_n 0, 1, 0, 0, 0, 0, 0) := rfl
set_option maxRecDepth 20000 in
theorem gk_f26_6 : gd_fetch 26 6 = some (6, .getfield 114, 3, 1167, 9, 4, 0, 0) := rfl
set_option maxRecDepth 20000 in
theorem gk_f26_9 : gd_fetch 26 9 = some (9, .if_icmp .le 5, 3, 0, 0, 0, 0, 0) := rfl
set_option maxRecDepth 20000 in
theorem gk_f26_12 : gd_fetch 26 12 = some (12, .iconst (-1), 1, 0, 0, 0, 0, 0) := rfl
set_option maxRecDepth 20000 in
theorem gk_f26_13 : gd_fetch 26 13 = some (13, .ireturn, 1, 0, 0, 0, 0, 0) := rfl
set_option maxRecDepth 20000 in
theorem gk_f26_14 : gd_fetch 26 14 = some (14, .aload_n 0, 1, 0, 0, 0, 0, 0) := rfl
set_option maxRecDepth 20000 in
theorem gk_f26_15 : gd_fetch 26 15 = some (15, .iload_n 1, 1, 0, 0, 0, 0, 0) := rfl
set_option maxRecDepth 20000 in
theorem gk_f26_16 : gd_fetch 26 16 = some (16, .putfield 114, 3, 1167, 9, 4, 0, 0) := rfl
set_option maxRecDepth 20000 in
theorem gk_f26_19 : gd_fetch 26 19 = some (19, .iload_n 1, 1, 0, 0, 0, 0, 0) := rfl
set_option maxRecDepth 20000 in
theorem gk_f26_20 : gd_fetch 26 20 = some (20, .ireturn, 1, 0, 0, 0, 0, 0) := rfl
set_option maxRecDepth 20000 in
set_option maxHeartbeats 4000000 in
theorem q_Mo_end (r0 : Nat) (x1 : Int32) (m : gd_M) : gd_call 26 [.ref r0, .int x1] m = if (x1 < 0 : Prop) then (some (.int (-1), m)) else (if gd_ok (gN m) r0 9 = true then (if ((gI m r0 4) < x1 : Prop) then (some (.int (-1), m)) else (some (.int x1, (wI m r0 4 x1)))) else none) := by
  refine Eq.trans (show gd_call 26 [.ref r0, .int x1] m = gd_Den (26, 0, [.ref r0, .int x1], [], m) from by unfold gd_call gd_ent; rw [gk_ml26]; rfl) ?_
  refine Eq.trans (D_iload_n (x := x1) gk_f26_0 rfl) ?_
  refine Eq.trans (D_if_lt (t := 12) gk_f26_1 (by decide)) ?_
  refine gd_ite (fun h1 => ?_) (fun h2 => ?_)
  · refine Eq.trans (D_iconst (x := (-1)) gk_f26_12 gk_c_m1) ?_
    refine Eq.trans (D_ireturn gk_f26_13 gk_rk26) ?_
    rfl
  · refine Eq.trans (D_iload_n (x := x1) gk_f26_4 rfl) ?_
    refine Eq.trans (D_aload_n (x := r0) gk_f26_5 rfl) ?_
    refine Eq.trans (D_gfI gk_f26_6 (by decide) (by decide) (by decide)) ?_
    refine gd_ite (fun h3 => ?_) (fun _ => rfl)
    refine Eq.trans (D_ic_le (t := 14) gk_f26_9 (by decide)) ?_
    refine gd_ite (fun h4 => ?_) (fun h5 => ?_)
    · refine Eq.trans (D_iconst (x := (-1)) gk_f26_12 gk_c_m1) ?_
      refine Eq.trans (D_ireturn gk_f26_13 gk_rk26) ?_
      rfl
    · refine Eq.trans (D_aload_n (x := r0) gk_f26_14 rfl) ?_
      refine Eq.trans (D_iload_n (x := x1) gk_f26_15 rfl) ?_
      refine Eq.trans (D_pfI gk_f26_16) ?_
      refine Eq.trans (if_pos h3) ?_
      refine Eq.trans (D_iload_n (x := x1) gk_f26_19 rfl) ?_
      refine Eq.trans (D_ireturn gk_f26_20 gk_rk26) ?_
      rfl
/-! java/lang/Math.min (II)I -/
set_option maxRecDepth 20000 in
theorem gk_f27_0 : gd_fetch 27 0 = some (0, .iload_n 0, 1, 0, 0, 0, 0, 0) := rfl
set_option maxRecDepth 20000 in
theorem gk_f27_1 : gd_fetch 27 1 = some (1, .iload_n 1, 1, 0, 0, 0, 0, 0) := rfl
set_option maxRecDepth 20000 in
theorem gk_f27_2 : gd_fetch 27 2 = some (2, .if_icmp .gt 7, 3, 0, 0, 0, 0, 0) := rfl
set_option maxRecDepth 20000 in
theorem gk_f27_5 : gd_fetch 27 5 = some (5, .iload_n 0, 1, 0, 0, 0, 0, 0) := rfl
set_option maxRecDepth 20000 in
theorem gk_f27_6 : gd_fetch 27 6 = some (6, .goto 4, 3, 0, 0, 0, 0, 0) := rfl
set_option maxRecDepth 20000 in
theorem gk_f27_9 : gd_fetch 27 9 = some (9, .iload_n 1, 1, 0, 0, 0, 0, 0) := rfl
set_option maxRecDepth 20000 in
theorem gk_f27_10 : gd_fetch 27 10 = some (10, .ireturn, 1, 0, 0, 0, 0, 0) := rfl
set_option maxRecDepth 20000 in
set_option maxHeartbeats 4000000 in
theorem q_Ma_min (x0 : Int32) (x1 : Int32) (m : gd_M) : gd_call 27 [.int x0, .int x1] m = if (x1 < x0 : Prop) then (some (.int x1, m)) else (some (.int x0, m)) := by
  refine Eq.trans (show gd_call 27 [.int x0, .int x1] m = gd_Den (27, 0, [.int x0, .int x1], [], m) from by unfold gd_call gd_ent; rw [gk_ml27]; rfl) ?_
  refine Eq.trans (D_iload_n (x := x0) gk_f27_0 rfl) ?_
  refine Eq.trans (D_iload_n (x := x1) gk_f27_1 rfl) ?_
  refine Eq.trans (D_ic_gt (t := 9) gk_f27_2 (by decide)) ?_
  refine gd_ite (fun h1 => ?_) (fun h2 => ?_)
  · refine Eq.trans (D_iload_n (x := x1) gk_f27_9 rfl) ?_
    refine Eq.trans (D_ireturn gk_f27_10 gk_rk27) ?_
    rfl
  · refine Eq.trans (D_iload_n (x := x0) gk_f27_5 rfl) ?_
    refine Eq.trans (D_goto (t := 10) gk_f27_6 (by decide)) ?_
    refine Eq.trans (D_ireturn gk_f27_10 gk_rk27) ?_
    rfl
/-! GymDesk$Scanner.open ([BI)V -/
set_option maxRecDepth 20000 in
theorem gk_f28_0 : gd_fetch 28 0 = some (0, .aload_n 0, 1, 0, 0, 0, 0, 0) := rfl
set_option maxRecDepth 20000 in
theorem gk_f28_1 : gd_fetch 28 1 = some (1, .aload_n 1, 1, 0, 0, 0, 0, 0) := rfl
set_option maxRecDepth 20000 in
theorem gk_f28_2 : gd_fetch 28 2 = some (2, .putfield 27, 3, 174, 5, 1, 4, 0) := rfl
set_option maxRecDepth 20000 in
theorem gk_f28_5 : gd_fetch 28 5 = some (5, .aload_n 0, 1, 0, 0, 0, 0, 0) := rfl
set_option maxRecDepth 20000 in
theorem gk_f28_6 : gd_fetch 28 6 = some (6, .iload_n 2, 1, 0, 0, 0, 0, 0) := rfl
set_option maxRecDepth 20000 in
theorem gk_f28_7 : gd_fetch 28 7 = some (7, .aload_n 1, 1, 0, 0, 0, 0, 0) := rfl
set_option maxRecDepth 20000 in
theorem gk_f28_8 : gd_fetch 28 8 = some (8, .arraylength, 1, 0, 0, 0, 0, 0) := rfl
set_option maxRecDepth 20000 in
theorem gk_f28_9 : gd_fetch 28 9 = some (9, .invokestatic 31, 3, 531, 27, 2, 0, 0) := rfl
set_option maxRecDepth 20000 in
theorem gk_f28_12 : gd_fetch 28 12 = some (12, .putfield 37, 3, 175, 5, 2, 0, 0) := rfl
set_option maxRecDepth 20000 in
theorem gk_f28_15 : gd_fetch 28 15 = some (15, .aload_n 0, 1, 0, 0, 0, 0, 0) := rfl
set_option maxRecDepth 20000 in
theorem gk_f28_16 : gd_fetch 28 16 = some (16, .iconst 0, 1, 0, 0, 0, 0, 0) := rfl
set_option maxRecDepth 20000 in
theorem gk_f28_17 : gd_fetch 28 17 = some (17, .putfield 40, 3, 176, 5, 3, 0, 0) := rfl
set_option maxRecDepth 20000 in
theorem gk_f28_20 : gd_fetch 28 20 = some (20, .aload_n 0, 1, 0, 0, 0, 0, 0) := rfl
set_option maxRecDepth 20000 in
theorem gk_f28_21 : gd_fetch 28 21 = some (21, .iconst 0, 1, 0, 0, 0, 0, 0) := rfl
set_option maxRecDepth 20000 in
theorem gk_f28_22 : gd_fetch 28 22 = some (22, .putfield 43, 3, 177, 5, 4, 0, 0) := rfl
set_option maxRecDepth 20000 in
theorem gk_f28_25 : gd_fetch 28 25 = some (25, .return_, 1, 0, 0, 0, 0, 0) := rfl
set_option maxRecDepth 20000 in
set_option maxHeartbeats 4000000 in
theorem q_Sc_open (r0 : Nat) (r1 : Nat) (x2 : Int32) (m : gd_M) : gd_call 28 [.ref r0, .ref r1, .int x2] m = if gd_ok (gN m) r0 5 = true then (if (Nat.ble 10 (gd_KD r1) && Nat.ble (gd_KD r1) 14 && decide (r1 < (gN m))) = true then ((gd_call 27 [.int x2, .int (Int32.ofNat (gd_LN r1))] (wR m r0 1 r1)).bind (gd_k0I fun z5 m3 => if gd_ok (gN m3) r0 5 = true then (some (.null, (wI (wI (wI m3 r0 2 z5) r0 3 0) r0 4 0))) else none)) else none) else none := by
  refine Eq.trans (show gd_call 28 [.ref r0, .ref r1, .int x2] m = gd_Den (28, 0, [.ref r0, .ref r1, .int x2], [], m) from by unfold gd_call gd_ent; rw [gk_ml28]; rfl) ?_
  refine Eq.trans (D_aload_n (x := r0) gk_f28_0 rfl) ?_
  refine Eq.trans (D_aload_n (x := r1) gk_f28_1 rfl) ?_
  refine Eq.trans (D_pfR gk_f28_2) ?_
  refine gd_ite (fun h1 => ?_) (fun _ => rfl)
  refine Eq.trans (D_aload_n (x := r0) gk_f28_5 rfl) ?_
  refine Eq.trans (D_iload_n (x := x2) gk_f28_6 rfl) ?_
  refine Eq.trans (D_aload_n (x := r1) gk_f28_7 rfl) ?_
  refine Eq.trans (D_alen gk_f28_8 gk_n10_28 gk_nt28) ?_
  refine gd_ite (fun h2 => ?_) (fun _ => rfl)
  refine Eq.trans (D_isI (args := [.int x2, .int (Int32.ofNat (gd_LN r1))]) (rest := [.ref r0]) gk_f28_9 rfl rfl rfl (gd_rmk gk_rm28_27 gk_ln27 gk_ml27 rfl rfl rfl) gk_rk27 (gd_hnd_n gk_nc28)) ?_
  refine gd_bnd (gd_k0I_c fun z5 m3 => ?_)
  refine Eq.trans (D_pfI gk_f28_12) ?_
  refine gd_ite (fun h6 => ?_) (fun _ => rfl)
  refine Eq.trans (D_aload_n (x := r0) gk_f28_15 rfl) ?_
  refine Eq.trans (D_iconst (x := 0) gk_f28_16 gk_c_0) ?_
  refine Eq.trans (D_pfI gk_f28_17) ?_
  refine Eq.trans (if_pos h6) ?_
  refine Eq.trans (D_aload_n (x := r0) gk_f28_20 rfl) ?_
  refine Eq.trans (D_iconst (x := 0) gk_f28_21 gk_c_0) ?_
  refine Eq.trans (D_pfI gk_f28_22) ?_
  refine Eq.trans (if_pos h6) ?_
  refine Eq.trans (D_vreturn gk_f28_25 gk_rk28) ?_
  rfl
/-! GymDesk$Scanner.nextWord ()V -/
set_option maxRecDepth 20000 in
theorem gk_f29_0 : gd_fetch 29 0 = some (0, .aload_n 0, 1, 0, 0, 0, 0, 0) := rfl
set_option maxRecDepth 20000 in
theorem gk_f29_1 : gd_fetch 29 1 = some (1, .lconst 0, 1, 0, 0, 0, 0, 0) := rfl
set_option maxRecDepth 20000 in
theorem gk_f29_2 : gd_fetch 29 2 = some (2, .putfield 64, 3, 185, 5, 8, 3, 0) := rfl
set_option maxRecDepth 20000 in
theorem gk_f29_5 : gd_fetch 29 5 = some (5, .aload_n 0, 1, 0, 0, 0, 0, 0) := rfl
set_option maxRecDepth 20000 in
theorem gk_f29_6 : gd_fetch 29 6 = some (6, .getfield 40, 3, 176, 5, 3, 0, 0) := rfl
set_option maxRecDepth 20000 in
theorem gk_f29_9 : gd_fetch 29 9 = some (9, .aload_n 0, 1, 0, 0, 0, 0, 0) := rfl
set_option maxRecDepth 20000 in
theorem gk_f29_10 : gd_fetch 29 10 = some (10, .getfield 37, 3, 175, 5, 2, 0, 0) := rfl
set_option maxRecDepth 20000 in
theorem gk_f29_13 : gd_fetch 29 13 = some (13, .if_icmp .ge 68, 3, 0, 0, 0, 0, 0) := rfl
set_option maxRecDepth 20000 in
theorem gk_f29_16 : gd_fetch 29 16 = some (16, .aload_n 0, 1, 0, 0, 0, 0, 0) := rfl
set_option maxRecDepth 20000 in
theorem gk_f29_17 : gd_fetch 29 17 = some (17, .getfield 27, 3, 174, 5, 1, 4, 0) := rfl
set_option maxRecDepth 20000 in
theorem gk_f29_20 : gd_fetch 29 20 = some (20, .aload_n 0, 1, 0, 0, 0, 0, 0) := rfl
set_option maxRecDepth 20000 in
theorem gk_f29_21 : gd_fetch 29 21 = some (21, .getfield 40, 3, 176, 5, 3, 0, 0) := rfl
set_option maxRecDepth 20000 in
theorem gk_f29_24 : gd_fetch 29 24 = some (24, .baload, 1, 0, 0, 0, 0, 0) := rfl
set_option maxRecDepth 20000 in
theorem gk_f29_25 : gd_fetch 29 25 = some (25, .bipush 97, 2, 0, 0, 0, 0, 0) := rfl
set_option maxRecDepth 20000 in
theorem gk_f29_27 : gd_fetch 29 27 = some (27, .if_icmp .lt 54, 3, 0, 0, 0, 0, 0) := rfl
set_option maxRecDepth 20000 in
theorem gk_f29_30 : gd_fetch 29 30 = some (30, .aload_n 0, 1, 0, 0, 0, 0, 0) := rfl
set_option maxRecDepth 20000 in
theorem gk_f29_31 : gd_fetch 29 31 = some (31, .getfield 27, 3, 174, 5, 1, 4, 0) := rfl
set_option maxRecDepth 20000 in
theorem gk_f29_34 : gd_fetch 29 34 = some (34, .aload_n 0, 1, 0, 0, 0, 0, 0) := rfl
set_option maxRecDepth 20000 in
theorem gk_f29_35 : gd_fetch 29 35 = some (35, .getfield 40, 3, 176, 5, 3, 0, 0) := rfl
set_option maxRecDepth 20000 in
theorem gk_f29_38 : gd_fetch 29 38 = some (38, .baload, 1, 0, 0, 0, 0, 0) := rfl
set_option maxRecDepth 20000 in
theorem gk_f29_39 : gd_fetch 29 39 = some (39, .bipush 122, 2, 0, 0, 0, 0, 0) := rfl
set_option maxRecDepth 20000 in
theorem gk_f29_41 : gd_fetch 29 41 = some (41, .if_icmp .gt 40, 3, 0, 0, 0, 0, 0) := rfl
set_option maxRecDepth 20000 in
theorem gk_f29_44 : gd_fetch 29 44 = some (44, .aload_n 0, 1, 0, 0, 0, 0, 0) := rfl
set_option maxRecDepth 20000 in
theorem gk_f29_45 : gd_fetch 29 45 = some (45, .aload_n 0, 1, 0, 0, 0, 0, 0) := rfl
set_option maxRecDepth 20000 in
theorem gk_f29_46 : gd_fetch 29 46 = some (46, .getfield 64, 3, 185, 5, 8, 3, 0) := rfl
set_option maxRecDepth 20000 in
theorem gk_f29_49 : gd_fetch 29 49 = some (49, .iconst 5, 1, 0, 0, 0, 0, 0) := rfl
set_option maxRecDepth 20000 in
theorem gk_f29_50 : gd_fetch 29 50 = some (50, .lshl, 1, 0, 0, 0, 0, 0) := rfl
set_option maxRecDepth 20000 in
theorem gk_f29_51 : gd_fetch 29 51 = some (51, .aload_n 0, 1, 0, 0, 0, 0, 0) := rfl
set_option maxRecDepth 20000 in
theorem gk_f29_52 : gd_fetch 29 52 = some (52, .getfield 27, 3, 174, 5, 1, 4, 0) := rfl
set_option maxRecDepth 20000 in
theorem gk_f29_55 : gd_fetch 29 55 = some (55, .aload_n 0, 1, 0, 0, 0, 0, 0) := rfl
set_option maxRecDepth 20000 in
theorem gk_f29_56 : gd_fetch 29 56 = some (56, .getfield 40, 3, 176, 5, 3, 0, 0) := rfl
set_option maxRecDepth 20000 in
theorem gk_f29_59 : gd_fetch 29 59 = some (59, .baload, 1, 0, 0, 0, 0, 0) := rfl
set_option maxRecDepth 20000 in
theorem gk_f29_60 : gd_fetch 29 60 = some (60, .bipush 96, 2, 0, 0, 0, 0, 0) := rfl
set_option maxRecDepth 20000 in
theorem gk_f29_62 : gd_fetch 29 62 = some (62, .isub, 1, 0, 0, 0, 0, 0) := rfl
set_option maxRecDepth 20000 in
theorem gk_f29_63 : gd_fetch 29 63 = some (63, .i2l, 1, 0, 0, 0, 0, 0) := rfl
set_option maxRecDepth 20000 in
theorem gk_f29_64 : gd_fetch 29 64 = some (64, .lor, 1, 0, 0, 0, 0, 0) := rfl
set_option maxRecDepth 20000 in
theorem gk_f29_65 : gd_fetch 29 65 = some (65, .putfield 64, 3, 185, 5, 8, 3, 0) := rfl
set_option maxRecDepth 20000 in
theorem gk_f29_68 : gd_fetch 29 68 = some (68, .aload_n 0, 1, 0, 0, 0, 0, 0) := rfl
set_option maxRecDepth 20000 in
theorem gk_f29_69 : gd_fetch 29 69 = some (69, .dup, 1, 0, 0, 0, 0, 0) := rfl
set_option maxRecDepth 20000 in
theorem gk_f29_70 : gd_fetch 29 70 = some (70, .getfield 40, 3, 176, 5, 3, 0, 0) := rfl
set_option maxRecDepth 20000 in
theorem gk_f29_73 : gd_fetch 29 73 = some (73, .iconst 1, 1, 0, 0, 0, 0, 0) := rfl
set_option maxRecDepth 20000 in
theorem gk_f29_74 : gd_fetch 29 74 = some (74, .iadd, 1, 0, 0, 0, 0, 0) := rfl
set_option maxRecDepth 20000 in
theorem gk_f29_75 : gd_fetch 29 75 = some (75, .putfield 40, 3, 176, 5, 3, 0, 0) := rfl
set_option maxRecDepth 20000 in
theorem gk_f29_78 : gd_fetch 29 78 = some (78, .goto (-73), 3, 0, 0, 0, 0, 0) := rfl
set_option maxRecDepth 20000 in
theorem gk_f29_81 : gd_fetch 29 81 = some (81, .aload_n 0, 1, 0, 0, 0, 0, 0) := rfl
set_option maxRecDepth 20000 in
theorem gk_f29_82 : gd_fetch 29 82 = some (82, .aload_n 0, 1, 0, 0, 0, 0, 0) := rfl
set_option maxRecDepth 20000 in
theorem gk_f29_83 : gd_fetch 29 83 = some (83, .getfield 40, 3, 176, 5, 3, 0, 0) := rfl
set_option maxRecDepth 20000 in
theorem gk_f29_86 : gd_fetch 29 86 = some (86, .aload_n 0, 1, 0, 0, 0, 0, 0) := rfl
set_option maxRecDepth 20000 in
theorem gk_f29_87 : gd_fetch 29 87 = some (87, .getfield 46, 3, 181, 5, 6, 0, 0) := rfl
set_option maxRecDepth 20000 in
theorem gk_f29_90 : gd_fetch 29 90 = some (90, .isub, 1, 0, 0, 0, 0, 0) := rfl
set_option maxRecDepth 20000 in
theorem gk_f29_91 : gd_fetch 29 91 = some (91, .bipush 10, 2, 0, 0, 0, 0, 0) := rfl
set_option maxRecDepth 20000 in
theorem gk_f29_93 : gd_fetch 29 93 = some (93, .if_icmp .gt 7, 3, 0, 0, 0, 0, 0) := rfl
set_option maxRecDepth 20000 in
theorem gk_f29_96 : gd_fetch 29 96 = some (96, .iconst 1, 1, 0, 0, 0, 0, 0) := rfl
set_option maxRecDepth 20000 in
theorem gk_f29_97 : gd_fetch 29 97 = some (97, .goto 4, 3, 0, 0, 0, 0, 0) := rfl
set_option maxRecDepth 20000 in
theorem gk_f29_100 : gd_fetch 29 100 = some (100, .iconst 4, 1, 0, 0, 0, 0, 0) := rfl
set_option maxRecDepth 20000 in
theorem gk_f29_101 : gd_fetch 29 101 = some (101, .putfield 52, 3, 180, 5, 5, 0, 0) := rfl
set_option maxRecDepth 20000 in
theorem gk_f29_104 : gd_fetch 29 104 = some (104, .return_, 1, 0, 0, 0, 0, 0) := rfl
set_option maxRecDepth 20000 in
set_option maxHeartbeats 4000000 in
theorem q_Sc_nextWord (r0 : Nat) (m : gd_M) : gd_call 29 [.ref r0] m = if gd_ok (gN m) r0 5 = true then (gd_Den (29, 5, [.ref r0], [], (wJ m r0 8 0))) else none := by
  refine Eq.trans (show gd_call 29 [.ref r0] m = gd_Den (29, 0, [.ref r0], [], m) from by unfold gd_call gd_ent; rw [gk_ml29]; rfl) ?_
  refine Eq.trans (D_aload_n (x := r0) gk_f29_0 rfl) ?_
  refine Eq.trans (D_lconst (x := 0) gk_f29_1 (by decide)) ?_
  refine Eq.trans (D_pfJ gk_f29_2) ?_
  refine gd_ite (fun h1 => ?_) (fun _ => rfl)
  rfl
set_option maxRecDepth 20000 in
set_option maxHeartbeats 4000000 in
theorem q_Sc_nextWord_5 (r0 : Nat) (m : gd_M) : gd_Den (29, 5, [.ref r0], [], m) = if gd_ok (gN m) r0 5 = true then (if ((gI m r0 3) < (gI m r0 2) : Prop) then (if gd_okA (gN m) (gR m r0 1) 12 (gI m r0 3) = true then (if ((gI m (gR m r0 1) ((gI m r0 3) : Int32).toNatClampNeg) < 97 : Prop) then (if (10 < ((gI m r0 3) - (gI m r0 6)) : Prop) then (some (.null, (wI m r0 5 4))) else (some (.null, (wI m r0 5 1)))) else (if (122 < (gI m (gR m r0 1) ((gI m r0 3) : Int32).toNatClampNeg) : Prop) then (if (10 < ((gI m r0 3) - (gI m r0 6)) : Prop) then (some (.null, (wI m r0 5 4))) else (some (.null, (wI m r0 5 1)))) else (gd_Den (29, 5, [.ref r0], [], (wI (wJ m r0 8 ((((gJ m r0 8) : Int64) <<< ((5 : Int32).toInt64 &&& 63)) ||| (((gI m (gR m r0 1) ((gI m r0 3) : Int32).toNatClampNeg) - 96) : Int32).toInt64)) r0 3 ((gI m r0 3) + 1)))))) else none) else (if (10 < ((gI m r0 3) - (gI m r0 6)) : Prop) then (some (.null, (wI m r0 5 4))) else (some (.null, (wI m r0 5 1))))) else none := by
  refine Eq.trans (D_aload_n (x := r0) gk_f29_5 rfl) ?_
  refine Eq.trans (D_gfI gk_f29_6 (by decide) (by decide) (by decide)) ?_
  refine gd_ite (fun h1 => ?_) (fun _ => rfl)
  refine Eq.trans (D_aload_n (x := r0) gk_f29_9 rfl) ?_
  refine Eq.trans (D_gfI gk_f29_10 (by decide) (by decide) (by decide)) ?_
  refine Eq.trans (if_pos h1) ?_
  refine Eq.trans (D_ic_ge (t := 81) gk_f29_13 (by decide)) ?_
  refine gd_ite (fun h2 => ?_) (fun h3 => ?_)
  · refine Eq.trans (D_aload_n (x := r0) gk_f29_16 rfl) ?_
    refine Eq.trans (D_gfR gk_f29_17 (by decide)) ?_
    refine Eq.trans (if_pos h1) ?_
    refine Eq.trans (D_aload_n (x := r0) gk_f29_20 rfl) ?_
    refine Eq.trans (D_gfI gk_f29_21 (by decide) (by decide) (by decide)) ?_
    refine Eq.trans (if_pos h1) ?_
    refine Eq.trans (D_bald (kd := 12) gk_f29_24 gk_n12_29 gk_bk29) ?_
    refine gd_ite (fun h4 => ?_) (fun _ => rfl)
    refine Eq.trans (D_bipush (x := 97) gk_f29_25 gk_b_97) ?_
    refine Eq.trans (D_ic_lt (t := 81) gk_f29_27 (by decide)) ?_
    refine gd_ite (fun h5 => ?_) (fun h6 => ?_)
    · refine Eq.trans (D_aload_n (x := r0) gk_f29_81 rfl) ?_
      refine Eq.trans (D_aload_n (x := r0) gk_f29_82 rfl) ?_
      refine Eq.trans (D_gfI gk_f29_83 (by decide) (by decide) (by decide)) ?_
      refine Eq.trans (if_pos h1) ?_
      refine Eq.trans (D_aload_n (x := r0) gk_f29_86 rfl) ?_
      refine Eq.trans (D_gfI gk_f29_87 (by decide) (by decide) (by decide)) ?_
      refine Eq.trans (if_pos h1) ?_
      refine Eq.trans (D_isub gk_f29_90) ?_
      refine Eq.trans (D_bipush (x := 10) gk_f29_91 gk_b_10) ?_
      refine Eq.trans (D_ic_gt (t := 100) gk_f29_93 (by decide)) ?_
      refine gd_ite (fun h7 => ?_) (fun h8 => ?_)
      · refine Eq.trans (D_iconst (x := 4) gk_f29_100 gk_c_4) ?_
        refine Eq.trans (D_pfI gk_f29_101) ?_
        refine Eq.trans (if_pos h1) ?_
        refine Eq.trans (D_vreturn gk_f29_104 gk_rk29) ?_
        rfl
      · refine Eq.trans (D_iconst (x := 1) gk_f29_96 gk_c_1) ?_
        refine Eq.trans (D_goto (t := 101) gk_f29_97 (by decide)) ?_
        refine Eq.trans (D_pfI gk_f29_101) ?_
        refine Eq.trans (if_pos h1) ?_
        refine Eq.trans (D_vreturn gk_f29_104 gk_rk29) ?_
        rfl
    · refine Eq.trans (D_aload_n (x := r0) gk_f29_30 rfl) ?_
      refine Eq.trans (D_gfR gk_f29_31 (by decide)) ?_
      refine Eq.trans (if_pos h1) ?_
      refine Eq.trans (D_aload_n (x := r0) gk_f29_34 rfl) ?_
      refine Eq.trans (D_gfI gk_f29_35 (by decide) (by decide) (by decide)) ?_
      refine Eq.trans (if_pos h1) ?_
      refine Eq.trans (D_bald (kd := 12) gk_f29_38 gk_n12_29 gk_bk29) ?_
      refine Eq.trans (if_pos h4) ?_
      refine Eq.trans (D_bipush (x := 122) gk_f29_39 gk_b_122) ?_
      refine Eq.trans (D_ic_gt (t := 81) gk_f29_41 (by decide)) ?_
      refine gd_ite (fun h9 => ?_) (fun h10 => ?_)
      · refine Eq.trans (D_aload_n (x := r0) gk_f29_81 rfl) ?_
        refine Eq.trans (D_aload_n (x := r0) gk_f29_82 rfl) ?_
        refine Eq.trans (D_gfI gk_f29_83 (by decide) (by decide) (by decide)) ?_
        refine Eq.trans (if_pos h1) ?_
        refine Eq.trans (D_aload_n (x := r0) gk_f29_86 rfl) ?_
        refine Eq.trans (D_gfI gk_f29_87 (by decide) (by decide) (by decide)) ?_
        refine Eq.trans (if_pos h1) ?_
        refine Eq.trans (D_isub gk_f29_90) ?_
        refine Eq.trans (D_bipush (x := 10) gk_f29_91 gk_b_10) ?_
        refine Eq.trans (D_ic_gt (t := 100) gk_f29_93 (by decide)) ?_
        refine gd_ite (fun h11 => ?_) (fun h12 => ?_)
        · refine Eq.trans (D_iconst (x := 4) gk_f29_100 gk_c_4) ?_
          refine Eq.trans (D_pfI gk_f29_101) ?_
          refine Eq.trans (if_pos h1) ?_
          refine Eq.trans (D_vreturn gk_f29_104 gk_rk29) ?_
          rfl
        · refine Eq.trans (D_iconst (x := 1) gk_f29_96 gk_c_1) ?_
          refine Eq.trans (D_goto (t := 101) gk_f29_97 (by decide)) ?_
          refine Eq.trans (D_pfI gk_f29_101) ?_
          refine Eq.trans (if_pos h1) ?_
          refine Eq.trans (D_vreturn gk_f29_104 gk_rk29) ?_
          rfl
      · refine Eq.trans (D_aload_n (x := r0) gk_f29_44 rfl) ?_
        refine Eq.trans (D_aload_n (x := r0) gk_f29_45 rfl) ?_
        refine Eq.trans (D_gfJ gk_f29_46 (by decide)) ?_
        refine Eq.trans (if_pos h1) ?_
        refine Eq.trans (D_iconst (x := 5) gk_f29_49 gk_c_5) ?_
        refine Eq.trans (D_lshl gk_f29_50) ?_
        refine Eq.trans (D_aload_n (x := r0) gk_f29_51 rfl) ?_
        refine Eq.trans (D_gfR gk_f29_52 (by decide)) ?_
        refine Eq.trans (if_pos h1) ?_
        refine Eq.trans (D_aload_n (x := r0) gk_f29_55 rfl) ?_
        refine Eq.trans (D_gfI gk_f29_56 (by decide) (by decide) (by decide)) ?_
        refine Eq.trans (if_pos h1) ?_
        refine Eq.trans (D_bald (kd := 12) gk_f29_59 gk_n12_29 gk_bk29) ?_
        refine Eq.trans (if_pos h4) ?_
        refine Eq.trans (D_bipush (x := 96) gk_f29_60 gk_b_96) ?_
        refine Eq.trans (D_isub gk_f29_62) ?_
        refine Eq.trans (D_i2l gk_f29_63) ?_
        refine Eq.trans (D_lor gk_f29_64) ?_
        refine Eq.trans (D_pfJ gk_f29_65) ?_
        refine Eq.trans (if_pos h1) ?_
        refine Eq.trans (D_aload_n (x := r0) gk_f29_68 rfl) ?_
        refine Eq.trans (D_dupR gk_f29_69) ?_
        refine Eq.trans (D_gfI gk_f29_70 (by decide) (by decide) (by decide)) ?_
        refine Eq.trans (if_pos h1) ?_
        refine Eq.trans (D_iconst (x := 1) gk_f29_73 gk_c_1) ?_
        refine Eq.trans (D_iadd gk_f29_74) ?_
        refine Eq.trans (D_pfI gk_f29_75) ?_
        refine Eq.trans (if_pos h1) ?_
        refine Eq.trans (D_goto (t := 5) gk_f29_78 (by decide)) ?_
        rfl
  · refine Eq.trans (D_aload_n (x := r0) gk_f29_81 rfl) ?_
    refine Eq.trans (D_aload_n (x := r0) gk_f29_82 rfl) ?_
    refine Eq.trans (D_gfI gk_f29_83 (by decide) (by decide) (by decide)) ?_
    refine Eq.trans (if_pos h1) ?_
    refine Eq.trans (D_aload_n (x := r0) gk_f29_86 rfl) ?_
    refine Eq.trans (D_gfI gk_f29_87 (by decide) (by decide) (by decide)) ?_
    refine Eq.trans (if_pos h1) ?_
    refine Eq.trans (D_isub gk_f29_90) ?_
    refine Eq.trans (D_bipush (x := 10) gk_f29_91 gk_b_10) ?_
    refine Eq.trans (D_ic_gt (t := 100) gk_f29_93 (by decide)) ?_
    refine gd_ite (fun h13 => ?_) (fun h14 => ?_)
    · refine Eq.trans (D_iconst (x := 4) gk_f29_100 gk_c_4) ?_
      refine Eq.trans (D_pfI gk_f29_101) ?_
      refine Eq.trans (if_pos h1) ?_
      refine Eq.trans (D_vreturn gk_f29_104 gk_rk29) ?_
      rfl
    · refine Eq.trans (D_iconst (x := 1) gk_f29_96 gk_c_1) ?_
      refine Eq.trans (D_goto (t := 101) gk_f29_97 (by decide)) ?_
      refine Eq.trans (D_pfI gk_f29_101) ?_
      refine Eq.trans (if_pos h1) ?_
      refine Eq.trans (D_vreturn gk_f29_104 gk_rk29) ?_
      rfl
/-! GymDesk$Scanner.findQuoted ()V -/
set_option maxRecDepth 20000 in
theorem gk_f30_0 : gd_fetch 30 0 = some (0, .iconst 0, 1, 0, 0, 0, 0, 0) := rfl
set_option maxRecDepth 20000 in
theorem gk_f30_1 : gd_fetch 30 1 = some (1, .istore_n 1, 1, 0, 0, 0, 0, 0) := rfl
set_option maxRecDepth 20000 in
theorem gk_f30_2 : gd_fetch 30 2 = some (2, .iload_n 1, 1, 0, 0, 0, 0, 0) := rfl
set_option maxRecDepth 20000 in
theorem gk_f30_3 : gd_fetch 30 3 = some (3, .bipush 19, 2, 0, 0, 0, 0, 0) := rfl
set_option maxRecDepth 20000 in
theorem gk_f30_5 : gd_fetch 30 5 = some (5, .if_icmp .ge 36, 3, 0, 0, 0, 0, 0) := rfl
set_option maxRecDepth 20000 in
theorem gk_f30_8 : gd_fetch 30 8 = some (8, .aload_n 0, 1, 0, 0, 0, 0, 0) := rfl
set_option maxRecDepth 20000 in
theorem gk_f30_9 : gd_fetch 30 9 = some (9, .getfield 52, 3, 180, 5, 5, 0, 0) := rfl
set_option maxRecDepth 20000 in
theorem gk_f30_12 : gd_fetch 30 12 = some (12, .iconst 1, 1, 0, 0, 0, 0, 0) := rfl
set_option maxRecDepth 20000 in
theorem gk_f30_13 : gd_fetch 30 13 = some (13, .if_icmp .ne 28, 3, 0, 0, 0, 0, 0) := rfl
set_option maxRecDepth 20000 in
theorem gk_f30_16 : gd_fetch 30 16 = some (16, .aload_n 0, 1, 0, 0, 0, 0, 0) := rfl
set_option maxRecDepth 20000 in
theorem gk_f30_17 : gd_fetch 30 17 = some (17, .getfield 11, 3, 173, 5, 0, 4, 1) := rfl
set_option maxRecDepth 20000 in
theorem gk_f30_20 : gd_fetch 30 20 = some (20, .iload_n 1, 1, 0, 0, 0, 0, 0) := rfl
set_option maxRecDepth 20000 in
theorem gk_f30_21 : gd_fetch 30 21 = some (21, .laload, 1, 0, 0, 0, 0, 0) := rfl
set_option maxRecDepth 20000 in
theorem gk_f30_22 : gd_fetch 30 22 = some (22, .aload_n 0, 1, 0, 0, 0, 0, 0) := rfl
set_option maxRecDepth 20000 in
theorem gk_f30_23 : gd_fetch 30 23 = some (23, .getfield 64, 3, 185, 5, 8, 3, 0) := rfl
set_option maxRecDepth 20000 in
theorem gk_f30_26 : gd_fetch 30 26 = some (26, .lcmp, 1, 0, 0, 0, 0, 0) := rfl
set_option maxRecDepth 20000 in
theorem gk_f30_27 : gd_fetch 30 27 = some (27, .ifCond .ne 8, 3, 0, 0, 0, 0, 0) := rfl
set_option maxRecDepth 20000 in
theorem gk_f30_30 : gd_fetch 30 30 = some (30, .aload_n 0, 1, 0, 0, 0, 0, 0) := rfl
set_option maxRecDepth 20000 in
theorem gk_f30_31 : gd_fetch 30 31 = some (31, .iload_n 1, 1, 0, 0, 0, 0, 0) := rfl
set_option maxRecDepth 20000 in
theorem gk_f30_32 : gd_fetch 30 32 = some (32, .putfield 49, 3, 188, 5, 9, 0, 0) := rfl
set_option maxRecDepth 20000 in
theorem gk_f30_35 : gd_fetch 30 35 = some (35, .iinc 1 1, 3, 0, 0, 0, 0, 0) := rfl
set_option maxRecDepth 20000 in
theorem gk_f30_38 : gd_fetch 30 38 = some (38, .goto (-36), 3, 0, 0, 0, 0, 0) := rfl
set_option maxRecDepth 20000 in
theorem gk_f30_41 : gd_fetch 30 41 = some (41, .return_, 1, 0, 0, 0, 0, 0) := rfl
set_option maxRecDepth 20000 in
set_option maxHeartbeats 4000000 in
theorem q_Sc_findQuoted (r0 : Nat) (m : gd_M) : gd_call 30 [.ref r0] m = gd_Den (30, 2, [.ref r0, .int 0], [], m) := by
  refine Eq.trans (show gd_call 30 [.ref r0] m = gd_Den (30, 0, [.ref r0, .null], [], m) from by unfold gd_call gd_ent; rw [gk_ml30]; rfl) ?_
  refine Eq.trans (D_iconst (x := 0) gk_f30_0 gk_c_0) ?_
  refine Eq.trans (D_istore_n gk_f30_1 gk_st30_1) ?_
  rfl
set_option maxRecDepth 20000 in
set_option maxHeartbeats 4000000 in
theorem q_Sc_findQuoted_2 (r0 : Nat) (x1 : Int32) (m : gd_M) : gd_Den (30, 2, [.ref r0, .int x1], [], m) = if (x1 < 19 : Prop) then (if gd_ok (gN m) r0 5 = true then (if ((gI m r0 5) = 1 : Prop) then (if gd_okA (gN m) (gR m r0 0) 13 x1 = true then (if ((lg_cmp (gJ m (gR m r0 0) (x1 : Int32).toNatClampNeg) (gJ m r0 8)) = 0 : Prop) then (gd_Den (30, 2, [.ref r0, .int (x1 + 1)], [], (wI m r0 9 x1))) else (gd_Den (30, 2, [.ref r0, .int (x1 + 1)], [], m))) else none) else (some (.null, m))) else none) else (some (.null, m)) := by
  refine Eq.trans (D_iload_n (x := x1) gk_f30_2 rfl) ?_
  refine Eq.trans (D_bipush (x := 19) gk_f30_3 gk_b_19) ?_
  refine Eq.trans (D_ic_ge (t := 41) gk_f30_5 (by decide)) ?_
  refine gd_ite (fun h1 => ?_) (fun h2 => ?_)
  · refine Eq.trans (D_aload_n (x := r0) gk_f30_8 rfl) ?_
    refine Eq.trans (D_gfI gk_f30_9 (by decide) (by decide) (by decide)) ?_
    refine gd_ite (fun h3 => ?_) (fun _ => rfl)
    refine Eq.trans (D_iconst (x := 1) gk_f30_12 gk_c_1) ?_
    refine Eq.trans (D_ic_ne (t := 41) gk_f30_13 (by decide)) ?_
    refine gd_ite (fun h4 => ?_) (fun h5 => ?_)
    · refine Eq.trans (D_aload_n (x := r0) gk_f30_16 rfl) ?_
      refine Eq.trans (D_gfR gk_f30_17 (by decide)) ?_
      refine Eq.trans (if_pos h3) ?_
      refine Eq.trans (D_iload_n (x := x1) gk_f30_20 rfl) ?_
      refine Eq.trans (D_lald gk_f30_21) ?_
      refine gd_ite (fun h6 => ?_) (fun _ => rfl)
      refine Eq.trans (D_aload_n (x := r0) gk_f30_22 rfl) ?_
      refine Eq.trans (D_gfJ gk_f30_23 (by decide)) ?_
      refine Eq.trans (if_pos h3) ?_
      refine Eq.trans (D_lcmp gk_f30_26) ?_
      refine Eq.trans (D_if_ne (t := 35) gk_f30_27 (by decide)) ?_
      refine gd_ite (fun h7 => ?_) (fun h8 => ?_)
      · refine Eq.trans (D_aload_n (x := r0) gk_f30_30 rfl) ?_
        refine Eq.trans (D_iload_n (x := x1) gk_f30_31 rfl) ?_
        refine Eq.trans (D_pfI gk_f30_32) ?_
        refine Eq.trans (if_pos h3) ?_
        refine Eq.trans (D_iinc (x := x1) (y := 1) gk_f30_35 rfl gk_c_1 gk_st30_1) ?_
        refine Eq.trans (D_goto (t := 2) gk_f30_38 (by decide)) ?_
        rfl
      · refine Eq.trans (D_iinc (x := x1) (y := 1) gk_f30_35 rfl gk_c_1 gk_st30_1) ?_
        refine Eq.trans (D_goto (t := 2) gk_f30_38 (by decide)) ?_
        rfl
    · refine Eq.trans (D_vreturn gk_f30_41 gk_rk30) ?_
      rfl
  · refine Eq.trans (D_vreturn gk_f30_41 gk_rk30) ?_
    rfl
/-! GymDesk$Scanner.nextNumber ()V -/
set_option maxRecDepth 20000 in
theorem gk_f31_0 : gd_fetch 31 0 = some (0, .aload_n 0, 1, 0, 0, 0, 0, 0) := rfl
set_option maxRecDepth 20000 in
theorem gk_f31_1 : gd_fetch 31 1 = some (1, .iconst 0, 1, 0, 0, 0, 0, 0) := rfl
set_option maxRecDepth 20000 in
theorem gk_f31_2 : gd_fetch 31 2 = some (2, .putfield 68, 3, 183, 5, 7, 0, 0) := rfl
set_option maxRecDepth 20000 in
theorem gk_f31_5 : gd_fetch 31 5 = some (5, .aload_n 0, 1, 0, 0, 0, 0, 0) := rfl
set_option maxRecDepth 20000 in
theorem gk_f31_6 : gd_fetch 31 6 = some (6, .getfield 40, 3, 176, 5, 3, 0, 0) := rfl
set_option maxRecDepth 20000 in
theorem gk_f31_9 : gd_fetch 31 9 = some (9, .aload_n 0, 1, 0, 0, 0, 0, 0) := rfl
set_option maxRecDepth 20000 in
theorem gk_f31_10 : gd_fetch 31 10 = some (10, .getfield 37, 3, 175, 5, 2, 0, 0) := rfl
set_option maxRecDepth 20000 in
theorem gk_f31_13 : gd_fetch 31 13 = some (13, .if_icmp .ge 68, 3, 0, 0, 0, 0, 0) := rfl
set_option maxRecDepth 20000 in
theorem gk_f31_16 : gd_fetch 31 16 = some (16, .aload_n 0, 1, 0, 0, 0, 0, 0) := rfl
set_option maxRecDepth 20000 in
theorem gk_f31_17 : gd_fetch 31 17 = some (17, .getfield 27, 3, 174, 5, 1, 4, 0) := rfl
set_option maxRecDepth 20000 in
theorem gk_f31_20 : gd_fetch 31 20 = some (20, .aload_n 0, 1, 0, 0, 0, 0, 0) := rfl
set_option maxRecDepth 20000 in
theorem gk_f31_21 : gd_fetch 31 21 = some (21, .getfield 40, 3, 176, 5, 3, 0, 0) := rfl
set_option maxRecDepth 20000 in
theorem gk_f31_24 : gd_fetch 31 24 = some (24, .baload, 1, 0, 0, 0, 0, 0) := rfl
set_option maxRecDepth 20000 in
theorem gk_f31_25 : gd_fetch 31 25 = some (25, .bipush 48, 2, 0, 0, 0, 0, 0) := rfl
set_option maxRecDepth 20000 in
theorem gk_f31_27 : gd_fetch 31 27 = some (27, .if_icmp .lt 54, 3, 0, 0, 0, 0, 0) := rfl
set_option maxRecDepth 20000 in
theorem gk_f31_30 : gd_fetch 31 30 = some (30, .aload_n 0, 1, 0, 0, 0, 0, 0) := rfl
set_option maxRecDepth 20000 in
theorem gk_f31_31 : gd_fetch 31 31 = some (31, .getfield 27, 3, 174, 5, 1, 4, 0) := rfl
set_option maxRecDepth 20000 in
theorem gk_f31_34 : gd_fetch 31 34 = some (34, .aload_n 0, 1, 0, 0, 0, 0, 0) := rfl
set_option maxRecDepth 20000 in
theorem gk_f31_35 : gd_fetch 31 35 = some (35, .getfield 40, 3, 176, 5, 3, 0, 0) := rfl
set_option maxRecDepth 20000 in
theorem gk_f31_38 : gd_fetch 31 38 = some (38, .baload, 1, 0, 0, 0, 0, 0) := rfl
set_option maxRecDepth 20000 in
theorem gk_f31_39 : gd_fetch 31 39 = some (39, .bipush 57, 2, 0, 0, 0, 0, 0) := rfl
set_option maxRecDepth 20000 in
theorem gk_f31_41 : gd_fetch 31 41 = some (41, .if_icmp .gt 40, 3, 0, 0, 0, 0, 0) := rfl
set_option maxRecDepth 20000 in
theorem gk_f31_44 : gd_fetch 31 44 = some (44, .aload_n 0, 1, 0, 0, 0, 0, 0) := rfl
set_option maxRecDepth 20000 in
theorem gk_f31_45 : gd_fetch 31 45 = some (45, .aload_n 0, 1, 0, 0, 0, 0, 0) := rfl
set_option maxRecDepth 20000 in
theorem gk_f31_46 : gd_fetch 31 46 = some (46, .getfield 68, 3, 183, 5, 7, 0, 0) := rfl
set_option maxRecDepth 20000 in
theorem gk_f31_49 : gd_fetch 31 49 = some (49, .bipush 10, 2, 0, 0, 0, 0, 0) := rfl
set_option maxRecDepth 20000 in
theorem gk_f31_51 : gd_fetch 31 51 = some (51, .imul, 1, 0, 0, 0, 0, 0) := rfl
set_option maxRecDepth 20000 in
theorem gk_f31_52 : gd_fetch 31 52 = some (52, .aload_n 0, 1, 0, 0, 0, 0, 0) := rfl
set_option maxRecDepth 20000 in
theorem gk_f31_53 : gd_fetch 31 53 = some (53, .getfield 27, 3, 174, 5, 1, 4, 0) := rfl
set_option maxRecDepth 20000 in
theorem gk_f31_56 : gd_fetch 31 56 = some (56, .aload_n 0, 1, 0, 0, 0, 0, 0) := rfl
set_option maxRecDepth 20000 in
theorem gk_f31_57 : gd_fetch 31 57 = some (57, .getfield 40, 3, 176, 5, 3, 0, 0) := rfl
set_option maxRecDepth 20000 in
theorem gk_f31_60 : gd_fetch 31 60 = some (60, .baload, 1, 0, 0, 0, 0, 0) := rfl
set_option maxRecDepth 20000 in
theorem gk_f31_61 : gd_fetch 31 61 = some (61, .bipush 48, 2, 0, 0, 0, 0, 0) := rfl
set_option maxRecDepth 20000 in
theorem gk_f31_63 : gd_fetch 31 63 = some (63, .isub, 1, 0, 0, 0, 0, 0) := rfl
set_option maxRecDepth 20000 in
theorem gk_f31_64 : gd_fetch 31 64 = some (64, .iadd, 1, 0, 0, 0, 0, 0) := rfl
set_option maxRecDepth 20000 in
theorem gk_f31_65 : gd_fetch 31 65 = some (65, .putfield 68, 3, 183, 5, 7, 0, 0) := rfl
set_option maxRecDepth 20000 in
theorem gk_f31_68 : gd_fetch 31 68 = some (68, .aload_n 0, 1, 0, 0, 0, 0, 0) := rfl
set_option maxRecDepth 20000 in
theorem gk_f31_69 : gd_fetch 31 69 = some (69, .dup, 1, 0, 0, 0, 0, 0) := rfl
set_option maxRecDepth 20000 in
theorem gk_f31_70 : gd_fetch 31 70 = some (70, .getfield 40, 3, 176, 5, 3, 0, 0) := rfl
set_option maxRecDepth 20000 in
theorem gk_f31_73 : gd_fetch 31 73 = some (73, .iconst 1, 1, 0, 0, 0, 0, 0) := rfl
set_option maxRecDepth 20000 in
theorem gk_f31_74 : gd_fetch 31 74 = some (74, .iadd, 1, 0, 0, 0, 0, 0) := rfl
set_option maxRecDepth 20000 in
theorem gk_f31_75 : gd_fetch 31 75 = some (75, .putfield 40, 3, 176, 5, 3, 0, 0) := rfl
set_option maxRecDepth 20000 in
theorem gk_f31_78 : gd_fetch 31 78 = some (78, .goto (-73), 3, 0, 0, 0, 0, 0) := rfl
set_option maxRecDepth 20000 in
theorem gk_f31_81 : gd_fetch 31 81 = some (81, .aload_n 0, 1, 0, 0, 0, 0, 0) := rfl
set_option maxRecDepth 20000 in
theorem gk_f31_82 : gd_fetch 31 82 = some (82, .aload_n 0, 1, 0, 0, 0, 0, 0) := rfl
set_option maxRecDepth 20000 in
theorem gk_f31_83 : gd_fetch 31 83 = some (83, .getfield 40, 3, 176, 5, 3, 0, 0) := rfl
set_option maxRecDepth 20000 in
theorem gk_f31_86 : gd_fetch 31 86 = some (86, .aload_n 0, 1, 0, 0, 0, 0, 0) := rfl
set_option maxRecDepth 20000 in
theorem gk_f31_87 : gd_fetch 31 87 = some (87, .getfield 46, 3, 181, 5, 6, 0, 0) := rfl
set_option maxRecDepth 20000 in
theorem gk_f31_90 : gd_fetch 31 90 = some (90, .isub, 1, 0, 0, 0, 0, 0) := rfl
set_option maxRecDepth 20000 in
theorem gk_f31_91 : gd_fetch 31 91 = some (91, .iconst 3, 1, 0, 0, 0, 0, 0) := rfl
set_option maxRecDepth 20000 in
theorem gk_f31_92 : gd_fetch 31 92 = some (92, .if_icmp .gt 7, 3, 0, 0, 0, 0, 0) := rfl
set_option maxRecDepth 20000 in
theorem gk_f31_95 : gd_fetch 31 95 = some (95, .iconst 2, 1, 0, 0, 0, 0, 0) := rfl
set_option maxRecDepth 20000 in
theorem gk_f31_96 : gd_fetch 31 96 = some (96, .goto 4, 3, 0, 0, 0, 0, 0) := rfl
set_option maxRecDepth 20000 in
theorem gk_f31_99 : gd_fetch 31 99 = some (99, .iconst 4, 1, 0, 0, 0, 0, 0) := rfl
set_option maxRecDepth 20000 in
theorem gk_f31_100 : gd_fetch 31 100 = some (100, .putfield 52, 3, 180, 5, 5, 0, 0) := rfl
set_option maxRecDepth 20000 in
theorem gk_f31_103 : gd_fetch 31 103 = some (103, .return_, 1, 0, 0, 0, 0, 0) := rfl
set_option maxRecDepth 20000 in
set_option maxHeartbeats 4000000 in
theorem q_Sc_nextNumber (r0 : Nat) (m : gd_M) : gd_call 31 [.ref r0] m = if gd_ok (gN m) r0 5 = true then (gd_Den (31, 5, [.ref r0], [], (wI m r0 7 0))) else none := by
  refine Eq.trans (show gd_call 31 [.ref r0] m = gd_Den (31, 0, [.ref r0], [], m) from by unfold gd_call gd_ent; rw [gk_ml31]; rfl) ?_
  refine Eq.trans (D_aload_n (x := r0) gk_f31_0 rfl) ?_
  refine Eq.trans (D_iconst (x := 0) gk_f31_1 gk_c_0) ?_
  refine Eq.trans (D_pfI gk_f31_2) ?_
  refine gd_ite (fun h1 => ?_) (fun _ => rfl)
  rfl
set_option maxRecDepth 20000 in
set_option maxHeartbeats 4000000 in
theorem q_Sc_nextNumber_5 (r0 : Nat) (m : gd_M) : gd_Den (31, 5, [.ref r0], [], m) = if gd_ok (gN m) r0 5 = true then (if ((gI m r0 3) < (gI m r0 2) : Prop) then (if gd_okA (gN m) (gR m r0 1) 12 (gI m r0 3) = true then (if ((gI m (gR m r0 1) ((gI m r0 3) : Int32).toNatClampNeg) < 48 : Prop) then (if (3 < ((gI m r0 3) - (gI m r0 6)) : Prop) then (some (.null, (wI m r0 5 4))) else (some (.null, (wI m r0 5 2)))) else (if (57 < (gI m (gR m r0 1) ((gI m r0 3) : Int32).toNatClampNeg) : Prop) then (if (3 < ((gI m r0 3) - (gI m r0 6)) : Prop) then (some (.null, (wI m r0 5 4))) else (some (.null, (wI m r0 5 2)))) else (gd_Den (31, 5, [.ref r0], [], (wI (wI m r0 7 (((gI m r0 7) * 10) + ((gI m (gR m r0 1) ((gI m r0 3) : Int32).toNatClampNeg) - 48))) r0 3 ((gI (wI m r0 7 (((gI m r0 7) * 10) + ((gI m (gR m r0 1) ((gI m r0 3) : Int32).toNatClampNeg) - 48))) r0 3) + 1)))))) else none) else (if (3 < ((gI m r0 3) - (gI m r0 6)) : Prop) then (some (.null, (wI m r0 5 4))) else (some (.null, (wI m r0 5 2))))) else none := by
  refine Eq.trans (D_aload_n (x := r0) gk_f31_5 rfl) ?_
  refine Eq.trans (D_gfI gk_f31_6 (by decide) (by decide) (by decide)) ?_
  refine gd_ite (fun h1 => ?_) (fun _ => rfl)
  refine Eq.trans (D_aload_n (x := r0) gk_f31_9 rfl) ?_
  refine Eq.trans (D_gfI gk_f31_10 (by decide) (by decide) (by decide)) ?_
  refine Eq.trans (if_pos h1) ?_
  refine Eq.trans (D_ic_ge (t := 81) gk_f31_13 (by decide)) ?_
  refine gd_ite (fun h2 => ?_) (fun h3 => ?_)
  · refine Eq.trans (D_aload_n (x := r0) gk_f31_16 rfl) ?_
    refine Eq.trans (D_gfR gk_f31_17 (by decide)) ?_
    refine Eq.trans (if_pos h1) ?_
    refine Eq.trans (D_aload_n (x := r0) gk_f31_20 rfl) ?_
    refine Eq.trans (D_gfI gk_f31_21 (by decide) (by decide) (by decide)) ?_
    refine Eq.trans (if_pos h1) ?_
    refine Eq.trans (D_bald (kd := 12) gk_f31_24 gk_n12_31 gk_bk31) ?_
    refine gd_ite (fun h4 => ?_) (fun _ => rfl)
    refine Eq.trans (D_bipush (x := 48) gk_f31_25 gk_b_48) ?_
    refine Eq.trans (D_ic_lt (t := 81) gk_f31_27 (by decide)) ?_
    refine gd_ite (fun h5 => ?_) (fun h6 => ?_)
    · refine Eq.trans (D_aload_n (x := r0) gk_f31_81 rfl) ?_
      refine Eq.trans (D_aload_n (x := r0) gk_f31_82 rfl) ?_
      refine Eq.trans (D_gfI gk_f31_83 (by decide) (by decide) (by decide)) ?_
      refine Eq.trans (if_pos h1) ?_
      refine Eq.trans (D_aload_n (x := r0) gk_f31_86 rfl) ?_
      refine Eq.trans (D_gfI gk_f31_87 (by decide) (by decide) (by decide)) ?_
      refine Eq.trans (if_pos h1) ?_
      refine Eq.trans (D_isub gk_f31_90) ?_
      refine Eq.trans (D_iconst (x := 3) gk_f31_91 gk_c_3) ?_
      refine Eq.trans (D_ic_gt (t := 99) gk_f31_92 (by decide)) ?_
      refine gd_ite (fun h7 => ?_) (fun h8 => ?_)
      · refine Eq.trans (D_iconst (x := 4) gk_f31_99 gk_c_4) ?_
        refine Eq.trans (D_pfI gk_f31_100) ?_
        refine Eq.trans (if_pos h1) ?_
        refine Eq.trans (D_vreturn gk_f31_103 gk_rk31) ?_
        rfl
      · refine Eq.trans (D_iconst (x := 2) gk_f31_95 gk_c_2) ?_
        refine Eq.trans (D_goto (t := 100) gk_f31_96 (by decide)) ?_
        refine Eq.trans (D_pfI gk_f31_100) ?_
        refine Eq.trans (if_pos h1) ?_
        refine Eq.trans (D_vreturn gk_f31_103 gk_rk31) ?_
        rfl
    · refine Eq.trans (D_aload_n (x := r0) gk_f31_30 rfl) ?_
      refine Eq.trans (D_gfR gk_f31_31 (by decide)) ?_
      refine Eq.trans (if_pos h1) ?_
      refine Eq.trans (D_aload_n (x := r0) gk_f31_34 rfl) ?_
      refine Eq.trans (D_gfI gk_f31_35 (by decide) (by decide) (by decide)) ?_
      refine Eq.trans (if_pos h1) ?_
      refine Eq.trans (D_bald (kd := 12) gk_f31_38 gk_n12_31 gk_bk31) ?_
      refine Eq.trans (if_pos h4) ?_
      refine Eq.trans (D_bipush (x := 57) gk_f31_39 gk_b_57) ?_
      refine Eq.trans (D_ic_gt (t := 81) gk_f31_41 (by decide)) ?_
      refine gd_ite (fun h9 => ?_) (fun h10 => ?_)
      · refine Eq.trans (D_aload_n (x := r0) gk_f31_81 rfl) ?_
        refine Eq.trans (D_aload_n (x := r0) gk_f31_82 rfl) ?_
        refine Eq.trans (D_gfI gk_f31_83 (by decide) (by decide) (by decide)) ?_
        refine Eq.trans (if_pos h1) ?_
        refine Eq.trans (D_aload_n (x := r0) gk_f31_86 rfl) ?_
        refine Eq.trans (D_gfI gk_f31_87 (by decide) (by decide) (by decide)) ?_
        refine Eq.trans (if_pos h1) ?_
        refine Eq.trans (D_isub gk_f31_90) ?_
        refine Eq.trans (D_iconst (x := 3) gk_f31_91 gk_c_3) ?_
        refine Eq.trans (D_ic_gt (t := 99) gk_f31_92 (by decide)) ?_
        refine gd_ite (fun h11 => ?_) (fun h12 => ?_)
        · refine Eq.trans (D_iconst (x := 4) gk_f31_99 gk_c_4) ?_
          refine Eq.trans (D_pfI gk_f31_100) ?_
          refine Eq.trans (if_pos h1) ?_
          refine Eq.trans (D_vreturn gk_f31_103 gk_rk31) ?_
          rfl
        · refine Eq.trans (D_iconst (x := 2) gk_f31_95 gk_c_2) ?_
          refine Eq.trans (D_goto (t := 100) gk_f31_96 (by decide)) ?_
          refine Eq.trans (D_pfI gk_f31_100) ?_
          refine Eq.trans (if_pos h1) ?_
          refine Eq.trans (D_vreturn gk_f31_103 gk_rk31) ?_
          rfl
      · refine Eq.trans (D_aload_n (x := r0) gk_f31_44 rfl) ?_
        refine Eq.trans (D_aload_n (x := r0) gk_f31_45 rfl) ?_
        refine Eq.trans (D_gfI gk_f31_46 (by decide) (by decide) (by decide)) ?_
        refine Eq.trans (if_pos h1) ?_
        refine Eq.trans (D_bipush (x := 10) gk_f31_49 gk_b_10) ?_
        refine Eq.trans (D_imul gk_f31_51) ?_
        refine Eq.trans (D_aload_n (x := r0) gk_f31_52 rfl) ?_
        refine Eq.trans (D_gfR gk_f31_53 (by decide)) ?_
        refine Eq.trans (if_pos h1) ?_
        refine Eq.trans (D_aload_n (x := r0) gk_f31_56 rfl) ?_
        refine Eq.trans (D_gfI gk_f31_57 (by decide) (by decide) (by decide)) ?_
        refine Eq.trans (if_pos h1) ?_
        refine Eq.trans (D_bald (kd := 12) gk_f31_60 gk_n12_31 gk_bk31) ?_
        refine Eq.trans (if_pos h4) ?_
        refine Eq.trans (D_bipush (x := 48) gk_f31_61 gk_b_48) ?_
        refine Eq.trans (D_isub gk_f31_63) ?_
        refine Eq.trans (D_iadd gk_f31_64) ?_
        refine Eq.trans (D_pfI gk_f31_65) ?_
        refine Eq.trans (if_pos h1) ?_
        refine Eq.trans (D_aload_n (x := r0) gk_f31_68 rfl) ?_
        refine Eq.trans (D_dupR gk_f31_69) ?_
        refine Eq.trans (D_gfI gk_f31_70 (by decide) (by decide) (by decide)) ?_
        refine Eq.trans (if_pos h1) ?_
        refine Eq.trans (D_iconst (x := 1) gk_f31_73 gk_c_1) ?_
        refine Eq.trans (D_iadd gk_f31_74) ?_
        refine Eq.trans (D_pfI gk_f31_75) ?_
        refine Eq.trans (if_pos h1) ?_
        refine Eq.trans (D_goto (t := 5) gk_f31_78 (by decide)) ?_
        rfl
  · refine Eq.trans (D_aload_n (x := r0) gk_f31_81 rfl) ?_
    refine Eq.trans (D_aload_n (x := r0) gk_f31_82 rfl) ?_
    refine Eq.trans (D_gfI gk_f31_83 (by decide) (by decide) (by decide)) ?_
    refine Eq.trans (if_pos h1) ?_
    refine Eq.trans (D_aload_n (x := r0) gk_f31_86 rfl) ?_
    refine Eq.trans (D_gfI gk_f31_87 (by decide) (by decide) (by decide)) ?_
    refine Eq.trans (if_pos h1) ?_
    refine Eq.trans (D_isub gk_f31_90) ?_
    refine Eq.trans (D_iconst (x := 3) gk_f31_91 gk_c_3) ?_
    refine Eq.trans (D_ic_gt (t := 99) gk_f31_92 (by decide)) ?_
    refine gd_ite (fun h13 => ?_) (fun h14 => ?_)
    · refine Eq.trans (D_iconst (x := 4) gk_f31_99 gk_c_4) ?_
      refine Eq.trans (D_pfI gk_f31_100) ?_
      refine Eq.trans (if_pos h1) ?_
      refine Eq.trans (D_vreturn gk_f31_103 gk_rk31) ?_
      rfl
    · refine Eq.trans (D_iconst (x := 2) gk_f31_95 gk_c_2) ?_
      refine Eq.trans (D_goto (t := 100) gk_f31_96 (by decide)) ?_
      refine Eq.trans (D_pfI gk_f31_100) ?_
      refine Eq.trans (if_pos h1) ?_
      refine Eq.trans (D_vreturn gk_f31_103 gk_rk31) ?_
      rfl
/-! GymDesk$Scanner.next ()V -/
set_option maxRecDepth 20000 in
theorem gk_f32_0 : gd_fetch 32 0 = some (0, .aload_n 0, 1, 0, 0, 0, 0, 0) := rfl
set_option maxRecDepth 20000 in
theorem gk_f32_1 : gd_fetch 32 1 = some (1, .getfield 40, 3, 176, 5, 3, 0, 0) := rfl
set_option maxRecDepth 20000 in
theorem gk_f32_4 : gd_fetch 32 4 = some (4, .aload_n 0, 1, 0, 0, 0, 0, 0) := rfl
set_option maxRecDepth 20000 in
theorem gk_f32_5 : gd_fetch 32 5 = some (5, .getfield 37, 3, 175, 5, 2, 0, 0) := rfl
set_option maxRecDepth 20000 in
theorem gk_f32_8 : gd_fetch 32 8 = some (8, .if_icmp .ge 44, 3, 0, 0, 0, 0, 0) := rfl
set_option maxRecDepth 20000 in
theorem gk_f32_11 : gd_fetch 32 11 = some (11, .aload_n 0, 1, 0, 0, 0, 0, 0) := rfl
set_option maxRecDepth 20000 in
theorem gk_f32_12 : gd_fetch 32 12 = some (12, .getfield 27, 3, 174, 5, 1, 4, 0) := rfl
set_option maxRecDepth 20000 in
theorem gk_f32_15 : gd_fetch 32 15 = some (15, .aload_n 0, 1, 0, 0, 0, 0, 0) := rfl
set_option maxRecDepth 20000 in
theorem gk_f32_16 : gd_fetch 32 16 = some (16, .getfield 40, 3, 176, 5, 3, 0, 0) := rfl
set_option maxRecDepth 20000 in
theorem gk_f32_19 : gd_fetch 32 19 = some (19, .baload, 1, 0, 0, 0, 0, 0) := rfl
set_option maxRecDepth 20000 in
theorem gk_f32_20 : gd_fetch 32 20 = some (20, .bipush 32, 2, 0, 0, 0, 0, 0) := rfl
set_option maxRecDepth 20000 in
theorem gk_f32_22 : gd_fetch 32 22 = some (22, .if_icmp .eq 17, 3, 0, 0, 0, 0, 0) := rfl
set_option maxRecDepth 20000 in
theorem gk_f32_25 : gd_fetch 32 25 = some (25, .aload_n 0, 1, 0, 0, 0, 0, 0) := rfl
set_option maxRecDepth 20000 in
theorem gk_f32_26 : gd_fetch 32 26 = some (26, .getfield 27, 3, 174, 5, 1, 4, 0) := rfl
set_option maxRecDepth 20000 in
theorem gk_f32_29 : gd_fetch 32 29 = some (29, .aload_n 0, 1, 0, 0, 0, 0, 0) := rfl
set_option maxRecDepth 20000 in
theorem gk_f32_30 : gd_fetch 32 30 = some (30, .getfield 40, 3, 176, 5, 3, 0, 0) := rfl
set_option maxRecDepth 20000 in
theorem gk_f32_33 : gd_fetch 32 33 = some (33, .baload, 1, 0, 0, 0, 0, 0) := rfl
set_option maxRecDepth 20000 in
theorem gk_f32_34 : gd_fetch 32 34 = some (34, .bipush 10, 2, 0, 0, 0, 0, 0) := rfl
set_option maxRecDepth 20000 in
theorem gk_f32_36 : gd_fetch 32 36 = some (36, .if_icmp .ne 16, 3, 0, 0, 0, 0, 0) := rfl
set_option maxRecDepth 20000 in
theorem gk_f32_39 : gd_fetch 32 39 = some (39, .aload_n 0, 1, 0, 0, 0, 0, 0) := rfl
set_option maxRecDepth 20000 in
theorem gk_f32_40 : gd_fetch 32 40 = some (40, .dup, 1, 0, 0, 0, 0, 0) := rfl
set_option maxRecDepth 20000 in
theorem gk_f32_41 : gd_fetch 32 41 = some (41, .getfield 40, 3, 176, 5, 3, 0, 0) := rfl
set_option maxRecDepth 20000 in
theorem gk_f32_44 : gd_fetch 32 44 = some (44, .iconst 1, 1, 0, 0, 0, 0, 0) := rfl
set_option maxRecDepth 20000 in
theorem gk_f32_45 : gd_fetch 32 45 = some (45, .iadd, 1, 0, 0, 0, 0, 0) := rfl
set_option maxRecDepth 20000 in
theorem gk_f32_46 : gd_fetch 32 46 = some (46, .putfield 40, 3, 176, 5, 3, 0, 0) := rfl
set_option maxRecDepth 20000 in
theorem gk_f32_49 : gd_fetch 32 49 = some (49, .goto (-49), 3, 0, 0, 0, 0, 0) := rfl
set_option maxRecDepth 20000 in
theorem gk_f32_52 : gd_fetch 32 52 = some (52, .aload_n 0, 1, 0, 0, 0, 0, 0) := rfl
set_option maxRecDepth 20000 in
theorem gk_f32_53 : gd_fetch 32 53 = some (53, .aload_n 0, 1, 0, 0, 0, 0, 0) := rfl
set_option maxRecDepth 20000 in
theorem gk_f32_54 : gd_fetch 32 54 = some (54, .getfield 40, 3, 176, 5, 3, 0, 0) := rfl
set_option maxRecDepth 20000 in
theorem gk_f32_57 : gd_fetch 32 57 = some (57, .putfield 46, 3, 181, 5, 6, 0, 0) := rfl
set_option maxRecDepth 20000 in
theorem gk_f32_60 : gd_fetch 32 60 = some (60, .aload_n 0, 1, 0, 0, 0, 0, 0) := rfl
set_option maxRecDepth 20000 in
theorem gk_f32_61 : gd_fetch 32 61 = some (61, .iconst (-1), 1, 0, 0, 0, 0, 0) := rfl
set_option maxRecDepth 20000 in
theorem gk_f32_62 : gd_fetch 32 62 = some (62, .putfield 49, 3, 188, 5, 9, 0, 0) := rfl
set_option maxRecDepth 20000 in
theorem gk_f32_65 : gd_fetch 32 65 = some (65, .aload_n 0, 1, 0, 0, 0, 0, 0) := rfl
set_option maxRecDepth 20000 in
theorem gk_f32_66 : gd_fetch 32 66 = some (66, .getfield 40, 3, 176, 5, 3, 0, 0) := rfl
set_option maxRecDepth 20000 in
theorem gk_f32_69 : gd_fetch 32 69 = some (69, .aload_n 0, 1, 0, 0, 0, 0, 0) := rfl
set_option maxRecDepth 20000 in
theorem gk_f32_70 : gd_fetch 32 70 = some (70, .getfield 37, 3, 175, 5, 2, 0, 0) := rfl
set_option maxRecDepth 20000 in
theorem gk_f32_73 : gd_fetch 32 73 = some (73, .if_icmp .lt 9, 3, 0, 0, 0, 0, 0) := rfl
set_option maxRecDepth 20000 in
theorem gk_f32_76 : gd_fetch 32 76 = some (76, .aload_n 0, 1, 0, 0, 0, 0, 0) := rfl
set_option maxRecDepth 20000 in
theorem gk_f32_77 : gd_fetch 32 77 = some (77, .iconst 0, 1, 0, 0, 0, 0, 0) := rfl
set_option maxRecDepth 20000 in
theorem gk_f32_78 : gd_fetch 32 78 = some (78, .putfield 52, 3, 180, 5, 5, 0, 0) := rfl
set_option maxRecDepth 20000 in
theorem gk_f32_81 : gd_fetch 32 81 = some (81, .return_, 1, 0, 0, 0, 0, 0) := rfl
set_option maxRecDepth 20000 in
theorem gk_f32_82 : gd_fetch 32 82 = some (82, .aload_n 0, 1, 0, 0, 0, 0, 0) := rfl
set_option maxRecDepth 20000 in
theorem gk_f32_83 : gd_fetch 32 83 = some (83, .dup, 1, 0, 0, 0, 0, 0) := rfl
set_option maxRecDepth 20000 in
theorem gk_f32_84 : gd_fetch 32 84 = some (84, .getfield 43, 3, 177, 5, 4, 0, 0) := rfl
set_option maxRecDepth 20000 in
theorem gk_f32_87 : gd_fetch 32 87 = some (87, .iconst 1, 1, 0, 0, 0, 0, 0) := rfl
set_option maxRecDepth 20000 in
theorem gk_f32_88 : gd_fetch 32 88 = some (88, .iadd, 1, 0, 0, 0, 0, 0) := rfl
set_option maxRecDepth 20000 in
theorem gk_f32_89 : gd_fetch 32 89 = some (89, .putfield 43, 3, 177, 5, 4, 0, 0) := rfl
set_option maxRecDepth 20000 in
theorem gk_f32_92 : gd_fetch 32 92 = some (92, .aload_n 0, 1, 0, 0, 0, 0, 0) := rfl
set_option maxRecDepth 20000 in
theorem gk_f32_93 : gd_fetch 32 93 = some (93, .getfield 27, 3, 174, 5, 1, 4, 0) := rfl
set_option maxRecDepth 20000 in
theorem gk_f32_96 : gd_fetch 32 96 = some (96, .aload_n 0, 1, 0, 0, 0, 0, 0) := rfl
set_option maxRecDepth 20000 in
theorem gk_f32_97 : gd_fetch 32 97 = some (97, .getfield 40, 3, 176, 5, 3, 0, 0) := rfl
set_option maxRecDepth 20000 in
theorem gk_f32_100 : gd_fetch 32 100 = some (100, .baload, 1, 0, 0, 0, 0, 0) := rfl
set_option maxRecDepth 20000 in
theorem gk_f32_101 : gd_fetch 32 101 = some (101, .bipush 97, 2, 0, 0, 0, 0, 0) := rfl
set_option maxRecDepth 20000 in
theorem gk_f32_103 : gd_fetch 32 103 = some (103, .if_icmp .lt 28, 3, 0, 0, 0, 0, 0) := rfl
set_option maxRecDepth 20000 in
theorem gk_f32_106 : gd_fetch 32 106 = some (106, .aload_n 0, 1, 0, 0, 0, 0, 0) := rfl
set_option maxRecDepth 20000 in
theorem gk_f32_107 : gd_fetch 32 107 = some (107, .getfield 27, 3, 174, 5, 1, 4, 0) := rfl
set_option maxRecDepth 20000 in
theorem gk_f32_110 : gd_fetch 32 110 = some (110, .aload_n 0, 1, 0, 0, 0, 0, 0) := rfl
set_option maxRecDepth 20000 in
theorem gk_f32_111 : gd_fetch 32 111 = some (111, .getfield 40, 3, 176, 5, 3, 0, 0) := rfl
set_option maxRecDepth 20000 in
theorem gk_f32_114 : gd_fetch 32 114 = some (114, .baload, 1, 0, 0, 0, 0, 0) := rfl
set_option maxRecDepth 20000 in
theorem gk_f32_115 : gd_fetch 32 115 = some (115, .bipush 122, 2, 0, 0, 0, 0, 0) := rfl
set_option maxRecDepth 20000 in
theorem gk_f32_117 : gd_fetch 32 117 = some (117, .if_icmp .gt 14, 3, 0, 0, 0, 0, 0) := rfl
set_option maxRecDepth 20000 in
theorem gk_f32_120 : gd_fetch 32 120 = some (120, .aload_n 0, 1, 0, 0, 0, 0, 0) := rfl
set_option maxRecDepth 20000 in
theorem gk_f32_121 : gd_fetch 32 121 = some (121, .invokevirtual 55, 3, 538, 29, 0, 0, 0) := rfl
set_option maxRecDepth 20000 in
theorem gk_f32_124 : gd_fetch 32 124 = some (124, .aload_n 0, 1, 0, 0, 0, 0, 0) := rfl
set_option maxRecDepth 20000 in
theorem gk_f32_125 : gd_fetch 32 125 = some (125, .invokevirtual 58, 3, 542, 30, 0, 0, 0) := rfl
set_option maxRecDepth 20000 in
theorem gk_f32_128 : gd_fetch 32 128 = some (128, .goto 71, 3, 0, 0, 0, 0, 0) := rfl
set_option maxRecDepth 20000 in
theorem gk_f32_131 : gd_fetch 32 131 = some (131, .aload_n 0, 1, 0, 0, 0, 0, 0) := rfl
set_option maxRecDepth 20000 in
theorem gk_f32_132 : gd_fetch 32 132 = some (132, .getfield 27, 3, 174, 5, 1, 4, 0) := rfl
set_option maxRecDepth 20000 in
theorem gk_f32_135 : gd_fetch 32 135 = some (135, .aload_n 0, 1, 0, 0, 0, 0, 0) := rfl
set_option maxRecDepth 20000 in
theorem gk_f32_136 : gd_fetch 32 136 = some (136, .getfield 40, 3, 176, 5, 3, 0, 0) := rfl
set_option maxRecDepth 20000 in
theorem gk_f32_139 : gd_fetch 32 139 = some (139, .baload, 1, 0, 0, 0, 0, 0) := rfl
set_option maxRecDepth 20000 in
theorem gk_f32_140 : gd_fetch 32 140 = some (140, .bipush 48, 2, 0, 0, 0, 0, 0) := rfl
set_option maxRecDepth 20000 in
theorem gk_f32_142 : gd_fetch 32 142 = some (142, .if_icmp .lt 24, 3, 0, 0, 0, 0, 0) := rfl
set_option maxRecDepth 20000 in
theorem gk_f32_145 : gd_fetch 32 145 = some (145, .aload_n 0, 1, 0, 0, 0, 0, 0) := rfl
set_option maxRecDepth 20000 in
theorem gk_f32_146 : gd_fetch 32 146 = some (146, .getfield 27, 3, 174, 5, 1, 4, 0) := rfl
set_option maxRecDepth 20000 in
theorem gk_f32_149 : gd_fetch 32 149 = some (149, .aload_n 0, 1, 0, 0, 0, 0, 0) := rfl
set_option maxRecDepth 20000 in
theorem gk_f32_150 : gd_fetch 32 150 = some (150, .getfield 40, 3, 176, 5, 3, 0, 0) := rfl
set_option maxRecDepth 20000 in
theorem gk_f32_153 : gd_fetch 32 153 = some (153, .baload, 1, 0, 0, 0, 0, 0) := rfl
set_option maxRecDepth 20000 in
theorem gk_f32_154 : gd_fetch 32 154 = some (154, .bipush 57, 2, 0, 0, 0, 0, 0) := rfl
set_option maxRecDepth 20000 in
theorem gk_f32_156 : gd_fetch 32 156 = some (156, .if_icmp .gt 10, 3, 0, 0, 0, 0, 0) := rfl
set_option maxRecDepth 20000 in
theorem gk_f32_159 : gd_fetch 32 159 = some (159, .aload_n 0, 1, 0, 0, 0, 0, 0) := rfl
set_option maxRecDepth 20000 in
theorem gk_f32_160 : gd_fetch 32 160 = some (160, .invokevirtual 61, 3, 546, 31, 0, 0, 0) := rfl
set_option maxRecDepth 20000 in
theorem gk_f32_163 : gd_fetch 32 163 = some (163, .goto 36, 3, 0, 0, 0, 0, 0) := rfl
set_option maxRecDepth 20000 in
theorem gk_f32_166 : gd_fetch 32 166 = some (166, .aload_n 0, 1, 0, 0, 0, 0, 0) := rfl
set_option maxRecDepth 20000 in
theorem gk_f32_167 : gd_fetch 32 167 = some (167, .aload_n 0, 1, 0, 0, 0, 0, 0) := rfl
set_option maxRecDepth 20000 in
theorem gk_f32_168 : gd_fetch 32 168 = some (168, .getfield 27, 3, 174, 5, 1, 4, 0) := rfl
set_option maxRecDepth 20000 in
theorem gk_f32_171 : gd_fetch 32 171 = some (171, .aload_n 0, 1, 0, 0, 0, 0, 0) := rfl
set_option maxRecDepth 20000 in
theorem gk_f32_172 : gd_fetch 32 172 = some (172, .getfield 40, 3, 176, 5, 3, 0, 0) := rfl
set_option maxRecDepth 20000 in
theorem gk_f32_175 : gd_fetch 32 175 = some (175, .baload, 1, 0, 0, 0, 0, 0) := rfl
set_option maxRecDepth 20000 in
theorem gk_f32_176 : gd_fetch 32 176 = some (176, .bipush 59, 2, 0, 0, 0, 0, 0) := rfl
set_option maxRecDepth 20000 in
theorem gk_f32_178 : gd_fetch 32 178 = some (178, .if_icmp .ne 7, 3, 0, 0, 0, 0, 0) := rfl
set_option maxRecDepth 20000 in
theorem gk_f32_181 : gd_fetch 32 181 = some (181, .iconst 3, 1, 0, 0, 0, 0, 0) := rfl
set_option maxRecDepth 20000 in
theorem gk_f32_182 : gd_fetch 32 182 = some (182, .goto 4, 3, 0, 0, 0, 0, 0) := rfl
set_option maxRecDepth 20000 in
theorem gk_f32_185 : gd_fetch 32 185 = some (185, .iconst 4, 1, 0, 0, 0, 0, 0) := rfl
set_option maxRecDepth 20000 in
theorem gk_f32_186 : gd_fetch 32 186 = some (186, .putfield 52, 3, 180, 5, 5, 0, 0) := rfl
set_option maxRecDepth 20000 in
theorem gk_f32_189 : gd_fetch 32 189 = some (189, .aload_n 0, 1, 0, 0, 0, 0, 0) := rfl
set_option maxRecDepth 20000 in
theorem gk_f32_190 : gd_fetch 32 190 = some (190, .dup, 1, 0, 0, 0, 0, 0) := rfl
set_option maxRecDepth 20000 in
theorem gk_f32_191 : gd_fetch 32 191 = some (191, .getfield 40, 3, 176, 5, 3, 0, 0) := rfl
set_option maxRecDepth 20000 in
theorem gk_f32_194 : gd_fetch 32 194 = some (194, .iconst 1, 1, 0, 0, 0, 0, 0) := rfl
set_option maxRecDepth 20000 in
theorem gk_f32_195 : gd_fetch 32 195 = some (195, .iadd, 1, 0, 0, 0, 0, 0) := rfl
set_option maxRecDepth 20000 in
theorem gk_f32_196 : gd_fetch 32 196 = some (196, .putfield 40, 3, 176, 5, 3, 0, 0) := rfl
set_option maxRecDepth 20000 in
theorem gk_f32_199 : gd_fetch 32 199 = some (199, .return_, 1, 0, 0, 0, 0, 0) := rfl
set_option maxRecDepth 20000 in
set_option maxHeartbeats 4000000 in
theorem q_Sc_next (r0 : Nat) (m : gd_M) : gd_call 32 [.ref r0] m = if gd_ok (gN m) r0 5 = true then (if ((gI m r0 3) < (gI m r0 2) : Prop) then (if gd_okA (gN m) (gR m r0 1) 12 (gI m r0 3) = true then (if ((gI m (gR m r0 1) ((gI m r0 3) : Int32).toNatClampNeg) = 32 : Prop) then (gd_Den (32, 0, [.ref r0], [], (wI m r0 3 ((gI m r0 3) + 1)))) else (if ((gI m (gR m r0 1) ((gI m r0 3) : Int32).toNatClampNeg) = 10 : Prop) then (gd_Den (32, 0, [.ref r0], [], (wI m r0 3 ((gI m r0 3) + 1)))) else (if ((gI (wI (wI m r0 6 (gI m r0 3)) r0 9 (-1)) r0 3) < (gI (wI (wI m r0 6 (gI m r0 3)) r0 9 (-1)) r0 2) : Prop) then (if gd_okA (gN m) (gR m r0 1) 12 (gI (wI (wI (wI m r0 6 (gI m r0 3)) r0 9 (-1)) r0 4 ((gI (wI (wI m r0 6 (gI m r0 3)) r0 9 (-1)) r0 4) + 1)) r0 3) = true then (if ((gI (wI (wI (wI m r0 6 (gI m r0 3)) r0 9 (-1)) r0 4 ((gI (wI (wI m r0 6 (gI m r0 3)) r0 9 (-1)) r0 4) + 1)) (gR m r0 1) ((gI (wI (wI (wI m r0 6 (gI m r0 3)) r0 9 (-1)) r0 4 ((gI (wI (wI m r0 6 (gI m r0 3)) r0 9 (-1)) r0 4) + 1)) r0 3) : Int32).toNatClampNeg) < 97 : Prop) then (gd_Den (32, 131, [.ref r0], [], (wI (wI (wI m r0 6 (gI m r0 3)) r0 9 (-1)) r0 4 ((gI (wI (wI m r0 6 (gI m r0 3)) r0 9 (-1)) r0 4) + 1)))) else (if (122 < (gI (wI (wI (wI m r0 6 (gI m r0 3)) r0 9 (-1)) r0 4 ((gI (wI (wI m r0 6 (gI m r0 3)) r0 9 (-1)) r0 4) + 1)) (gR m r0 1) ((gI (wI (wI (wI m r0 6 (gI m r0 3)) r0 9 (-1)) r0 4 ((gI (wI (wI m r0 6 (gI m r0 3)) r0 9 (-1)) r0 4) + 1)) r0 3) : Int32).toNatClampNeg) : Prop) then (gd_Den (32, 131, [.ref r0], [], (wI (wI (wI m r0 6 (gI m r0 3)) r0 9 (-1)) r0 4 ((gI (wI (wI m r0 6 (gI m r0 3)) r0 9 (-1)) r0 4) + 1)))) else ((gd_call 29 [.ref r0] (wI (wI (wI m r0 6 (gI m r0 3)) r0 9 (-1)) r0 4 ((gI (wI (wI m r0 6 (gI m r0 3)) r0 9 (-1)) r0 4) + 1))).bind (gd_kV fun m16 => if gd_ok (gN m16) r0 5 = true then ((gd_call 30 [.ref r0] m16).bind (gd_kV fun m19 => some (.null, m19))) else none)))) else none) else (some (.null, (wI (wI (wI m r0 6 (gI m r0 3)) r0 9 (-1)) r0 5 0)))))) else none) else (if ((gI (wI (wI m r0 6 (gI m r0 3)) r0 9 (-1)) r0 3) < (gI (wI (wI m r0 6 (gI m r0 3)) r0 9 (-1)) r0 2) : Prop) then (if gd_okA (gN m) (gR m r0 1) 12 (gI (wI (wI (wI m r0 6 (gI m r0 3)) r0 9 (-1)) r0 4 ((gI (wI (wI m r0 6 (gI m r0 3)) r0 9 (-1)) r0 4) + 1)) r0 3) = true then (if ((gI (wI (wI (wI m r0 6 (gI m r0 3)) r0 9 (-1)) r0 4 ((gI (wI (wI m r0 6 (gI m r0 3)) r0 9 (-1)) r0 4) + 1)) (gR m r0 1) ((gI (wI (wI (wI m r0 6 (gI m r0 3)) r0 9 (-1)) r0 4 ((gI (wI (wI m r0 6 (gI m r0 3)) r0 9 (-1)) r0 4) + 1)) r0 3) : Int32).toNatClampNeg) < 97 : Prop) then (gd_Den (32, 131, [.ref r0], [], (wI (wI (wI m r0 6 (gI m r0 3)) r0 9 (-1)) r0 4 ((gI (wI (wI m r0 6 (gI m r0 3)) r0 9 (-1)) r0 4) + 1)))) else (if (122 < (gI (wI (wI (wI m r0 6 (gI m r0 3)) r0 9 (-1)) r0 4 ((gI (wI (wI m r0 6 (gI m r0 3)) r0 9 (-1)) r0 4) + 1)) (gR m r0 1) ((gI (wI (wI (wI m r0 6 (gI m r0 3)) r0 9 (-1)) r0 4 ((gI (wI (wI m r0 6 (gI m r0 3)) r0 9 (-1)) r0 4) + 1)) r0 3) : Int32).toNatClampNeg) : Prop) then (gd_Den (32, 131, [.ref r0], [], (wI (wI (wI m r0 6 (gI m r0 3)) r0 9 (-1)) r0 4 ((gI (wI (wI m r0 6 (gI m r0 3)) r0 9 (-1)) r0 4) + 1)))) else ((gd_call 29 [.ref r0] (wI (wI (wI m r0 6 (gI m r0 3)) r0 9 (-1)) r0 4 ((gI (wI (wI m r0 6 (gI m r0 3)) r0 9 (-1)) r0 4) + 1))).bind (gd_kV fun m28 => if gd_ok (gN m28) r0 5 = true then ((gd_call 30 [.ref r0] m28).bind (gd_kV fun m31 => some (.null, m31))) else none)))) else none) else (some (.null, (wI (wI (wI m r0 6 (gI m r0 3)) r0 9 (-1)) r0 5 0))))) else none := by
  refine Eq.trans (show gd_call 32 [.ref r0] m = gd_Den (32, 0, [.ref r0], [], m) from by unfold gd_call gd_ent; rw [gk_ml32]; rfl) ?_
  refine Eq.trans (D_aload_n (x := r0) gk_f32_0 rfl) ?_
  refine Eq.trans (D_gfI gk_f32_1 (by decide) (by decide) (by decide)) ?_
  refine gd_ite (fun h1 => ?_) (fun _ => rfl)
  refine Eq.trans (D_aload_n (x := r0) gk_f32_4 rfl) ?_
  refine Eq.trans (D_gfI gk_f32_5 (by decide) (by decide) (by decide)) ?_
  refine Eq.trans (if_pos h1) ?_
  refine Eq.trans (D_ic_ge (t := 52) gk_f32_8 (by decide)) ?_
  refine gd_ite (fun h2 => ?_) (fun h3 => ?_)
  · refine Eq.trans (D_aload_n (x := r0) gk_f32_11 rfl) ?_
    refine Eq.trans (D_gfR gk_f32_12 (by decide)) ?_
    refine Eq.trans (if_pos h1) ?_
    refine Eq.trans (D_aload_n (x := r0) gk_f32_15 rfl) ?_
    refine Eq.trans (D_gfI gk_f32_16 (by decide) (by decide) (by decide)) ?_
    refine Eq.trans (if_pos h1) ?_
    refine Eq.trans (D_bald (kd := 12) gk_f32_19 gk_n12_32 gk_bk32) ?_
    refine gd_ite (fun h4 => ?_) (fun _ => rfl)
    refine Eq.trans (D_bipush (x := 32) gk_f32_20 gk_b_32) ?_
    refine Eq.trans (D_ic_eq (t := 39) gk_f32_22 (by decide)) ?_
    refine gd_ite (fun h5 => ?_) (fun h6 => ?_)
    · refine Eq.trans (D_aload_n (x := r0) gk_f32_39 rfl) ?_
      refine Eq.trans (D_dupR gk_f32_40) ?_
      refine Eq.trans (D_gfI gk_f32_41 (by decide) (by decide) (by decide)) ?_
      refine Eq.trans (if_pos h1) ?_
      refine Eq.trans (D_iconst (x := 1) gk_f32_44 gk_c_1) ?_
      refine Eq.trans (D_iadd gk_f32_45) ?_
      refine Eq.trans (D_pfI gk_f32_46) ?_
      refine Eq.trans (if_pos h1) ?_
      refine Eq.trans (D_goto (t := 0) gk_f32_49 (by decide)) ?_
      rfl
    · refine Eq.trans (D_aload_n (x := r0) gk_f32_25 rfl) ?_
      refine Eq.trans (D_gfR gk_f32_26 (by decide)) ?_
      refine Eq.trans (if_pos h1) ?_
      refine Eq.trans (D_aload_n (x := r0) gk_f32_29 rfl) ?_
      refine Eq.trans (D_gfI gk_f32_30 (by decide) (by decide) (by decide)) ?_
      refine Eq.trans (if_pos h1) ?_
      refine Eq.trans (D_bald (kd := 12) gk_f32_33 gk_n12_32 gk_bk32) ?_
      refine Eq.trans (if_pos h4) ?_
      refine Eq.trans (D_bipush (x := 10) gk_f32_34 gk_b_10) ?_
      refine Eq.trans (D_ic_ne (t := 52) gk_f32_36 (by decide)) ?_
      refine gd_ite (fun h7 => ?_) (fun h8 => ?_)
      · refine Eq.trans (D_aload_n (x := r0) gk_f32_39 rfl) ?_
        refine Eq.trans (D_dupR gk_f32_40) ?_
        refine Eq.trans (D_gfI gk_f32_41 (by decide) (by decide) (by decide)) ?_
        refine Eq.trans (if_pos h1) ?_
        refine Eq.trans (D_iconst (x := 1) gk_f32_44 gk_c_1) ?_
        refine Eq.trans (D_iadd gk_f32_45) ?_
        refine Eq.trans (D_pfI gk_f32_46) ?_
        refine Eq.trans (if_pos h1) ?_
        refine Eq.trans (D_goto (t := 0) gk_f32_49 (by decide)) ?_
        rfl
      · refine Eq.trans (D_aload_n (x := r0) gk_f32_52 rfl) ?_
        refine Eq.trans (D_aload_n (x := r0) gk_f32_53 rfl) ?_
        refine Eq.trans (D_gfI gk_f32_54 (by decide) (by decide) (by decide)) ?_
        refine Eq.trans (if_pos h1) ?_
        refine Eq.trans (D_pfI gk_f32_57) ?_
        refine Eq.trans (if_pos h1) ?_
        refine Eq.trans (D_aload_n (x := r0) gk_f32_60 rfl) ?_
        refine Eq.trans (D_iconst (x := (-1)) gk_f32_61 gk_c_m1) ?_
        refine Eq.trans (D_pfI gk_f32_62) ?_
        refine Eq.trans (if_pos h1) ?_
        refine Eq.trans (D_aload_n (x := r0) gk_f32_65 rfl) ?_
        refine Eq.trans (D_gfI gk_f32_66 (by decide) (by decide) (by decide)) ?_
        refine Eq.trans (if_pos h1) ?_
        refine Eq.trans (D_aload_n (x := r0) gk_f32_69 rfl) ?_
        refine Eq.trans (D_gfI gk_f32_70 (by decide) (by decide) (by decide)) ?_
        refine Eq.trans (if_pos h1) ?_
        refine Eq.trans (D_ic_lt (t := 82) gk_f32_73 (by decide)) ?_
        refine gd_ite (fun h9 => ?_) (fun h10 => ?_)
        · refine Eq.trans (D_aload_n (x := r0) gk_f32_82 rfl) ?_
          refine Eq.trans (D_dupR gk_f32_83) ?_
          refine Eq.trans (D_gfI gk_f32_84 (by decide) (by decide) (by decide)) ?_
          refine Eq.trans (if_pos h1) ?_
          refine Eq.trans (D_iconst (x := 1) gk_f32_87 gk_c_1) ?_
          refine Eq.trans (D_iadd gk_f32_88) ?_
          refine Eq.trans (D_pfI gk_f32_89) ?_
          refine Eq.trans (if_pos h1) ?_
          refine Eq.trans (D_aload_n (x := r0) gk_f32_92 rfl) ?_
          refine Eq.trans (D_gfR gk_f32_93 (by decide)) ?_
          refine Eq.trans (if_pos h1) ?_
          refine Eq.trans (D_aload_n (x := r0) gk_f32_96 rfl) ?_
          refine Eq.trans (D_gfI gk_f32_97 (by decide) (by decide) (by decide)) ?_
          refine Eq.trans (if_pos h1) ?_
          refine Eq.trans (D_bald (kd := 12) gk_f32_100 gk_n12_32 gk_bk32) ?_
          refine gd_ite (fun h11 => ?_) (fun _ => rfl)
          refine Eq.trans (D_bipush (x := 97) gk_f32_101 gk_b_97) ?_
          refine Eq.trans (D_ic_lt (t := 131) gk_f32_103 (by decide)) ?_
          refine gd_ite (fun h12 => ?_) (fun h13 => ?_)
          · rfl
          · refine Eq.trans (D_aload_n (x := r0) gk_f32_106 rfl) ?_
            refine Eq.trans (D_gfR gk_f32_107 (by decide)) ?_
            refine Eq.trans (if_pos h1) ?_
            refine Eq.trans (D_aload_n (x := r0) gk_f32_110 rfl) ?_
            refine Eq.trans (D_gfI gk_f32_111 (by decide) (by decide) (by decide)) ?_
            refine Eq.trans (if_pos h1) ?_
            refine Eq.trans (D_bald (kd := 12) gk_f32_114 gk_n12_32 gk_bk32) ?_
            refine Eq.trans (if_pos h11) ?_
            refine Eq.trans (D_bipush (x := 122) gk_f32_115 gk_b_122) ?_
            refine Eq.trans (D_ic_gt (t := 131) gk_f32_117 (by decide)) ?_
            refine gd_ite (fun h14 => ?_) (fun h15 => ?_)
            · rfl
            · refine Eq.trans (D_aload_n (x := r0) gk_f32_120 rfl) ?_
              refine Eq.trans (D_ivV (cl := 5) (args := [.ref r0]) (rest := []) gk_f32_121 rfl rfl (gd_rmk gk_rm32_29 gk_ln29 gk_ml29 rfl rfl rfl) gk_rk29 (gd_hnd_n gk_nc32) gk_nc29 gk_n11_29 gk_cl29) ?_
              refine Eq.trans (if_pos h1) ?_
              refine gd_bnd (gd_kV_c fun m16 => ?_)
              refine Eq.trans (D_aload_n (x := r0) gk_f32_124 rfl) ?_
              refine Eq.trans (D_ivV (cl := 5) (args := [.ref r0]) (rest := []) gk_f32_125 rfl rfl (gd_rmk gk_rm32_30 gk_ln30 gk_ml30 rfl rfl rfl) gk_rk30 (gd_hnd_n gk_nc32) gk_nc30 gk_n11_30 gk_cl30) ?_
              refine gd_ite (fun h18 => ?_) (fun _ => rfl)
              refine gd_bnd (gd_kV_c fun m19 => ?_)
              refine Eq.trans (D_goto (t := 199) gk_f32_128 (by decide)) ?_
              refine Eq.trans (D_vreturn gk_f32_199 gk_rk32) ?_
              rfl
        · refine Eq.trans (D_aload_n (x := r0) gk_f32_76 rfl) ?_
          refine Eq.trans (D_iconst (x := 0) gk_f32_77 gk_c_0) ?_
          refine Eq.trans (D_pfI gk_f32_78) ?_
          refine Eq.trans (if_pos h1) ?_
          refine Eq.trans (D_vreturn gk_f32_81 gk_rk32) ?_
          rfl
  · refine Eq.trans (D_aload_n (x := r0) gk_f32_52 rfl) ?_
    refine Eq.trans (D_aload_n (x := r0) gk_f32_53 rfl) ?_
    refine Eq.trans (D_gfI gk_f32_54 (by decide) (by decide) (by decide)) ?_
    refine Eq.trans (if_pos h1) ?_
    refine Eq.trans (D_pfI gk_f32_57) ?_
    refine Eq.trans (if_pos h1) ?_
    refine Eq.trans (D_aload_n (x := r0) gk_f32_60 rfl) ?_
    refine Eq.trans (D_iconst (x := (-1)) gk_f32_61 gk_c_m1) ?_
    refine Eq.trans (D_pfI gk_f32_62) ?_
    refine Eq.trans (if_pos h1) ?_
    refine Eq.trans (D_aload_n (x := r0) gk_f32_65 rfl) ?_
    refine Eq.trans (D_gfI gk_f32_66 (by decide) (by decide) (by decide)) ?_
    refine Eq.trans (if_pos h1) ?_
    refine Eq.trans (D_aload_n (x := r0) gk_f32_69 rfl) ?_
    refine Eq.trans (D_gfI gk_f32_70 (by decide) (by decide) (by decide)) ?_
    refine Eq.trans (if_pos h1) ?_
    refine Eq.trans (D_ic_lt (t := 82) gk_f32_73 (by decide)) ?_
    refine gd_ite (fun h21 => ?_) (fun h22 => ?_)
    · refine Eq.trans (D_aload_n (x := r0) gk_f32_82 rfl) ?_
      refine Eq.trans (D_dupR gk_f32_83) ?_
      refine Eq.trans (D_gfI gk_f32_84 (by decide) (by decide) (by decide)) ?_
      refine Eq.trans (if_pos h1) ?_
      refine Eq.trans (D_iconst (x := 1) gk_f32_87 gk_c_1) ?_
      refine Eq.trans (D_iadd gk_f32_88) ?_
      refine Eq.trans (D_pfI gk_f32_89) ?_
      refine Eq.trans (if_pos h1) ?_
      refine Eq.trans (D_aload_n (x := r0) gk_f32_92 rfl) ?_
      refine Eq.trans (D_gfR gk_f32_93 (by decide)) ?_
      refine Eq.trans (if_pos h1) ?_
      refine Eq.trans (D_aload_n (x := r0) gk_f32_96 rfl) ?_
      refine Eq.trans (D_gfI gk_f32_97 (by decide) (by decide) (by decide)) ?_
      refine Eq.trans (if_pos h1) ?_
      refine Eq.trans (D_bald (kd := 12) gk_f32_100 gk_n12_32 gk_bk32) ?_
      refine gd_ite (fun h23 => ?_) (fun _ => rfl)
      refine Eq.trans (D_bipush (x := 97) gk_f32_101 gk_b_97) ?_
      refine Eq.trans (D_ic_lt (t := 131) gk_f32_103 (by decide)) ?_
      refine gd_ite (fun h24 => ?_) (fun h25 => ?_)
      · rfl
      · refine Eq.trans (D_aload_n (x := r0) gk_f32_106 rfl) ?_
        refine Eq.trans (D_gfR gk_f32_107 (by decide)) ?_
        refine Eq.trans (if_pos h1) ?_
        refine Eq.trans (D_aload_n (x := r0) gk_f32_110 rfl) ?_
        refine Eq.trans (D_gfI gk_f32_111 (by decide) (by decide) (by decide)) ?_
        refine Eq.trans (if_pos h1) ?_
        refine Eq.trans (D_bald (kd := 12) gk_f32_114 gk_n12_32 gk_bk32) ?_
        refine Eq.trans (if_pos h23) ?_
        refine Eq.trans (D_bipush (x := 122) gk_f32_115 gk_b_122) ?_
        refine Eq.trans (D_ic_gt (t := 131) gk_f32_117 (by decide)) ?_
        refine gd_ite (fun h26 => ?_) (fun h27 => ?_)
        · rfl
        · refine Eq.trans (D_aload_n (x := r0) gk_f32_120 rfl) ?_
          refine Eq.trans (D_ivV (cl := 5) (args := [.ref r0]) (rest := []) gk_f32_121 rfl rfl (gd_rmk gk_rm32_29 gk_ln29 gk_ml29 rfl rfl rfl) gk_rk29 (gd_hnd_n gk_nc32) gk_nc29 gk_n11_29 gk_cl29) ?_
          refine Eq.trans (if_pos h1) ?_
          refine gd_bnd (gd_kV_c fun m28 => ?_)
          refine Eq.trans (D_aload_n (x := r0) gk_f32_124 rfl) ?_
          refine Eq.trans (D_ivV (cl := 5) (args := [.ref r0]) (rest := []) gk_f32_125 rfl rfl (gd_rmk gk_rm32_30 gk_ln30 gk_ml30 rfl rfl rfl) gk_rk30 (gd_hnd_n gk_nc32) gk_nc30 gk_n11_30 gk_cl30) ?_
          refine gd_ite (fun h30 => ?_) (fun _ => rfl)
          refine gd_bnd (gd_kV_c fun m31 => ?_)
          refine Eq.trans (D_goto (t := 199) gk_f32_128 (by decide)) ?_
          refine Eq.trans (D_vreturn gk_f32_199 gk_rk32) ?_
          rfl
    · refine Eq.trans (D_aload_n (x := r0) gk_f32_76 rfl) ?_
      refine Eq.trans (D_iconst (x := 0) gk_f32_77 gk_c_0) ?_
      refine Eq.trans (D_pfI gk_f32_78) ?_
      refine Eq.trans (if_pos h1) ?_
      refine Eq.trans (D_vreturn gk_f32_81 gk_rk32) ?_
      rfl
set_option maxRecDepth 20000 in
set_option maxHeartbeats 4000000 in
theorem q_Sc_next_131 (r0 : Nat) (m : gd_M) : gd_Den (32, 131, [.ref r0], [], m) = if gd_ok (gN m) r0 5 = true then (if gd_okA (gN m) (gR m r0 1) 12 (gI m r0 3) = true then (if ((gI m (gR m r0 1) ((gI m r0 3) : Int32).toNatClampNeg) < 48 : Prop) then (if ((gI m (gR m r0 1) ((gI m r0 3) : Int32).toNatClampNeg) = 59 : Prop) then (some (.null, (wI (wI m r0 5 3) r0 3 ((gI (wI m r0 5 3) r0 3) + 1)))) else (some (.null, (wI (wI m r0 5 4) r0 3 ((gI (wI m r0 5 4) r0 3) + 1))))) else (if (57 < (gI m (gR m r0 1) ((gI m r0 3) : Int32).toNatClampNeg) : Prop) then (if ((gI m (gR m r0 1) ((gI m r0 3) : Int32).toNatClampNeg) = 59 : Prop) then (some (.null, (wI (wI m r0 5 3) r0 3 ((gI (wI m r0 5 3) r0 3) + 1)))) else (some (.null, (wI (wI m r0 5 4) r0 3 ((gI (wI m r0 5 4) r0 3) + 1))))) else ((gd_call 31 [.ref r0] m).bind (gd_kV fun m11 => some (.null, m11))))) else none) else none := by
  refine Eq.trans (D_aload_n (x := r0) gk_f32_131 rfl) ?_
  refine Eq.trans (D_gfR gk_f32_132 (by decide)) ?_
  refine gd_ite (fun h1 => ?_) (fun _ => rfl)
  refine Eq.trans (D_aload_n (x := r0) gk_f32_135 rfl) ?_
  refine Eq.trans (D_gfI gk_f32_136 (by decide) (by decide) (by decide)) ?_
  refine Eq.trans (if_pos h1) ?_
  refine Eq.trans (D_bald (kd := 12) gk_f32_139 gk_n12_32 gk_bk32) ?_
  refine gd_ite (fun h2 => ?_) (fun _ => rfl)
  refine Eq.trans (D_bipush (x := 48) gk_f32_140 gk_b_48) ?_
  refine Eq.trans (D_ic_lt (t := 166) gk_f32_142 (by decide)) ?_
  refine gd_ite (fun h3 => ?_) (fun h4 => ?_)
  · refine Eq.trans (D_aload_n (x := r0) gk_f32_166 rfl) ?_
    refine Eq.trans (D_aload_n (x := r0) gk_f32_167 rfl) ?_
    refine Eq.trans (D_gfR gk_f32_168 (by decide)) ?_
    refine Eq.trans (if_pos h1) ?_
    refine Eq.trans (D_aload_n (x := r0) gk_f32_171 rfl) ?_
    refine Eq.trans (D_gfI gk_f32_172 (by decide) (by decide) (by decide)) ?_
    refine Eq.trans (if_pos h1) ?_
    refine Eq.trans (D_bald (kd := 12) gk_f32_175 gk_n12_32 gk_bk32) ?_
    refine Eq.trans (if_pos h2) ?_
    refine Eq.trans (D_bipush (x := 59) gk_f32_176 gk_b_59) ?_
    refine Eq.trans (D_ic_ne (t := 185) gk_f32_178 (by decide)) ?_
    refine gd_ite (fun h5 => ?_) (fun h6 => ?_)
    · refine Eq.trans (D_iconst (x := 3) gk_f32_181 gk_c_3) ?_
      refine Eq.trans (D_goto (t := 186) gk_f32_182 (by decide)) ?_
      refine Eq.trans (D_pfI gk_f32_186) ?_
      refine Eq.trans (if_pos h1) ?_
      refine Eq.trans (D_aload_n (x := r0) gk_f32_189 rfl) ?_
      refine Eq.trans (D_dupR gk_f32_190) ?_
      refine Eq.trans (D_gfI gk_f32_191 (by decide) (by decide) (by decide)) ?_
      refine Eq.trans (if_pos h1) ?_
      refine Eq.trans (D_iconst (x := 1) gk_f32_194 gk_c_1) ?_
      refine Eq.trans (D_iadd gk_f32_195) ?_
      refine Eq.trans (D_pfI gk_f32_196) ?_
      refine Eq.trans (if_pos h1) ?_
      refine Eq.trans (D_vreturn gk_f32_199 gk_rk32) ?_
      rfl
    · refine Eq.trans (D_iconst (x := 4) gk_f32_185 gk_c_4) ?_
      refine Eq.trans (D_pfI gk_f32_186) ?_
      refine Eq.trans (if_pos h1) ?_
      refine Eq.trans (D_aload_n (x := r0) gk_f32_189 rfl) ?_
      refine Eq.trans (D_dupR gk_f32_190) ?_
      refine Eq.trans (D_gfI gk_f32_191 (by decide) (by decide) (by decide)) ?_
      refine Eq.trans (if_pos h1) ?_
      refine Eq.trans (D_iconst (x := 1) gk_f32_194 gk_c_1) ?_
      refine Eq.trans (D_iadd gk_f32_195) ?_
      refine Eq.trans (D_pfI gk_f32_196) ?_
      refine Eq.trans (if_pos h1) ?_
      refine Eq.trans (D_vreturn gk_f32_199 gk_rk32) ?_
      rfl
  · refine Eq.trans (D_aload_n (x := r0) gk_f32_145 rfl) ?_
    refine Eq.trans (D_gfR gk_f32_146 (by decide)) ?_
    refine Eq.trans (if_pos h1) ?_
    refine Eq.trans (D_aload_n (x := r0) gk_f32_149 rfl) ?_
    refine Eq.trans (D_gfI gk_f32_150 (by decide) (by decide) (by decide)) ?_
    refine Eq.trans (if_pos h1) ?_
    refine Eq.trans (D_bald (kd := 12) gk_f32_153 gk_n12_32 gk_bk32) ?_
    refine Eq.trans (if_pos h2) ?_
    refine Eq.trans (D_bipush (x := 57) gk_f32_154 gk_b_57) ?_
    refine Eq.trans (D_ic_gt (t := 166) gk_f32_156 (by decide)) ?_
    refine gd_ite (fun h7 => ?_) (fun h8 => ?_)
    · refine Eq.trans (D_aload_n (x := r0) gk_f32_166 rfl) ?_
      refine Eq.trans (D_aload_n (x := r0) gk_f32_167 rfl) ?_
      refine Eq.trans (D_gfR gk_f32_168 (by decide)) ?_
      refine Eq.trans (if_pos h1) ?_
      refine Eq.trans (D_aload_n (x := r0) gk_f32_171 rfl) ?_
      refine Eq.trans (D_gfI gk_f32_172 (by decide) (by decide) (by decide)) ?_
      refine Eq.trans (if_pos h1) ?_
      refine Eq.trans (D_bald (kd := 12) gk_f32_175 gk_n12_32 gk_bk32) ?_
      refine Eq.trans (if_pos h2) ?_
      refine Eq.trans (D_bipush (x := 59) gk_f32_176 gk_b_59) ?_
      refine Eq.trans (D_ic_ne (t := 185) gk_f32_178 (by decide)) ?_
      refine gd_ite (fun h9 => ?_) (fun h10 => ?_)
      · refine Eq.trans (D_iconst (x := 3) gk_f32_181 gk_c_3) ?_
        refine Eq.trans (D_goto (t := 186) gk_f32_182 (by decide)) ?_
        refine Eq.trans (D_pfI gk_f32_186) ?_
        refine Eq.trans (if_pos h1) ?_
        refine Eq.trans (D_aload_n (x := r0) gk_f32_189 rfl) ?_
        refine Eq.trans (D_dupR gk_f32_190) ?_
        refine Eq.trans (D_gfI gk_f32_191 (by decide) (by decide) (by decide)) ?_
        refine Eq.trans (if_pos h1) ?_
        refine Eq.trans (D_iconst (x := 1) gk_f32_194 gk_c_1) ?_
        refine Eq.trans (D_iadd gk_f32_195) ?_
        refine Eq.trans (D_pfI gk_f32_196) ?_
        refine Eq.trans (if_pos h1) ?_
        refine Eq.trans (D_vreturn gk_f32_199 gk_rk32) ?_
        rfl
      · refine Eq.trans (D_iconst (x := 4) gk_f32_185 gk_c_4) ?_
        refine Eq.trans (D_pfI gk_f32_186) ?_
        refine Eq.trans (if_pos h1) ?_
        refine Eq.trans (D_aload_n (x := r0) gk_f32_189 rfl) ?_
        refine Eq.trans (D_dupR gk_f32_190) ?_
        refine Eq.trans (D_gfI gk_f32_191 (by decide) (by decide) (by decide)) ?_
        refine Eq.trans (if_pos h1) ?_
        refine Eq.trans (D_iconst (x := 1) gk_f32_194 gk_c_1) ?_
        refine Eq.trans (D_iadd gk_f32_195) ?_
        refine Eq.trans (D_pfI gk_f32_196) ?_
        refine Eq.trans (if_pos h1) ?_
        refine Eq.trans (D_vreturn gk_f32_199 gk_rk32) ?_
        rfl
    · refine Eq.trans (D_aload_n (x := r0) gk_f32_159 rfl) ?_
      refine Eq.trans (D_ivV (cl := 5) (args := [.ref r0]) (rest := []) gk_f32_160 rfl rfl (gd_rmk gk_rm32_31 gk_ln31 gk_ml31 rfl rfl rfl) gk_rk31 (gd_hnd_n gk_nc32) gk_nc31 gk_n11_31 gk_cl31) ?_
      refine Eq.trans (if_pos h1) ?_
      refine gd_bnd (gd_kV_c fun m11 => ?_)
      refine Eq.trans (D_goto (t := 199) gk_f32_163 (by decide)) ?_
      refine Eq.trans (D_vreturn gk_f32_199 gk_rk32) ?_
      rfl
/-! GymDesk$Reader.faultOfOnce (I)I -/
set_option maxRecDepth 20000 in
theorem gk_f33_0 : gd_fetch 33 0 = some (0, .aload_n 0, 1, 0, 0, 0, 0, 0) := rfl
set_option maxRecDepth 20000 in
theorem gk_f33_1 : gd_fetch 33 1 = some (1, .getfield 38, 3, 216, 3, 4, 0, 0) := rfl
set_option maxRecDepth 20000 in
theorem gk_f33_4 : gd_fetch 33 4 = some (4, .iload_n 1, 1, 0, 0, 0, 0, 0) := rfl
set_option maxRecDepth 20000 in
theorem gk_f33_5 : gd_fetch 33 5 = some (5, .ishr, 1, 0, 0, 0, 0, 0) := rfl
set_option maxRecDepth 20000 in
theorem gk_f33_6 : gd_fetch 33 6 = some (6, .iconst 1, 1, 0, 0, 0, 0, 0) := rfl
set_option maxRecDepth 20000 in
theorem gk_f33_7 : gd_fetch 33 7 = some (7, .iand, 1, 0, 0, 0, 0, 0) := rfl
set_option maxRecDepth 20000 in
theorem gk_f33_8 : gd_fetch 33 8 = some (8, .ifCond .eq 5, 3, 0, 0, 0, 0, 0) := rfl
set_option maxRecDepth 20000 in
theorem gk_f33_11 : gd_fetch 33 11 = some (11, .iconst 5, 1, 0, 0, 0, 0, 0) := rfl
set_option maxRecDepth 20000 in
theorem gk_f33_12 : gd_fetch 33 12 = some (12, .ireturn, 1, 0, 0, 0, 0, 0) := rfl
set_option maxRecDepth 20000 in
theorem gk_f33_13 : gd_fetch 33 13 = some (13, .aload_n 0, 1, 0, 0, 0, 0, 0) := rfl
set_option maxRecDepth 20000 in
theorem gk_f33_14 : gd_fetch 33 14 = some (14, .dup, 1, 0, 0, 0, 0, 0) := rfl
set_option maxRecDepth 20000 in
theorem gk_f33_15 : gd_fetch 33 15 = some (15, .getfield 38, 3, 216, 3, 4, 0, 0) := rfl
set_option maxRecDepth 20000 in
theorem gk_f33_18 : gd_fetch 33 18 = some (18, .iconst 1, 1, 0, 0, 0, 0, 0) := rfl
set_option maxRecDepth 20000 in
theorem gk_f33_19 : gd_fetch 33 19 = some (19, .iload_n 1, 1, 0, 0, 0, 0, 0) := rfl
set_option maxRecDepth 20000 in
theorem gk_f33_20 : gd_fetch 33 20 = some (20, .ishl, 1, 0, 0, 0, 0, 0) := rfl
set_option maxRecDepth 20000 in
theorem gk_f33_21 : gd_fetch 33 21 = some (21, .ior, 1, 0, 0, 0, 0, 0) := rfl
set_option maxRecDepth 20000 in
theorem gk_f33_22 : gd_fetch 33 22 = some (22, .putfield 38, 3, 216, 3, 4, 0, 0) := rfl
set_option maxRecDepth 20000 in
theorem gk_f33_25 : gd_fetch 33 25 = some (25, .iconst 0, 1, 0, 0, 0, 0, 0) := rfl
set_option maxRecDepth 20000 in
theorem gk_f33_26 : gd_fetch 33 26 = some (26, .ireturn, 1, 0, 0, 0, 0, 0) := rfl
set_option maxRecDepth 20000 in
set_option maxHeartbeats 4000000 in
theorem q_Re_faultOfOnce (r0 : Nat) (x1 : Int32) (m : gd_M) : gd_call 33 [.ref r0, .int x1] m = if gd_ok (gN m) r0 3 = true then (if (((((gI m r0 4) : Int32) >>> (x1 &&& 31)) &&& 1) = 0 : Prop) then (some (.int 0, (wI m r0 4 ((gI m r0 4) ||| ((1 : Int32) <<< (x1 &&& 31)))))) else (some (.int 5, m))) else none := by
  refine Eq.trans (show gd_call 33 [.ref r0, .int x1] m = gd_Den (33, 0, [.ref r0, .int x1], [], m) from by unfold gd_call gd_ent; rw [gk_ml33]; rfl) ?_
  refine Eq.trans (D_aload_n (x := r0) gk_f33_0 rfl) ?_
  refine Eq.trans (D_gfI gk_f33_1 (by decide) (by decide) (by decide)) ?_
  refine gd_ite (fun h1 => ?_) (fun _ => rfl)
  refine Eq.trans (D_iload_n (x := x1) gk_f33_4 rfl) ?_
  refine Eq.trans (D_ishr gk_f33_5) ?_
  refine Eq.trans (D_iconst (x := 1) gk_f33_6 gk_c_1) ?_
  refine Eq.trans (D_iand gk_f33_7) ?_
  refine Eq.trans (D_if_eq (t := 13) gk_f33_8 (by decide)) ?_
  refine gd_ite (fun h2 => ?_) (fun h3 => ?_)
  · refine Eq.trans (D_aload_n (x := r0) gk_f33_13 rfl) ?_
    refine Eq.trans (D_dupR gk_f33_14) ?_
    refine Eq.trans (D_gfI gk_f33_15 (by decide) (by decide) (by decide)) ?_
    refine Eq.trans (if_pos h1) ?_
    refine Eq.trans (D_iconst (x := 1) gk_f33_18 gk_c_1) ?_
    refine Eq.trans (D_iload_n (x := x1) gk_f33_19 rfl) ?_
    refine Eq.trans (D_ishl gk_f33_20) ?_
    refine Eq.trans (D_ior gk_f33_21) ?_
    refine Eq.trans (D_pfI gk_f33_22) ?_
    refine Eq.trans (if_pos h1) ?_
    refine Eq.trans (D_iconst (x := 0) gk_f33_25 gk_c_0) ?_
    refine Eq.trans (D_ireturn gk_f33_26 gk_rk33) ?_
    rfl
  · refine Eq.trans (D_iconst (x := 5) gk_f33_11 gk_c_5) ?_
    refine Eq.trans (D_ireturn gk_f33_12 gk_rk33) ?_
    rfl
/-! GymDesk$Reader.faultOfFirst (I)I -/
set_option maxRecDepth 20000 in
theorem gk_f34_0 : gd_fetch 34 0 = some (0, .iload_n 1, 1, 0, 0, 0, 0, 0) := rfl
set_option maxRecDepth 20000 in
theorem gk_f34_1 : gd_fetch 34 1 = some (1, .tableswitch 117 0 9 #[55, 73, 109, 109, 111, 111, 91, 111, 111, 111], 55, 0, 0, 0, 0, 0) := rfl
set_option maxRecDepth 20000 in
theorem gk_f34_56 : gd_fetch 34 56 = some (56, .aload_n 0, 1, 0, 0, 0, 0, 0) := rfl
set_option maxRecDepth 20000 in
theorem gk_f34_57 : gd_fetch 34 57 = some (57, .getfield 29, 3, 215, 3, 3, 4, 0) := rfl
set_option maxRecDepth 20000 in
theorem gk_f34_60 : gd_fetch 34 60 = some (60, .getfield 87, 3, 353, 1, 12, 0, 0) := rfl
set_option maxRecDepth 20000 in
theorem gk_f34_63 : gd_fetch 34 63 = some (63, .bipush 30, 2, 0, 0, 0, 0, 0) := rfl
set_option maxRecDepth 20000 in
theorem gk_f34_65 : gd_fetch 34 65 = some (65, .if_icmp .lt 7, 3, 0, 0, 0, 0, 0) := rfl
set_option maxRecDepth 20000 in
theorem gk_f34_68 : gd_fetch 34 68 = some (68, .iconst 4, 1, 0, 0, 0, 0, 0) := rfl
set_option maxRecDepth 20000 in
theorem gk_f34_69 : gd_fetch 34 69 = some (69, .goto 4, 3, 0, 0, 0, 0, 0) := rfl
set_option maxRecDepth 20000 in
theorem gk_f34_72 : gd_fetch 34 72 = some (72, .iconst 0, 1, 0, 0, 0, 0, 0) := rfl
set_option maxRecDepth 20000 in
theorem gk_f34_73 : gd_fetch 34 73 = some (73, .ireturn, 1, 0, 0, 0, 0, 0) := rfl
set_option maxRecDepth 20000 in
theorem gk_f34_74 : gd_fetch 34 74 = some (74, .aload_n 0, 1, 0, 0, 0, 0, 0) := rfl
set_option maxRecDepth 20000 in
theorem gk_f34_75 : gd_fetch 34 75 = some (75, .getfield 29, 3, 215, 3, 3, 4, 0) := rfl
set_option maxRecDepth 20000 in
theorem gk_f34_78 : gd_fetch 34 78 = some (78, .getfield 90, 3, 356, 1, 13, 0, 0) := rfl
set_option maxRecDepth 20000 in
theorem gk_f34_81 : gd_fetch 34 81 = some (81, .bipush 20, 2, 0, 0, 0, 0, 0) := rfl
set_option maxRecDepth 20000 in
theorem gk_f34_83 : gd_fetch 34 83 = some (83, .if_icmp .lt 7, 3, 0, 0, 0, 0, 0) := rfl
set_option maxRecDepth 20000 in
theorem gk_f34_86 : gd_fetch 34 86 = some (86, .iconst 4, 1, 0, 0, 0, 0, 0) := rfl
set_option maxRecDepth 20000 in
theorem gk_f34_87 : gd_fetch 34 87 = some (87, .goto 4, 3, 0, 0, 0, 0, 0) := rfl
set_option maxRecDepth 20000 in
theorem gk_f34_90 : gd_fetch 34 90 = some (90, .iconst 0, 1, 0, 0, 0, 0, 0) := rfl
set_option maxRecDepth 20000 in
theorem gk_f34_91 : gd_fetch 34 91 = some (91, .ireturn, 1, 0, 0, 0, 0, 0) := rfl
set_option maxRecDepth 20000 in
theorem gk_f34_92 : gd_fetch 34 92 = some (92, .aload_n 0, 1, 0, 0, 0, 0, 0) := rfl
set_option maxRecDepth 20000 in
theorem gk_f34_93 : gd_fetch 34 93 = some (93, .getfield 29, 3, 215, 3, 3, 4, 0) := rfl
set_option maxRecDepth 20000 in
theorem gk_f34_96 : gd_fetch 34 96 = some (96, .getfield 93, 3, 359, 1, 14, 0, 0) := rfl
set_option maxRecDepth 20000 in
theorem gk_f34_99 : gd_fetch 34 99 = some (99, .bipush 10, 2, 0, 0, 0, 0, 0) := rfl
set_option maxRecDepth 20000 in
theorem gk_f34_101 : gd_fetch 34 101 = some (101, .if_icmp .lt 7, 3, 0, 0, 0, 0, 0) := rfl
set_option maxRecDepth 20000 in
theorem gk_f34_104 : gd_fetch 34 104 = some (104, .iconst 4, 1, 0, 0, 0, 0, 0) := rfl
set_option maxRecDepth 20000 in
theorem gk_f34_105 : gd_fetch 34 105 = some (105, .goto 4, 3, 0, 0, 0, 0, 0) := rfl
set_option maxRecDepth 20000 in
theorem gk_f34_108 : gd_fetch 34 108 = some (108, .iconst 0, 1, 0, 0, 0, 0, 0) := rfl
set_option maxRecDepth 20000 in
theorem gk_f34_109 : gd_fetch 34 109 = some (109, .ireturn, 1, 0, 0, 0, 0, 0) := rfl
set_option maxRecDepth 20000 in
theorem gk_f34_110 : gd_fetch 34 110 = some (110, .iconst 0, 1, 0, 0, 0, 0, 0) := rfl
set_option maxRecDepth 20000 in
theorem gk_f34_111 : gd_fetch 34 111 = some (111, .ireturn, 1, 0, 0, 0, 0, 0) := rfl
set_option maxRecDepth 20000 in
theorem gk_f34_112 : gd_fetch 34 112 = some (112, .aload_n 0, 1, 0, 0, 0, 0, 0) := rfl
set_option maxRecDepth 20000 in
theorem gk_f34_113 : gd_fetch 34 113 = some (113, .iload_n 1, 1, 0, 0, 0, 0, 0) := rfl
set_option maxRecDepth 20000 in
theorem gk_f34_114 : gd_fetch 34 114 = some (114, .invokevirtual 96, 3, 558, 33, 1, 0, 0) := rfl
set_option maxRecDepth 20000 in
theorem gk_f34_117 : gd_fetch 34 117 = some (117, .ireturn, 1, 0, 0, 0, 0, 0) := rfl
set_option maxRecDepth 20000 in
theorem gk_f34_118 : gd_fetch 34 118 = some (118, .iconst 1, 1, 0, 0, 0, 0, 0) := rfl
set_option maxRecDepth 20000 in
theorem gk_f34_119 : gd_fetch 34 119 = some (119, .ireturn, 1, 0, 0, 0, 0, 0) := rfl
set_option maxRecDepth 20000 in
set_option maxHeartbeats 4000000 in
theorem q_Re_faultOfFirst (r0 : Nat) (x1 : Int32) (m : gd_M) : gd_call 34 [.ref r0, .int x1] m = if x1 = 0 then (if gd_ok (gN m) r0 3 = true then (if gd_ok (gN m) (gR m r0 3) 1 = true then (if ((gI m (gR m r0 3) 12) < 30 : Prop) then (some (.int 0, m)) else (some (.int 4, m))) else none) else none) else if x1 = 1 then (if gd_ok (gN m) r0 3 = true then (if gd_ok (gN m) (gR m r0 3) 1 = true then (if ((gI m (gR m r0 3) 13) < 20 : Prop) then (some (.int 0, m)) else (some (.int 4, m))) else none) else none) else if x1 = 2 then (some (.int 0, m)) else if x1 = 3 then (some (.int 0, m)) else if x1 = 4 then (if gd_ok (gN m) r0 3 = true then ((gd_call 33 [.ref r0, .int x1] m).bind (gd_kI fun z22 m20 => some (.int z22, m20))) else none) else if x1 = 5 then (if gd_ok (gN m) r0 3 = true then ((gd_call 33 [.ref r0, .int x1] m).bind (gd_kI fun z28 m26 => some (.int z28, m26))) else none) else if x1 = 6 then (if gd_ok (gN m) r0 3 = true then (if gd_ok (gN m) (gR m r0 3) 1 = true then (if ((gI m (gR m r0 3) 14) < 10 : Prop) then (some (.int 0, m)) else (some (.int 4, m))) else none) else none) else if x1 = 7 then (if gd_ok (gN m) r0 3 = true then ((gd_call 33 [.ref r0, .int x1] m).bind (gd_kI fun z40 m38 => some (.int z40, m38))) else none) else if x1 = 8 then (if gd_ok (gN m) r0 3 = true then ((gd_call 33 [.ref r0, .int x1] m).bind (gd_kI fun z46 m44 => some (.int z46, m44))) else none) else if x1 = 9 then (if gd_ok (gN m) r0 3 = true then ((gd_call 33 [.ref r0, .int x1] m).bind (gd_kI fun z52 m50 => some (.int z52, m50))) else none) else (some (.int 1, m)) := by
  refine Eq.trans (show gd_call 34 [.ref r0, .int x1] m = gd_Den (34, 0, [.ref r0, .int x1], [], m) from by unfold gd_call gd_ent; rw [gk_ml34]; rfl) ?_
  refine Eq.trans (D_iload_n (x := x1) gk_f34_0 rfl) ?_
  refine Eq.trans (D_tsw (vs := [(0, 56), (1, 74), (2, 110), (3, 110), (4, 112), (5, 112), (6, 92), (7, 112), (8, 112), (9, 112)]) (t := 118) gk_f34_1 (by decide) (by decide)) ?_
  refine gd_ite (fun h1 => ?_) (fun h2 => ?_)
  · refine Eq.trans (D_aload_n (x := r0) gk_f34_56 rfl) ?_
    refine Eq.trans (D_gfR gk_f34_57 (by decide)) ?_
    refine gd_ite (fun h3 => ?_) (fun _ => rfl)
    refine Eq.trans (D_gfI gk_f34_60 (by decide) (by decide) (by decide)) ?_
    refine gd_ite (fun h4 => ?_) (fun _ => rfl)
    refine Eq.trans (D_bipush (x := 30) gk_f34_63 gk_b_30) ?_
    refine Eq.trans (D_ic_lt (t := 72) gk_f34_65 (by decide)) ?_
    refine gd_ite (fun h5 => ?_) (fun h6 => ?_)
    · refine Eq.trans (D_iconst (x := 0) gk_f34_72 gk_c_0) ?_
      refine Eq.trans (D_ireturn gk_f34_73 gk_rk34) ?_
      rfl
    · refine Eq.trans (D_iconst (x := 4) gk_f34_68 gk_c_4) ?_
      refine Eq.trans (D_goto (t := 73) gk_f34_69 (by decide)) ?_
      refine Eq.trans (D_ireturn gk_f34_73 gk_rk34) ?_
      rfl
  refine gd_ite (fun h7 => ?_) (fun h8 => ?_)
  · refine Eq.trans (D_aload_n (x := r0) gk_f34_74 rfl) ?_
    refine Eq.trans (D_gfR gk_f34_75 (by decide)) ?_
    refine gd_ite (fun h9 => ?_) (fun _ => rfl)
    refine Eq.trans (D_gfI gk_f34_78 (by decide) (by decide) (by decide)) ?_
    refine gd_ite (fun h10 => ?_) (fun _ => rfl)
    refine Eq.trans (D_bipush (x := 20) gk_f34_81 gk_b_20) ?_
    refine Eq.trans (D_ic_lt (t := 90) gk_f34_83 (by decide)) ?_
    refine gd_ite (fun h11 => ?_) (fun h12 => ?_)
    · refine Eq.trans (D_iconst (x := 0) gk_f34_90 gk_c_0) ?_
      refine Eq.trans (D_ireturn gk_f34_91 gk_rk34) ?_
      rfl
    · refine Eq.trans (D_iconst (x := 4) gk_f34_86 gk_c_4) ?_
      refine Eq.trans (D_goto (t := 91) gk_f34_87 (by decide)) ?_
      refine Eq.trans (D_ireturn gk_f34_91 gk_rk34) ?_
      rfl
  refine gd_ite (fun h13 => ?_) (fun h14 => ?_)
  · refine Eq.trans (D_iconst (x := 0) gk_f34_110 gk_c_0) ?_
    refine Eq.trans (D_ireturn gk_f34_111 gk_rk34) ?_
    rfl
  refine gd_ite (fun h15 => ?_) (fun h16 => ?_)
  · refine Eq.trans (D_iconst (x := 0) gk_f34_110 gk_c_0) ?_
    refine Eq.trans (D_ireturn gk_f34_111 gk_rk34) ?_
    rfl
  refine gd_ite (fun h17 => ?_) (fun h18 => ?_)
  · refine Eq.trans (D_aload_n (x := r0) gk_f34_112 rfl) ?_
    refine Eq.trans (D_iload_n (x := x1) gk_f34_113 rfl) ?_
    refine Eq.trans (D_ivI (cl := 3) (args := [.ref r0, .int x1]) (rest := []) gk_f34_114 rfl rfl (gd_rmk gk_rm34_33 gk_ln33 gk_ml33 rfl rfl rfl) gk_rk33 (gd_hnd_n gk_nc34) gk_nc33 gk_n11_33 gk_cl33) ?_
    refine gd_ite (fun h19 => ?_) (fun _ => rfl)
    refine gd_bnd (gd_kI_c fun z22 m20 => ?_)
    refine Eq.trans (D_ireturn gk_f34_117 gk_rk34) ?_
    rfl
  refine gd_ite (fun h23 => ?_) (fun h24 => ?_)
  · refine Eq.trans (D_aload_n (x := r0) gk_f34_112 rfl) ?_
    refine Eq.trans (D_iload_n (x := x1) gk_f34_113 rfl) ?_
    refine Eq.trans (D_ivI (cl := 3) (args := [.ref r0, .int x1]) (rest := []) gk_f34_114 rfl rfl (gd_rmk gk_rm34_33 gk_ln33 gk_ml33 rfl rfl rfl) gk_rk33 (gd_hnd_n gk_nc34) gk_nc33 gk_n11_33 gk_cl33) ?_
    refine gd_ite (fun h25 => ?_) (fun _ => rfl)
    refine gd_bnd (gd_kI_c fun z28 m26 => ?_)
    refine Eq.trans (D_ireturn gk_f34_117 gk_rk34) ?_
    rfl
  refine gd_ite (fun h29 => ?_) (fun h30 => ?_)
  · refine Eq.trans (D_aload_n (x := r0) gk_f34_92 rfl) ?_
    refine Eq.trans (D_gfR gk_f34_93 (by decide)) ?_
    refine gd_ite (fun h31 => ?_) (fun _ => rfl)
    refine Eq.trans (D_gfI gk_f34_96 (by decide) (by decide) (by decide)) ?_
    refine gd_ite (fun h32 => ?_) (fun _ => rfl)
    refine Eq.trans (D_bipush (x := 10) gk_f34_99 gk_b_10) ?_
    refine Eq.trans (D_ic_lt (t := 108) gk_f34_101 (by decide)) ?_
    refine gd_ite (fun h33 => ?_) (fun h34 => ?_)
    · refine Eq.trans (D_iconst (x := 0) gk_f34_108 gk_c_0) ?_
      refine Eq.trans (D_ireturn gk_f34_109 gk_rk34) ?_
      rfl
    · refine Eq.trans (D_iconst (x := 4) gk_f34_104 gk_c_4) ?_
      refine Eq.trans (D_goto (t := 109) gk_f34_105 (by decide)) ?_
      refine Eq.trans (D_ireturn gk_f34_109 gk_rk34) ?_
      rfl
  refine gd_ite (fun h35 => ?_) (fun h36 => ?_)
  · refine Eq.trans (D_aload_n (x := r0) gk_f34_112 rfl) ?_
    refine Eq.trans (D_iload_n (x := x1) gk_f34_113 rfl) ?_
    refine Eq.trans (D_ivI (cl := 3) (args := [.ref r0, .int x1]) (rest := []) gk_f34_114 rfl rfl (gd_rmk gk_rm34_33 gk_ln33 gk_ml33 rfl rfl rfl) gk_rk33 (gd_hnd_n gk_nc34) gk_nc33 gk_n11_33 gk_cl33) ?_
    refine gd_ite (fun h37 => ?_) (fun _ => rfl)
    refine gd_bnd (gd_kI_c fun z40 m38 => ?_)
    refine Eq.trans (D_ireturn gk_f34_117 gk_rk34) ?_
    rfl
  refine gd_ite (fun h41 => ?_) (fun h42 => ?_)
  · refine Eq.trans (D_aload_n (x := r0) gk_f34_112 rfl) ?_
    refine Eq.trans (D_iload_n (x := x1) gk_f34_113 rfl) ?_
    refine Eq.trans (D_ivI (cl := 3) (args := [.ref r0, .int x1]) (rest := []) gk_f34_114 rfl rfl (gd_rmk gk_rm34_33 gk_ln33 gk_ml33 rfl rfl rfl) gk_rk33 (gd_hnd_n gk_nc34) gk_nc33 gk_n11_33 gk_cl33) ?_
    refine gd_ite (fun h43 => ?_) (fun _ => rfl)
    refine gd_bnd (gd_kI_c fun z46 m44 => ?_)
    refine Eq.trans (D_ireturn gk_f34_117 gk_rk34) ?_
    rfl
  refine gd_ite (fun h47 => ?_) (fun h48 => ?_)
  · refine Eq.trans (D_aload_n (x := r0) gk_f34_112 rfl) ?_
    refine Eq.trans (D_iload_n (x := x1) gk_f34_113 rfl) ?_
    refine Eq.trans (D_ivI (cl := 3) (args := [.ref r0, .int x1]) (rest := []) gk_f34_114 rfl rfl (gd_rmk gk_rm34_33 gk_ln33 gk_ml33 rfl rfl rfl) gk_rk33 (gd_hnd_n gk_nc34) gk_nc33 gk_n11_33 gk_cl33) ?_
    refine gd_ite (fun h49 => ?_) (fun _ => rfl)
    refine gd_bnd (gd_kI_c fun z52 m50 => ?_)
    refine Eq.trans (D_ireturn gk_f34_117 gk_rk34) ?_
    rfl
  refine Eq.trans (D_iconst (x := 1) gk_f34_118 gk_c_1) ?_
  refine Eq.trans (D_ireturn gk_f34_119 gk_rk34) ?_
  rfl
/-! GymDesk$Reader.stands (I)Z -/
set_option maxRecDepth 20000 in
theorem gk_f35_0 : gd_fetch 35 0 = some (0, .iload_n 1, 1, 0, 0, 0, 0, 0) := rfl
set_option maxRecDepth 20000 in
theorem gk_f35_1 : gd_fetch 35 1 = some (1, .istore_n 2, 1, 0, 0, 0, 0, 0) := rfl
set_option maxRecDepth 20000 in
theorem gk_f35_2 : gd_fetch 35 2 = some (2, .aload_n 0, 1, 0, 0, 0, 0, 0) := rfl
set_option maxRecDepth 20000 in
theorem gk_f35_3 : gd_fetch 35 3 = some (3, .getfield 12, 3, 212, 3, 0, 4, 1) := rfl
set_option maxRecDepth 20000 in
theorem gk_f35_6 : gd_fetch 35 6 = some (6, .getfield 168, 3, 178, 5, 4, 0, 0) := rfl
set_option maxRecDepth 20000 in
theorem gk_f35_9 : gd_fetch 35 9 = some (9, .sipush 700, 3, 0, 0, 0, 0, 0) := rfl
set_option maxRecDepth 20000 in
theorem gk_f35_12 : gd_fetch 35 12 = some (12, .if_icmp .le 14, 3, 0, 0, 0, 0, 0) := rfl
set_option maxRecDepth 20000 in
theorem gk_f35_15 : gd_fetch 35 15 = some (15, .iload_n 2, 1, 0, 0, 0, 0, 0) := rfl
set_option maxRecDepth 20000 in
theorem gk_f35_16 : gd_fetch 35 16 = some (16, .ifCond .eq 8, 3, 0, 0, 0, 0, 0) := rfl
set_option maxRecDepth 20000 in
theorem gk_f35_19 : gd_fetch 35 19 = some (19, .iload_n 2, 1, 0, 0, 0, 0, 0) := rfl
set_option maxRecDepth 20000 in
theorem gk_f35_20 : gd_fetch 35 20 = some (20, .iconst 4, 1, 0, 0, 0, 0, 0) := rfl
set_option maxRecDepth 20000 in
theorem gk_f35_21 : gd_fetch 35 21 = some (21, .if_icmp .le 5, 3, 0, 0, 0, 0, 0) := rfl
set_option maxRecDepth 20000 in
theorem gk_f35_24 : gd_fetch 35 24 = some (24, .iconst 4, 1, 0, 0, 0, 0, 0) := rfl
set_option maxRecDepth 20000 in
theorem gk_f35_25 : gd_fetch 35 25 = some (25, .istore_n 2, 1, 0, 0, 0, 0, 0) := rfl
set_option maxRecDepth 20000 in
theorem gk_f35_26 : gd_fetch 35 26 = some (26, .iload_n 2, 1, 0, 0, 0, 0, 0) := rfl
set_option maxRecDepth 20000 in
theorem gk_f35_27 : gd_fetch 35 27 = some (27, .ifCond .ne 5, 3, 0, 0, 0, 0, 0) := rfl
set_option maxRecDepth 20000 in
theorem gk_f35_30 : gd_fetch 35 30 = some (30, .iconst 1, 1, 0, 0, 0, 0, 0) := rfl
set_option maxRecDepth 20000 in
theorem gk_f35_31 : gd_fetch 35 31 = some (31, .ireturn, 1, 0, 0, 0, 0, 0) := rfl
set_option maxRecDepth 20000 in
theorem gk_f35_32 : gd_fetch 35 32 = some (32, .aload_n 0, 1, 0, 0, 0, 0, 0) := rfl
set_option maxRecDepth 20000 in
theorem gk_f35_33 : gd_fetch 35 33 = some (33, .iload_n 2, 1, 0, 0, 0, 0, 0) := rfl
set_option maxRecDepth 20000 in
theorem gk_f35_34 : gd_fetch 35 34 = some (34, .putfield 41, 3, 218, 3, 6, 0, 0) := rfl
set_option maxRecDepth 20000 in
theorem gk_f35_37 : gd_fetch 35 37 = some (37, .aload_n 0, 1, 0, 0, 0, 0, 0) := rfl
set_option maxRecDepth 20000 in
theorem gk_f35_38 : gd_fetch 35 38 = some (38, .aload_n 0, 1, 0, 0, 0, 0, 0) := rfl
set_option maxRecDepth 20000 in
theorem gk_f35_39 : gd_fetch 35 39 = some (39, .getfield 12, 3, 212, 3, 0, 4, 1) := rfl
set_option maxRecDepth 20000 in
theorem gk_f35_42 : gd_fetch 35 42 = some (42, .getfield 171, 3, 182, 5, 6, 0, 0) := rfl
set_option maxRecDepth 20000 in
theorem gk_f35_45 : gd_fetch 35 45 = some (45, .putfield 25, 3, 220, 3, 7, 0, 0) := rfl
set_option maxRecDepth 20000 in
theorem gk_f35_48 : gd_fetch 35 48 = some (48, .iconst 0, 1, 0, 0, 0, 0, 0) := rfl
set_option maxRecDepth 20000 in
theorem gk_f35_49 : gd_fetch 35 49 = some (49, .ireturn, 1, 0, 0, 0, 0, 0) := rfl
set_option maxRecDepth 20000 in
set_option maxHeartbeats 4000000 in
theorem q_Re_stands (r0 : Nat) (x1 : Int32) (m : gd_M) : gd_call 35 [.ref r0, .int x1] m = if gd_ok (gN m) r0 3 = true then (if gd_ok (gN m) (gR m r0 0) 5 = true then (if (700 < (gI m (gR m r0 0) 4) : Prop) then (if (x1 = 0 : Prop) then (some (.int 0, (wI (wI m r0 6 4) r0 7 (gI (wI m r0 6 4) (gR m r0 0) 6)))) else (if (4 < x1 : Prop) then (some (.int 0, (wI (wI m r0 6 4) r0 7 (gI (wI m r0 6 4) (gR m r0 0) 6)))) else (if (x1 = 0 : Prop) then (some (.int 1, m)) else (some (.int 0, (wI (wI m r0 6 x1) r0 7 (gI (wI m r0 6 x1) (gR m r0 0) 6))))))) else (if (x1 = 0 : Prop) then (some (.int 1, m)) else (some (.int 0, (wI (wI m r0 6 x1) r0 7 (gI (wI m r0 6 x1) (gR m r0 0) 6)))))) else none) else none := by
  refine Eq.trans (show gd_call 35 [.ref r0, .int x1] m = gd_Den (35, 0, [.ref r0, .int x1, .null], [], m) from by unfold gd_call gd_ent; rw [gk_ml35]; rfl) ?_
  refine Eq.trans (D_iload_n (x := x1) gk_f35_0 rfl) ?_
  refine Eq.trans (D_istore_n gk_f35_1 gk_st35_2) ?_
  refine Eq.trans (D_aload_n (x := r0) gk_f35_2 rfl) ?_
  refine Eq.trans (D_gfR gk_f35_3 (by decide)) ?_
  refine gd_ite (fun h1 => ?_) (fun _ => rfl)
  refine Eq.trans (D_gfI gk_f35_6 (by decide) (by decide) (by decide)) ?_
  refine gd_ite (fun h2 => ?_) (fun _ => rfl)
  refine Eq.trans (D_sipush (x := 700) gk_f35_9 gk_s_700) ?_
  refine Eq.trans (D_ic_le (t := 26) gk_f35_12 (by decide)) ?_
  refine gd_ite (fun h3 => ?_) (fun h4 => ?_)
  · refine Eq.trans (D_iload_n (x := x1) gk_f35_15 rfl) ?_
    refine Eq.trans (D_if_eq (t := 24) gk_f35_16 (by decide)) ?_
    refine gd_ite (fun h5 => ?_) (fun h6 => ?_)
    · refine Eq.trans (D_iconst (x := 4) gk_f35_24 gk_c_4) ?_
      refine Eq.trans (D_istore_n gk_f35_25 gk_st35_2) ?_
      refine Eq.trans (D_iload_n (x := 4) gk_f35_26 rfl) ?_
      refine Eq.trans (D_if_ne (t := 32) gk_f35_27 (by decide)) ?_
      refine Eq.trans (if_neg (by decide)) ?_
      refine Eq.trans (D_aload_n (x := r0) gk_f35_32 rfl) ?_
      refine Eq.trans (D_iload_n (x := 4) gk_f35_33 rfl) ?_
      refine Eq.trans (D_pfI gk_f35_34) ?_
      refine Eq.trans (if_pos h1) ?_
      refine Eq.trans (D_aload_n (x := r0) gk_f35_37 rfl) ?_
      refine Eq.trans (D_aload_n (x := r0) gk_f35_38 rfl) ?_
      refine Eq.trans (D_gfR gk_f35_39 (by decide)) ?_
      refine Eq.trans (if_pos h1) ?_
      refine Eq.trans (D_gfI gk_f35_42 (by decide) (by decide) (by decide)) ?_
      refine Eq.trans (if_pos h2) ?_
      refine Eq.trans (D_pfI gk_f35_45) ?_
      refine Eq.trans (if_pos h1) ?_
      refine Eq.trans (D_iconst (x := 0) gk_f35_48 gk_c_0) ?_
      refine Eq.trans (D_zreturn gk_f35_49 gk_rk35) ?_
      exact if_pos rfl
    · refine Eq.trans (D_iload_n (x := x1) gk_f35_19 rfl) ?_
      refine Eq.trans (D_iconst (x := 4) gk_f35_20 gk_c_4) ?_
      refine Eq.trans (D_ic_le (t := 26) gk_f35_21 (by decide)) ?_
      refine gd_ite (fun h7 => ?_) (fun h8 => ?_)
      · refine Eq.trans (D_iconst (x := 4) gk_f35_24 gk_c_4) ?_
        refine Eq.trans (D_istore_n gk_f35_25 gk_st35_2) ?_
        refine Eq.trans (D_iload_n (x := 4) gk_f35_26 rfl) ?_
        refine Eq.trans (D_if_ne (t := 32) gk_f35_27 (by decide)) ?_
        refine Eq.trans (if_neg (by decide)) ?_
        refine Eq.trans (D_aload_n (x := r0) gk_f35_32 rfl) ?_
        refine Eq.trans (D_iload_n (x := 4) gk_f35_33 rfl) ?_
        refine Eq.trans (D_pfI gk_f35_34) ?_
        refine Eq.trans (if_pos h1) ?_
        refine Eq.trans (D_aload_n (x := r0) gk_f35_37 rfl) ?_
        refine Eq.trans (D_aload_n (x := r0) gk_f35_38 rfl) ?_
        refine Eq.trans (D_gfR gk_f35_39 (by decide)) ?_
        refine Eq.trans (if_pos h1) ?_
        refine Eq.trans (D_gfI gk_f35_42 (by decide) (by decide) (by decide)) ?_
        refine Eq.trans (if_pos h2) ?_
        refine Eq.trans (D_pfI gk_f35_45) ?_
        refine Eq.trans (if_pos h1) ?_
        refine Eq.trans (D_iconst (x := 0) gk_f35_48 gk_c_0) ?_
        refine Eq.trans (D_zreturn gk_f35_49 gk_rk35) ?_
        exact if_pos rfl
      · refine Eq.trans (D_iload_n (x := x1) gk_f35_26 rfl) ?_
        refine Eq.trans (D_if_ne (t := 32) gk_f35_27 (by decide)) ?_
        refine gd_ite (fun h9 => ?_) (fun h10 => ?_)
        · refine Eq.trans (D_iconst (x := 1) gk_f35_30 gk_c_1) ?_
          refine Eq.trans (D_zreturn gk_f35_31 gk_rk35) ?_
          exact if_pos rfl
        · refine Eq.trans (D_aload_n (x := r0) gk_f35_32 rfl) ?_
          refine Eq.trans (D_iload_n (x := x1) gk_f35_33 rfl) ?_
          refine Eq.trans (D_pfI gk_f35_34) ?_
          refine Eq.trans (if_pos h1) ?_
          refine Eq.trans (D_aload_n (x := r0) gk_f35_37 rfl) ?_
          refine Eq.trans (D_aload_n (x := r0) gk_f35_38 rfl) ?_
          refine Eq.trans (D_gfR gk_f35_39 (by decide)) ?_
          refine Eq.trans (if_pos h1) ?_
          refine Eq.trans (D_gfI gk_f35_42 (by decide) (by decide) (by decide)) ?_
          refine Eq.trans (if_pos h2) ?_
          refine Eq.trans (D_pfI gk_f35_45) ?_
          refine Eq.trans (if_pos h1) ?_
          refine Eq.trans (D_iconst (x := 0) gk_f35_48 gk_c_0) ?_
          refine Eq.trans (D_zreturn gk_f35_49 gk_rk35) ?_
          exact if_pos rfl
  · refine Eq.trans (D_iload_n (x := x1) gk_f35_26 rfl) ?_
    refine Eq.trans (D_if_ne (t := 32) gk_f35_27 (by decide)) ?_
    refine gd_ite (fun h11 => ?_) (fun h12 => ?_)
    · refine Eq.trans (D_iconst (x := 1) gk_f35_30 gk_c_1) ?_
      refine Eq.trans (D_zreturn gk_f35_31 gk_rk35) ?_
      exact if_pos rfl
    · refine Eq.trans (D_aload_n (x := r0) gk_f35_32 rfl) ?_
      refine Eq.trans (D_iload_n (x := x1) gk_f35_33 rfl) ?_
      refine Eq.trans (D_pfI gk_f35_34) ?_
      refine Eq.trans (if_pos h1) ?_
      refine Eq.trans (D_aload_n (x := r0) gk_f35_37 rfl) ?_
      refine Eq.trans (D_aload_n (x := r0) gk_f35_38 rfl) ?_
      refine Eq.trans (D_gfR gk_f35_39 (by decide)) ?_
      refine Eq.trans (if_pos h1) ?_
      refine Eq.trans (D_gfI gk_f35_42 (by decide) (by decide) (by decide)) ?_
      refine Eq.trans (if_pos h2) ?_
      refine Eq.trans (D_pfI gk_f35_45) ?_
      refine Eq.trans (if_pos h1) ?_
      refine Eq.trans (D_iconst (x := 0) gk_f35_48 gk_c_0) ?_
      refine Eq.trans (D_zreturn gk_f35_49 gk_rk35) ?_
      exact if_pos rfl
/-! GymDesk$Scanner.isName ()Z -/
set_option maxRecDepth 20000 in
theorem gk_f36_0 : gd_fetch 36 0 = some (0, .aload_n 0, 1, 0, 0, 0, 0, 0) := rfl
set_option maxRecDepth 20000 in
theorem gk_f36_1 : gd_fetch 36 1 = some (1, .getfield 52, 3, 180, 5, 5, 0, 0) := rfl
set_option maxRecDepth 20000 in
theorem gk_f36_4 : gd_fetch 36 4 = some (4, .iconst 1, 1, 0, 0, 0, 0, 0) := rfl
set_option maxRecDepth 20000 in
theorem gk_f36_5 : gd_fetch 36 5 = some (5, .if_icmp .ne 15, 3, 0, 0, 0, 0, 0) := rfl
set_option maxRecDepth 20000 in
theorem gk_f36_8 : gd_fetch 36 8 = some (8, .aload_n 0, 1, 0, 0, 0, 0, 0) := rfl
set_option maxRecDepth 20000 in
theorem gk_f36_9 : gd_fetch 36 9 = some (9, .getfield 49, 3, 188, 5, 9, 0, 0) := rfl
set_option maxRecDepth 20000 in
theorem gk_f36_12 : gd_fetch 36 12 = some (12, .iconst (-1), 1, 0, 0, 0, 0, 0) := rfl
set_option maxRecDepth 20000 in
theorem gk_f36_13 : gd_fetch 36 13 = some (13, .if_icmp .ne 7, 3, 0, 0, 0, 0, 0) := rfl
set_option maxRecDepth 20000 in
theorem gk_f36_16 : gd_fetch 36 16 = some (16, .iconst 1, 1, 0, 0, 0, 0, 0) := rfl
set_option maxRecDepth 20000 in
theorem gk_f36_17 : gd_fetch 36 17 = some (17, .goto 4, 3, 0, 0, 0, 0, 0) := rfl
set_option maxRecDepth 20000 in
theorem gk_f36_20 : gd_fetch 36 20 = some (20, .iconst 0, 1, 0, 0, 0, 0, 0) := rfl
set_option maxRecDepth 20000 in
theorem gk_f36_21 : gd_fetch 36 21 = some (21, .ireturn, 1, 0, 0, 0, 0, 0) := rfl
set_option maxRecDepth 20000 in
set_option maxHeartbeats 4000000 in
theorem q_Sc_isName (r0 : Nat) (m : gd_M) : gd_call 36 [.ref r0] m = if gd_ok (gN m) r0 5 = true then (if ((gI m r0 5) = 1 : Prop) then (if ((gI m r0 9) = (-1) : Prop) then (some (.int 1, m)) else (some (.int 0, m))) else (some (.int 0, m))) else none := by
  refine Eq.trans (show gd_call 36 [.ref r0] m = gd_Den (36, 0, [.ref r0], [], m) from by unfold gd_call gd_ent; rw [gk_ml36]; rfl) ?_
  refine Eq.trans (D_aload_n (x := r0) gk_f36_0 rfl) ?_
  refine Eq.trans (D_gfI gk_f36_1 (by decide) (by decide) (by decide)) ?_
  refine gd_ite (fun h1 => ?_) (fun _ => rfl)
  refine Eq.trans (D_iconst (x := 1) gk_f36_4 gk_c_1) ?_
  refine Eq.trans (D_ic_ne (t := 20) gk_f36_5 (by decide)) ?_
  refine gd_ite (fun h2 => ?_) (fun h3 => ?_)
  · refine Eq.trans (D_aload_n (x := r0) gk_f36_8 rfl) ?_
    refine Eq.trans (D_gfI gk_f36_9 (by decide) (by decide) (by decide)) ?_
    refine Eq.trans (if_pos h1) ?_
    refine Eq.trans (D_iconst (x := (-1)) gk_f36_12 gk_c_m1) ?_
    refine Eq.trans (D_ic_ne (t := 20) gk_f36_13 (by decide)) ?_
    refine gd_ite (fun h4 => ?_) (fun h5 => ?_)
    · refine Eq.trans (D_iconst (x := 1) gk_f36_16 gk_c_1) ?_
      refine Eq.trans (D_goto (t := 21) gk_f36_17 (by decide)) ?_
      refine Eq.trans (D_zreturn gk_f36_21 gk_rk36) ?_
      exact if_pos rfl
    · refine Eq.trans (D_iconst (x := 0) gk_f36_20 gk_c_0) ?_
      refine Eq.trans (D_zreturn gk_f36_21 gk_rk36) ?_
      exact if_pos rfl
  · refine Eq.trans (D_iconst (x := 0) gk_f36_20 gk_c_0) ?_
    refine Eq.trans (D_zreturn gk_f36_21 gk_rk36) ?_
    exact if_pos rfl
/-! GymDesk$Reader.indexOf ([JI)I -/
set_option maxRecDepth 20000 in
theorem gk_f37_0 : gd_fetch 37 0 = some (0, .iconst 0, 1, 0, 0, 0, 0, 0) := rfl
set_option maxRecDepth 20000 in
theorem gk_f37_1 : gd_fetch 37 1 = some (1, .istore_n 3, 1, 0, 0, 0, 0, 0) := rfl
set_option maxRecDepth 20000 in
theorem gk_f37_2 : gd_fetch 37 2 = some (2, .iload_n 3, 1, 0, 0, 0, 0, 0) := rfl
set_option maxRecDepth 20000 in
theorem gk_f37_3 : gd_fetch 37 3 = some (3, .iload_n 2, 1, 0, 0, 0, 0, 0) := rfl
set_option maxRecDepth 20000 in
theorem gk_f37_4 : gd_fetch 37 4 = some (4, .if_icmp .ge 31, 3, 0, 0, 0, 0, 0) := rfl
set_option maxRecDepth 20000 in
theorem gk_f37_7 : gd_fetch 37 7 = some (7, .iload_n 3, 1, 0, 0, 0, 0, 0) := rfl
set_option maxRecDepth 20000 in
theorem gk_f37_8 : gd_fetch 37 8 = some (8, .aload_n 1, 1, 0, 0, 0, 0, 0) := rfl
set_option maxRecDepth 20000 in
theorem gk_f37_9 : gd_fetch 37 9 = some (9, .arraylength, 1, 0, 0, 0, 0, 0) := rfl
set_option maxRecDepth 20000 in
theorem gk_f37_10 : gd_fetch 37 10 = some (10, .if_icmp .ge 25, 3, 0, 0, 0, 0, 0) := rfl
set_option maxRecDepth 20000 in
theorem gk_f37_13 : gd_fetch 37 13 = some (13, .aload_n 1, 1, 0, 0, 0, 0, 0) := rfl
set_option maxRecDepth 20000 in
theorem gk_f37_14 : gd_fetch 37 14 = some (14, .iload_n 3, 1, 0, 0, 0, 0, 0) := rfl
set_option maxRecDepth 20000 in
theorem gk_f37_15 : gd_fetch 37 15 = some (15, .laload, 1, 0, 0, 0, 0, 0) := rfl
set_option maxRecDepth 20000 in
theorem gk_f37_16 : gd_fetch 37 16 = some (16, .aload_n 0, 1, 0, 0, 0, 0, 0) := rfl
set_option maxRecDepth 20000 in
theorem gk_f37_17 : gd_fetch 37 17 = some (17, .getfield 12, 3, 212, 3, 0, 4, 1) := rfl
set_option maxRecDepth 20000 in
theorem gk_f37_20 : gd_fetch 37 20 = some (20, .getfield 184, 3, 186, 5, 8, 3, 0) := rfl
set_option maxRecDepth 20000 in
theorem gk_f37_23 : gd_fetch 37 23 = some (23, .lcmp, 1, 0, 0, 0, 0, 0) := rfl
set_option maxRecDepth 20000 in
theorem gk_f37_24 : gd_fetch 37 24 = some (24, .ifCond .ne 5, 3, 0, 0, 0, 0, 0) := rfl
set_option maxRecDepth 20000 in
theorem gk_f37_27 : gd_fetch 37 27 = some (27, .iload_n 3, 1, 0, 0, 0, 0, 0) := rfl
set_option maxRecDepth 20000 in
theorem gk_f37_28 : gd_fetch 37 28 = some (28, .ireturn, 1, 0, 0, 0, 0, 0) := rfl
set_option maxRecDepth 20000 in
theorem gk_f37_29 : gd_fetch 37 29 = some (29, .iinc 3 1, 3, 0, 0, 0, 0, 0) := rfl
set_option maxRecDepth 20000 in
theorem gk_f37_32 : gd_fetch 37 32 = some (32, .goto (-30), 3, 0, 0, 0, 0, 0) := rfl
set_option maxRecDepth 20000 in
theorem gk_f37_35 : gd_fetch 37 35 = some (35, .iconst (-1), 1, 0, 0, 0, 0, 0) := rfl
set_option maxRecDepth 20000 in
theorem gk_f37_36 : gd_fetch 37 36 = some (36, .ireturn, 1, 0, 0, 0, 0, 0) := rfl
set_option maxRecDepth 20000 in
set_option maxHeartbeats 4000000 in
theorem q_Re_indexOf (r0 : Nat) (r1 : Nat) (x2 : Int32) (m : gd_M) : gd_call 37 [.ref r0, .ref r1, .int x2] m = gd_Den (37, 2, [.ref r0, .ref r1, .int x2, .int 0], [], m) := by
  refine Eq.trans (show gd_call 37 [.ref r0, .ref r1, .int x2] m = gd_Den (37, 0, [.ref r0, .ref r1, .int x2, .null], [], m) from by unfold gd_call gd_ent; rw [gk_ml37]; rfl) ?_
  refine Eq.trans (D_iconst (x := 0) gk_f37_0 gk_c_0) ?_
  refine Eq.trans (D_istore_n gk_f37_1 gk_st37_3) ?_
  rfl
set_option maxRecDepth 20000 in
set_option maxHeartbeats 4000000 in
theorem q_Re_indexOf_2 (r0 : Nat) (r1 : Nat) (x2 : Int32) (x3 : Int32) (m : gd_M) : gd_Den (37, 2, [.ref r0, .ref r1, .int x2, .int x3], [], m) = if (x3 < x2 : Prop) then (if (Nat.ble 10 (gd_KD r1) && Nat.ble (gd_KD r1) 14 && decide (r1 < (gN m))) = true then (if (x3 < (Int32.ofNat (gd_LN r1)) : Prop) then (if gd_okA (gN m) r1 13 x3 = true then (if gd_ok (gN m) r0 3 = true then (if gd_ok (gN m) (gR m r0 0) 5 = true then (if ((lg_cmp (gJ m r1 (x3 : Int32).toNatClampNeg) (gJ m (gR m r0 0) 8)) = 0 : Prop) then (some (.int x3, m)) else (gd_Den (37, 2, [.ref r0, .ref r1, .int x2, .int (x3 + 1)], [], m))) else none) else none) else none) else (some (.int (-1), m))) else none) else (some (.int (-1), m)) := by
  refine Eq.trans (D_iload_n (x := x3) gk_f37_2 rfl) ?_
  refine Eq.trans (D_iload_n (x := x2) gk_f37_3 rfl) ?_
  refine Eq.trans (D_ic_ge (t := 35) gk_f37_4 (by decide)) ?_
  refine gd_ite (fun h1 => ?_) (fun h2 => ?_)
  · refine Eq.trans (D_iload_n (x := x3) gk_f37_7 rfl) ?_
    refine Eq.trans (D_aload_n (x := r1) gk_f37_8 rfl) ?_
    refine Eq.trans (D_alen gk_f37_9 gk_n10_37 gk_nt37) ?_
    refine gd_ite (fun h3 => ?_) (fun _ => rfl)
    refine Eq.trans (D_ic_ge (t := 35) gk_f37_10 (by decide)) ?_
    refine gd_ite (fun h4 => ?_) (fun h5 => ?_)
    · refine Eq.trans (D_aload_n (x := r1) gk_f37_13 rfl) ?_
      refine Eq.trans (D_iload_n (x := x3) gk_f37_14 rfl) ?_
      refine Eq.trans (D_lald gk_f37_15) ?_
      refine gd_ite (fun h6 => ?_) (fun _ => rfl)
      refine Eq.trans (D_aload_n (x := r0) gk_f37_16 rfl) ?_
      refine Eq.trans (D_gfR gk_f37_17 (by decide)) ?_
      refine gd_ite (fun h7 => ?_) (fun _ => rfl)
      refine Eq.trans (D_gfJ gk_f37_20 (by decide)) ?_
      refine gd_ite (fun h8 => ?_) (fun _ => rfl)
      refine Eq.trans (D_lcmp gk_f37_23) ?_
      refine Eq.trans (D_if_ne (t := 29) gk_f37_24 (by decide)) ?_
      refine gd_ite (fun h9 => ?_) (fun h10 => ?_)
      · refine Eq.trans (D_iload_n (x := x3) gk_f37_27 rfl) ?_
        refine Eq.trans (D_ireturn gk_f37_28 gk_rk37) ?_
        rfl
      · refine Eq.trans (D_iinc (x := x3) (y := 1) gk_f37_29 rfl gk_c_1 gk_st37_3) ?_
        refine Eq.trans (D_goto (t := 2) gk_f37_32 (by decide)) ?_
        rfl
    · refine Eq.trans (D_iconst (x := (-1)) gk_f37_35 gk_c_m1) ?_
      refine Eq.trans (D_ireturn gk_f37_36 gk_rk37) ?_
      rfl
  · refine Eq.trans (D_iconst (x := (-1)) gk_f37_35 gk_c_m1) ?_
    refine Eq.trans (D_ireturn gk_f37_36 gk_rk37) ?_
    rfl
/-! GymDesk$Reader.newName ([JI)Z -/
set_option maxRecDepth 20000 in
theorem gk_f38_0 : gd_fetch 38 0 = some (0, .aload_n 0, 1, 0, 0, 0, 0, 0) := rfl
set_option maxRecDepth 20000 in
theorem gk_f38_1 : gd_fetch 38 1 = some (1, .getfield 12, 3, 212, 3, 0, 4, 1) := rfl
set_option maxRecDepth 20000 in
theorem gk_f38_4 : gd_fetch 38 4 = some (4, .invokevirtual 48, 3, 534, 32, 0, 0, 0) := rfl
set_option maxRecDepth 20000 in
theorem gk_f38_7 : gd_fetch 38 7 = some (7, .aload_n 0, 1, 0, 0, 0, 0, 0) := rfl
set_option maxRecDepth 20000 in
theorem gk_f38_8 : gd_fetch 38 8 = some (8, .getfield 12, 3, 212, 3, 0, 4, 1) := rfl
set_option maxRecDepth 20000 in
theorem gk_f38_11 : gd_fetch 38 11 = some (11, .invokevirtual 177, 3, 574, 36, 0, 0, 0) := rfl
set_option maxRecDepth 20000 in
theorem gk_f38_14 : gd_fetch 38 14 = some (14, .ifCond .ne 9, 3, 0, 0, 0, 0, 0) := rfl
set_option maxRecDepth 20000 in
theorem gk_f38_17 : gd_fetch 38 17 = some (17, .aload_n 0, 1, 0, 0, 0, 0, 0) := rfl
set_option maxRecDepth 20000 in
theorem gk_f38_18 : gd_fetch 38 18 = some (18, .iconst 1, 1, 0, 0, 0, 0, 0) := rfl
set_option maxRecDepth 20000 in
theorem gk_f38_19 : gd_fetch 38 19 = some (19, .invokevirtual 61, 3, 562, 35, 1, 0, 0) := rfl
set_option maxRecDepth 20000 in
theorem gk_f38_22 : gd_fetch 38 22 = some (22, .ireturn, 1, 0, 0, 0, 0, 0) := rfl
set_option maxRecDepth 20000 in
theorem gk_f38_23 : gd_fetch 38 23 = some (23, .aload_n 0, 1, 0, 0, 0, 0, 0) := rfl
set_option maxRecDepth 20000 in
theorem gk_f38_24 : gd_fetch 38 24 = some (24, .aload_n 1, 1, 0, 0, 0, 0, 0) := rfl
set_option maxRecDepth 20000 in
theorem gk_f38_25 : gd_fetch 38 25 = some (25, .iload_n 2, 1, 0, 0, 0, 0, 0) := rfl
set_option maxRecDepth 20000 in
theorem gk_f38_26 : gd_fetch 38 26 = some (26, .invokevirtual 180, 3, 578, 37, 2, 0, 0) := rfl
set_option maxRecDepth 20000 in
theorem gk_f38_29 : gd_fetch 38 29 = some (29, .iconst (-1), 1, 0, 0, 0, 0, 0) := rfl
set_option maxRecDepth 20000 in
theorem gk_f38_30 : gd_fetch 38 30 = some (30, .if_icmp .eq 9, 3, 0, 0, 0, 0, 0) := rfl
set_option maxRecDepth 20000 in
theorem gk_f38_33 : gd_fetch 38 33 = some (33, .aload_n 0, 1, 0, 0, 0, 0, 0) := rfl
set_option maxRecDepth 20000 in
theorem gk_f38_34 : gd_fetch 38 34 = some (34, .iconst 2, 1, 0, 0, 0, 0, 0) := rfl
set_option maxRecDepth 20000 in
theorem gk_f38_35 : gd_fetch 38 35 = some (35, .invokevirtual 61, 3, 562, 35, 1, 0, 0) := rfl
set_option maxRecDepth 20000 in
theorem gk_f38_38 : gd_fetch 38 38 = some (38, .ireturn, 1, 0, 0, 0, 0, 0) := rfl
set_option maxRecDepth 20000 in
theorem gk_f38_39 : gd_fetch 38 39 = some (39, .iload_n 2, 1, 0, 0, 0, 0, 0) := rfl
set_option maxRecDepth 20000 in
theorem gk_f38_40 : gd_fetch 38 40 = some (40, .ifCond .lt 19, 3, 0, 0, 0, 0, 0) := rfl
set_option maxRecDepth 20000 in
theorem gk_f38_43 : gd_fetch 38 43 = some (43, .iload_n 2, 1, 0, 0, 0, 0, 0) := rfl
set_option maxRecDepth 20000 in
theorem gk_f38_44 : gd_fetch 38 44 = some (44, .aload_n 1, 1, 0, 0, 0, 0, 0) := rfl
set_option maxRecDepth 20000 in
theorem gk_f38_45 : gd_fetch 38 45 = some (45, .arraylength, 1, 0, 0, 0, 0, 0) := rfl
set_option maxRecDepth 20000 in
theorem gk_f38_46 : gd_fetch 38 46 = some (46, .if_icmp .ge 13, 3, 0, 0, 0, 0, 0) := rfl
set_option maxRecDepth 20000 in
theorem gk_f38_49 : gd_fetch 38 49 = some (49, .aload_n 1, 1, 0, 0, 0, 0, 0) := rfl
set_option maxRecDepth 20000 in
theorem gk_f38_50 : gd_fetch 38 50 = some (50, .iload_n 2, 1, 0, 0, 0, 0, 0) := rfl
set_option maxRecDepth 20000 in
theorem gk_f38_51 : gd_fetch 38 51 = some (51, .aload_n 0, 1, 0, 0, 0, 0, 0) := rfl
set_option maxRecDepth 20000 in
theorem gk_f38_52 : gd_fetch 38 52 = some (52, .getfield 12, 3, 212, 3, 0, 4, 1) := rfl
set_option maxRecDepth 20000 in
theorem gk_f38_55 : gd_fetch 38 55 = some (55, .getfield 184, 3, 186, 5, 8, 3, 0) := rfl
set_option maxRecDepth 20000 in
theorem gk_f38_58 : gd_fetch 38 58 = some (58, .lastore, 1, 0, 0, 0, 0, 0) := rfl
set_option maxRecDepth 20000 in
theorem gk_f38_59 : gd_fetch 38 59 = some (59, .aload_n 0, 1, 0, 0, 0, 0, 0) := rfl
set_option maxRecDepth 20000 in
theorem gk_f38_60 : gd_fetch 38 60 = some (60, .iconst 0, 1, 0, 0, 0, 0, 0) := rfl
set_option maxRecDepth 20000 in
theorem gk_f38_61 : gd_fetch 38 61 = some (61, .invokevirtual 61, 3, 562, 35, 1, 0, 0) := rfl
set_option maxRecDepth 20000 in
theorem gk_f38_64 : gd_fetch 38 64 = some (64, .ireturn, 1, 0, 0, 0, 0, 0) := rfl
set_option maxRecDepth 20000 in
set_option maxHeartbeats 4000000 in
theorem q_Re_newName (r0 : Nat) (r1 : Nat) (x2 : Int32) (m : gd_M) : gd_call 38 [.ref r0, .ref r1, .int x2] m = if gd_ok (gN m) r0 3 = true then (if gd_ok (gN m) (gR m r0 0) 5 = true then ((gd_call 32 [.ref (gR m r0 0)] m).bind (gd_kV fun m3 => if gd_ok (gN m3) r0 3 = true then (if gd_ok (gN m3) (gR m3 r0 0) 5 = true then ((gd_call 36 [.ref (gR m3 r0 0)] m3).bind (gd_kI fun z9 m7 => if (z9 = 0 : Prop) then (if gd_ok (gN m7) r0 3 = true then ((gd_call 35 [.ref r0, .int 1] m7).bind (gd_kI fun z15 m13 => if gd_bo z15 = true then some (.int z15, m13) else none)) else none) else (if gd_ok (gN m7) r0 3 = true then ((gd_call 37 [.ref r0, .ref r1, .int x2] m7).bind (gd_kI fun z19 m17 => if (z19 = (-1) : Prop) then (if (x2 < 0 : Prop) then (if gd_ok (gN m17) r0 3 = true then ((gd_call 35 [.ref r0, .int 0] m17).bind (gd_kI fun z27 m25 => if gd_bo z27 = true then some (.int z27, m25) else none)) else none) else (if (Nat.ble 10 (gd_KD r1) && Nat.ble (gd_KD r1) 14 && decide (r1 < (gN m17))) = true then (if (x2 < (Int32.ofNat (gd_LN r1)) : Prop) then (if gd_ok (gN m17) r0 3 = true then (if gd_ok (gN m17) (gR m17 r0 0) 5 = true then (if gd_okA (gN m17) r1 13 x2 = true then ((gd_call 35 [.ref r0, .int 0] (wJ m17 r1 (x2 : Int32).toNatClampNeg (gJ m17 (gR m17 r0 0) 8))).bind (gd_kI fun z36 m34 => if gd_bo z36 = true then some (.int z36, m34) else none)) else none) else none) else none) else (if gd_ok (gN m17) r0 3 = true then ((gd_call 35 [.ref r0, .int 0] m17).bind (gd_kI fun z40 m38 => if gd_bo z40 = true then some (.int z40, m38) else none)) else none)) else none)) else (if gd_ok (gN m17) r0 3 = true then ((gd_call 35 [.ref r0, .int 2] m17).bind (gd_kI fun z44 m42 => if gd_bo z44 = true then some (.int z44, m42) else none)) else none))) else none))) else none) else none)) else none) else none := by
  refine Eq.trans (show gd_call 38 [.ref r0, .ref r1, .int x2] m = gd_Den (38, 0, [.ref r0, .ref r1, .int x2], [], m) from by unfold gd_call gd_ent; rw [gk_ml38]; rfl) ?_
  refine Eq.trans (D_aload_n (x := r0) gk_f38_0 rfl) ?_
  refine Eq.trans (D_gfR gk_f38_1 (by decide)) ?_
  refine gd_ite (fun h1 => ?_) (fun _ => rfl)
  refine Eq.trans (D_ivV (cl := 5) (args := [.ref (gR m r0 0)]) (rest := []) gk_f38_4 rfl rfl (gd_rmk gk_rm38_32 gk_ln32 gk_ml32 rfl rfl rfl) gk_rk32 (gd_hnd_n gk_nc38) gk_nc32 gk_n11_32 gk_cl32) ?_
  refine gd_ite (fun h2 => ?_) (fun _ => rfl)
  refine gd_bnd (gd_kV_c fun m3 => ?_)
  refine Eq.trans (D_aload_n (x := r0) gk_f38_7 rfl) ?_
  refine Eq.trans (D_gfR gk_f38_8 (by decide)) ?_
  refine gd_ite (fun h5 => ?_) (fun _ => rfl)
  refine Eq.trans (D_ivZ (cl := 5) (args := [.ref (gR m3 r0 0)]) (rest := []) gk_f38_11 rfl rfl (gd_rmk gk_rm38_36 gk_ln36 gk_ml36 rfl rfl rfl) gk_rk36 (gd_hnd_n gk_nc38) gk_nc36 gk_n11_36 gk_cl36) ?_
  refine gd_ite (fun h6 => ?_) (fun _ => rfl)
  refine gd_bnd (gd_kI_c fun z9 m7 => ?_)
  refine Eq.trans (D_if_ne (t := 23) gk_f38_14 (by decide)) ?_
  refine gd_ite (fun h10 => ?_) (fun h11 => ?_)
  · refine Eq.trans (D_aload_n (x := r0) gk_f38_17 rfl) ?_
    refine Eq.trans (D_iconst (x := 1) gk_f38_18 gk_c_1) ?_
    refine Eq.trans (D_ivZ (cl := 3) (args := [.ref r0, .int 1]) (rest := []) gk_f38_19 rfl rfl (gd_rmk gk_rm38_35 gk_ln35 gk_ml35 rfl rfl rfl) gk_rk35 (gd_hnd_n gk_nc38) gk_nc35 gk_n11_35 gk_cl35) ?_
    refine gd_ite (fun h12 => ?_) (fun _ => rfl)
    refine gd_bnd (gd_kI_c fun z15 m13 => ?_)
    refine Eq.trans (D_zreturn gk_f38_22 gk_rk38) ?_
    rfl
  · refine Eq.trans (D_aload_n (x := r0) gk_f38_23 rfl) ?_
    refine Eq.trans (D_aload_n (x := r1) gk_f38_24 rfl) ?_
    refine Eq.trans (D_iload_n (x := x2) gk_f38_25 rfl) ?_
    refine Eq.trans (D_ivI (cl := 3) (args := [.ref r0, .ref r1, .int x2]) (rest := []) gk_f38_26 rfl rfl (gd_rmk gk_rm38_37 gk_ln37 gk_ml37 rfl rfl rfl) gk_rk37 (gd_hnd_n gk_nc38) gk_nc37 gk_n11_37 gk_cl37) ?_
    refine gd_ite (fun h16 => ?_) (fun _ => rfl)
    refine gd_bnd (gd_kI_c fun z19 m17 => ?_)
    refine Eq.trans (D_iconst (x := (-1)) gk_f38_29 gk_c_m1) ?_
    refine Eq.trans (D_ic_eq (t := 39) gk_f38_30 (by decide)) ?_
    refine gd_ite (fun h20 => ?_) (fun h21 => ?_)
    · refine Eq.trans (D_iload_n (x := x2) gk_f38_39 rfl) ?_
      refine Eq.trans (D_if_lt (t := 59) gk_f38_40 (by decide)) ?_
      refine gd_ite (fun h22 => ?_) (fun h23 => ?_)
      · refine Eq.trans (D_aload_n (x := r0) gk_f38_59 rfl) ?_
        refine Eq.trans (D_iconst (x := 0) gk_f38_60 gk_c_0) ?_
        refine Eq.trans (D_ivZ (cl := 3) (args := [.ref r0, .int 0]) (rest := []) gk_f38_61 rfl rfl (gd_rmk gk_rm38_35 gk_ln35 gk_ml35 rfl rfl rfl) gk_rk35 (gd_hnd_n gk_nc38) gk_nc35 gk_n11_35 gk_cl35) ?_
        refine gd_ite (fun h24 => ?_) (fun _ => rfl)
        refine gd_bnd (gd_kI_c fun z27 m25 => ?_)
        refine Eq.trans (D_zreturn gk_f38_64 gk_rk38) ?_
        rfl
      · refine Eq.trans (D_iload_n (x := x2) gk_f38_43 rfl) ?_
        refine Eq.trans (D_aload_n (x := r1) gk_f38_44 rfl) ?_
        refine Eq.trans (D_alen gk_f38_45 gk_n10_38 gk_nt38) ?_
        refine gd_ite (fun h28 => ?_) (fun _ => rfl)
        refine Eq.trans (D_ic_ge (t := 59) gk_f38_46 (by decide)) ?_
        refine gd_ite (fun h29 => ?_) (fun h30 => ?_)
        · refine Eq.trans (D_aload_n (x := r1) gk_f38_49 rfl) ?_
          refine Eq.trans (D_iload_n (x := x2) gk_f38_50 rfl) ?_
          refine Eq.trans (D_aload_n (x := r0) gk_f38_51 rfl) ?_
          refine Eq.trans (D_gfR gk_f38_52 (by decide)) ?_
          refine gd_ite (fun h31 => ?_) (fun _ => rfl)
          refine Eq.trans (D_gfJ gk_f38_55 (by decide)) ?_
          refine gd_ite (fun h32 => ?_) (fun _ => rfl)
          refine Eq.trans (D_last gk_f38_58) ?_
          refine gd_ite (fun h33 => ?_) (fun _ => rfl)
          refine Eq.trans (D_aload_n (x := r0) gk_f38_59 rfl) ?_
          refine Eq.trans (D_iconst (x := 0) gk_f38_60 gk_c_0) ?_
          refine Eq.trans (D_ivZ (cl := 3) (args := [.ref r0, .int 0]) (rest := []) gk_f38_61 rfl rfl (gd_rmk gk_rm38_35 gk_ln35 gk_ml35 rfl rfl rfl) gk_rk35 (gd_hnd_n gk_nc38) gk_nc35 gk_n11_35 gk_cl35) ?_
          refine Eq.trans (if_pos h31) ?_
          refine gd_bnd (gd_kI_c fun z36 m34 => ?_)
          refine Eq.trans (D_zreturn gk_f38_64 gk_rk38) ?_
          rfl
        · refine Eq.trans (D_aload_n (x := r0) gk_f38_59 rfl) ?_
          refine Eq.trans (D_iconst (x := 0) gk_f38_60 gk_c_0) ?_
          refine Eq.trans (D_ivZ (cl := 3) (args := [.ref r0, .int 0]) (rest := []) gk_f38_61 rfl rfl (gd_rmk gk_rm38_35 gk_ln35 gk_ml35 rfl rfl rfl) gk_rk35 (gd_hnd_n gk_nc38) gk_nc35 gk_n11_35 gk_cl35) ?_
          refine gd_ite (fun h37 => ?_) (fun _ => rfl)
          refine gd_bnd (gd_kI_c fun z40 m38 => ?_)
          refine Eq.trans (D_zreturn gk_f38_64 gk_rk38) ?_
          rfl
    · refine Eq.trans (D_aload_n (x := r0) gk_f38_33 rfl) ?_
      refine Eq.trans (D_iconst (x := 2) gk_f38_34 gk_c_2) ?_
      refine Eq.trans (D_ivZ (cl := 3) (args := [.ref r0, .int 2]) (rest := []) gk_f38_35 rfl rfl (gd_rmk gk_rm38_35 gk_ln35 gk_ml35 rfl rfl rfl) gk_rk35 (gd_hnd_n gk_nc38) gk_nc35 gk_n11_35 gk_cl35) ?_
      refine gd_ite (fun h41 => ?_) (fun _ => rfl)
      refine gd_bnd (gd_kI_c fun z44 m42 => ?_)
      refine Eq.trans (D_zreturn gk_f38_38 gk_rk38) ?_
      rfl
/-! GymDesk$Reader.faultOfNumber (II)I -/
set_option maxRecDepth 20000 in
theorem gk_f39_0 : gd_fetch 39 0 = some (0, .aload_n 0, 1, 0, 0, 0, 0, 0) := rfl
set_option maxRecDepth 20000 in
theorem gk_f39_1 : gd_fetch 39 1 = some (1, .getfield 12, 3, 212, 3, 0, 4, 1) := rfl
set_option maxRecDepth 20000 in
theorem gk_f39_4 : gd_fetch 39 4 = some (4, .getfield 51, 3, 179, 5, 5, 0, 0) := rfl
set_option maxRecDepth 20000 in
theorem gk_f39_7 : gd_fetch 39 7 = some (7, .iconst 2, 1, 0, 0, 0, 0, 0) := rfl
set_option maxRecDepth 20000 in
theorem gk_f39_8 : gd_fetch 39 8 = some (8, .if_icmp .eq 5, 3, 0, 0, 0, 0, 0) := rfl
set_option maxRecDepth 20000 in
theorem gk_f39_11 : gd_fetch 39 11 = some (11, .iconst 1, 1, 0, 0, 0, 0, 0) := rfl
set_option maxRecDepth 20000 in
theorem gk_f39_12 : gd_fetch 39 12 = some (12, .ireturn, 1, 0, 0, 0, 0, 0) := rfl
set_option maxRecDepth 20000 in
theorem gk_f39_13 : gd_fetch 39 13 = some (13, .aload_n 0, 1, 0, 0, 0, 0, 0) := rfl
set_option maxRecDepth 20000 in
theorem gk_f39_14 : gd_fetch 39 14 = some (14, .getfield 12, 3, 212, 3, 0, 4, 1) := rfl
set_option maxRecDepth 20000 in
theorem gk_f39_17 : gd_fetch 39 17 = some (17, .getfield 107, 3, 184, 5, 7, 0, 0) := rfl
set_option maxRecDepth 20000 in
theorem gk_f39_20 : gd_fetch 39 20 = some (20, .iload_n 1, 1, 0, 0, 0, 0, 0) := rfl
set_option maxRecDepth 20000 in
theorem gk_f39_21 : gd_fetch 39 21 = some (21, .if_icmp .lt 14, 3, 0, 0, 0, 0, 0) := rfl
set_option maxRecDepth 20000 in
theorem gk_f39_24 : gd_fetch 39 24 = some (24, .aload_n 0, 1, 0, 0, 0, 0, 0) := rfl
set_option maxRecDepth 20000 in
theorem gk_f39_25 : gd_fetch 39 25 = some (25, .getfield 12, 3, 212, 3, 0, 4, 1) := rfl
set_option maxRecDepth 20000 in
theorem gk_f39_28 : gd_fetch 39 28 = some (28, .getfield 107, 3, 184, 5, 7, 0, 0) := rfl
set_option maxRecDepth 20000 in
theorem gk_f39_31 : gd_fetch 39 31 = some (31, .iload_n 2, 1, 0, 0, 0, 0, 0) := rfl
set_option maxRecDepth 20000 in
theorem gk_f39_32 : gd_fetch 39 32 = some (32, .if_icmp .le 7, 3, 0, 0, 0, 0, 0) := rfl
set_option maxRecDepth 20000 in
theorem gk_f39_35 : gd_fetch 39 35 = some (35, .iconst 3, 1, 0, 0, 0, 0, 0) := rfl
set_option maxRecDepth 20000 in
theorem gk_f39_36 : gd_fetch 39 36 = some (36, .goto 4, 3, 0, 0, 0, 0, 0) := rfl
set_option maxRecDepth 20000 in
theorem gk_f39_39 : gd_fetch 39 39 = some (39, .iconst 0, 1, 0, 0, 0, 0, 0) := rfl
set_option maxRecDepth 20000 in
theorem gk_f39_40 : gd_fetch 39 40 = some (40, .ireturn, 1, 0, 0, 0, 0, 0) := rfl
set_option maxRecDepth 20000 in
set_option maxHeartbeats 4000000 in
theorem q_Re_faultOfNumber (r0 : Nat) (x1 : Int32) (x2 : Int32) (m : gd_M) : gd_call 39 [.ref r0, .int x1, .int x2] m = if gd_ok (gN m) r0 3 = true then (if gd_ok (gN m) (gR m r0 0) 5 = true then (if ((gI m (gR m r0 0) 5) = 2 : Prop) then (if ((gI m (gR m r0 0) 7) < x1 : Prop) then (some (.int 3, m)) else (if (x2 < (gI m (gR m r0 0) 7) : Prop) then (some (.int 3, m)) else (some (.int 0, m)))) else (some (.int 1, m))) else none) else none := by
  refine Eq.trans (show gd_call 39 [.ref r0, .int x1, .int x2] m = gd_Den (39, 0, [.ref r0, .int x1, .int x2], [], m) from by unfold gd_call gd_ent; rw [gk_ml39]; rfl) ?_
  refine Eq.trans (D_aload_n (x := r0) gk_f39_0 rfl) ?_
  refine Eq.trans (D_gfR gk_f39_1 (by decide)) ?_
  refine gd_ite (fun h1 => ?_) (fun _ => rfl)
  refine Eq.trans (D_gfI gk_f39_4 (by decide) (by decide) (by decide)) ?_
  refine gd_ite (fun h2 => ?_) (fun _ => rfl)
  refine Eq.trans (D_iconst (x := 2) gk_f39_7 gk_c_2) ?_
  refine Eq.trans (D_ic_eq (t := 13) gk_f39_8 (by decide)) ?_
  refine gd_ite (fun h3 => ?_) (fun h4 => ?_)
  · refine Eq.trans (D_aload_n (x := r0) gk_f39_13 rfl) ?_
    refine Eq.trans (D_gfR gk_f39_14 (by decide)) ?_
    refine Eq.trans (if_pos h1) ?_
    refine Eq.trans (D_gfI gk_f39_17 (by decide) (by decide) (by decide)) ?_
    refine Eq.trans (if_pos h2) ?_
    refine Eq.trans (D_iload_n (x := x1) gk_f39_20 rfl) ?_
    refine Eq.trans (D_ic_lt (t := 35) gk_f39_21 (by decide)) ?_
    refine gd_ite (fun h5 => ?_) (fun h6 => ?_)
    · refine Eq.trans (D_iconst (x := 3) gk_f39_35 gk_c_3) ?_
      refine Eq.trans (D_goto (t := 40) gk_f39_36 (by decide)) ?_
      refine Eq.trans (D_ireturn gk_f39_40 gk_rk39) ?_
      rfl
    · refine Eq.trans (D_aload_n (x := r0) gk_f39_24 rfl) ?_
      refine Eq.trans (D_gfR gk_f39_25 (by decide)) ?_
      refine Eq.trans (if_pos h1) ?_
      refine Eq.trans (D_gfI gk_f39_28 (by decide) (by decide) (by decide)) ?_
      refine Eq.trans (if_pos h2) ?_
      refine Eq.trans (D_iload_n (x := x2) gk_f39_31 rfl) ?_
      refine Eq.trans (D_ic_le (t := 39) gk_f39_32 (by decide)) ?_
      refine gd_ite (fun h7 => ?_) (fun h8 => ?_)
      · refine Eq.trans (D_iconst (x := 3) gk_f39_35 gk_c_3) ?_
        refine Eq.trans (D_goto (t := 40) gk_f39_36 (by decide)) ?_
        refine Eq.trans (D_ireturn gk_f39_40 gk_rk39) ?_
        rfl
      · refine Eq.trans (D_iconst (x := 0) gk_f39_39 gk_c_0) ?_
        refine Eq.trans (D_ireturn gk_f39_40 gk_rk39) ?_
        rfl
  · refine Eq.trans (D_iconst (x := 1) gk_f39_11 gk_c_1) ?_
    refine Eq.trans (D_ireturn gk_f39_12 gk_rk39) ?_
    rfl
/-! GymDesk$Reader.numberIn (II)Z -/
set_option maxRecDepth 20000 in
theorem gk_f40_0 : gd_fetch 40 0 = some (0, .aload_n 0, 1, 0, 0, 0, 0, 0) := rfl
set_option maxRecDepth 20000 in
theorem gk_f40_1 : gd_fetch 40 1 = some (1, .getfield 12, 3, 212, 3, 0, 4, 1) := rfl
set_option maxRecDepth 20000 in
theorem gk_f40_4 : gd_fetch 40 4 = some (4, .invokevirtual 48, 3, 534, 32, 0, 0, 0) := rfl
set_option maxRecDepth 20000 in
theorem gk_f40_7 : gd_fetch 40 7 = some (7, .aload_n 0, 1, 0, 0, 0, 0, 0) := rfl
set_option maxRecDepth 20000 in
theorem gk_f40_8 : gd_fetch 40 8 = some (8, .aload_n 0, 1, 0, 0, 0, 0, 0) := rfl
set_option maxRecDepth 20000 in
theorem gk_f40_9 : gd_fetch 40 9 = some (9, .iload_n 1, 1, 0, 0, 0, 0, 0) := rfl
set_option maxRecDepth 20000 in
theorem gk_f40_10 : gd_fetch 40 10 = some (10, .iload_n 2, 1, 0, 0, 0, 0, 0) := rfl
set_option maxRecDepth 20000 in
theorem gk_f40_11 : gd_fetch 40 11 = some (11, .invokevirtual 174, 3, 586, 39, 2, 0, 0) := rfl
set_option maxRecDepth 20000 in
theorem gk_f40_14 : gd_fetch 40 14 = some (14, .invokevirtual 61, 3, 562, 35, 1, 0, 0) := rfl
set_option maxRecDepth 20000 in
theorem gk_f40_17 : gd_fetch 40 17 = some (17, .ireturn, 1, 0, 0, 0, 0, 0) := rfl
set_option maxRecDepth 20000 in
set_option maxHeartbeats 4000000 in
theorem q_Re_numberIn (r0 : Nat) (x1 : Int32) (x2 : Int32) (m : gd_M) : gd_call 40 [.ref r0, .int x1, .int x2] m = if gd_ok (gN m) r0 3 = true then (if gd_ok (gN m) (gR m r0 0) 5 = true then ((gd_call 32 [.ref (gR m r0 0)] m).bind (gd_kV fun m3 => if gd_ok (gN m3) r0 3 = true then ((gd_call 39 [.ref r0, .int x1, .int x2] m3).bind (gd_kI fun z8 m6 => if gd_ok (gN m6) r0 3 = true then ((gd_call 35 [.ref r0, .int z8] m6).bind (gd_kI fun z12 m10 => if gd_bo z12 = true then some (.int z12, m10) else none)) else none)) else none)) else none) else none := by
  refine Eq.trans (show gd_call 40 [.ref r0, .int x1, .int x2] m = gd_Den (40, 0, [.ref r0, .int x1, .int x2], [], m) from by unfold gd_call gd_ent; rw [gk_ml40]; rfl) ?_
  refine Eq.trans (D_aload_n (x := r0) gk_f40_0 rfl) ?_
  refine Eq.trans (D_gfR gk_f40_1 (by decide)) ?_
  refine gd_ite (fun h1 => ?_) (fun _ => rfl)
  refine Eq.trans (D_ivV (cl := 5) (args := [.ref (gR m r0 0)]) (rest := []) gk_f40_4 rfl rfl (gd_rmk gk_rm40_32 gk_ln32 gk_ml32 rfl rfl rfl) gk_rk32 (gd_hnd_n gk_nc40) gk_nc32 gk_n11_32 gk_cl32) ?_
  refine gd_ite (fun h2 => ?_) (fun _ => rfl)
  refine gd_bnd (gd_kV_c fun m3 => ?_)
  refine Eq.trans (D_aload_n (x := r0) gk_f40_7 rfl) ?_
  refine Eq.trans (D_aload_n (x := r0) gk_f40_8 rfl) ?_
  refine Eq.trans (D_iload_n (x := x1) gk_f40_9 rfl) ?_
  refine Eq.trans (D_iload_n (x := x2) gk_f40_10 rfl) ?_
  refine Eq.trans (D_ivI (cl := 3) (args := [.ref r0, .int x1, .int x2]) (rest := [.ref r0]) gk_f40_11 rfl rfl (gd_rmk gk_rm40_39 gk_ln39 gk_ml39 rfl rfl rfl) gk_rk39 (gd_hnd_n gk_nc40) gk_nc39 gk_n11_39 gk_cl39) ?_
  refine gd_ite (fun h5 => ?_) (fun _ => rfl)
  refine gd_bnd (gd_kI_c fun z8 m6 => ?_)
  refine Eq.trans (D_ivZ (cl := 3) (args := [.ref r0, .int z8]) (rest := []) gk_f40_14 rfl rfl (gd_rmk gk_rm40_35 gk_ln35 gk_ml35 rfl rfl rfl) gk_rk35 (gd_hnd_n gk_nc40) gk_nc35 gk_n11_35 gk_cl35) ?_
  refine gd_ite (fun h9 => ?_) (fun _ => rfl)
  refine gd_bnd (gd_kI_c fun z12 m10 => ?_)
  refine Eq.trans (D_zreturn gk_f40_17 gk_rk40) ?_
  rfl
/-! GymDesk$Reader.theWord (I)Z -/
set_option maxRecDepth 20000 in
theorem gk_f41_0 : gd_fetch 41 0 = some (0, .aload_n 0, 1, 0, 0, 0, 0, 0) := rfl
set_option maxRecDepth 20000 in
theorem gk_f41_1 : gd_fetch 41 1 = some (1, .getfield 12, 3, 212, 3, 0, 4, 1) := rfl
set_option maxRecDepth 20000 in
theorem gk_f41_4 : gd_fetch 41 4 = some (4, .invokevirtual 48, 3, 534, 32, 0, 0, 0) := rfl
set_option maxRecDepth 20000 in
theorem gk_f41_7 : gd_fetch 41 7 = some (7, .aload_n 0, 1, 0, 0, 0, 0, 0) := rfl
set_option maxRecDepth 20000 in
theorem gk_f41_8 : gd_fetch 41 8 = some (8, .aload_n 0, 1, 0, 0, 0, 0, 0) := rfl
set_option maxRecDepth 20000 in
theorem gk_f41_9 : gd_fetch 41 9 = some (9, .getfield 12, 3, 212, 3, 0, 4, 1) := rfl
set_option maxRecDepth 20000 in
theorem gk_f41_12 : gd_fetch 41 12 = some (12, .getfield 54, 3, 187, 5, 9, 0, 0) := rfl
set_option maxRecDepth 20000 in
theorem gk_f41_15 : gd_fetch 41 15 = some (15, .iload_n 1, 1, 0, 0, 0, 0, 0) := rfl
set_option maxRecDepth 20000 in
theorem gk_f41_16 : gd_fetch 41 16 = some (16, .if_icmp .ne 7, 3, 0, 0, 0, 0, 0) := rfl
set_option maxRecDepth 20000 in
theorem gk_f41_19 : gd_fetch 41 19 = some (19, .iconst 0, 1, 0, 0, 0, 0, 0) := rfl
set_option maxRecDepth 20000 in
theorem gk_f41_20 : gd_fetch 41 20 = some (20, .goto 4, 3, 0, 0, 0, 0, 0) := rfl
set_option maxRecDepth 20000 in
theorem gk_f41_23 : gd_fetch 41 23 = some (23, .iconst 1, 1, 0, 0, 0, 0, 0) := rfl
set_option maxRecDepth 20000 in
theorem gk_f41_24 : gd_fetch 41 24 = some (24, .invokevirtual 61, 3, 562, 35, 1, 0, 0) := rfl
set_option maxRecDepth 20000 in
theorem gk_f41_27 : gd_fetch 41 27 = some (27, .ireturn, 1, 0, 0, 0, 0, 0) := rfl
set_option maxRecDepth 20000 in
set_option maxHeartbeats 4000000 in
theorem q_Re_theWord (r0 : Nat) (x1 : Int32) (m : gd_M) : gd_call 41 [.ref r0, .int x1] m = if gd_ok (gN m) r0 3 = true then (if gd_ok (gN m) (gR m r0 0) 5 = true then ((gd_call 32 [.ref (gR m r0 0)] m).bind (gd_kV fun m3 => if gd_ok (gN m3) r0 3 = true then (if gd_ok (gN m3) (gR m3 r0 0) 5 = true then (if ((gI m3 (gR m3 r0 0) 9) = x1 : Prop) then ((gd_call 35 [.ref r0, .int 0] m3).bind (gd_kI fun z11 m9 => if gd_bo z11 = true then some (.int z11, m9) else none)) else ((gd_call 35 [.ref r0, .int 1] m3).bind (gd_kI fun z14 m12 => if gd_bo z14 = true then some (.int z14, m12) else none))) else none) else none)) else none) else none := by
  refine Eq.trans (show gd_call 41 [.ref r0, .int x1] m = gd_Den (41, 0, [.ref r0, .int x1], [], m) from by unfold gd_call gd_ent; rw [gk_ml41]; rfl) ?_
  refine Eq.trans (D_aload_n (x := r0) gk_f41_0 rfl) ?_
  refine Eq.trans (D_gfR gk_f41_1 (by decide)) ?_
  refine gd_ite (fun h1 => ?_) (fun _ => rfl)
  refine Eq.trans (D_ivV (cl := 5) (args := [.ref (gR m r0 0)]) (rest := []) gk_f41_4 rfl rfl (gd_rmk gk_rm41_32 gk_ln32 gk_ml32 rfl rfl rfl) gk_rk32 (gd_hnd_n gk_nc41) gk_nc32 gk_n11_32 gk_cl32) ?_
  refine gd_ite (fun h2 => ?_) (fun _ => rfl)
  refine gd_bnd (gd_kV_c fun m3 => ?_)
  refine Eq.trans (D_aload_n (x := r0) gk_f41_7 rfl) ?_
  refine Eq.trans (D_aload_n (x := r0) gk_f41_8 rfl) ?_
  refine Eq.trans (D_gfR gk_f41_9 (by decide)) ?_
  refine gd_ite (fun h5 => ?_) (fun _ => rfl)
  refine Eq.trans (D_gfI gk_f41_12 (by decide) (by decide) (by decide)) ?_
  refine gd_ite (fun h6 => ?_) (fun _ => rfl)
  refine Eq.trans (D_iload_n (x := x1) gk_f41_15 rfl) ?_
  refine Eq.trans (D_ic_ne (t := 23) gk_f41_16 (by decide)) ?_
  refine gd_ite (fun h7 => ?_) (fun h8 => ?_)
  · refine Eq.trans (D_iconst (x := 0) gk_f41_19 gk_c_0) ?_
    refine Eq.trans (D_goto (t := 24) gk_f41_20 (by decide)) ?_
    refine Eq.trans (D_ivZ (cl := 3) (args := [.ref r0, .int 0]) (rest := []) gk_f41_24 rfl rfl (gd_rmk gk_rm41_35 gk_ln35 gk_ml35 rfl rfl rfl) gk_rk35 (gd_hnd_n gk_nc41) gk_nc35 gk_n11_35 gk_cl35) ?_
    refine Eq.trans (if_pos h5) ?_
    refine gd_bnd (gd_kI_c fun z11 m9 => ?_)
    refine Eq.trans (D_zreturn gk_f41_27 gk_rk41) ?_
    rfl
  · refine Eq.trans (D_iconst (x := 1) gk_f41_23 gk_c_1) ?_
    refine Eq.trans (D_ivZ (cl := 3) (args := [.ref r0, .int 1]) (rest := []) gk_f41_24 rfl rfl (gd_rmk gk_rm41_35 gk_ln35 gk_ml35 rfl rfl rfl) gk_rk35 (gd_hnd_n gk_nc41) gk_nc35 gk_n11_35 gk_cl35) ?_
    refine Eq.trans (if_pos h5) ?_
    refine gd_bnd (gd_kI_c fun z14 m12 => ?_)
    refine Eq.trans (D_zreturn gk_f41_27 gk_rk41) ?_
    rfl
/-! GymDesk$Reader.faultOfPartName ()I -/
set_option maxRecDepth 20000 in
theorem gk_f42_0 : gd_fetch 42 0 = some (0, .aload_n 0, 1, 0, 0, 0, 0, 0) := rfl
set_option maxRecDepth 20000 in
theorem gk_f42_1 : gd_fetch 42 1 = some (1, .getfield 12, 3, 212, 3, 0, 4, 1) := rfl
set_option maxRecDepth 20000 in
theorem gk_f42_4 : gd_fetch 42 4 = some (4, .invokevirtual 177, 3, 574, 36, 0, 0, 0) := rfl
set_option maxRecDepth 20000 in
theorem gk_f42_7 : gd_fetch 42 7 = some (7, .ifCond .ne 5, 3, 0, 0, 0, 0, 0) := rfl
set_option maxRecDepth 20000 in
theorem gk_f42_10 : gd_fetch 42 10 = some (10, .iconst 1, 1, 0, 0, 0, 0, 0) := rfl
set_option maxRecDepth 20000 in
theorem gk_f42_11 : gd_fetch 42 11 = some (11, .ireturn, 1, 0, 0, 0, 0, 0) := rfl
set_option maxRecDepth 20000 in
theorem gk_f42_12 : gd_fetch 42 12 = some (12, .aload_n 0, 1, 0, 0, 0, 0, 0) := rfl
set_option maxRecDepth 20000 in
theorem gk_f42_13 : gd_fetch 42 13 = some (13, .aload_n 0, 1, 0, 0, 0, 0, 0) := rfl
set_option maxRecDepth 20000 in
theorem gk_f42_14 : gd_fetch 42 14 = some (14, .getfield 18, 3, 213, 3, 1, 4, 1) := rfl
set_option maxRecDepth 20000 in
theorem gk_f42_17 : gd_fetch 42 17 = some (17, .aload_n 0, 1, 0, 0, 0, 0, 0) := rfl
set_option maxRecDepth 20000 in
theorem gk_f42_18 : gd_fetch 42 18 = some (18, .getfield 29, 3, 215, 3, 3, 4, 0) := rfl
set_option maxRecDepth 20000 in
theorem gk_f42_21 : gd_fetch 42 21 = some (21, .getfield 87, 3, 353, 1, 12, 0, 0) := rfl
set_option maxRecDepth 20000 in
theorem gk_f42_24 : gd_fetch 42 24 = some (24, .invokevirtual 180, 3, 578, 37, 2, 0, 0) := rfl
set_option maxRecDepth 20000 in
theorem gk_f42_27 : gd_fetch 42 27 = some (27, .istore_n 1, 1, 0, 0, 0, 0, 0) := rfl
set_option maxRecDepth 20000 in
theorem gk_f42_28 : gd_fetch 42 28 = some (28, .iload_n 1, 1, 0, 0, 0, 0, 0) := rfl
set_option maxRecDepth 20000 in
theorem gk_f42_29 : gd_fetch 42 29 = some (29, .iconst (-1), 1, 0, 0, 0, 0, 0) := rfl
set_option maxRecDepth 20000 in
theorem gk_f42_30 : gd_fetch 42 30 = some (30, .if_icmp .ne 5, 3, 0, 0, 0, 0, 0) := rfl
set_option maxRecDepth 20000 in
theorem gk_f42_33 : gd_fetch 42 33 = some (33, .iconst 2, 1, 0, 0, 0, 0, 0) := rfl
set_option maxRecDepth 20000 in
theorem gk_f42_34 : gd_fetch 42 34 = some (34, .ireturn, 1, 0, 0, 0, 0, 0) := rfl
set_option maxRecDepth 20000 in
theorem gk_f42_35 : gd_fetch 42 35 = some (35, .aload_n 0, 1, 0, 0, 0, 0, 0) := rfl
set_option maxRecDepth 20000 in
theorem gk_f42_36 : gd_fetch 42 36 = some (36, .iload_n 1, 1, 0, 0, 0, 0, 0) := rfl
set_option maxRecDepth 20000 in
theorem gk_f42_37 : gd_fetch 42 37 = some (37, .putfield 120, 3, 217, 3, 5, 0, 0) := rfl
set_option maxRecDepth 20000 in
theorem gk_f42_40 : gd_fetch 42 40 = some (40, .iconst 0, 1, 0, 0, 0, 0, 0) := rfl
set_option maxRecDepth 20000 in
theorem gk_f42_41 : gd_fetch 42 41 = some (41, .ireturn, 1, 0, 0, 0, 0, 0) := rfl
set_option maxRecDepth 20000 in
set_option maxHeartbeats 4000000 in
theorem q_Re_faultOfPartName (r0 : Nat) (m : gd_M) : gd_call 42 [.ref r0] m = if gd_ok (gN m) r0 3 = true then (if gd_ok (gN m) (gR m r0 0) 5 = true then ((gd_call 36 [.ref (gR m r0 0)] m).bind (gd_kI fun z5 m3 => if (z5 = 0 : Prop) then (some (.int 1, m3)) else (if gd_ok (gN m3) r0 3 = true then (if gd_ok (gN m3) (gR m3 r0 3) 1 = true then ((gd_call 37 [.ref r0, .ref (gR m3 r0 1), .int (gI m3 (gR m3 r0 3) 12)] m3).bind (gd_kI fun z12 m10 => if (z12 = (-1) : Prop) then (some (.int 2, m10)) else (if gd_ok (gN m10) r0 3 = true then (some (.int 0, (wI m10 r0 5 z12))) else none))) else none) else none))) else none) else none := by
  refine Eq.trans (show gd_call 42 [.ref r0] m = gd_Den (42, 0, [.ref r0, .null], [], m) from by unfold gd_call gd_ent; rw [gk_ml42]; rfl) ?_
  refine Eq.trans (D_aload_n (x := r0) gk_f42_0 rfl) ?_
  refine Eq.trans (D_gfR gk_f42_1 (by decide)) ?_
  refine gd_ite (fun h1 => ?_) (fun _ => rfl)
  refine Eq.trans (D_ivZ (cl := 5) (args := [.ref (gR m r0 0)]) (rest := []) gk_f42_4 rfl rfl (gd_rmk gk_rm42_36 gk_ln36 gk_ml36 rfl rfl rfl) gk_rk36 (gd_hnd_n gk_nc42) gk_nc36 gk_n11_36 gk_cl36) ?_
  refine gd_ite (fun h2 => ?_) (fun _ => rfl)
  refine gd_bnd (gd_kI_c fun z5 m3 => ?_)
  refine Eq.trans (D_if_ne (t := 12) gk_f42_7 (by decide)) ?_
  refine gd_ite (fun h6 => ?_) (fun h7 => ?_)
  · refine Eq.trans (D_iconst (x := 1) gk_f42_10 gk_c_1) ?_
    refine Eq.trans (D_ireturn gk_f42_11 gk_rk42) ?_
    rfl
  · refine Eq.trans (D_aload_n (x := r0) gk_f42_12 rfl) ?_
    refine Eq.trans (D_aload_n (x := r0) gk_f42_13 rfl) ?_
    refine Eq.trans (D_gfR gk_f42_14 (by decide)) ?_
    refine gd_ite (fun h8 => ?_) (fun _ => rfl)
    refine Eq.trans (D_aload_n (x := r0) gk_f42_17 rfl) ?_
    refine Eq.trans (D_gfR gk_f42_18 (by decide)) ?_
    refine Eq.trans (if_pos h8) ?_
    refine Eq.trans (D_gfI gk_f42_21 (by decide) (by decide) (by decide)) ?_
    refine gd_ite (fun h9 => ?_) (fun _ => rfl)
    refine Eq.trans (D_ivI (cl := 3) (args := [.ref r0, .ref (gR m3 r0 1), .int (gI m3 (gR m3 r0 3) 12)]) (rest := []) gk_f42_24 rfl rfl (gd_rmk gk_rm42_37 gk_ln37 gk_ml37 rfl rfl rfl) gk_rk37 (gd_hnd_n gk_nc42) gk_nc37 gk_n11_37 gk_cl37) ?_
    refine Eq.trans (if_pos h8) ?_
    refine gd_bnd (gd_kI_c fun z12 m10 => ?_)
    refine Eq.trans (D_istore_n gk_f42_27 gk_st42_1) ?_
    refine Eq.trans (D_iload_n (x := z12) gk_f42_28 rfl) ?_
    refine Eq.trans (D_iconst (x := (-1)) gk_f42_29 gk_c_m1) ?_
    refine Eq.trans (D_ic_ne (t := 35) gk_f42_30 (by decide)) ?_
    refine gd_ite (fun h13 => ?_) (fun h14 => ?_)
    · refine Eq.trans (D_iconst (x := 2) gk_f42_33 gk_c_2) ?_
      refine Eq.trans (D_ireturn gk_f42_34 gk_rk42) ?_
      rfl
    · refine Eq.trans (D_aload_n (x := r0) gk_f42_35 rfl) ?_
      refine Eq.trans (D_iload_n (x := z12) gk_f42_36 rfl) ?_
      refine Eq.trans (D_pfI gk_f42_37) ?_
      refine gd_ite (fun h15 => ?_) (fun _ => rfl)
      refine Eq.trans (D_iconst (x := 0) gk_f42_40 gk_c_0) ?_
      refine Eq.trans (D_ireturn gk_f42_41 gk_rk42) ?_
      rfl
