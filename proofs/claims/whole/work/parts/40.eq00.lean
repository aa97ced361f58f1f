/-! java/lang/String.coder ()B -/
theorem gk_f0_0 : gd_fetch 0 0 = some (0, .getstatic 38, 3, 133, 4, 0, 0, 0) := rfl
theorem gk_f0_3 : gd_fetch 0 3 = some (3, .ifCond .eq 10, 3, 0, 0, 0, 0, 0) := rfl
theorem gk_f0_6 : gd_fetch 0 6 = some (6, .aload_n 0, 1, 0, 0, 0, 0, 0) := rfl
theorem gk_f0_7 : gd_fetch 0 7 = some (7, .getfield 15, 3, 1544, 11, 1, 2, 0) := rfl
theorem gk_f0_10 : gd_fetch 0 10 = some (10, .goto 4, 3, 0, 0, 0, 0, 0) := rfl
theorem gk_f0_13 : gd_fetch 0 13 = some (13, .iconst 1, 1, 0, 0, 0, 0, 0) := rfl
theorem gk_f0_14 : gd_fetch 0 14 = some (14, .ireturn, 1, 0, 0, 0, 0, 0) := rfl
set_option maxRecDepth 20000 in
set_option maxHeartbeats 4000000 in
theorem q_S_coder  (m : gd_M) : gd_call 0 [.ref 1] m = if (1 = 0 : Prop) then (if decide (narrow .byte (.int 1) = .int 1) = true then some (.int 1, m) else none) else (if decide (narrow .byte (.int 0) = .int 0) = true then some (.int 0, m) else none) := by
  refine Eq.trans (show gd_call 0 [.ref 1] m = gd_Den (0, 0, [.ref 1], [], m) from by unfold gd_call gd_ent; rw [gk_ml0]; rfl) ?_
  refine Eq.trans (D_gsI gk_f0_0) ?_
  refine Eq.trans (D_if_eq (t := 13) gk_f0_3 (by decide)) ?_
  refine gd_ite (fun h1 => ?_) (fun h2 => ?_)
  · refine Eq.trans (D_iconst (x := 1) gk_f0_13 gk_c_1) ?_
    refine Eq.trans (D_breturn gk_f0_14 gk_rk0) ?_
    rfl
  · refine Eq.trans (D_aload_n (x := 1) gk_f0_6 rfl) ?_
    refine Eq.trans (D_gfC gk_f0_7) ?_
    refine Eq.trans (D_goto (t := 14) gk_f0_10 (by decide)) ?_
    refine Eq.trans (D_breturn gk_f0_14 gk_rk0) ?_
    rfl
/-! java/lang/String.length ()I -/
theorem gk_f1_0 : gd_fetch 1 0 = some (0, .aload_n 0, 1, 0, 0, 0, 0, 0) := rfl
theorem gk_f1_1 : gd_fetch 1 1 = some (1, .getfield 9, 3, 1543, 11, 0, 4, 0) := rfl
theorem gk_f1_4 : gd_fetch 1 4 = some (4, .arraylength, 1, 0, 0, 0, 0, 0) := rfl
theorem gk_f1_5 : gd_fetch 1 5 = some (5, .aload_n 0, 1, 0, 0, 0, 0, 0) := rfl
theorem gk_f1_6 : gd_fetch 1 6 = some (6, .invokevirtual 335, 3, 129, 0, 0, 0, 0) := rfl
theorem gk_f1_9 : gd_fetch 1 9 = some (9, .ishr, 1, 0, 0, 0, 0, 0) := rfl
theorem gk_f1_10 : gd_fetch 1 10 = some (10, .ireturn, 1, 0, 0, 0, 0, 0) := rfl
set_option maxRecDepth 20000 in
set_option maxHeartbeats 4000000 in
theorem q_S_length  (m : gd_M) : gd_call 1 [.ref 1] m = (gd_call 0 [.ref 1] m).bind (gd_kI fun x3 m1 => some (.int (gd_txn >>> (x3 &&& 31)), m1)) := by
  refine Eq.trans (show gd_call 1 [.ref 1] m = gd_Den (1, 0, [.ref 1], [], m) from by unfold gd_call gd_ent; rw [gk_ml1]; rfl) ?_
  refine Eq.trans (D_aload_n (x := 1) gk_f1_0 rfl) ?_
  refine Eq.trans (D_gfV gk_f1_1) ?_
  refine Eq.trans (D_alenT gk_f1_4 gk_n10_1 gk_t1) ?_
  refine Eq.trans (D_aload_n (x := 1) gk_f1_5 rfl) ?_
  refine Eq.trans (D_ivSB (args := [.ref 1]) (rest := [.int gd_txn]) gk_f1_6 rfl rfl (gd_rmk gk_rm1_0 gk_ln0 gk_ml0 rfl rfl rfl) gk_rk0 (gd_hnd_n gk_nc1) gk_nc0 gk_t11_0) ?_
  refine gd_bnd (gd_kI_c fun x3 m1 => ?_)
  refine Eq.trans (D_ishr gk_f1_9) ?_
  refine Eq.trans (D_ireturn gk_f1_10 gk_rk1) ?_
  rfl
/-! java/lang/String.isLatin1 ()Z -/
theorem gk_f2_0 : gd_fetch 2 0 = some (0, .getstatic 38, 3, 133, 4, 0, 0, 0) := rfl
theorem gk_f2_3 : gd_fetch 2 3 = some (3, .ifCond .eq 14, 3, 0, 0, 0, 0, 0) := rfl
theorem gk_f2_6 : gd_fetch 2 6 = some (6, .aload_n 0, 1, 0, 0, 0, 0, 0) := rfl
theorem gk_f2_7 : gd_fetch 2 7 = some (7, .getfield 15, 3, 1544, 11, 1, 2, 0) := rfl
theorem gk_f2_10 : gd_fetch 2 10 = some (10, .ifCond .ne 7, 3, 0, 0, 0, 0, 0) := rfl
theorem gk_f2_13 : gd_fetch 2 13 = some (13, .iconst 1, 1, 0, 0, 0, 0, 0) := rfl
theorem gk_f2_14 : gd_fetch 2 14 = some (14, .goto 4, 3, 0, 0, 0, 0, 0) := rfl
theorem gk_f2_17 : gd_fetch 2 17 = some (17, .iconst 0, 1, 0, 0, 0, 0, 0) := rfl
theorem gk_f2_18 : gd_fetch 2 18 = some (18, .ireturn, 1, 0, 0, 0, 0, 0) := rfl
set_option maxRecDepth 20000 in
set_option maxHeartbeats 4000000 in
theorem q_S_isLatin1  (m : gd_M) : gd_call 2 [.ref 1] m = if (1 = 0 : Prop) then (some (.int 0, m)) else (if (0 = 0 : Prop) then (some (.int 1, m)) else (some (.int 0, m))) := by
  refine Eq.trans (show gd_call 2 [.ref 1] m = gd_Den (2, 0, [.ref 1], [], m) from by unfold gd_call gd_ent; rw [gk_ml2]; rfl) ?_
  refine Eq.trans (D_gsI gk_f2_0) ?_
  refine Eq.trans (D_if_eq (t := 17) gk_f2_3 (by decide)) ?_
  refine gd_ite (fun h1 => ?_) (fun h2 => ?_)
  · refine Eq.trans (D_iconst (x := 0) gk_f2_17 gk_c_0) ?_
    refine Eq.trans (D_zreturn gk_f2_18 gk_rk2) ?_
    exact if_pos rfl
  · refine Eq.trans (D_aload_n (x := 1) gk_f2_6 rfl) ?_
    refine Eq.trans (D_gfC gk_f2_7) ?_
    refine Eq.trans (D_if_ne (t := 17) gk_f2_10 (by decide)) ?_
    refine gd_ite (fun h3 => ?_) (fun h4 => ?_)
    · refine Eq.trans (D_iconst (x := 1) gk_f2_13 gk_c_1) ?_
      refine Eq.trans (D_goto (t := 18) gk_f2_14 (by decide)) ?_
      refine Eq.trans (D_zreturn gk_f2_18 gk_rk2) ?_
      exact if_pos rfl
    · refine Eq.trans (D_iconst (x := 0) gk_f2_17 gk_c_0) ?_
      refine Eq.trans (D_zreturn gk_f2_18 gk_rk2) ?_
      exact if_pos rfl
/-! jdk/internal/util/Preconditions.checkIndex (IILjava/util/function/BiFunction;)I -/
theorem gk_f3_0 : gd_fetch 3 0 = some (0, .iload_n 0, 1, 0, 0, 0, 0, 0) := rfl
theorem gk_f3_1 : gd_fetch 3 1 = some (1, .ifCond .lt 8, 3, 0, 0, 0, 0, 0) := rfl
theorem gk_f3_4 : gd_fetch 3 4 = some (4, .iload_n 0, 1, 0, 0, 0, 0, 0) := rfl
theorem gk_f3_5 : gd_fetch 3 5 = some (5, .iload_n 1, 1, 0, 0, 0, 0, 0) := rfl
theorem gk_f3_6 : gd_fetch 3 6 = some (6, .if_icmp .lt 10, 3, 0, 0, 0, 0, 0) := rfl
theorem gk_f3_9 : gd_fetch 3 9 = some (9, .aload_n 2, 1, 0, 0, 0, 0, 0) := rfl
theorem gk_f3_10 : gd_fetch 3 10 = some (10, .iload_n 0, 1, 0, 0, 0, 0, 0) := rfl
theorem gk_f3_11 : gd_fetch 3 11 = some (11, .iload_n 1, 1, 0, 0, 0, 0, 0) := rfl
theorem gk_f3_12 : gd_fetch 3 12 = some (12, .invokestatic 95, 3, 0, 0, 0, 3, 0) := rfl
theorem gk_f3_16 : gd_fetch 3 16 = some (16, .iload_n 0, 1, 0, 0, 0, 0, 0) := rfl
theorem gk_f3_17 : gd_fetch 3 17 = some (17, .ireturn, 1, 0, 0, 0, 0, 0) := rfl
set_option maxRecDepth 20000 in
set_option maxHeartbeats 4000000 in
theorem q_Pr_checkIndex (x0 : Int32) (x1 : Int32) (r2 : Nat) (m : gd_M) : gd_call 3 [.int x0, .int x1, .ref r2] m = if (x0 < 0 : Prop) then (none) else (if (x0 < x1 : Prop) then (some (.int x0, m)) else (none)) := by
  refine Eq.trans (show gd_call 3 [.int x0, .int x1, .ref r2] m = gd_Den (3, 0, [.int x0, .int x1, .ref r2], [], m) from by unfold gd_call gd_ent; rw [gk_ml3]; rfl) ?_
  refine Eq.trans (D_iload_n (x := x0) gk_f3_0 rfl) ?_
  refine Eq.trans (D_if_lt (t := 9) gk_f3_1 (by decide)) ?_
  refine gd_ite (fun h1 => ?_) (fun h2 => ?_)
  · refine Eq.trans (D_aload_n (x := r2) gk_f3_9 rfl) ?_
    refine Eq.trans (D_iload_n (x := x0) gk_f3_10 rfl) ?_
    refine Eq.trans (D_iload_n (x := x1) gk_f3_11 rfl) ?_
    rw [gd_Den_step gk_f3_12]
    rfl
  · refine Eq.trans (D_iload_n (x := x0) gk_f3_4 rfl) ?_
    refine Eq.trans (D_iload_n (x := x1) gk_f3_5 rfl) ?_
    refine Eq.trans (D_ic_lt (t := 16) gk_f3_6 (by decide)) ?_
    refine gd_ite (fun h3 => ?_) (fun h4 => ?_)
    · refine Eq.trans (D_iload_n (x := x0) gk_f3_16 rfl) ?_
      refine Eq.trans (D_ireturn gk_f3_17 gk_rk3) ?_
      rfl
    · refine Eq.trans (D_aload_n (x := r2) gk_f3_9 rfl) ?_
      refine Eq.trans (D_iload_n (x := x0) gk_f3_10 rfl) ?_
      refine Eq.trans (D_iload_n (x := x1) gk_f3_11 rfl) ?_
      rw [gd_Den_step gk_f3_12]
      rfl
/-! java/lang/String.checkIndex (II)V -/
theorem gk_f4_0 : gd_fetch 4 0 = some (0, .iload_n 0, 1, 0, 0, 0, 0, 0) := rfl
theorem gk_f4_1 : gd_fetch 4 1 = some (1, .iload_n 1, 1, 0, 0, 0, 0, 0) := rfl
theorem gk_f4_2 : gd_fetch 4 2 = some (2, .getstatic 1053, 3, 149, 5, 0, 0, 0) := rfl
theorem gk_f4_5 : gd_fetch 4 5 = some (5, .invokestatic 1059, 3, 151, 3, 3, 0, 0) := rfl
theorem gk_f4_8 : gd_fetch 4 8 = some (8, .pop, 1, 0, 0, 0, 0, 0) := rfl
theorem gk_f4_9 : gd_fetch 4 9 = some (9, .return_, 1, 0, 0, 0, 0, 0) := rfl
set_option maxRecDepth 20000 in
set_option maxHeartbeats 4000000 in
theorem q_S_checkIndex (x0 : Int32) (x1 : Int32) (m : gd_M) : gd_call 4 [.int x0, .int x1] m = (gd_call 3 [.int x0, .int x1, .ref 5] m).bind (gd_k0I fun x3 m1 => some (.null, m1)) := by
  refine Eq.trans (show gd_call 4 [.int x0, .int x1] m = gd_Den (4, 0, [.int x0, .int x1], [], m) from by unfold gd_call gd_ent; rw [gk_ml4]; rfl) ?_
  refine Eq.trans (D_iload_n (x := x0) gk_f4_0 rfl) ?_
  refine Eq.trans (D_iload_n (x := x1) gk_f4_1 rfl) ?_
  refine Eq.trans (D_gsR gk_f4_2 (by decide)) ?_
  refine Eq.trans (D_isI (args := [.int x0, .int x1, .ref 5]) (rest := []) gk_f4_5 rfl rfl rfl (gd_rmk gk_rm4_3 gk_ln3 gk_ml3 rfl rfl rfl) gk_rk3 (gd_hnd_n gk_nc4)) ?_
  refine gd_bnd (gd_k0I_c fun x3 m1 => ?_)
  refine Eq.trans (D_popI gk_f4_8) ?_
  refine Eq.trans (D_vreturn gk_f4_9 gk_rk4) ?_
  rfl
/-! java/lang/StringLatin1.charAt ([BI)C -/
theorem gk_f5_0 : gd_fetch 5 0 = some (0, .iload_n 1, 1, 0, 0, 0, 0, 0) := rfl
theorem gk_f5_1 : gd_fetch 5 1 = some (1, .aload_n 0, 1, 0, 0, 0, 0, 0) := rfl
theorem gk_f5_2 : gd_fetch 5 2 = some (2, .arraylength, 1, 0, 0, 0, 0, 0) := rfl
theorem gk_f5_3 : gd_fetch 5 3 = some (3, .invokestatic 9, 3, 146, 4, 2, 0, 0) := rfl
theorem gk_f5_6 : gd_fetch 5 6 = some (6, .aload_n 0, 1, 0, 0, 0, 0, 0) := rfl
theorem gk_f5_7 : gd_fetch 5 7 = some (7, .iload_n 1, 1, 0, 0, 0, 0, 0) := rfl
theorem gk_f5_8 : gd_fetch 5 8 = some (8, .baload, 1, 0, 0, 0, 0, 0) := rfl
theorem gk_f5_9 : gd_fetch 5 9 = some (9, .sipush 255, 3, 0, 0, 0, 0, 0) := rfl
theorem gk_f5_12 : gd_fetch 5 12 = some (12, .iand, 1, 0, 0, 0, 0, 0) := rfl
theorem gk_f5_13 : gd_fetch 5 13 = some (13, .i2c, 1, 0, 0, 0, 0, 0) := rfl
theorem gk_f5_14 : gd_fetch 5 14 = some (14, .ireturn, 1, 0, 0, 0, 0, 0) := rfl
set_option maxRecDepth 20000 in
set_option maxHeartbeats 4000000 in
theorem q_S1_charAt (x1 : Int32) (m : gd_M) : gd_call 5 [.ref 2, .int x1] m = (gd_call 4 [.int x1, .int gd_txn] m).bind (gd_k0V fun m1 => if gd_in x1 gd_txl = true then (if decide (narrow .char (.int ((((gd_tx (x1).toNatClampNeg) &&& 255)).toUInt32 % 65536).toInt32) = .int ((((gd_tx (x1).toNatClampNeg) &&& 255)).toUInt32 % 65536).toInt32) = true then some (.int ((((gd_tx (x1).toNatClampNeg) &&& 255)).toUInt32 % 65536).toInt32, m1) else none) else none) := by
  refine Eq.trans (show gd_call 5 [.ref 2, .int x1] m = gd_Den (5, 0, [.ref 2, .int x1], [], m) from by unfold gd_call gd_ent; rw [gk_ml5]; rfl) ?_
  refine Eq.trans (D_iload_n (x := x1) gk_f5_0 rfl) ?_
  refine Eq.trans (D_aload_n (x := 2) gk_f5_1 rfl) ?_
  refine Eq.trans (D_alenT gk_f5_2 gk_n10_5 gk_t5) ?_
  refine Eq.trans (D_isV (args := [.int x1, .int gd_txn]) (rest := []) gk_f5_3 rfl rfl rfl (gd_rmk gk_rm5_4 gk_ln4 gk_ml4 rfl rfl rfl) gk_rk4 (gd_hnd_n gk_nc5)) ?_
  refine gd_bnd (gd_k0V_c fun m1 => ?_)
  refine Eq.trans (D_aload_n (x := 2) gk_f5_6 rfl) ?_
  refine Eq.trans (D_iload_n (x := x1) gk_f5_7 rfl) ?_
  refine Eq.trans (D_baldT gk_f5_8 gk_12t5) ?_
  refine gd_ite (fun h3 => ?_) (fun _ => rfl)
  refine Eq.trans (D_sipush (x := 255) gk_f5_9 gk_s_255) ?_
  refine Eq.trans (D_iand gk_f5_12) ?_
  refine Eq.trans (D_i2c gk_f5_13) ?_
  refine Eq.trans (D_creturn gk_f5_14 gk_rk5) ?_
  rfl
