/-! GymDesk$Reader.nameOfPart ()Z -/
set_option maxRecDepth 20000 in
theorem gk_f43_0 : gd_fetch 43 0 = some (0, .aload_n 0, 1, 0, 0, 0, 0, 0) := rfl
set_option maxRecDepth 20000 in
theorem gk_f43_1 : gd_fetch 43 1 = some (1, .getfield 12, 3, 212, 3, 0, 4, 1) := rfl
set_option maxRecDepth 20000 in
theorem gk_f43_4 : gd_fetch 43 4 = some (4, .invokevirtual 48, 3, 534, 32, 0, 0, 0) := rfl
set_option maxRecDepth 20000 in
theorem gk_f43_7 : gd_fetch 43 7 = some (7, .aload_n 0, 1, 0, 0, 0, 0, 0) := rfl
set_option maxRecDepth 20000 in
theorem gk_f43_8 : gd_fetch 43 8 = some (8, .aload_n 0, 1, 0, 0, 0, 0, 0) := rfl
set_option maxRecDepth 20000 in
theorem gk_f43_9 : gd_fetch 43 9 = some (9, .invokevirtual 136, 3, 598, 42, 0, 0, 0) := rfl
set_option maxRecDepth 20000 in
theorem gk_f43_12 : gd_fetch 43 12 = some (12, .invokevirtual 61, 3, 562, 35, 1, 0, 0) := rfl
set_option maxRecDepth 20000 in
theorem gk_f43_15 : gd_fetch 43 15 = some (15, .ireturn, 1, 0, 0, 0, 0, 0) := rfl
set_option maxRecDepth 20000 in
set_option maxHeartbeats 4000000 in
theorem q_Re_nameOfPart (r0 : Nat) (m : gd_M) : gd_call 43 [.ref r0] m = if gd_ok (gN m) r0 3 = true then (if gd_ok (gN m) (gR m r0 0) 5 = true then ((gd_call 32 [.ref (gR m r0 0)] m).bind (gd_kV fun m3 => if gd_ok (gN m3) r0 3 = true then ((gd_call 42 [.ref r0] m3).bind (gd_kI fun z8 m6 => if gd_ok (gN m6) r0 3 = true then ((gd_call 35 [.ref r0, .int z8] m6).bind (gd_kI fun z12 m10 => if gd_bo z12 = true then some (.int z12, m10) else none)) else none)) else none)) else none) else none := by
  refine Eq.trans (show gd_call 43 [.ref r0] m = gd_Den (43, 0, [.ref r0], [], m) from by unfold gd_call gd_ent; rw [gk_ml43]; rfl) ?_
  refine Eq.trans (D_aload_n (x := r0) gk_f43_0 rfl) ?_
  refine Eq.trans (D_gfR gk_f43_1 (by decide)) ?_
  refine gd_ite (fun h1 => ?_) (fun _ => rfl)
  refine Eq.trans (D_ivV (cl := 5) (args := [.ref (gR m r0 0)]) (rest := []) gk_f43_4 rfl rfl (gd_rmk gk_rm43_32 gk_ln32 gk_ml32 rfl rfl rfl) gk_rk32 (gd_hnd_n gk_nc43) gk_nc32 gk_n11_32 gk_cl32) ?_
  refine gd_ite (fun h2 => ?_) (fun _ => rfl)
  refine gd_bnd (gd_kV_c fun m3 => ?_)
  refine Eq.trans (D_aload_n (x := r0) gk_f43_7 rfl) ?_
  refine Eq.trans (D_aload_n (x := r0) gk_f43_8 rfl) ?_
  refine Eq.trans (D_ivI (cl := 3) (args := [.ref r0]) (rest := [.ref r0]) gk_f43_9 rfl rfl (gd_rmk gk_rm43_42 gk_ln42 gk_ml42 rfl rfl rfl) gk_rk42 (gd_hnd_n gk_nc43) gk_nc42 gk_n11_42 gk_cl42) ?_
  refine gd_ite (fun h5 => ?_) (fun _ => rfl)
  refine gd_bnd (gd_kI_c fun z8 m6 => ?_)
  refine Eq.trans (D_ivZ (cl := 3) (args := [.ref r0, .int z8]) (rest := []) gk_f43_12 rfl rfl (gd_rmk gk_rm43_35 gk_ln35 gk_ml35 rfl rfl rfl) gk_rk35 (gd_hnd_n gk_nc43) gk_nc35 gk_n11_35 gk_cl35) ?_
  refine gd_ite (fun h9 => ?_) (fun _ => rfl)
  refine gd_bnd (gd_kI_c fun z12 m10 => ?_)
  refine Eq.trans (D_zreturn gk_f43_15 gk_rk43) ?_
  rfl
/-! GymDesk$Reader.endsLine ()Z -/
set_option maxRecDepth 20000 in
theorem gk_f44_0 : gd_fetch 44 0 = some (0, .aload_n 0, 1, 0, 0, 0, 0, 0) := rfl
set_option maxRecDepth 20000 in
theorem gk_f44_1 : gd_fetch 44 1 = some (1, .aload_n 0, 1, 0, 0, 0, 0, 0) := rfl
set_option maxRecDepth 20000 in
theorem gk_f44_2 : gd_fetch 44 2 = some (2, .getfield 12, 3, 212, 3, 0, 4, 1) := rfl
set_option maxRecDepth 20000 in
theorem gk_f44_5 : gd_fetch 44 5 = some (5, .getfield 51, 3, 179, 5, 5, 0, 0) := rfl
set_option maxRecDepth 20000 in
theorem gk_f44_8 : gd_fetch 44 8 = some (8, .iconst 3, 1, 0, 0, 0, 0, 0) := rfl
set_option maxRecDepth 20000 in
theorem gk_f44_9 : gd_fetch 44 9 = some (9, .if_icmp .ne 7, 3, 0, 0, 0, 0, 0) := rfl
set_option maxRecDepth 20000 in
theorem gk_f44_12 : gd_fetch 44 12 = some (12, .iconst 0, 1, 0, 0, 0, 0, 0) := rfl
set_option maxRecDepth 20000 in
theorem gk_f44_13 : gd_fetch 44 13 = some (13, .goto 4, 3, 0, 0, 0, 0, 0) := rfl
set_option maxRecDepth 20000 in
theorem gk_f44_16 : gd_fetch 44 16 = some (16, .iconst 1, 1, 0, 0, 0, 0, 0) := rfl
set_option maxRecDepth 20000 in
theorem gk_f44_17 : gd_fetch 44 17 = some (17, .invokevirtual 61, 3, 562, 35, 1, 0, 0) := rfl
set_option maxRecDepth 20000 in
theorem gk_f44_20 : gd_fetch 44 20 = some (20, .ireturn, 1, 0, 0, 0, 0, 0) := rfl
set_option maxRecDepth 20000 in
set_option maxHeartbeats 4000000 in
theorem q_Re_endsLine (r0 : Nat) (m : gd_M) : gd_call 44 [.ref r0] m = if gd_ok (gN m) r0 3 = true then (if gd_ok (gN m) (gR m r0 0) 5 = true then (if ((gI m (gR m r0 0) 5) = 3 : Prop) then ((gd_call 35 [.ref r0, .int 0] m).bind (gd_kI fun z7 m5 => if gd_bo z7 = true then some (.int z7, m5) else none)) else ((gd_call 35 [.ref r0, .int 1] m).bind (gd_kI fun z10 m8 => if gd_bo z10 = true then some (.int z10, m8) else none))) else none) else none := by
  refine Eq.trans (show gd_call 44 [.ref r0] m = gd_Den (44, 0, [.ref r0], [], m) from by unfold gd_call gd_ent; rw [gk_ml44]; rfl) ?_
  refine Eq.trans (D_aload_n (x := r0) gk_f44_0 rfl) ?_
  refine Eq.trans (D_aload_n (x := r0) gk_f44_1 rfl) ?_
  refine Eq.trans (D_gfR gk_f44_2 (by decide)) ?_
  refine gd_ite (fun h1 => ?_) (fun _ => rfl)
  refine Eq.trans (D_gfI gk_f44_5 (by decide) (by decide) (by decide)) ?_
  refine gd_ite (fun h2 => ?_) (fun _ => rfl)
  refine Eq.trans (D_iconst (x := 3) gk_f44_8 gk_c_3) ?_
  refine Eq.trans (D_ic_ne (t := 16) gk_f44_9 (by decide)) ?_
  refine gd_ite (fun h3 => ?_) (fun h4 => ?_)
  · refine Eq.trans (D_iconst (x := 0) gk_f44_12 gk_c_0) ?_
    refine Eq.trans (D_goto (t := 17) gk_f44_13 (by decide)) ?_
    refine Eq.trans (D_ivZ (cl := 3) (args := [.ref r0, .int 0]) (rest := []) gk_f44_17 rfl rfl (gd_rmk gk_rm44_35 gk_ln35 gk_ml35 rfl rfl rfl) gk_rk35 (gd_hnd_n gk_nc44) gk_nc35 gk_n11_35 gk_cl35) ?_
    refine Eq.trans (if_pos h1) ?_
    refine gd_bnd (gd_kI_c fun z7 m5 => ?_)
    refine Eq.trans (D_zreturn gk_f44_20 gk_rk44) ?_
    rfl
  · refine Eq.trans (D_iconst (x := 1) gk_f44_16 gk_c_1) ?_
    refine Eq.trans (D_ivZ (cl := 3) (args := [.ref r0, .int 1]) (rest := []) gk_f44_17 rfl rfl (gd_rmk gk_rm44_35 gk_ln35 gk_ml35 rfl rfl rfl) gk_rk35 (gd_hnd_n gk_nc44) gk_nc35 gk_n11_35 gk_cl35) ?_
    refine Eq.trans (if_pos h1) ?_
    refine gd_bnd (gd_kI_c fun z10 m8 => ?_)
    refine Eq.trans (D_zreturn gk_f44_20 gk_rk44) ?_
    rfl
/-! GymDesk$Code.addPart (III)V -/
set_option maxRecDepth 20000 in
theorem gk_f45_0 : gd_fetch 45 0 = some (0, .aload_n 0, 1, 0, 0, 0, 0, 0) := rfl
set_option maxRecDepth 20000 in
theorem gk_f45_1 : gd_fetch 45 1 = some (1, .getfield 52, 3, 352, 1, 12, 0, 0) := rfl
set_option maxRecDepth 20000 in
theorem gk_f45_4 : gd_fetch 45 4 = some (4, .bipush 30, 2, 0, 0, 0, 0, 0) := rfl
set_option maxRecDepth 20000 in
theorem gk_f45_6 : gd_fetch 45 6 = some (6, .if_icmp .ge 43, 3, 0, 0, 0, 0, 0) := rfl
set_option maxRecDepth 20000 in
theorem gk_f45_9 : gd_fetch 45 9 = some (9, .aload_n 0, 1, 0, 0, 0, 0, 0) := rfl
set_option maxRecDepth 20000 in
theorem gk_f45_10 : gd_fetch 45 10 = some (10, .getfield 9, 3, 318, 1, 0, 4, 1) := rfl
set_option maxRecDepth 20000 in
theorem gk_f45_13 : gd_fetch 45 13 = some (13, .aload_n 0, 1, 0, 0, 0, 0, 0) := rfl
set_option maxRecDepth 20000 in
theorem gk_f45_14 : gd_fetch 45 14 = some (14, .getfield 52, 3, 352, 1, 12, 0, 0) := rfl
set_option maxRecDepth 20000 in
theorem gk_f45_17 : gd_fetch 45 17 = some (17, .iload_n 1, 1, 0, 0, 0, 0, 0) := rfl
set_option maxRecDepth 20000 in
theorem gk_f45_18 : gd_fetch 45 18 = some (18, .iastore, 1, 0, 0, 0, 0, 0) := rfl
set_option maxRecDepth 20000 in
theorem gk_f45_19 : gd_fetch 45 19 = some (19, .aload_n 0, 1, 0, 0, 0, 0, 0) := rfl
set_option maxRecDepth 20000 in
theorem gk_f45_20 : gd_fetch 45 20 = some (20, .getfield 15, 3, 321, 1, 1, 4, 1) := rfl
set_option maxRecDepth 20000 in
theorem gk_f45_23 : gd_fetch 45 23 = some (23, .aload_n 0, 1, 0, 0, 0, 0, 0) := rfl
set_option maxRecDepth 20000 in
theorem gk_f45_24 : gd_fetch 45 24 = some (24, .getfield 52, 3, 352, 1, 12, 0, 0) := rfl
set_option maxRecDepth 20000 in
theorem gk_f45_27 : gd_fetch 45 27 = some (27, .iload_n 2, 1, 0, 0, 0, 0, 0) := rfl
set_option maxRecDepth 20000 in
theorem gk_f45_28 : gd_fetch 45 28 = some (28, .iastore, 1, 0, 0, 0, 0, 0) := rfl
set_option maxRecDepth 20000 in
theorem gk_f45_29 : gd_fetch 45 29 = some (29, .aload_n 0, 1, 0, 0, 0, 0, 0) := rfl
set_option maxRecDepth 20000 in
theorem gk_f45_30 : gd_fetch 45 30 = some (30, .getfield 18, 3, 324, 1, 2, 4, 1) := rfl
set_option maxRecDepth 20000 in
theorem gk_f45_33 : gd_fetch 45 33 = some (33, .aload_n 0, 1, 0, 0, 0, 0, 0) := rfl
set_option maxRecDepth 20000 in
theorem gk_f45_34 : gd_fetch 45 34 = some (34, .getfield 52, 3, 352, 1, 12, 0, 0) := rfl
set_option maxRecDepth 20000 in
theorem gk_f45_37 : gd_fetch 45 37 = some (37, .iload_n 3, 1, 0, 0, 0, 0, 0) := rfl
set_option maxRecDepth 20000 in
theorem gk_f45_38 : gd_fetch 45 38 = some (38, .iastore, 1, 0, 0, 0, 0, 0) := rfl
set_option maxRecDepth 20000 in
theorem gk_f45_39 : gd_fetch 45 39 = some (39, .aload_n 0, 1, 0, 0, 0, 0, 0) := rfl
set_option maxRecDepth 20000 in
theorem gk_f45_40 : gd_fetch 45 40 = some (40, .dup, 1, 0, 0, 0, 0, 0) := rfl
set_option maxRecDepth 20000 in
theorem gk_f45_41 : gd_fetch 45 41 = some (41, .getfield 52, 3, 352, 1, 12, 0, 0) := rfl
set_option maxRecDepth 20000 in
theorem gk_f45_44 : gd_fetch 45 44 = some (44, .iconst 1, 1, 0, 0, 0, 0, 0) := rfl
set_option maxRecDepth 20000 in
theorem gk_f45_45 : gd_fetch 45 45 = some (45, .iadd, 1, 0, 0, 0, 0, 0) := rfl
set_option maxRecDepth 20000 in
theorem gk_f45_46 : gd_fetch 45 46 = some (46, .putfield 52, 3, 352, 1, 12, 0, 0) := rfl
set_option maxRecDepth 20000 in
theorem gk_f45_49 : gd_fetch 45 49 = some (49, .return_, 1, 0, 0, 0, 0, 0) := rfl
set_option maxRecDepth 20000 in
set_option maxHeartbeats 4000000 in
theorem q_Co_addPart (r0 : Nat) (x1 : Int32) (x2 : Int32) (x3 : Int32) (m : gd_M) : gd_call 45 [.ref r0, .int x1, .int x2, .int x3] m = if gd_ok (gN m) r0 1 = true then (if ((gI m r0 12) < 30 : Prop) then (if gd_okA (gN m) (gR m r0 0) 10 (gI m r0 12) = true then (if gd_okA (gN m) (gR m r0 1) 10 (gI (wI m (gR m r0 0) ((gI m r0 12) : Int32).toNatClampNeg x1) r0 12) = true then (if gd_okA (gN m) (gR m r0 2) 10 (gI (wI (wI m (gR m r0 0) ((gI m r0 12) : Int32).toNatClampNeg x1) (gR m r0 1) ((gI (wI m (gR m r0 0) ((gI m r0 12) : Int32).toNatClampNeg x1) r0 12) : Int32).toNatClampNeg x2) r0 12) = true then (some (.null, (wI (wI (wI (wI m (gR m r0 0) ((gI m r0 12) : Int32).toNatClampNeg x1) (gR m r0 1) ((gI (wI m (gR m r0 0) ((gI m r0 12) : Int32).toNatClampNeg x1) r0 12) : Int32).toNatClampNeg x2) (gR m r0 2) ((gI (wI (wI m (gR m r0 0) ((gI m r0 12) : Int32).toNatClampNeg x1) (gR m r0 1) ((gI (wI m (gR m r0 0) ((gI m r0 12) : Int32).toNatClampNeg x1) r0 12) : Int32).toNatClampNeg x2) r0 12) : Int32).toNatClampNeg x3) r0 12 ((gI (wI (wI (wI m (gR m r0 0) ((gI m r0 12) : Int32).toNatClampNeg x1) (gR m r0 1) ((gI (wI m (gR m r0 0) ((gI m r0 12) : Int32).toNatClampNeg x1) r0 12) : Int32).toNatClampNeg x2) (gR m r0 2) ((gI (wI (wI m (gR m r0 0) ((gI m r0 12) : Int32).toNatClampNeg x1) (gR m r0 1) ((gI (wI m (gR m r0 0) ((gI m r0 12) : Int32).toNatClampNeg x1) r0 12) : Int32).toNatClampNeg x2) r0 12) : Int32).toNatClampNeg x3) r0 12) + 1)))) else none) else none) else none) else (some (.null, m))) else none := by
  refine Eq.trans (show gd_call 45 [.ref r0, .int x1, .int x2, .int x3] m = gd_Den (45, 0, [.ref r0, .int x1, .int x2, .int x3], [], m) from by unfold gd_call gd_ent; rw [gk_ml45]; rfl) ?_
  refine Eq.trans (D_aload_n (x := r0) gk_f45_0 rfl) ?_
  refine Eq.trans (D_gfI gk_f45_1 (by decide) (by decide) (by decide)) ?_
  refine gd_ite (fun h1 => ?_) (fun _ => rfl)
  refine Eq.trans (D_bipush (x := 30) gk_f45_4 gk_b_30) ?_
  refine Eq.trans (D_ic_ge (t := 49) gk_f45_6 (by decide)) ?_
  refine gd_ite (fun h2 => ?_) (fun h3 => ?_)
  · refine Eq.trans (D_aload_n (x := r0) gk_f45_9 rfl) ?_
    refine Eq.trans (D_gfR gk_f45_10 (by decide)) ?_
    refine Eq.trans (if_pos h1) ?_
    refine Eq.trans (D_aload_n (x := r0) gk_f45_13 rfl) ?_
    refine Eq.trans (D_gfI gk_f45_14 (by decide) (by decide) (by decide)) ?_
    refine Eq.trans (if_pos h1) ?_
    refine Eq.trans (D_iload_n (x := x1) gk_f45_17 rfl) ?_
    refine Eq.trans (D_iast gk_f45_18) ?_
    refine gd_ite (fun h4 => ?_) (fun _ => rfl)
    refine Eq.trans (D_aload_n (x := r0) gk_f45_19 rfl) ?_
    refine Eq.trans (D_gfR gk_f45_20 (by decide)) ?_
    refine Eq.trans (if_pos h1) ?_
    refine Eq.trans (D_aload_n (x := r0) gk_f45_23 rfl) ?_
    refine Eq.trans (D_gfI gk_f45_24 (by decide) (by decide) (by decide)) ?_
    refine Eq.trans (if_pos h1) ?_
    refine Eq.trans (D_iload_n (x := x2) gk_f45_27 rfl) ?_
    refine Eq.trans (D_iast gk_f45_28) ?_
    refine gd_ite (fun h5 => ?_) (fun _ => rfl)
    refine Eq.trans (D_aload_n (x := r0) gk_f45_29 rfl) ?_
    refine Eq.trans (D_gfR gk_f45_30 (by decide)) ?_
    refine Eq.trans (if_pos h1) ?_
    refine Eq.trans (D_aload_n (x := r0) gk_f45_33 rfl) ?_
    refine Eq.trans (D_gfI gk_f45_34 (by decide) (by decide) (by decide)) ?_
    refine Eq.trans (if_pos h1) ?_
    refine Eq.trans (D_iload_n (x := x3) gk_f45_37 rfl) ?_
    refine Eq.trans (D_iast gk_f45_38) ?_
    refine gd_ite (fun h6 => ?_) (fun _ => rfl)
    refine Eq.trans (D_aload_n (x := r0) gk_f45_39 rfl) ?_
    refine Eq.trans (D_dupR gk_f45_40) ?_
    refine Eq.trans (D_gfI gk_f45_41 (by decide) (by decide) (by decide)) ?_
    refine Eq.trans (if_pos h1) ?_
    refine Eq.trans (D_iconst (x := 1) gk_f45_44 gk_c_1) ?_
    refine Eq.trans (D_iadd gk_f45_45) ?_
    refine Eq.trans (D_pfI gk_f45_46) ?_
    refine Eq.trans (if_pos h1) ?_
    refine Eq.trans (D_vreturn gk_f45_49 gk_rk45) ?_
    rfl
  · refine Eq.trans (D_vreturn gk_f45_49 gk_rk45) ?_
    rfl
/-! GymDesk$Reader.readPart ()Z -/
set_option maxRecDepth 20000 in
theorem gk_f46_0 : gd_fetch 46 0 = some (0, .aload_n 0, 1, 0, 0, 0, 0, 0) := rfl
set_option maxRecDepth 20000 in
theorem gk_f46_1 : gd_fetch 46 1 = some (1, .getfield 29, 3, 215, 3, 3, 4, 0) := rfl
set_option maxRecDepth 20000 in
theorem gk_f46_4 : gd_fetch 46 4 = some (4, .getfield 87, 3, 353, 1, 12, 0, 0) := rfl
set_option maxRecDepth 20000 in
theorem gk_f46_7 : gd_fetch 46 7 = some (7, .istore_n 1, 1, 0, 0, 0, 0, 0) := rfl
set_option maxRecDepth 20000 in
theorem gk_f46_8 : gd_fetch 46 8 = some (8, .aload_n 0, 1, 0, 0, 0, 0, 0) := rfl
set_option maxRecDepth 20000 in
theorem gk_f46_9 : gd_fetch 46 9 = some (9, .aload_n 0, 1, 0, 0, 0, 0, 0) := rfl
set_option maxRecDepth 20000 in
theorem gk_f46_10 : gd_fetch 46 10 = some (10, .getfield 18, 3, 213, 3, 1, 4, 1) := rfl
set_option maxRecDepth 20000 in
theorem gk_f46_13 : gd_fetch 46 13 = some (13, .iload_n 1, 1, 0, 0, 0, 0, 0) := rfl
set_option maxRecDepth 20000 in
theorem gk_f46_14 : gd_fetch 46 14 = some (14, .invokevirtual 99, 3, 570, 38, 2, 0, 0) := rfl
set_option maxRecDepth 20000 in
theorem gk_f46_17 : gd_fetch 46 17 = some (17, .ifCond .eq 13, 3, 0, 0, 0, 0, 0) := rfl
set_option maxRecDepth 20000 in
theorem gk_f46_20 : gd_fetch 46 20 = some (20, .aload_n 0, 1, 0, 0, 0, 0, 0) := rfl
set_option maxRecDepth 20000 in
theorem gk_f46_21 : gd_fetch 46 21 = some (21, .iconst 1, 1, 0, 0, 0, 0, 0) := rfl
set_option maxRecDepth 20000 in
theorem gk_f46_22 : gd_fetch 46 22 = some (22, .bipush 30, 2, 0, 0, 0, 0, 0) := rfl
set_option maxRecDepth 20000 in
theorem gk_f46_24 : gd_fetch 46 24 = some (24, .invokevirtual 103, 3, 582, 40, 2, 0, 0) := rfl
set_option maxRecDepth 20000 in
theorem gk_f46_27 : gd_fetch 46 27 = some (27, .ifCond .ne 5, 3, 0, 0, 0, 0, 0) := rfl
set_option maxRecDepth 20000 in
theorem gk_f46_30 : gd_fetch 46 30 = some (30, .iconst 0, 1, 0, 0, 0, 0, 0) := rfl
set_option maxRecDepth 20000 in
theorem gk_f46_31 : gd_fetch 46 31 = some (31, .ireturn, 1, 0, 0, 0, 0, 0) := rfl
set_option maxRecDepth 20000 in
theorem gk_f46_32 : gd_fetch 46 32 = some (32, .aload_n 0, 1, 0, 0, 0, 0, 0) := rfl
set_option maxRecDepth 20000 in
theorem gk_f46_33 : gd_fetch 46 33 = some (33, .getfield 12, 3, 212, 3, 0, 4, 1) := rfl
set_option maxRecDepth 20000 in
theorem gk_f46_36 : gd_fetch 46 36 = some (36, .getfield 107, 3, 184, 5, 7, 0, 0) := rfl
set_option maxRecDepth 20000 in
theorem gk_f46_39 : gd_fetch 46 39 = some (39, .istore_n 2, 1, 0, 0, 0, 0, 0) := rfl
set_option maxRecDepth 20000 in
theorem gk_f46_40 : gd_fetch 46 40 = some (40, .aload_n 0, 1, 0, 0, 0, 0, 0) := rfl
set_option maxRecDepth 20000 in
theorem gk_f46_41 : gd_fetch 46 41 = some (41, .bipush 10, 2, 0, 0, 0, 0, 0) := rfl
set_option maxRecDepth 20000 in
theorem gk_f46_43 : gd_fetch 46 43 = some (43, .invokevirtual 110, 3, 590, 41, 1, 0, 0) := rfl
set_option maxRecDepth 20000 in
theorem gk_f46_46 : gd_fetch 46 46 = some (46, .ifCond .eq 12, 3, 0, 0, 0, 0, 0) := rfl
set_option maxRecDepth 20000 in
theorem gk_f46_49 : gd_fetch 46 49 = some (49, .aload_n 0, 1, 0, 0, 0, 0, 0) := rfl
set_option maxRecDepth 20000 in
theorem gk_f46_50 : gd_fetch 46 50 = some (50, .iconst 0, 1, 0, 0, 0, 0, 0) := rfl
set_option maxRecDepth 20000 in
theorem gk_f46_51 : gd_fetch 46 51 = some (51, .iconst 4, 1, 0, 0, 0, 0, 0) := rfl
set_option maxRecDepth 20000 in
theorem gk_f46_52 : gd_fetch 46 52 = some (52, .invokevirtual 103, 3, 582, 40, 2, 0, 0) := rfl
set_option maxRecDepth 20000 in
theorem gk_f46_55 : gd_fetch 46 55 = some (55, .ifCond .ne 5, 3, 0, 0, 0, 0, 0) := rfl
set_option maxRecDepth 20000 in
theorem gk_f46_58 : gd_fetch 46 58 = some (58, .iconst 0, 1, 0, 0, 0, 0, 0) := rfl
set_option maxRecDepth 20000 in
theorem gk_f46_59 : gd_fetch 46 59 = some (59, .ireturn, 1, 0, 0, 0, 0, 0) := rfl
set_option maxRecDepth 20000 in
theorem gk_f46_60 : gd_fetch 46 60 = some (60, .aload_n 0, 1, 0, 0, 0, 0, 0) := rfl
set_option maxRecDepth 20000 in
theorem gk_f46_61 : gd_fetch 46 61 = some (61, .getfield 12, 3, 212, 3, 0, 4, 1) := rfl
set_option maxRecDepth 20000 in
theorem gk_f46_64 : gd_fetch 46 64 = some (64, .getfield 107, 3, 184, 5, 7, 0, 0) := rfl
set_option maxRecDepth 20000 in
theorem gk_f46_67 : gd_fetch 46 67 = some (67, .istore_n 3, 1, 0, 0, 0, 0, 0) := rfl
set_option maxRecDepth 20000 in
theorem gk_f46_68 : gd_fetch 46 68 = some (68, .iload_n 1, 1, 0, 0, 0, 0, 0) := rfl
set_option maxRecDepth 20000 in
theorem gk_f46_69 : gd_fetch 46 69 = some (69, .istore 4, 2, 0, 0, 0, 0, 0) := rfl
set_option maxRecDepth 20000 in
theorem gk_f46_71 : gd_fetch 46 71 = some (71, .aload_n 0, 1, 0, 0, 0, 0, 0) := rfl
set_option maxRecDepth 20000 in
theorem gk_f46_72 : gd_fetch 46 72 = some (72, .getfield 12, 3, 212, 3, 0, 4, 1) := rfl
set_option maxRecDepth 20000 in
theorem gk_f46_75 : gd_fetch 46 75 = some (75, .invokevirtual 48, 3, 534, 32, 0, 0, 0) := rfl
set_option maxRecDepth 20000 in
theorem gk_f46_78 : gd_fetch 46 78 = some (78, .aload_n 0, 1, 0, 0, 0, 0, 0) := rfl
set_option maxRecDepth 20000 in
theorem gk_f46_79 : gd_fetch 46 79 = some (79, .getfield 12, 3, 212, 3, 0, 4, 1) := rfl
set_option maxRecDepth 20000 in
theorem gk_f46_82 : gd_fetch 46 82 = some (82, .getfield 54, 3, 187, 5, 9, 0, 0) := rfl
set_option maxRecDepth 20000 in
theorem gk_f46_85 : gd_fetch 46 85 = some (85, .bipush 11, 2, 0, 0, 0, 0, 0) := rfl
set_option maxRecDepth 20000 in
theorem gk_f46_87 : gd_fetch 46 87 = some (87, .if_icmp .ne 41, 3, 0, 0, 0, 0, 0) := rfl
set_option maxRecDepth 20000 in
theorem gk_f46_90 : gd_fetch 46 90 = some (90, .aload_n 0, 1, 0, 0, 0, 0, 0) := rfl
set_option maxRecDepth 20000 in
theorem gk_f46_91 : gd_fetch 46 91 = some (91, .iconst 0, 1, 0, 0, 0, 0, 0) := rfl
set_option maxRecDepth 20000 in
theorem gk_f46_92 : gd_fetch 46 92 = some (92, .invokevirtual 61, 3, 562, 35, 1, 0, 0) := rfl
set_option maxRecDepth 20000 in
theorem gk_f46_95 : gd_fetch 46 95 = some (95, .ifCond .eq 10, 3, 0, 0, 0, 0, 0) := rfl
set_option maxRecDepth 20000 in
theorem gk_f46_98 : gd_fetch 46 98 = some (98, .aload_n 0, 1, 0, 0, 0, 0, 0) := rfl
set_option maxRecDepth 20000 in
theorem gk_f46_99 : gd_fetch 46 99 = some (99, .invokevirtual 113, 3, 594, 43, 0, 0, 0) := rfl
set_option maxRecDepth 20000 in
theorem gk_f46_102 : gd_fetch 46 102 = some (102, .ifCond .ne 5, 3, 0, 0, 0, 0, 0) := rfl
set_option maxRecDepth 20000 in
theorem gk_f46_105 : gd_fetch 46 105 = some (105, .iconst 0, 1, 0, 0, 0, 0, 0) := rfl
set_option maxRecDepth 20000 in
theorem gk_f46_106 : gd_fetch 46 106 = some (106, .ireturn, 1, 0, 0, 0, 0, 0) := rfl
set_option maxRecDepth 20000 in
theorem gk_f46_107 : gd_fetch 46 107 = some (107, .aload_n 0, 1, 0, 0, 0, 0, 0) := rfl
set_option maxRecDepth 20000 in
theorem gk_f46_108 : gd_fetch 46 108 = some (108, .getfield 29, 3, 215, 3, 3, 4, 0) := rfl
set_option maxRecDepth 20000 in
theorem gk_f46_111 : gd_fetch 46 111 = some (111, .getfield 116, 3, 325, 1, 2, 4, 1) := rfl
set_option maxRecDepth 20000 in
theorem gk_f46_114 : gd_fetch 46 114 = some (114, .aload_n 0, 1, 0, 0, 0, 0, 0) := rfl
set_option maxRecDepth 20000 in
theorem gk_f46_115 : gd_fetch 46 115 = some (115, .getfield 120, 3, 217, 3, 5, 0, 0) := rfl
set_option maxRecDepth 20000 in
theorem gk_f46_118 : gd_fetch 46 118 = some (118, .iaload, 1, 0, 0, 0, 0, 0) := rfl
set_option maxRecDepth 20000 in
theorem gk_f46_119 : gd_fetch 46 119 = some (119, .istore 4, 2, 0, 0, 0, 0, 0) := rfl
set_option maxRecDepth 20000 in
theorem gk_f46_121 : gd_fetch 46 121 = some (121, .aload_n 0, 1, 0, 0, 0, 0, 0) := rfl
set_option maxRecDepth 20000 in
theorem gk_f46_122 : gd_fetch 46 122 = some (122, .getfield 12, 3, 212, 3, 0, 4, 1) := rfl
set_option maxRecDepth 20000 in
theorem gk_f46_125 : gd_fetch 46 125 = some (125, .invokevirtual 48, 3, 534, 32, 0, 0, 0) := rfl
set_option maxRecDepth 20000 in
theorem gk_f46_128 : gd_fetch 46 128 = some (128, .aload_n 0, 1, 0, 0, 0, 0, 0) := rfl
set_option maxRecDepth 20000 in
theorem gk_f46_129 : gd_fetch 46 129 = some (129, .invokevirtual 123, 3, 602, 44, 0, 0, 0) := rfl
set_option maxRecDepth 20000 in
theorem gk_f46_132 : gd_fetch 46 132 = some (132, .ifCond .ne 5, 3, 0, 0, 0, 0, 0) := rfl
set_option maxRecDepth 20000 in
theorem gk_f46_135 : gd_fetch 46 135 = some (135, .iconst 0, 1, 0, 0, 0, 0, 0) := rfl
set_option maxRecDepth 20000 in
theorem gk_f46_136 : gd_fetch 46 136 = some (136, .ireturn, 1, 0, 0, 0, 0, 0) := rfl
set_option maxRecDepth 20000 in
theorem gk_f46_137 : gd_fetch 46 137 = some (137, .aload_n 0, 1, 0, 0, 0, 0, 0) := rfl
set_option maxRecDepth 20000 in
theorem gk_f46_138 : gd_fetch 46 138 = some (138, .getfield 29, 3, 215, 3, 3, 4, 0) := rfl
set_option maxRecDepth 20000 in
theorem gk_f46_141 : gd_fetch 46 141 = some (141, .iload_n 2, 1, 0, 0, 0, 0, 0) := rfl
set_option maxRecDepth 20000 in
theorem gk_f46_142 : gd_fetch 46 142 = some (142, .iload_n 3, 1, 0, 0, 0, 0, 0) := rfl
set_option maxRecDepth 20000 in
theorem gk_f46_143 : gd_fetch 46 143 = some (143, .iload 4, 2, 0, 0, 0, 0, 0) := rfl
set_option maxRecDepth 20000 in
theorem gk_f46_145 : gd_fetch 46 145 = some (145, .invokevirtual 126, 3, 606, 45, 3, 0, 0) := rfl
set_option maxRecDepth 20000 in
theorem gk_f46_148 : gd_fetch 46 148 = some (148, .iconst 1, 1, 0, 0, 0, 0, 0) := rfl
set_option maxRecDepth 20000 in
theorem gk_f46_149 : gd_fetch 46 149 = some (149, .ireturn, 1, 0, 0, 0, 0, 0) := rfl
set_option maxRecDepth 20000 in
set_option maxHeartbeats 4000000 in
theorem q_Re_readPart (r0 : Nat) (m : gd_M) : gd_call 46 [.ref r0] m = if gd_ok (gN m) r0 3 = true then (if gd_ok (gN m) (gR m r0 3) 1 = true then ((gd_call 38 [.ref r0, .ref (gR m r0 1), .int (gI m (gR m r0 3) 12)] m).bind (gd_kI fun z5 m3 => if (z5 = 0 : Prop) then (some (.int 0, m3)) else (if gd_ok (gN m3) r0 3 = true then ((gd_call 40 [.ref r0, .int 1, .int 30] m3).bind (gd_kI fun z11 m9 => if (z11 = 0 : Prop) then (some (.int 0, m9)) else (if gd_ok (gN m9) r0 3 = true then (if gd_ok (gN m9) (gR m9 r0 0) 5 = true then ((gd_call 41 [.ref r0, .int 10] m9).bind (gd_kI fun z18 m16 => if (z18 = 0 : Prop) then (some (.int 0, m16)) else (if gd_ok (gN m16) r0 3 = true then ((gd_call 40 [.ref r0, .int 0, .int 4] m16).bind (gd_kI fun z24 m22 => if (z24 = 0 : Prop) then (some (.int 0, m22)) else (if gd_ok (gN m22) r0 3 = true then (if gd_ok (gN m22) (gR m22 r0 0) 5 = true then ((gd_call 32 [.ref (gR m22 r0 0)] m22).bind (gd_kV fun m29 => if gd_ok (gN m29) r0 3 = true then (if gd_ok (gN m29) (gR m29 r0 0) 5 = true then (if ((gI m29 (gR m29 r0 0) 9) = 11 : Prop) then ((gd_call 35 [.ref r0, .int 0] m29).bind (gd_kI fun z37 m35 => if (z37 = 0 : Prop) then (some (.int 0, m35)) else (if gd_ok (gN m35) r0 3 = true then ((gd_call 43 [.ref r0] m35).bind (gd_kI fun z43 m41 => if (z43 = 0 : Prop) then (some (.int 0, m41)) else (if gd_ok (gN m41) r0 3 = true then (if gd_ok (gN m41) (gR m41 r0 3) 1 = true then (if gd_okA (gN m41) (gR m41 (gR m41 r0 3) 2) 10 (gI m41 r0 5) = true then (if gd_ok (gN m41) (gR m41 r0 0) 5 = true then ((gd_call 32 [.ref (gR m41 r0 0)] m41).bind (gd_kV fun m50 => if gd_ok (gN m50) r0 3 = true then ((gd_call 44 [.ref r0] m50).bind (gd_kI fun z55 m53 => if (z55 = 0 : Prop) then (some (.int 0, m53)) else (if gd_ok (gN m53) r0 3 = true then (if gd_ok (gN m53) (gR m53 r0 3) 1 = true then ((gd_call 45 [.ref (gR m53 r0 3), .int (gI m9 (gR m9 r0 0) 7), .int (gI m22 (gR m22 r0 0) 7), .int (gI m41 (gR m41 (gR m41 r0 3) 2) ((gI m41 r0 5) : Int32).toNatClampNeg)] m53).bind (gd_kV fun m60 => some (.int 1, m60))) else none) else none))) else none)) else none) else none) else none) else none))) else none))) else ((gd_call 44 [.ref r0] m29).bind (gd_kI fun z64 m62 => if (z64 = 0 : Prop) then (some (.int 0, m62)) else (if gd_ok (gN m62) r0 3 = true then (if gd_ok (gN m62) (gR m62 r0 3) 1 = true then ((gd_call 45 [.ref (gR m62 r0 3), .int (gI m9 (gR m9 r0 0) 7), .int (gI m22 (gR m22 r0 0) 7), .int (gI m (gR m r0 3) 12)] m62).bind (gd_kV fun m69 => some (.int 1, m69))) else none) else none)))) else none) else none)) else none) else none))) else none))) else none) else none))) else none))) else none) else none := by
  refine Eq.trans (show gd_call 46 [.ref r0] m = gd_Den (46, 0, [.ref r0, .null, .null, .null, .null], [], m) from by unfold gd_call gd_ent; rw [gk_ml46]; rfl) ?_
  refine Eq.trans (D_aload_n (x := r0) gk_f46_0 rfl) ?_
  refine Eq.trans (D_gfR gk_f46_1 (by decide)) ?_
  refine gd_ite (fun h1 => ?_) (fun _ => rfl)
  refine Eq.trans (D_gfI gk_f46_4 (by decide) (by decide) (by decide)) ?_
  refine gd_ite (fun h2 => ?_) (fun _ => rfl)
  refine Eq.trans (D_istore_n gk_f46_7 gk_st46_1) ?_
  refine Eq.trans (D_aload_n (x := r0) gk_f46_8 rfl) ?_
  refine Eq.trans (D_aload_n (x := r0) gk_f46_9 rfl) ?_
  refine Eq.trans (D_gfR gk_f46_10 (by decide)) ?_
  refine Eq.trans (if_pos h1) ?_
  refine Eq.trans (D_iload_n (x := (gI m (gR m r0 3) 12)) gk_f46_13 rfl) ?_
  refine Eq.trans (D_ivZ (cl := 3) (args := [.ref r0, .ref (gR m r0 1), .int (gI m (gR m r0 3) 12)]) (rest := []) gk_f46_14 rfl rfl (gd_rmk gk_rm46_38 gk_ln38 gk_ml38 rfl rfl rfl) gk_rk38 (gd_hnd_n gk_nc46) gk_nc38 gk_n11_38 gk_cl38) ?_
  refine Eq.trans (if_pos h1) ?_
  refine gd_bnd (gd_kI_c fun z5 m3 => ?_)
  refine Eq.trans (D_if_eq (t := 30) gk_f46_17 (by decide)) ?_
  refine gd_ite (fun h6 => ?_) (fun h7 => ?_)
  · refine Eq.trans (D_iconst (x := 0) gk_f46_30 gk_c_0) ?_
    refine Eq.trans (D_zreturn gk_f46_31 gk_rk46) ?_
    exact if_pos rfl
  · refine Eq.trans (D_aload_n (x := r0) gk_f46_20 rfl) ?_
    refine Eq.trans (D_iconst (x := 1) gk_f46_21 gk_c_1) ?_
    refine Eq.trans (D_bipush (x := 30) gk_f46_22 gk_b_30) ?_
    refine Eq.trans (D_ivZ (cl := 3) (args := [.ref r0, .int 1, .int 30]) (rest := []) gk_f46_24 rfl rfl (gd_rmk gk_rm46_40 gk_ln40 gk_ml40 rfl rfl rfl) gk_rk40 (gd_hnd_n gk_nc46) gk_nc40 gk_n11_40 gk_cl40) ?_
    refine gd_ite (fun h8 => ?_) (fun _ => rfl)
    refine gd_bnd (gd_kI_c fun z11 m9 => ?_)
    refine Eq.trans (D_if_ne (t := 32) gk_f46_27 (by decide)) ?_
    refine gd_ite (fun h12 => ?_) (fun h13 => ?_)
    · refine Eq.trans (D_iconst (x := 0) gk_f46_30 gk_c_0) ?_
      refine Eq.trans (D_zreturn gk_f46_31 gk_rk46) ?_
      exact if_pos rfl
    · refine Eq.trans (D_aload_n (x := r0) gk_f46_32 rfl) ?_
      refine Eq.trans (D_gfR gk_f46_33 (by decide)) ?_
      refine gd_ite (fun h14 => ?_) (fun _ => rfl)
      refine Eq.trans (D_gfI gk_f46_36 (by decide) (by decide) (by decide)) ?_
      refine gd_ite (fun h15 => ?_) (fun _ => rfl)
      refine Eq.trans (D_istore_n gk_f46_39 gk_st46_2) ?_
      refine Eq.trans (D_aload_n (x := r0) gk_f46_40 rfl) ?_
      refine Eq.trans (D_bipush (x := 10) gk_f46_41 gk_b_10) ?_
      refine Eq.trans (D_ivZ (cl := 3) (args := [.ref r0, .int 10]) (rest := []) gk_f46_43 rfl rfl (gd_rmk gk_rm46_41 gk_ln41 gk_ml41 rfl rfl rfl) gk_rk41 (gd_hnd_n gk_nc46) gk_nc41 gk_n11_41 gk_cl41) ?_
      refine Eq.trans (if_pos h14) ?_
      refine gd_bnd (gd_kI_c fun z18 m16 => ?_)
      refine Eq.trans (D_if_eq (t := 58) gk_f46_46 (by decide)) ?_
      refine gd_ite (fun h19 => ?_) (fun h20 => ?_)
      · refine Eq.trans (D_iconst (x := 0) gk_f46_58 gk_c_0) ?_
        refine Eq.trans (D_zreturn gk_f46_59 gk_rk46) ?_
        exact if_pos rfl
      · refine Eq.trans (D_aload_n (x := r0) gk_f46_49 rfl) ?_
        refine Eq.trans (D_iconst (x := 0) gk_f46_50 gk_c_0) ?_
        refine Eq.trans (D_iconst (x := 4) gk_f46_51 gk_c_4) ?_
        refine Eq.trans (D_ivZ (cl := 3) (args := [.ref r0, .int 0, .int 4]) (rest := []) gk_f46_52 rfl rfl (gd_rmk gk_rm46_40 gk_ln40 gk_ml40 rfl rfl rfl) gk_rk40 (gd_hnd_n gk_nc46) gk_nc40 gk_n11_40 gk_cl40) ?_
        refine gd_ite (fun h21 => ?_) (fun _ => rfl)
        refine gd_bnd (gd_kI_c fun z24 m22 => ?_)
        refine Eq.trans (D_if_ne (t := 60) gk_f46_55 (by decide)) ?_
        refine gd_ite (fun h25 => ?_) (fun h26 => ?_)
        · refine Eq.trans (D_iconst (x := 0) gk_f46_58 gk_c_0) ?_
          refine Eq.trans (D_zreturn gk_f46_59 gk_rk46) ?_
          exact if_pos rfl
        · refine Eq.trans (D_aload_n (x := r0) gk_f46_60 rfl) ?_
          refine Eq.trans (D_gfR gk_f46_61 (by decide)) ?_
          refine gd_ite (fun h27 => ?_) (fun _ => rfl)
          refine Eq.trans (D_gfI gk_f46_64 (by decide) (by decide) (by decide)) ?_
          refine gd_ite (fun h28 => ?_) (fun _ => rfl)
          refine Eq.trans (D_istore_n gk_f46_67 gk_st46_3) ?_
          refine Eq.trans (D_iload_n (x := (gI m (gR m r0 3) 12)) gk_f46_68 rfl) ?_
          refine Eq.trans (D_istore gk_f46_69 gk_st46_4) ?_
          refine Eq.trans (D_aload_n (x := r0) gk_f46_71 rfl) ?_
          refine Eq.trans (D_gfR gk_f46_72 (by decide)) ?_
          refine Eq.trans (if_pos h27) ?_
          refine Eq.trans (D_ivV (cl := 5) (args := [.ref (gR m22 r0 0)]) (rest := []) gk_f46_75 rfl rfl (gd_rmk gk_rm46_32 gk_ln32 gk_ml32 rfl rfl rfl) gk_rk32 (gd_hnd_n gk_nc46) gk_nc32 gk_n11_32 gk_cl32) ?_
          refine Eq.trans (if_pos h28) ?_
          refine gd_bnd (gd_kV_c fun m29 => ?_)
          refine Eq.trans (D_aload_n (x := r0) gk_f46_78 rfl) ?_
          refine Eq.trans (D_gfR gk_f46_79 (by decide)) ?_
          refine gd_ite (fun h31 => ?_) (fun _ => rfl)
          refine Eq.trans (D_gfI gk_f46_82 (by decide) (by decide) (by decide)) ?_
          refine gd_ite (fun h32 => ?_) (fun _ => rfl)
          refine Eq.trans (D_bipush (x := 11) gk_f46_85 gk_b_11) ?_
          refine Eq.trans (D_ic_ne (t := 128) gk_f46_87 (by decide)) ?_
          refine gd_ite (fun h33 => ?_) (fun h34 => ?_)
          · refine Eq.trans (D_aload_n (x := r0) gk_f46_90 rfl) ?_
            refine Eq.trans (D_iconst (x := 0) gk_f46_91 gk_c_0) ?_
            refine Eq.trans (D_ivZ (cl := 3) (args := [.ref r0, .int 0]) (rest := []) gk_f46_92 rfl rfl (gd_rmk gk_rm46_35 gk_ln35 gk_ml35 rfl rfl rfl) gk_rk35 (gd_hnd_n gk_nc46) gk_nc35 gk_n11_35 gk_cl35) ?_
            refine Eq.trans (if_pos h31) ?_
            refine gd_bnd (gd_kI_c fun z37 m35 => ?_)
            refine Eq.trans (D_if_eq (t := 105) gk_f46_95 (by decide)) ?_
            refine gd_ite (fun h38 => ?_) (fun h39 => ?_)
            · refine Eq.trans (D_iconst (x := 0) gk_f46_105 gk_c_0) ?_
              refine Eq.trans (D_zreturn gk_f46_106 gk_rk46) ?_
              exact if_pos rfl
            · refine Eq.trans (D_aload_n (x := r0) gk_f46_98 rfl) ?_
              refine Eq.trans (D_ivZ (cl := 3) (args := [.ref r0]) (rest := []) gk_f46_99 rfl rfl (gd_rmk gk_rm46_43 gk_ln43 gk_ml43 rfl rfl rfl) gk_rk43 (gd_hnd_n gk_nc46) gk_nc43 gk_n11_43 gk_cl43) ?_
              refine gd_ite (fun h40 => ?_) (fun _ => rfl)
              refine gd_bnd (gd_kI_c fun z43 m41 => ?_)
              refine Eq.trans (D_if_ne (t := 107) gk_f46_102 (by decide)) ?_
              refine gd_ite (fun h44 => ?_) (fun h45 => ?_)
              · refine Eq.trans (D_iconst (x := 0) gk_f46_105 gk_c_0) ?_
                refine Eq.trans (D_zreturn gk_f46_106 gk_rk46) ?_
                exact if_pos rfl
              · refine Eq.trans (D_aload_n (x := r0) gk_f46_107 rfl) ?_
                refine Eq.trans (D_gfR gk_f46_108 (by decide)) ?_
                refine gd_ite (fun h46 => ?_) (fun _ => rfl)
                refine Eq.trans (D_gfR gk_f46_111 (by decide)) ?_
                refine gd_ite (fun h47 => ?_) (fun _ => rfl)
                refine Eq.trans (D_aload_n (x := r0) gk_f46_114 rfl) ?_
                refine Eq.trans (D_gfI gk_f46_115 (by decide) (by decide) (by decide)) ?_
                refine Eq.trans (if_pos h46) ?_
                refine Eq.trans (D_iald gk_f46_118 gk_n10_46) ?_
                refine gd_ite (fun h48 => ?_) (fun _ => rfl)
                refine Eq.trans (D_istore gk_f46_119 gk_st46_4) ?_
                refine Eq.trans (D_aload_n (x := r0) gk_f46_121 rfl) ?_
                refine Eq.trans (D_gfR gk_f46_122 (by decide)) ?_
                refine Eq.trans (if_pos h46) ?_
                refine Eq.trans (D_ivV (cl := 5) (args := [.ref (gR m41 r0 0)]) (rest := []) gk_f46_125 rfl rfl (gd_rmk gk_rm46_32 gk_ln32 gk_ml32 rfl rfl rfl) gk_rk32 (gd_hnd_n gk_nc46) gk_nc32 gk_n11_32 gk_cl32) ?_
                refine gd_ite (fun h49 => ?_) (fun _ => rfl)
                refine gd_bnd (gd_kV_c fun m50 => ?_)
                refine Eq.trans (D_aload_n (x := r0) gk_f46_128 rfl) ?_
                refine Eq.trans (D_ivZ (cl := 3) (args := [.ref r0]) (rest := []) gk_f46_129 rfl rfl (gd_rmk gk_rm46_44 gk_ln44 gk_ml44 rfl rfl rfl) gk_rk44 (gd_hnd_n gk_nc46) gk_nc44 gk_n11_44 gk_cl44) ?_
                refine gd_ite (fun h52 => ?_) (fun _ => rfl)
                refine gd_bnd (gd_kI_c fun z55 m53 => ?_)
                refine Eq.trans (D_if_ne (t := 137) gk_f46_132 (by decide)) ?_
                refine gd_ite (fun h56 => ?_) (fun h57 => ?_)
                · refine Eq.trans (D_iconst (x := 0) gk_f46_135 gk_c_0) ?_
                  refine Eq.trans (D_zreturn gk_f46_136 gk_rk46) ?_
                  exact if_pos rfl
                · refine Eq.trans (D_aload_n (x := r0) gk_f46_137 rfl) ?_
                  refine Eq.trans (D_gfR gk_f46_138 (by decide)) ?_
                  refine gd_ite (fun h58 => ?_) (fun _ => rfl)
                  refine Eq.trans (D_iload_n (x := (gI m9 (gR m9 r0 0) 7)) gk_f46_141 rfl) ?_
                  refine Eq.trans (D_iload_n (x := (gI m22 (gR m22 r0 0) 7)) gk_f46_142 rfl) ?_
                  refine Eq.trans (D_iload (x := (gI m41 (gR m41 (gR m41 r0 3) 2) ((gI m41 r0 5) : Int32).toNatClampNeg)) gk_f46_143 rfl) ?_
                  refine Eq.trans (D_ivV (cl := 1) (args := [.ref (gR m53 r0 3), .int (gI m9 (gR m9 r0 0) 7), .int (gI m22 (gR m22 r0 0) 7), .int (gI m41 (gR m41 (gR m41 r0 3) 2) ((gI m41 r0 5) : Int32).toNatClampNeg)]) (rest := []) gk_f46_145 rfl rfl (gd_rmk gk_rm46_45 gk_ln45 gk_ml45 rfl rfl rfl) gk_rk45 (gd_hnd_n gk_nc46) gk_nc45 gk_n11_45 gk_cl45) ?_
                  refine gd_ite (fun h59 => ?_) (fun _ => rfl)
                  refine gd_bnd (gd_kV_c fun m60 => ?_)
                  refine Eq.trans (D_iconst (x := 1) gk_f46_148 gk_c_1) ?_
                  refine Eq.trans (D_zreturn gk_f46_149 gk_rk46) ?_
                  exact if_pos rfl
          · refine Eq.trans (D_aload_n (x := r0) gk_f46_128 rfl) ?_
            refine Eq.trans (D_ivZ (cl := 3) (args := [.ref r0]) (rest := []) gk_f46_129 rfl rfl (gd_rmk gk_rm46_44 gk_ln44 gk_ml44 rfl rfl rfl) gk_rk44 (gd_hnd_n gk_nc46) gk_nc44 gk_n11_44 gk_cl44) ?_
            refine Eq.trans (if_pos h31) ?_
            refine gd_bnd (gd_kI_c fun z64 m62 => ?_)
            refine Eq.trans (D_if_ne (t := 137) gk_f46_132 (by decide)) ?_
            refine gd_ite (fun h65 => ?_) (fun h66 => ?_)
            · refine Eq.trans (D_iconst (x := 0) gk_f46_135 gk_c_0) ?_
              refine Eq.trans (D_zreturn gk_f46_136 gk_rk46) ?_
              exact if_pos rfl
            · refine Eq.trans (D_aload_n (x := r0) gk_f46_137 rfl) ?_
              refine Eq.trans (D_gfR gk_f46_138 (by decide)) ?_
              refine gd_ite (fun h67 => ?_) (fun _ => rfl)
              refine Eq.trans (D_iload_n (x := (gI m9 (gR m9 r0 0) 7)) gk_f46_141 rfl) ?_
              refine Eq.trans (D_iload_n (x := (gI m22 (gR m22 r0 0) 7)) gk_f46_142 rfl) ?_
              refine Eq.trans (D_iload (x := (gI m (gR m r0 3) 12)) gk_f46_143 rfl) ?_
              refine Eq.trans (D_ivV (cl := 1) (args := [.ref (gR m62 r0 3), .int (gI m9 (gR m9 r0 0) 7), .int (gI m22 (gR m22 r0 0) 7), .int (gI m (gR m r0 3) 12)]) (rest := []) gk_f46_145 rfl rfl (gd_rmk gk_rm46_45 gk_ln45 gk_ml45 rfl rfl rfl) gk_rk45 (gd_hnd_n gk_nc46) gk_nc45 gk_n11_45 gk_cl45) ?_
              refine gd_ite (fun h68 => ?_) (fun _ => rfl)
              refine gd_bnd (gd_kV_c fun m69 => ?_)
              refine Eq.trans (D_iconst (x := 1) gk_f46_148 gk_c_1) ?_
              refine Eq.trans (D_zreturn gk_f46_149 gk_rk46) ?_
              exact if_pos rfl
/-! GymDesk$Code.linkWorth (II)I -/
set_option maxRecDepth 20000 in
theorem gk_f47_0 : gd_fetch 47 0 = some (0, .iconst 0, 1, 0, 0, 0, 0, 0) := rfl
set_option maxRecDepth 20000 in
theorem gk_f47_1 : gd_fetch 47 1 = some (1, .istore_n 3, 1, 0, 0, 0, 0, 0) := rfl
set_option maxRecDepth 20000 in
theorem gk_f47_2 : gd_fetch 47 2 = some (2, .iload_n 3, 1, 0, 0, 0, 0, 0) := rfl
set_option maxRecDepth 20000 in
theorem gk_f47_3 : gd_fetch 47 3 = some (3, .aload_n 0, 1, 0, 0, 0, 0, 0) := rfl
set_option maxRecDepth 20000 in
theorem gk_f47_4 : gd_fetch 47 4 = some (4, .getfield 56, 3, 355, 1, 13, 0, 0) := rfl
set_option maxRecDepth 20000 in
theorem gk_f47_7 : gd_fetch 47 7 = some (7, .if_icmp .ge 36, 3, 0, 0, 0, 0, 0) := rfl
set_option maxRecDepth 20000 in
theorem gk_f47_10 : gd_fetch 47 10 = some (10, .aload_n 0, 1, 0, 0, 0, 0, 0) := rfl
set_option maxRecDepth 20000 in
theorem gk_f47_11 : gd_fetch 47 11 = some (11, .getfield 21, 3, 328, 1, 3, 4, 1) := rfl
set_option maxRecDepth 20000 in
theorem gk_f47_14 : gd_fetch 47 14 = some (14, .iload_n 3, 1, 0, 0, 0, 0, 0) := rfl
set_option maxRecDepth 20000 in
theorem gk_f47_15 : gd_fetch 47 15 = some (15, .iaload, 1, 0, 0, 0, 0, 0) := rfl
set_option maxRecDepth 20000 in
theorem gk_f47_16 : gd_fetch 47 16 = some (16, .iload_n 1, 1, 0, 0, 0, 0, 0) := rfl
set_option maxRecDepth 20000 in
theorem gk_f47_17 : gd_fetch 47 17 = some (17, .if_icmp .ne 20, 3, 0, 0, 0, 0, 0) := rfl
set_option maxRecDepth 20000 in
theorem gk_f47_20 : gd_fetch 47 20 = some (20, .aload_n 0, 1, 0, 0, 0, 0, 0) := rfl
set_option maxRecDepth 20000 in
theorem gk_f47_21 : gd_fetch 47 21 = some (21, .getfield 24, 3, 329, 1, 4, 4, 1) := rfl
set_option maxRecDepth 20000 in
theorem gk_f47_24 : gd_fetch 47 24 = some (24, .iload_n 3, 1, 0, 0, 0, 0, 0) := rfl
set_option maxRecDepth 20000 in
theorem gk_f47_25 : gd_fetch 47 25 = some (25, .iaload, 1, 0, 0, 0, 0, 0) := rfl
set_option maxRecDepth 20000 in
theorem gk_f47_26 : gd_fetch 47 26 = some (26, .iload_n 2, 1, 0, 0, 0, 0, 0) := rfl
set_option maxRecDepth 20000 in
theorem gk_f47_27 : gd_fetch 47 27 = some (27, .if_icmp .ne 10, 3, 0, 0, 0, 0, 0) := rfl
set_option maxRecDepth 20000 in
theorem gk_f47_30 : gd_fetch 47 30 = some (30, .aload_n 0, 1, 0, 0, 0, 0, 0) := rfl
set_option maxRecDepth 20000 in
theorem gk_f47_31 : gd_fetch 47 31 = some (31, .getfield 27, 3, 330, 1, 5, 4, 1) := rfl
set_option maxRecDepth 20000 in
theorem gk_f47_34 : gd_fetch 47 34 = some (34, .iload_n 3, 1, 0, 0, 0, 0, 0) := rfl
set_option maxRecDepth 20000 in
theorem gk_f47_35 : gd_fetch 47 35 = some (35, .iaload, 1, 0, 0, 0, 0, 0) := rfl
set_option maxRecDepth 20000 in
theorem gk_f47_36 : gd_fetch 47 36 = some (36, .ireturn, 1, 0, 0, 0, 0, 0) := rfl
set_option maxRecDepth 20000 in
theorem gk_f47_37 : gd_fetch 47 37 = some (37, .iinc 3 1, 3, 0, 0, 0, 0, 0) := rfl
set_option maxRecDepth 20000 in
theorem gk_f47_40 : gd_fetch 47 40 = some (40, .goto (-38), 3, 0, 0, 0, 0, 0) := rfl
set_option maxRecDepth 20000 in
theorem gk_f47_43 : gd_fetch 47 43 = some (43, .iconst 0, 1, 0, 0, 0, 0, 0) := rfl
set_option maxRecDepth 20000 in
theorem gk_f47_44 : gd_fetch 47 44 = some (44, .ireturn, 1, 0, 0, 0, 0, 0) := rfl
set_option maxRecDepth 20000 in
set_option maxHeartbeats 4000000 in
theorem q_Co_linkWorth (r0 : Nat) (x1 : Int32) (x2 : Int32) (m : gd_M) : gd_call 47 [.ref r0, .int x1, .int x2] m = gd_Den (47, 2, [.ref r0, .int x1, .int x2, .int 0], [], m) := by
  refine Eq.trans (show gd_call 47 [.ref r0, .int x1, .int x2] m = gd_Den (47, 0, [.ref r0, .int x1, .int x2, .null], [], m) from by unfold gd_call gd_ent; rw [gk_ml47]; rfl) ?_
  refine Eq.trans (D_iconst (x := 0) gk_f47_0 gk_c_0) ?_
  refine Eq.trans (D_istore_n gk_f47_1 gk_st47_3) ?_
  rfl
set_option maxRecDepth 20000 in
set_option maxHeartbeats 4000000 in
theorem q_Co_linkWorth_2 (r0 : Nat) (x1 : Int32) (x2 : Int32) (x3 : Int32) (m : gd_M) : gd_Den (47, 2, [.ref r0, .int x1, .int x2, .int x3], [], m) = if gd_ok (gN m) r0 1 = true then (if (x3 < (gI m r0 13) : Prop) then (if gd_okA (gN m) (gR m r0 3) 10 x3 = true then (if ((gI m (gR m r0 3) (x3 : Int32).toNatClampNeg) = x1 : Prop) then (if gd_okA (gN m) (gR m r0 4) 10 x3 = true then (if ((gI m (gR m r0 4) (x3 : Int32).toNatClampNeg) = x2 : Prop) then (if gd_okA (gN m) (gR m r0 5) 10 x3 = true then (some (.int (gI m (gR m r0 5) (x3 : Int32).toNatClampNeg), m)) else none) else (gd_Den (47, 2, [.ref r0, .int x1, .int x2, .int (x3 + 1)], [], m))) else none) else (gd_Den (47, 2, [.ref r0, .int x1, .int x2, .int (x3 + 1)], [], m))) else none) else (some (.int 0, m))) else none := by
  refine Eq.trans (D_iload_n (x := x3) gk_f47_2 rfl) ?_
  refine Eq.trans (D_aload_n (x := r0) gk_f47_3 rfl) ?_
  refine Eq.trans (D_gfI gk_f47_4 (by decide) (by decide) (by decide)) ?_
  refine gd_ite (fun h1 => ?_) (fun _ => rfl)
  refine Eq.trans (D_ic_ge (t := 43) gk_f47_7 (by decide)) ?_
  refine gd_ite (fun h2 => ?_) (fun h3 => ?_)
  · refine Eq.trans (D_aload_n (x := r0) gk_f47_10 rfl) ?_
    refine Eq.trans (D_gfR gk_f47_11 (by decide)) ?_
    refine Eq.trans (if_pos h1) ?_
    refine Eq.trans (D_iload_n (x := x3) gk_f47_14 rfl) ?_
    refine Eq.trans (D_iald gk_f47_15 gk_n10_47) ?_
    refine gd_ite (fun h4 => ?_) (fun _ => rfl)
    refine Eq.trans (D_iload_n (x := x1) gk_f47_16 rfl) ?_
    refine Eq.trans (D_ic_ne (t := 37) gk_f47_17 (by decide)) ?_
    refine gd_ite (fun h5 => ?_) (fun h6 => ?_)
    · refine Eq.trans (D_aload_n (x := r0) gk_f47_20 rfl) ?_
      refine Eq.trans (D_gfR gk_f47_21 (by decide)) ?_
      refine Eq.trans (if_pos h1) ?_
      refine Eq.trans (D_iload_n (x := x3) gk_f47_24 rfl) ?_
      refine Eq.trans (D_iald gk_f47_25 gk_n10_47) ?_
      refine gd_ite (fun h7 => ?_) (fun _ => rfl)
      refine Eq.trans (D_iload_n (x := x2) gk_f47_26 rfl) ?_
      refine Eq.trans (D_ic_ne (t := 37) gk_f47_27 (by decide)) ?_
      refine gd_ite (fun h8 => ?_) (fun h9 => ?_)
      · refine Eq.trans (D_aload_n (x := r0) gk_f47_30 rfl) ?_
        refine Eq.trans (D_gfR gk_f47_31 (by decide)) ?_
        refine Eq.trans (if_pos h1) ?_
        refine Eq.trans (D_iload_n (x := x3) gk_f47_34 rfl) ?_
        refine Eq.trans (D_iald gk_f47_35 gk_n10_47) ?_
        refine gd_ite (fun h10 => ?_) (fun _ => rfl)
        refine Eq.trans (D_ireturn gk_f47_36 gk_rk47) ?_
        rfl
      · refine Eq.trans (D_iinc (x := x3) (y := 1) gk_f47_37 rfl gk_c_1 gk_st47_3) ?_
        refine Eq.trans (D_goto (t := 2) gk_f47_40 (by decide)) ?_
        rfl
    · refine Eq.trans (D_iinc (x := x3) (y := 1) gk_f47_37 rfl gk_c_1 gk_st47_3) ?_
      refine Eq.trans (D_goto (t := 2) gk_f47_40 (by decide)) ?_
      rfl
  · refine Eq.trans (D_iconst (x := 0) gk_f47_43 gk_c_0) ?_
    refine Eq.trans (D_ireturn gk_f47_44 gk_rk47) ?_
    rfl
/-! GymDesk$Reader.faultOfSecond (I)I -/
set_option maxRecDepth 20000 in
theorem gk_f48_0 : gd_fetch 48 0 = some (0, .aload_n 0, 1, 0, 0, 0, 0, 0) := rfl
set_option maxRecDepth 20000 in
theorem gk_f48_1 : gd_fetch 48 1 = some (1, .invokevirtual 136, 3, 598, 42, 0, 0, 0) := rfl
set_option maxRecDepth 20000 in
theorem gk_f48_4 : gd_fetch 48 4 = some (4, .istore_n 2, 1, 0, 0, 0, 0, 0) := rfl
set_option maxRecDepth 20000 in
theorem gk_f48_5 : gd_fetch 48 5 = some (5, .iload_n 2, 1, 0, 0, 0, 0, 0) := rfl
set_option maxRecDepth 20000 in
theorem gk_f48_6 : gd_fetch 48 6 = some (6, .ifCond .ne 20, 3, 0, 0, 0, 0, 0) := rfl
set_option maxRecDepth 20000 in
theorem gk_f48_9 : gd_fetch 48 9 = some (9, .aload_n 0, 1, 0, 0, 0, 0, 0) := rfl
set_option maxRecDepth 20000 in
theorem gk_f48_10 : gd_fetch 48 10 = some (10, .getfield 29, 3, 215, 3, 3, 4, 0) := rfl
set_option maxRecDepth 20000 in
theorem gk_f48_13 : gd_fetch 48 13 = some (13, .iload_n 1, 1, 0, 0, 0, 0, 0) := rfl
set_option maxRecDepth 20000 in
theorem gk_f48_14 : gd_fetch 48 14 = some (14, .aload_n 0, 1, 0, 0, 0, 0, 0) := rfl
set_option maxRecDepth 20000 in
theorem gk_f48_15 : gd_fetch 48 15 = some (15, .getfield 120, 3, 217, 3, 5, 0, 0) := rfl
set_option maxRecDepth 20000 in
theorem gk_f48_18 : gd_fetch 48 18 = some (18, .invokevirtual 140, 3, 618, 47, 2, 0, 0) := rfl
set_option maxRecDepth 20000 in
theorem gk_f48_21 : gd_fetch 48 21 = some (21, .ifCond .eq 5, 3, 0, 0, 0, 0, 0) := rfl
set_option maxRecDepth 20000 in
theorem gk_f48_24 : gd_fetch 48 24 = some (24, .iconst 5, 1, 0, 0, 0, 0, 0) := rfl
set_option maxRecDepth 20000 in
theorem gk_f48_25 : gd_fetch 48 25 = some (25, .ireturn, 1, 0, 0, 0, 0, 0) := rfl
set_option maxRecDepth 20000 in
theorem gk_f48_26 : gd_fetch 48 26 = some (26, .iload_n 2, 1, 0, 0, 0, 0, 0) := rfl
set_option maxRecDepth 20000 in
theorem gk_f48_27 : gd_fetch 48 27 = some (27, .ireturn, 1, 0, 0, 0, 0, 0) := rfl
set_option maxRecDepth 20000 in
set_option maxHeartbeats 4000000 in
theorem q_Re_faultOfSecond (r0 : Nat) (x1 : Int32) (m : gd_M) : gd_call 48 [.ref r0, .int x1] m = if gd_ok (gN m) r0 3 = true then ((gd_call 42 [.ref r0] m).bind (gd_kI fun z4 m2 => if (z4 = 0 : Prop) then (if gd_ok (gN m2) r0 3 = true then (if gd_ok (gN m2) (gR m2 r0 3) 1 = true then ((gd_call 47 [.ref (gR m2 r0 3), .int x1, .int (gI m2 r0 5)] m2).bind (gd_kI fun z11 m9 => if (z11 = 0 : Prop) then (some (.int z4, m9)) else (some (.int 5, m9)))) else none) else none) else (some (.int z4, m2)))) else none := by
  refine Eq.trans (show gd_call 48 [.ref r0, .int x1] m = gd_Den (48, 0, [.ref r0, .int x1, .null], [], m) from by unfold gd_call gd_ent; rw [gk_ml48]; rfl) ?_
  refine Eq.trans (D_aload_n (x := r0) gk_f48_0 rfl) ?_
  refine Eq.trans (D_ivI (cl := 3) (args := [.ref r0]) (rest := []) gk_f48_1 rfl rfl (gd_rmk gk_rm48_42 gk_ln42 gk_ml42 rfl rfl rfl) gk_rk42 (gd_hnd_n gk_nc48) gk_nc42 gk_n11_42 gk_cl42) ?_
  refine gd_ite (fun h1 => ?_) (fun _ => rfl)
  refine gd_bnd (gd_kI_c fun z4 m2 => ?_)
  refine Eq.trans (D_istore_n gk_f48_4 gk_st48_2) ?_
  refine Eq.trans (D_iload_n (x := z4) gk_f48_5 rfl) ?_
  refine Eq.trans (D_if_ne (t := 26) gk_f48_6 (by decide)) ?_
  refine gd_ite (fun h5 => ?_) (fun h6 => ?_)
  · refine Eq.trans (D_aload_n (x := r0) gk_f48_9 rfl) ?_
    refine Eq.trans (D_gfR gk_f48_10 (by decide)) ?_
    refine gd_ite (fun h7 => ?_) (fun _ => rfl)
    refine Eq.trans (D_iload_n (x := x1) gk_f48_13 rfl) ?_
    refine Eq.trans (D_aload_n (x := r0) gk_f48_14 rfl) ?_
    refine Eq.trans (D_gfI gk_f48_15 (by decide) (by decide) (by decide)) ?_
    refine Eq.trans (if_pos h7) ?_
    refine Eq.trans (D_ivI (cl := 1) (args := [.ref (gR m2 r0 3), .int x1, .int (gI m2 r0 5)]) (rest := []) gk_f48_18 rfl rfl (gd_rmk gk_rm48_47 gk_ln47 gk_ml47 rfl rfl rfl) gk_rk47 (gd_hnd_n gk_nc48) gk_nc47 gk_n11_47 gk_cl47) ?_
    refine gd_ite (fun h8 => ?_) (fun _ => rfl)
    refine gd_bnd (gd_kI_c fun z11 m9 => ?_)
    refine Eq.trans (D_if_eq (t := 26) gk_f48_21 (by decide)) ?_
    refine gd_ite (fun h12 => ?_) (fun h13 => ?_)
    · refine Eq.trans (D_iload_n (x := z4) gk_f48_26 rfl) ?_
      refine Eq.trans (D_ireturn gk_f48_27 gk_rk48) ?_
      rfl
    · refine Eq.trans (D_iconst (x := 5) gk_f48_24 gk_c_5) ?_
      refine Eq.trans (D_ireturn gk_f48_25 gk_rk48) ?_
      rfl
  · refine Eq.trans (D_iload_n (x := z4) gk_f48_26 rfl) ?_
    refine Eq.trans (D_ireturn gk_f48_27 gk_rk48) ?_
    rfl
/-! GymDesk$Code.addLink (III)V -/
set_option maxRecDepth 20000 in
theorem gk_f49_0 : gd_fetch 49 0 = some (0, .aload_n 0, 1, 0, 0, 0, 0, 0) := rfl
set_option maxRecDepth 20000 in
theorem gk_f49_1 : gd_fetch 49 1 = some (1, .getfield 56, 3, 355, 1, 13, 0, 0) := rfl
set_option maxRecDepth 20000 in
theorem gk_f49_4 : gd_fetch 49 4 = some (4, .bipush 20, 2, 0, 0, 0, 0, 0) := rfl
set_option maxRecDepth 20000 in
theorem gk_f49_6 : gd_fetch 49 6 = some (6, .if_icmp .ge 43, 3, 0, 0, 0, 0, 0) := rfl
set_option maxRecDepth 20000 in
theorem gk_f49_9 : gd_fetch 49 9 = some (9, .aload_n 0, 1, 0, 0, 0, 0, 0) := rfl
set_option maxRecDepth 20000 in
theorem gk_f49_10 : gd_fetch 49 10 = some (10, .getfield 21, 3, 328, 1, 3, 4, 1) := rfl
set_option maxRecDepth 20000 in
theorem gk_f49_13 : gd_fetch 49 13 = some (13, .aload_n 0, 1, 0, 0, 0, 0, 0) := rfl
set_option maxRecDepth 20000 in
theorem gk_f49_14 : gd_fetch 49 14 = some (14, .getfield 56, 3, 355, 1, 13, 0, 0) := rfl
set_option maxRecDepth 20000 in
theorem gk_f49_17 : gd_fetch 49 17 = some (17, .iload_n 1, 1, 0, 0, 0, 0, 0) := rfl
set_option maxRecDepth 20000 in
theorem gk_f49_18 : gd_fetch 49 18 = some (18, .iastore, 1, 0, 0, 0, 0, 0) := rfl
set_option maxRecDepth 20000 in
theorem gk_f49_19 : gd_fetch 49 19 = some (19, .aload_n 0, 1, 0, 0, 0, 0, 0) := rfl
set_option maxRecDepth 20000 in
theorem gk_f49_20 : gd_fetch 49 20 = some (20, .getfield 24, 3, 329, 1, 4, 4, 1) := rfl
set_option maxRecDepth 20000 in
theorem gk_f49_23 : gd_fetch 49 23 = some (23, .aload_n 0, 1, 0, 0, 0, 0, 0) := rfl
set_option maxRecDepth 20000 in
theorem gk_f49_24 : gd_fetch 49 24 = some (24, .getfield 56, 3, 355, 1, 13, 0, 0) := rfl
set_option maxRecDepth 20000 in
theorem gk_f49_27 : gd_fetch 49 27 = some (27, .iload_n 2, 1, 0, 0, 0, 0, 0) := rfl
set_option maxRecDepth 20000 in
theorem gk_f49_28 : gd_fetch 49 28 = some (28, .iastore, 1, 0, 0, 0, 0, 0) := rfl
set_option maxRecDepth 20000 in
theorem gk_f49_29 : gd_fetch 49 29 = some (29, .aload_n 0, 1, 0, 0, 0, 0, 0) := rfl
set_option maxRecDepth 20000 in
theorem gk_f49_30 : gd_fetch 49 30 = some (30, .getfield 27, 3, 330, 1, 5, 4, 1) := rfl
set_option maxRecDepth 20000 in
theorem gk_f49_33 : gd_fetch 49 33 = some (33, .aload_n 0, 1, 0, 0, 0, 0, 0) := rfl
set_option maxRecDepth 20000 in
theorem gk_f49_34 : gd_fetch 49 34 = some (34, .getfield 56, 3, 355, 1, 13, 0, 0) := rfl
set_option maxRecDepth 20000 in
theorem gk_f49_37 : gd_fetch 49 37 = some (37, .iload_n 3, 1, 0, 0, 0, 0, 0) := rfl
set_option maxRecDepth 20000 in
theorem gk_f49_38 : gd_fetch 49 38 = some (38, .iastore, 1, 0, 0, 0, 0, 0) := rfl
set_option maxRecDepth 20000 in
theorem gk_f49_39 : gd_fetch 49 39 = some (39, .aload_n 0, 1, 0, 0, 0, 0, 0) := rfl
set_option maxRecDepth 20000 in
theorem gk_f49_40 : gd_fetch 49 40 = some (40, .dup, 1, 0, 0, 0, 0, 0) := rfl
set_option maxRecDepth 20000 in
theorem gk_f49_41 : gd_fetch 49 41 = some (41, .getfield 56, 3, 355, 1, 13, 0, 0) := rfl
set_option maxRecDepth 20000 in
theorem gk_f49_44 : gd_fetch 49 44 = some (44, .iconst 1, 1, 0, 0, 0, 0, 0) := rfl
set_option maxRecDepth 20000 in
theorem gk_f49_45 : gd_fetch 49 45 = some (45, .iadd, 1, 0, 0, 0, 0, 0) := rfl
set_option maxRecDepth 20000 in
theorem gk_f49_46 : gd_fetch 49 46 = some (46, .putfield 56, 3, 355, 1, 13, 0, 0) := rfl
set_option maxRecDepth 20000 in
theorem gk_f49_49 : gd_fetch 49 49 = some (49, .return_, 1, 0, 0, 0, 0, 0) := rfl
set_option maxRecDepth 20000 in
set_option maxHeartbeats 4000000 in
theorem q_Co_addLink (r0 : Nat) (x1 : Int32) (x2 : Int32) (x3 : Int32) (m : gd_M) : gd_call 49 [.ref r0, .int x1, .int x2, .int x3] m = if gd_ok (gN m) r0 1 = true then (if ((gI m r0 13) < 20 : Prop) then (if gd_okA (gN m) (gR m r0 3) 10 (gI m r0 13) = true then (if gd_okA (gN m) (gR m r0 4) 10 (gI (wI m (gR m r0 3) ((gI m r0 13) : Int32).toNatClampNeg x1) r0 13) = true then (if gd_okA (gN m) (gR m r0 5) 10 (gI (wI (wI m (gR m r0 3) ((gI m r0 13) : Int32).toNatClampNeg x1) (gR m r0 4) ((gI (wI m (gR m r0 3) ((gI m r0 13) : Int32).toNatClampNeg x1) r0 13) : Int32).toNatClampNeg x2) r0 13) = true then (some (.null, (wI (wI (wI (wI m (gR m r0 3) ((gI m r0 13) : Int32).toNatClampNeg x1) (gR m r0 4) ((gI (wI m (gR m r0 3) ((gI m r0 13) : Int32).toNatClampNeg x1) r0 13) : Int32).toNatClampNeg x2) (gR m r0 5) ((gI (wI (wI m (gR m r0 3) ((gI m r0 13) : Int32).toNatClampNeg x1) (gR m r0 4) ((gI (wI m (gR m r0 3) ((gI m r0 13) : Int32).toNatClampNeg x1) r0 13) : Int32).toNatClampNeg x2) r0 13) : Int32).toNatClampNeg x3) r0 13 ((gI (wI (wI (wI m (gR m r0 3) ((gI m r0 13) : Int32).toNatClampNeg x1) (gR m r0 4) ((gI (wI m (gR m r0 3) ((gI m r0 13) : Int32).toNatClampNeg x1) r0 13) : Int32).toNatClampNeg x2) (gR m r0 5) ((gI (wI (wI m (gR m r0 3) ((gI m r0 13) : Int32).toNatClampNeg x1) (gR m r0 4) ((gI (wI m (gR m r0 3) ((gI m r0 13) : Int32).toNatClampNeg x1) r0 13) : Int32).toNatClampNeg x2) r0 13) : Int32).toNatClampNeg x3) r0 13) + 1)))) else none) else none) else none) else (some (.null, m))) else none := by
  refine Eq.trans (show gd_call 49 [.ref r0, .int x1, .int x2, .int x3] m = gd_Den (49, 0, [.ref r0, .int x1, .int x2, .int x3], [], m) from by unfold gd_call gd_ent; rw [gk_ml49]; rfl) ?_
  refine Eq.trans (D_aload_n (x := r0) gk_f49_0 rfl) ?_
  refine Eq.trans (D_gfI gk_f49_1 (by decide) (by decide) (by decide)) ?_
  refine gd_ite (fun h1 => ?_) (fun _ => rfl)
  refine Eq.trans (D_bipush (x := 20) gk_f49_4 gk_b_20) ?_
  refine Eq.trans (D_ic_ge (t := 49) gk_f49_6 (by decide)) ?_
  refine gd_ite (fun h2 => ?_) (fun h3 => ?_)
  · refine Eq.trans (D_aload_n (x := r0) gk_f49_9 rfl) ?_
    refine Eq.trans (D_gfR gk_f49_10 (by decide)) ?_
    refine Eq.trans (if_pos h1) ?_
    refine Eq.trans (D_aload_n (x := r0) gk_f49_13 rfl) ?_
    refine Eq.trans (D_gfI gk_f49_14 (by decide) (by decide) (by decide)) ?_
    refine Eq.trans (if_pos h1) ?_
    refine Eq.trans (D_iload_n (x := x1) gk_f49_17 rfl) ?_
    refine Eq.trans (D_iast gk_f49_18) ?_
    refine gd_ite (fun h4 => ?_) (fun _ => rfl)
    refine Eq.trans (D_aload_n (x := r0) gk_f49_19 rfl) ?_
    refine Eq.trans (D_gfR gk_f49_20 (by decide)) ?_
    refine Eq.trans (if_pos h1) ?_
    refine Eq.trans (D_aload_n (x := r0) gk_f49_23 rfl) ?_
    refine Eq.trans (D_gfI gk_f49_24 (by decide) (by decide) (by decide)) ?_
    refine Eq.trans (if_pos h1) ?_
    refine Eq.trans (D_iload_n (x := x2) gk_f49_27 rfl) ?_
    refine Eq.trans (D_iast gk_f49_28) ?_
    refine gd_ite (fun h5 => ?_) (fun _ => rfl)
    refine Eq.trans (D_aload_n (x := r0) gk_f49_29 rfl) ?_
    refine Eq.trans (D_gfR gk_f49_30 (by decide)) ?_
    refine Eq.trans (if_pos h1) ?_
    refine Eq.trans (D_aload_n (x := r0) gk_f49_33 rfl) ?_
    refine Eq.trans (D_gfI gk_f49_34 (by decide) (by decide) (by decide)) ?_
    refine Eq.trans (if_pos h1) ?_
    refine Eq.trans (D_iload_n (x := x3) gk_f49_37 rfl) ?_
    refine Eq.trans (D_iast gk_f49_38) ?_
    refine gd_ite (fun h6 => ?_) (fun _ => rfl)
    refine Eq.trans (D_aload_n (x := r0) gk_f49_39 rfl) ?_
    refine Eq.trans (D_dupR gk_f49_40) ?_
    refine Eq.trans (D_gfI gk_f49_41 (by decide) (by decide) (by decide)) ?_
    refine Eq.trans (if_pos h1) ?_
    refine Eq.trans (D_iconst (x := 1) gk_f49_44 gk_c_1) ?_
    refine Eq.trans (D_iadd gk_f49_45) ?_
    refine Eq.trans (D_pfI gk_f49_46) ?_
    refine Eq.trans (if_pos h1) ?_
    refine Eq.trans (D_vreturn gk_f49_49 gk_rk49) ?_
    rfl
  · refine Eq.trans (D_vreturn gk_f49_49 gk_rk49) ?_
    rfl
/-! GymDesk$Reader.readLink ()Z -/
set_option maxRecDepth 20000 in
theorem gk_f50_0 : gd_fetch 50 0 = some (0, .aload_n 0, 1, 0, 0, 0, 0, 0) := rfl
set_option maxRecDepth 20000 in
theorem gk_f50_1 : gd_fetch 50 1 = some (1, .invokevirtual 113, 3, 594, 43, 0, 0, 0) := rfl
set_option maxRecDepth 20000 in
theorem gk_f50_4 : gd_fetch 50 4 = some (4, .ifCond .ne 5, 3, 0, 0, 0, 0, 0) := rfl
set_option maxRecDepth 20000 in
theorem gk_f50_7 : gd_fetch 50 7 = some (7, .iconst 0, 1, 0, 0, 0, 0, 0) := rfl
set_option maxRecDepth 20000 in
theorem gk_f50_8 : gd_fetch 50 8 = some (8, .ireturn, 1, 0, 0, 0, 0, 0) := rfl
set_option maxRecDepth 20000 in
theorem gk_f50_9 : gd_fetch 50 9 = some (9, .aload_n 0, 1, 0, 0, 0, 0, 0) := rfl
set_option maxRecDepth 20000 in
theorem gk_f50_10 : gd_fetch 50 10 = some (10, .getfield 120, 3, 217, 3, 5, 0, 0) := rfl
set_option maxRecDepth 20000 in
theorem gk_f50_13 : gd_fetch 50 13 = some (13, .istore_n 1, 1, 0, 0, 0, 0, 0) := rfl
set_option maxRecDepth 20000 in
theorem gk_f50_14 : gd_fetch 50 14 = some (14, .aload_n 0, 1, 0, 0, 0, 0, 0) := rfl
set_option maxRecDepth 20000 in
theorem gk_f50_15 : gd_fetch 50 15 = some (15, .getfield 12, 3, 212, 3, 0, 4, 1) := rfl
set_option maxRecDepth 20000 in
theorem gk_f50_18 : gd_fetch 50 18 = some (18, .invokevirtual 48, 3, 534, 32, 0, 0, 0) := rfl
set_option maxRecDepth 20000 in
theorem gk_f50_21 : gd_fetch 50 21 = some (21, .aload_n 0, 1, 0, 0, 0, 0, 0) := rfl
set_option maxRecDepth 20000 in
theorem gk_f50_22 : gd_fetch 50 22 = some (22, .aload_n 0, 1, 0, 0, 0, 0, 0) := rfl
set_option maxRecDepth 20000 in
theorem gk_f50_23 : gd_fetch 50 23 = some (23, .iload_n 1, 1, 0, 0, 0, 0, 0) := rfl
set_option maxRecDepth 20000 in
theorem gk_f50_24 : gd_fetch 50 24 = some (24, .invokevirtual 130, 3, 614, 48, 1, 0, 0) := rfl
set_option maxRecDepth 20000 in
theorem gk_f50_27 : gd_fetch 50 27 = some (27, .invokevirtual 61, 3, 562, 35, 1, 0, 0) := rfl
set_option maxRecDepth 20000 in
theorem gk_f50_30 : gd_fetch 50 30 = some (30, .ifCond .eq 13, 3, 0, 0, 0, 0, 0) := rfl
set_option maxRecDepth 20000 in
theorem gk_f50_33 : gd_fetch 50 33 = some (33, .aload_n 0, 1, 0, 0, 0, 0, 0) := rfl
set_option maxRecDepth 20000 in
theorem gk_f50_34 : gd_fetch 50 34 = some (34, .iconst 1, 1, 0, 0, 0, 0, 0) := rfl
set_option maxRecDepth 20000 in
theorem gk_f50_35 : gd_fetch 50 35 = some (35, .bipush 9, 2, 0, 0, 0, 0, 0) := rfl
set_option maxRecDepth 20000 in
theorem gk_f50_37 : gd_fetch 50 37 = some (37, .invokevirtual 103, 3, 582, 40, 2, 0, 0) := rfl
set_option maxRecDepth 20000 in
theorem gk_f50_40 : gd_fetch 50 40 = some (40, .ifCond .ne 5, 3, 0, 0, 0, 0, 0) := rfl
set_option maxRecDepth 20000 in
theorem gk_f50_43 : gd_fetch 50 43 = some (43, .iconst 0, 1, 0, 0, 0, 0, 0) := rfl
set_option maxRecDepth 20000 in
theorem gk_f50_44 : gd_fetch 50 44 = some (44, .ireturn, 1, 0, 0, 0, 0, 0) := rfl
set_option maxRecDepth 20000 in
theorem gk_f50_45 : gd_fetch 50 45 = some (45, .aload_n 0, 1, 0, 0, 0, 0, 0) := rfl
set_option maxRecDepth 20000 in
theorem gk_f50_46 : gd_fetch 50 46 = some (46, .getfield 120, 3, 217, 3, 5, 0, 0) := rfl
set_option maxRecDepth 20000 in
theorem gk_f50_49 : gd_fetch 50 49 = some (49, .istore_n 2, 1, 0, 0, 0, 0, 0) := rfl
set_option maxRecDepth 20000 in
theorem gk_f50_50 : gd_fetch 50 50 = some (50, .aload_n 0, 1, 0, 0, 0, 0, 0) := rfl
set_option maxRecDepth 20000 in
theorem gk_f50_51 : gd_fetch 50 51 = some (51, .getfield 12, 3, 212, 3, 0, 4, 1) := rfl
set_option maxRecDepth 20000 in
theorem gk_f50_54 : gd_fetch 50 54 = some (54, .getfield 107, 3, 184, 5, 7, 0, 0) := rfl
set_option maxRecDepth 20000 in
theorem gk_f50_57 : gd_fetch 50 57 = some (57, .istore_n 3, 1, 0, 0, 0, 0, 0) := rfl
set_option maxRecDepth 20000 in
theorem gk_f50_58 : gd_fetch 50 58 = some (58, .aload_n 0, 1, 0, 0, 0, 0, 0) := rfl
set_option maxRecDepth 20000 in
theorem gk_f50_59 : gd_fetch 50 59 = some (59, .getfield 12, 3, 212, 3, 0, 4, 1) := rfl
set_option maxRecDepth 20000 in
theorem gk_f50_62 : gd_fetch 50 62 = some (62, .invokevirtual 48, 3, 534, 32, 0, 0, 0) := rfl
set_option maxRecDepth 20000 in
theorem gk_f50_65 : gd_fetch 50 65 = some (65, .aload_n 0, 1, 0, 0, 0, 0, 0) := rfl
set_option maxRecDepth 20000 in
theorem gk_f50_66 : gd_fetch 50 66 = some (66, .invokevirtual 123, 3, 602, 44, 0, 0, 0) := rfl
set_option maxRecDepth 20000 in
theorem gk_f50_69 : gd_fetch 50 69 = some (69, .ifCond .ne 5, 3, 0, 0, 0, 0, 0) := rfl
set_option maxRecDepth 20000 in
theorem gk_f50_72 : gd_fetch 50 72 = some (72, .iconst 0, 1, 0, 0, 0, 0, 0) := rfl
set_option maxRecDepth 20000 in
theorem gk_f50_73 : gd_fetch 50 73 = some (73, .ireturn, 1, 0, 0, 0, 0, 0) := rfl
set_option maxRecDepth 20000 in
theorem gk_f50_74 : gd_fetch 50 74 = some (74, .aload_n 0, 1, 0, 0, 0, 0, 0) := rfl
set_option maxRecDepth 20000 in
theorem gk_f50_75 : gd_fetch 50 75 = some (75, .getfield 29, 3, 215, 3, 3, 4, 0) := rfl
set_option maxRecDepth 20000 in
theorem gk_f50_78 : gd_fetch 50 78 = some (78, .iload_n 1, 1, 0, 0, 0, 0, 0) := rfl
set_option maxRecDepth 20000 in
theorem gk_f50_79 : gd_fetch 50 79 = some (79, .iload_n 2, 1, 0, 0, 0, 0, 0) := rfl
set_option maxRecDepth 20000 in
theorem gk_f50_80 : gd_fetch 50 80 = some (80, .iload_n 3, 1, 0, 0, 0, 0, 0) := rfl
set_option maxRecDepth 20000 in
theorem gk_f50_81 : gd_fetch 50 81 = some (81, .invokevirtual 133, 3, 622, 49, 3, 0, 0) := rfl
set_option maxRecDepth 20000 in
theorem gk_f50_84 : gd_fetch 50 84 = some (84, .iconst 1, 1, 0, 0, 0, 0, 0) := rfl
set_option maxRecDepth 20000 in
theorem gk_f50_85 : gd_fetch 50 85 = some (85, .ireturn, 1, 0, 0, 0, 0, 0) := rfl
set_option maxRecDepth 20000 in
set_option maxHeartbeats 4000000 in
theorem q_Re_readLink (r0 : Nat) (m : gd_M) : gd_call 50 [.ref r0] m = if gd_ok (gN m) r0 3 = true then ((gd_call 43 [.ref r0] m).bind (gd_kI fun z4 m2 => if (z4 = 0 : Prop) then (some (.int 0, m2)) else (if gd_ok (gN m2) r0 3 = true then (if gd_ok (gN m2) (gR m2 r0 0) 5 = true then ((gd_call 32 [.ref (gR m2 r0 0)] m2).bind (gd_kV fun m9 => if gd_ok (gN m9) r0 3 = true then ((gd_call 48 [.ref r0, .int (gI m2 r0 5)] m9).bind (gd_kI fun z14 m12 => if gd_ok (gN m12) r0 3 = true then ((gd_call 35 [.ref r0, .int z14] m12).bind (gd_kI fun z18 m16 => if (z18 = 0 : Prop) then (some (.int 0, m16)) else (if gd_ok (gN m16) r0 3 = true then ((gd_call 40 [.ref r0, .int 1, .int 9] m16).bind (gd_kI fun z24 m22 => if (z24 = 0 : Prop) then (some (.int 0, m22)) else (if gd_ok (gN m22) r0 3 = true then (if gd_ok (gN m22) (gR m22 r0 0) 5 = true then ((gd_call 32 [.ref (gR m22 r0 0)] m22).bind (gd_kV fun m29 => if gd_ok (gN m29) r0 3 = true then ((gd_call 44 [.ref r0] m29).bind (gd_kI fun z34 m32 => if (z34 = 0 : Prop) then (some (.int 0, m32)) else (if gd_ok (gN m32) r0 3 = true then (if gd_ok (gN m32) (gR m32 r0 3) 1 = true then ((gd_call 49 [.ref (gR m32 r0 3), .int (gI m2 r0 5), .int (gI m22 r0 5), .int (gI m22 (gR m22 r0 0) 7)] m32).bind (gd_kV fun m39 => some (.int 1, m39))) else none) else none))) else none)) else none) else none))) else none))) else none)) else none)) else none) else none))) else none := by
  refine Eq.trans (show gd_call 50 [.ref r0] m = gd_Den (50, 0, [.ref r0, .null, .null, .null], [], m) from by unfold gd_call gd_ent; rw [gk_ml50]; rfl) ?_
  refine Eq.trans (D_aload_n (x := r0) gk_f50_0 rfl) ?_
  refine Eq.trans (D_ivZ (cl := 3) (args := [.ref r0]) (rest := []) gk_f50_1 rfl rfl (gd_rmk gk_rm50_43 gk_ln43 gk_ml43 rfl rfl rfl) gk_rk43 (gd_hnd_n gk_nc50) gk_nc43 gk_n11_43 gk_cl43) ?_
  refine gd_ite (fun h1 => ?_) (fun _ => rfl)
  refine gd_bnd (gd_kI_c fun z4 m2 => ?_)
  refine Eq.trans (D_if_ne (t := 9) gk_f50_4 (by decide)) ?_
  refine gd_ite (fun h5 => ?_) (fun h6 => ?_)
  · refine Eq.trans (D_iconst (x := 0) gk_f50_7 gk_c_0) ?_
    refine Eq.trans (D_zreturn gk_f50_8 gk_rk50) ?_
    exact if_pos rfl
  · refine Eq.trans (D_aload_n (x := r0) gk_f50_9 rfl) ?_
    refine Eq.trans (D_gfI gk_f50_10 (by decide) (by decide) (by decide)) ?_
    refine gd_ite (fun h7 => ?_) (fun _ => rfl)
    refine Eq.trans (D_istore_n gk_f50_13 gk_st50_1) ?_
    refine Eq.trans (D_aload_n (x := r0) gk_f50_14 rfl) ?_
    refine Eq.trans (D_gfR gk_f50_15 (by decide)) ?_
    refine Eq.trans (if_pos h7) ?_
    refine Eq.trans (D_ivV (cl := 5) (args := [.ref (gR m2 r0 0)]) (rest := []) gk_f50_18 rfl rfl (gd_rmk gk_rm50_32 gk_ln32 gk_ml32 rfl rfl rfl) gk_rk32 (gd_hnd_n gk_nc50) gk_nc32 gk_n11_32 gk_cl32) ?_
    refine gd_ite (fun h8 => ?_) (fun _ => rfl)
    refine gd_bnd (gd_kV_c fun m9 => ?_)
    refine Eq.trans (D_aload_n (x := r0) gk_f50_21 rfl) ?_
    refine Eq.trans (D_aload_n (x := r0) gk_f50_22 rfl) ?_
    refine Eq.trans (D_iload_n (x := (gI m2 r0 5)) gk_f50_23 rfl) ?_
    refine Eq.trans (D_ivI (cl := 3) (args := [.ref r0, .int (gI m2 r0 5)]) (rest := [.ref r0]) gk_f50_24 rfl rfl (gd_rmk gk_rm50_48 gk_ln48 gk_ml48 rfl rfl rfl) gk_rk48 (gd_hnd_n gk_nc50) gk_nc48 gk_n11_48 gk_cl48) ?_
    refine gd_ite (fun h11 => ?_) (fun _ => rfl)
    refine gd_bnd (gd_kI_c fun z14 m12 => ?_)
    refine Eq.trans (D_ivZ (cl := 3) (args := [.ref r0, .int z14]) (rest := []) gk_f50_27 rfl rfl (gd_rmk gk_rm50_35 gk_ln35 gk_ml35 rfl rfl rfl) gk_rk35 (gd_hnd_n gk_nc50) gk_nc35 gk_n11_35 gk_cl35) ?_
    refine gd_ite (fun h15 => ?_) (fun _ => rfl)
    refine gd_bnd (gd_kI_c fun z18 m16 => ?_)
    refine Eq.trans (D_if_eq (t := 43) gk_f50_30 (by decide)) ?_
    refine gd_ite (fun h19 => ?_) (fun h20 => ?_)
    · refine Eq.trans (D_iconst (x := 0) gk_f50_43 gk_c_0) ?_
      refine Eq.trans (D_zreturn gk_f50_44 gk_rk50) ?_
      exact if_pos rfl
    · refine Eq.trans (D_aload_n (x := r0) gk_f50_33 rfl) ?_
      refine Eq.trans (D_iconst (x := 1) gk_f50_34 gk_c_1) ?_
      refine Eq.trans (D_bipush (x := 9) gk_f50_35 gk_b_9) ?_
      refine Eq.trans (D_ivZ (cl := 3) (args := [.ref r0, .int 1, .int 9]) (rest := []) gk_f50_37 rfl rfl (gd_rmk gk_rm50_40 gk_ln40 gk_ml40 rfl rfl rfl) gk_rk40 (gd_hnd_n gk_nc50) gk_nc40 gk_n11_40 gk_cl40) ?_
      refine gd_ite (fun h21 => ?_) (fun _ => rfl)
      refine gd_bnd (gd_kI_c fun z24 m22 => ?_)
      refine Eq.trans (D_if_ne (t := 45) gk_f50_40 (by decide)) ?_
      refine gd_ite (fun h25 => ?_) (fun h26 => ?_)
      · refine Eq.trans (D_iconst (x := 0) gk_f50_43 gk_c_0) ?_
        refine Eq.trans (D_zreturn gk_f50_44 gk_rk50) ?_
        exact if_pos rfl
      · refine Eq.trans (D_aload_n (x := r0) gk_f50_45 rfl) ?_
        refine Eq.trans (D_gfI gk_f50_46 (by decide) (by decide) (by decide)) ?_
        refine gd_ite (fun h27 => ?_) (fun _ => rfl)
        refine Eq.trans (D_istore_n gk_f50_49 gk_st50_2) ?_
        refine Eq.trans (D_aload_n (x := r0) gk_f50_50 rfl) ?_
        refine Eq.trans (D_gfR gk_f50_51 (by decide)) ?_
        refine Eq.trans (if_pos h27) ?_
        refine Eq.trans (D_gfI gk_f50_54 (by decide) (by decide) (by decide)) ?_
        refine gd_ite (fun h28 => ?_) (fun _ => rfl)
        refine Eq.trans (D_istore_n gk_f50_57 gk_st50_3) ?_
        refine Eq.trans (D_aload_n (x := r0) gk_f50_58 rfl) ?_
        refine Eq.trans (D_gfR gk_f50_59 (by decide)) ?_
        refine Eq.trans (if_pos h27) ?_
        refine Eq.trans (D_ivV (cl := 5) (args := [.ref (gR m22 r0 0)]) (rest := []) gk_f50_62 rfl rfl (gd_rmk gk_rm50_32 gk_ln32 gk_ml32 rfl rfl rfl) gk_rk32 (gd_hnd_n gk_nc50) gk_nc32 gk_n11_32 gk_cl32) ?_
        refine Eq.trans (if_pos h28) ?_
        refine gd_bnd (gd_kV_c fun m29 => ?_)
        refine Eq.trans (D_aload_n (x := r0) gk_f50_65 rfl) ?_
        refine Eq.trans (D_ivZ (cl := 3) (args := [.ref r0]) (rest := []) gk_f50_66 rfl rfl (gd_rmk gk_rm50_44 gk_ln44 gk_ml44 rfl rfl rfl) gk_rk44 (gd_hnd_n gk_nc50) gk_nc44 gk_n11_44 gk_cl44) ?_
        refine gd_ite (fun h31 => ?_) (fun _ => rfl)
        refine gd_bnd (gd_kI_c fun z34 m32 => ?_)
        refine Eq.trans (D_if_ne (t := 74) gk_f50_69 (by decide)) ?_
        refine gd_ite (fun h35 => ?_) (fun h36 => ?_)
        · refine Eq.trans (D_iconst (x := 0) gk_f50_72 gk_c_0) ?_
          refine Eq.trans (D_zreturn gk_f50_73 gk_rk50) ?_
          exact if_pos rfl
        · refine Eq.trans (D_aload_n (x := r0) gk_f50_74 rfl) ?_
          refine Eq.trans (D_gfR gk_f50_75 (by decide)) ?_
          refine gd_ite (fun h37 => ?_) (fun _ => rfl)
          refine Eq.trans (D_iload_n (x := (gI m2 r0 5)) gk_f50_78 rfl) ?_
          refine Eq.trans (D_iload_n (x := (gI m22 r0 5)) gk_f50_79 rfl) ?_
          refine Eq.trans (D_iload_n (x := (gI m22 (gR m22 r0 0) 7)) gk_f50_80 rfl) ?_
          refine Eq.trans (D_ivV (cl := 1) (args := [.ref (gR m32 r0 3), .int (gI m2 r0 5), .int (gI m22 r0 5), .int (gI m22 (gR m22 r0 0) 7)]) (rest := []) gk_f50_81 rfl rfl (gd_rmk gk_rm50_49 gk_ln49 gk_ml49 rfl rfl rfl) gk_rk49 (gd_hnd_n gk_nc50) gk_nc49 gk_n11_49 gk_cl49) ?_
          refine gd_ite (fun h38 => ?_) (fun _ => rfl)
          refine gd_bnd (gd_kV_c fun m39 => ?_)
          refine Eq.trans (D_iconst (x := 1) gk_f50_84 gk_c_1) ?_
          refine Eq.trans (D_zreturn gk_f50_85 gk_rk50) ?_
          exact if_pos rfl
/-! GymDesk$Reader.groupOnce ([II)Z -/
set_option maxRecDepth 20000 in
theorem gk_f51_0 : gd_fetch 51 0 = some (0, .aload_n 0, 1, 0, 0, 0, 0, 0) := rfl
set_option maxRecDepth 20000 in
theorem gk_f51_1 : gd_fetch 51 1 = some (1, .getfield 12, 3, 212, 3, 0, 4, 1) := rfl
set_option maxRecDepth 20000 in
theorem gk_f51_4 : gd_fetch 51 4 = some (4, .invokevirtual 48, 3, 534, 32, 0, 0, 0) := rfl
set_option maxRecDepth 20000 in
theorem gk_f51_7 : gd_fetch 51 7 = some (7, .aload_n 0, 1, 0, 0, 0, 0, 0) := rfl
set_option maxRecDepth 20000 in
theorem gk_f51_8 : gd_fetch 51 8 = some (8, .iconst 0, 1, 0, 0, 0, 0, 0) := rfl
set_option maxRecDepth 20000 in
theorem gk_f51_9 : gd_fetch 51 9 = some (9, .iconst 4, 1, 0, 0, 0, 0, 0) := rfl
set_option maxRecDepth 20000 in
theorem gk_f51_10 : gd_fetch 51 10 = some (10, .invokevirtual 174, 3, 586, 39, 2, 0, 0) := rfl
set_option maxRecDepth 20000 in
theorem gk_f51_13 : gd_fetch 51 13 = some (13, .istore_n 3, 1, 0, 0, 0, 0, 0) := rfl
set_option maxRecDepth 20000 in
theorem gk_f51_14 : gd_fetch 51 14 = some (14, .iload_n 3, 1, 0, 0, 0, 0, 0) := rfl
set_option maxRecDepth 20000 in
theorem gk_f51_15 : gd_fetch 51 15 = some (15, .ifCond .ne 18, 3, 0, 0, 0, 0, 0) := rfl
set_option maxRecDepth 20000 in
theorem gk_f51_18 : gd_fetch 51 18 = some (18, .aload_n 1, 1, 0, 0, 0, 0, 0) := rfl
set_option maxRecDepth 20000 in
theorem gk_f51_19 : gd_fetch 51 19 = some (19, .aload_n 0, 1, 0, 0, 0, 0, 0) := rfl
set_option maxRecDepth 20000 in
theorem gk_f51_20 : gd_fetch 51 20 = some (20, .getfield 12, 3, 212, 3, 0, 4, 1) := rfl
set_option maxRecDepth 20000 in
theorem gk_f51_23 : gd_fetch 51 23 = some (23, .getfield 107, 3, 184, 5, 7, 0, 0) := rfl
set_option maxRecDepth 20000 in
theorem gk_f51_26 : gd_fetch 51 26 = some (26, .iaload, 1, 0, 0, 0, 0, 0) := rfl
set_option maxRecDepth 20000 in
theorem gk_f51_27 : gd_fetch 51 27 = some (27, .iload_n 2, 1, 0, 0, 0, 0, 0) := rfl
set_option maxRecDepth 20000 in
theorem gk_f51_28 : gd_fetch 51 28 = some (28, .if_icmp .eq 5, 3, 0, 0, 0, 0, 0) := rfl
set_option maxRecDepth 20000 in
theorem gk_f51_31 : gd_fetch 51 31 = some (31, .iconst 5, 1, 0, 0, 0, 0, 0) := rfl
set_option maxRecDepth 20000 in
theorem gk_f51_32 : gd_fetch 51 32 = some (32, .istore_n 3, 1, 0, 0, 0, 0, 0) := rfl
set_option maxRecDepth 20000 in
theorem gk_f51_33 : gd_fetch 51 33 = some (33, .aload_n 0, 1, 0, 0, 0, 0, 0) := rfl
set_option maxRecDepth 20000 in
theorem gk_f51_34 : gd_fetch 51 34 = some (34, .iload_n 3, 1, 0, 0, 0, 0, 0) := rfl
set_option maxRecDepth 20000 in
theorem gk_f51_35 : gd_fetch 51 35 = some (35, .invokevirtual 61, 3, 562, 35, 1, 0, 0) := rfl
set_option maxRecDepth 20000 in
theorem gk_f51_38 : gd_fetch 51 38 = some (38, .ireturn, 1, 0, 0, 0, 0, 0) := rfl
set_option maxRecDepth 20000 in
set_option maxHeartbeats 4000000 in
theorem q_Re_groupOnce (r0 : Nat) (r1 : Nat) (x2 : Int32) (m : gd_M) : gd_call 51 [.ref r0, .ref r1, .int x2] m = if gd_ok (gN m) r0 3 = true then (if gd_ok (gN m) (gR m r0 0) 5 = true then ((gd_call 32 [.ref (gR m r0 0)] m).bind (gd_kV fun m3 => if gd_ok (gN m3) r0 3 = true then ((gd_call 39 [.ref r0, .int 0, .int 4] m3).bind (gd_kI fun z8 m6 => if (z8 = 0 : Prop) then (if gd_ok (gN m6) r0 3 = true then (if gd_ok (gN m6) (gR m6 r0 0) 5 = true then (if gd_okA (gN m6) r1 10 (gI m6 (gR m6 r0 0) 7) = true then (if ((gI m6 r1 ((gI m6 (gR m6 r0 0) 7) : Int32).toNatClampNeg) = x2 : Prop) then ((gd_call 35 [.ref r0, .int z8] m6).bind (gd_kI fun z18 m16 => if gd_bo z18 = true then some (.int z18, m16) else none)) else ((gd_call 35 [.ref r0, .int 5] m6).bind (gd_kI fun z21 m19 => if gd_bo z21 = true then some (.int z21, m19) else none))) else none) else none) else none) else (if gd_ok (gN m6) r0 3 = true then ((gd_call 35 [.ref r0, .int z8] m6).bind (gd_kI fun z25 m23 => if gd_bo z25 = true then some (.int z25, m23) else none)) else none))) else none)) else none) else none := by
  refine Eq.trans (show gd_call 51 [.ref r0, .ref r1, .int x2] m = gd_Den (51, 0, [.ref r0, .ref r1, .int x2, .null], [], m) from by unfold gd_call gd_ent; rw [gk_ml51]; rfl) ?_
  refine Eq.trans (D_aload_n (x := r0) gk_f51_0 rfl) ?_
  refine Eq.trans (D_gfR gk_f51_1 (by decide)) ?_
  refine gd_ite (fun h1 => ?_) (fun _ => rfl)
  refine Eq.trans (D_ivV (cl := 5) (args := [.ref (gR m r0 0)]) (rest := []) gk_f51_4 rfl rfl (gd_rmk gk_rm51_32 gk_ln32 gk_ml32 rfl rfl rfl) gk_rk32 (gd_hnd_n gk_nc51) gk_nc32 gk_n11_32 gk_cl32) ?_
  refine gd_ite (fun h2 => ?_) (fun _ => rfl)
  refine gd_bnd (gd_kV_c fun m3 => ?_)
  refine Eq.trans (D_aload_n (x := r0) gk_f51_7 rfl) ?_
  refine Eq.trans (D_iconst (x := 0) gk_f51_8 gk_c_0) ?_
  refine Eq.trans (D_iconst (x := 4) gk_f51_9 gk_c_4) ?_
  refine Eq.trans (D_ivI (cl := 3) (args := [.ref r0, .int 0, .int 4]) (rest := []) gk_f51_10 rfl rfl (gd_rmk gk_rm51_39 gk_ln39 gk_ml39 rfl rfl rfl) gk_rk39 (gd_hnd_n gk_nc51) gk_nc39 gk_n11_39 gk_cl39) ?_
  refine gd_ite (fun h5 => ?_) (fun _ => rfl)
  refine gd_bnd (gd_kI_c fun z8 m6 => ?_)
  refine Eq.trans (D_istore_n gk_f51_13 gk_st51_3) ?_
  refine Eq.trans (D_iload_n (x := z8) gk_f51_14 rfl) ?_
  refine Eq.trans (D_if_ne (t := 33) gk_f51_15 (by decide)) ?_
  refine gd_ite (fun h9 => ?_) (fun h10 => ?_)
  · refine Eq.trans (D_aload_n (x := r1) gk_f51_18 rfl) ?_
    refine Eq.trans (D_aload_n (x := r0) gk_f51_19 rfl) ?_
    refine Eq.trans (D_gfR gk_f51_20 (by decide)) ?_
    refine gd_ite (fun h11 => ?_) (fun _ => rfl)
    refine Eq.trans (D_gfI gk_f51_23 (by decide) (by decide) (by decide)) ?_
    refine gd_ite (fun h12 => ?_) (fun _ => rfl)
    refine Eq.trans (D_iald gk_f51_26 gk_n10_51) ?_
    refine gd_ite (fun h13 => ?_) (fun _ => rfl)
    refine Eq.trans (D_iload_n (x := x2) gk_f51_27 rfl) ?_
    refine Eq.trans (D_ic_eq (t := 33) gk_f51_28 (by decide)) ?_
    refine gd_ite (fun h14 => ?_) (fun h15 => ?_)
    · refine Eq.trans (D_aload_n (x := r0) gk_f51_33 rfl) ?_
      refine Eq.trans (D_iload_n (x := z8) gk_f51_34 rfl) ?_
      refine Eq.trans (D_ivZ (cl := 3) (args := [.ref r0, .int z8]) (rest := []) gk_f51_35 rfl rfl (gd_rmk gk_rm51_35 gk_ln35 gk_ml35 rfl rfl rfl) gk_rk35 (gd_hnd_n gk_nc51) gk_nc35 gk_n11_35 gk_cl35) ?_
      refine Eq.trans (if_pos h11) ?_
      refine gd_bnd (gd_kI_c fun z18 m16 => ?_)
      refine Eq.trans (D_zreturn gk_f51_38 gk_rk51) ?_
      rfl
    · refine Eq.trans (D_iconst (x := 5) gk_f51_31 gk_c_5) ?_
      refine Eq.trans (D_istore_n gk_f51_32 gk_st51_3) ?_
      refine Eq.trans (D_aload_n (x := r0) gk_f51_33 rfl) ?_
      refine Eq.trans (D_iload_n (x := 5) gk_f51_34 rfl) ?_
      refine Eq.trans (D_ivZ (cl := 3) (args := [.ref r0, .int 5]) (rest := []) gk_f51_35 rfl rfl (gd_rmk gk_rm51_35 gk_ln35 gk_ml35 rfl rfl rfl) gk_rk35 (gd_hnd_n gk_nc51) gk_nc35 gk_n11_35 gk_cl35) ?_
      refine Eq.trans (if_pos h11) ?_
      refine gd_bnd (gd_kI_c fun z21 m19 => ?_)
      refine Eq.trans (D_zreturn gk_f51_38 gk_rk51) ?_
      rfl
  · refine Eq.trans (D_aload_n (x := r0) gk_f51_33 rfl) ?_
    refine Eq.trans (D_iload_n (x := z8) gk_f51_34 rfl) ?_
    refine Eq.trans (D_ivZ (cl := 3) (args := [.ref r0, .int z8]) (rest := []) gk_f51_35 rfl rfl (gd_rmk gk_rm51_35 gk_ln35 gk_ml35 rfl rfl rfl) gk_rk35 (gd_hnd_n gk_nc51) gk_nc35 gk_n11_35 gk_cl35) ?_
    refine gd_ite (fun h22 => ?_) (fun _ => rfl)
    refine gd_bnd (gd_kI_c fun z25 m23 => ?_)
    refine Eq.trans (D_zreturn gk_f51_38 gk_rk51) ?_
    rfl
/-! GymDesk$Reader.readGroup ()Z -/
set_option maxRecDepth 20000 in
theorem gk_f52_0 : gd_fetch 52 0 = some (0, .aload_n 0, 1, 0, 0, 0, 0, 0) := rfl
set_option maxRecDepth 20000 in
theorem gk_f52_1 : gd_fetch 52 1 = some (1, .aload_n 0, 1, 0, 0, 0, 0, 0) := rfl
set_option maxRecDepth 20000 in
theorem gk_f52_2 : gd_fetch 52 2 = some (2, .getfield 29, 3, 215, 3, 3, 4, 0) := rfl
set_option maxRecDepth 20000 in
theorem gk_f52_5 : gd_fetch 52 5 = some (5, .getfield 144, 3, 337, 1, 8, 4, 1) := rfl
set_option maxRecDepth 20000 in
theorem gk_f52_8 : gd_fetch 52 8 = some (8, .iconst 0, 1, 0, 0, 0, 0, 0) := rfl
set_option maxRecDepth 20000 in
theorem gk_f52_9 : gd_fetch 52 9 = some (9, .invokevirtual 147, 3, 630, 51, 2, 0, 0) := rfl
set_option maxRecDepth 20000 in
theorem gk_f52_12 : gd_fetch 52 12 = some (12, .ifCond .ne 5, 3, 0, 0, 0, 0, 0) := rfl
set_option maxRecDepth 20000 in
theorem gk_f52_15 : gd_fetch 52 15 = some (15, .iconst 0, 1, 0, 0, 0, 0, 0) := rfl
set_option maxRecDepth 20000 in
theorem gk_f52_16 : gd_fetch 52 16 = some (16, .ireturn, 1, 0, 0, 0, 0, 0) := rfl
set_option maxRecDepth 20000 in
theorem gk_f52_17 : gd_fetch 52 17 = some (17, .aload_n 0, 1, 0, 0, 0, 0, 0) := rfl
set_option maxRecDepth 20000 in
theorem gk_f52_18 : gd_fetch 52 18 = some (18, .getfield 12, 3, 212, 3, 0, 4, 1) := rfl
set_option maxRecDepth 20000 in
theorem gk_f52_21 : gd_fetch 52 21 = some (21, .getfield 107, 3, 184, 5, 7, 0, 0) := rfl
set_option maxRecDepth 20000 in
theorem gk_f52_24 : gd_fetch 52 24 = some (24, .istore_n 1, 1, 0, 0, 0, 0, 0) := rfl
set_option maxRecDepth 20000 in
theorem gk_f52_25 : gd_fetch 52 25 = some (25, .aload_n 0, 1, 0, 0, 0, 0, 0) := rfl
set_option maxRecDepth 20000 in
theorem gk_f52_26 : gd_fetch 52 26 = some (26, .bipush 12, 2, 0, 0, 0, 0, 0) := rfl
set_option maxRecDepth 20000 in
theorem gk_f52_28 : gd_fetch 52 28 = some (28, .invokevirtual 110, 3, 590, 41, 1, 0, 0) := rfl
set_option maxRecDepth 20000 in
theorem gk_f52_31 : gd_fetch 52 31 = some (31, .ifCond .eq 13, 3, 0, 0, 0, 0, 0) := rfl
set_option maxRecDepth 20000 in
theorem gk_f52_34 : gd_fetch 52 34 = some (34, .aload_n 0, 1, 0, 0, 0, 0, 0) := rfl
set_option maxRecDepth 20000 in
theorem gk_f52_35 : gd_fetch 52 35 = some (35, .iconst 1, 1, 0, 0, 0, 0, 0) := rfl
set_option maxRecDepth 20000 in
theorem gk_f52_36 : gd_fetch 52 36 = some (36, .bipush 10, 2, 0, 0, 0, 0, 0) := rfl
set_option maxRecDepth 20000 in
theorem gk_f52_38 : gd_fetch 52 38 = some (38, .invokevirtual 103, 3, 582, 40, 2, 0, 0) := rfl
set_option maxRecDepth 20000 in
theorem gk_f52_41 : gd_fetch 52 41 = some (41, .ifCond .ne 5, 3, 0, 0, 0, 0, 0) := rfl
set_option maxRecDepth 20000 in
theorem gk_f52_44 : gd_fetch 52 44 = some (44, .iconst 0, 1, 0, 0, 0, 0, 0) := rfl
set_option maxRecDepth 20000 in
theorem gk_f52_45 : gd_fetch 52 45 = some (45, .ireturn, 1, 0, 0, 0, 0, 0) := rfl
set_option maxRecDepth 20000 in
theorem gk_f52_46 : gd_fetch 52 46 = some (46, .aload_n 0, 1, 0, 0, 0, 0, 0) := rfl
set_option maxRecDepth 20000 in
theorem gk_f52_47 : gd_fetch 52 47 = some (47, .getfield 12, 3, 212, 3, 0, 4, 1) := rfl
set_option maxRecDepth 20000 in
theorem gk_f52_50 : gd_fetch 52 50 = some (50, .getfield 107, 3, 184, 5, 7, 0, 0) := rfl
set_option maxRecDepth 20000 in
theorem gk_f52_53 : gd_fetch 52 53 = some (53, .istore_n 2, 1, 0, 0, 0, 0, 0) := rfl
set_option maxRecDepth 20000 in
theorem gk_f52_54 : gd_fetch 52 54 = some (54, .aload_n 0, 1, 0, 0, 0, 0, 0) := rfl
set_option maxRecDepth 20000 in
theorem gk_f52_55 : gd_fetch 52 55 = some (55, .bipush 13, 2, 0, 0, 0, 0, 0) := rfl
set_option maxRecDepth 20000 in
theorem gk_f52_57 : gd_fetch 52 57 = some (57, .invokevirtual 110, 3, 590, 41, 1, 0, 0) := rfl
set_option maxRecDepth 20000 in
theorem gk_f52_60 : gd_fetch 52 60 = some (60, .ifCond .eq 13, 3, 0, 0, 0, 0, 0) := rfl
set_option maxRecDepth 20000 in
theorem gk_f52_63 : gd_fetch 52 63 = some (63, .aload_n 0, 1, 0, 0, 0, 0, 0) := rfl
set_option maxRecDepth 20000 in
theorem gk_f52_64 : gd_fetch 52 64 = some (64, .iconst 1, 1, 0, 0, 0, 0, 0) := rfl
set_option maxRecDepth 20000 in
theorem gk_f52_65 : gd_fetch 52 65 = some (65, .bipush 20, 2, 0, 0, 0, 0, 0) := rfl
set_option maxRecDepth 20000 in
theorem gk_f52_67 : gd_fetch 52 67 = some (67, .invokevirtual 103, 3, 582, 40, 2, 0, 0) := rfl
set_option maxRecDepth 20000 in
theorem gk_f52_70 : gd_fetch 52 70 = some (70, .ifCond .ne 5, 3, 0, 0, 0, 0, 0) := rfl
set_option maxRecDepth 20000 in
theorem gk_f52_73 : gd_fetch 52 73 = some (73, .iconst 0, 1, 0, 0, 0, 0, 0) := rfl
set_option maxRecDepth 20000 in
theorem gk_f52_74 : gd_fetch 52 74 = some (74, .ireturn, 1, 0, 0, 0, 0, 0) := rfl
set_option maxRecDepth 20000 in
theorem gk_f52_75 : gd_fetch 52 75 = some (75, .aload_n 0, 1, 0, 0, 0, 0, 0) := rfl
set_option maxRecDepth 20000 in
theorem gk_f52_76 : gd_fetch 52 76 = some (76, .getfield 29, 3, 215, 3, 3, 4, 0) := rfl
set_option maxRecDepth 20000 in
theorem gk_f52_79 : gd_fetch 52 79 = some (79, .getfield 144, 3, 337, 1, 8, 4, 1) := rfl
set_option maxRecDepth 20000 in
theorem gk_f52_82 : gd_fetch 52 82 = some (82, .iload_n 1, 1, 0, 0, 0, 0, 0) := rfl
set_option maxRecDepth 20000 in
theorem gk_f52_83 : gd_fetch 52 83 = some (83, .iload_n 2, 1, 0, 0, 0, 0, 0) := rfl
set_option maxRecDepth 20000 in
theorem gk_f52_84 : gd_fetch 52 84 = some (84, .iastore, 1, 0, 0, 0, 0, 0) := rfl
set_option maxRecDepth 20000 in
theorem gk_f52_85 : gd_fetch 52 85 = some (85, .aload_n 0, 1, 0, 0, 0, 0, 0) := rfl
set_option maxRecDepth 20000 in
theorem gk_f52_86 : gd_fetch 52 86 = some (86, .getfield 29, 3, 215, 3, 3, 4, 0) := rfl
set_option maxRecDepth 20000 in
theorem gk_f52_89 : gd_fetch 52 89 = some (89, .getfield 151, 3, 341, 1, 9, 4, 1) := rfl
set_option maxRecDepth 20000 in
theorem gk_f52_92 : gd_fetch 52 92 = some (92, .iload_n 1, 1, 0, 0, 0, 0, 0) := rfl
set_option maxRecDepth 20000 in
theorem gk_f52_93 : gd_fetch 52 93 = some (93, .aload_n 0, 1, 0, 0, 0, 0, 0) := rfl
set_option maxRecDepth 20000 in
theorem gk_f52_94 : gd_fetch 52 94 = some (94, .getfield 12, 3, 212, 3, 0, 4, 1) := rfl
set_option maxRecDepth 20000 in
theorem gk_f52_97 : gd_fetch 52 97 = some (97, .getfield 107, 3, 184, 5, 7, 0, 0) := rfl
set_option maxRecDepth 20000 in
theorem gk_f52_100 : gd_fetch 52 100 = some (100, .iastore, 1, 0, 0, 0, 0, 0) := rfl
set_option maxRecDepth 20000 in
theorem gk_f52_101 : gd_fetch 52 101 = some (101, .aload_n 0, 1, 0, 0, 0, 0, 0) := rfl
set_option maxRecDepth 20000 in
theorem gk_f52_102 : gd_fetch 52 102 = some (102, .getfield 12, 3, 212, 3, 0, 4, 1) := rfl
set_option maxRecDepth 20000 in
theorem gk_f52_105 : gd_fetch 52 105 = some (105, .invokevirtual 48, 3, 534, 32, 0, 0, 0) := rfl
set_option maxRecDepth 20000 in
theorem gk_f52_108 : gd_fetch 52 108 = some (108, .aload_n 0, 1, 0, 0, 0, 0, 0) := rfl
set_option maxRecDepth 20000 in
theorem gk_f52_109 : gd_fetch 52 109 = some (109, .invokevirtual 123, 3, 602, 44, 0, 0, 0) := rfl
set_option maxRecDepth 20000 in
theorem gk_f52_112 : gd_fetch 52 112 = some (112, .ireturn, 1, 0, 0, 0, 0, 0) := rfl
set_option maxRecDepth 20000 in
set_option maxHeartbeats 4000000 in
theorem q_Re_readGroup (r0 : Nat) (m : gd_M) : gd_call 52 [.ref r0] m = if gd_ok (gN m) r0 3 = true then (if gd_ok (gN m) (gR m r0 3) 1 = true then ((gd_call 51 [.ref r0, .ref (gR m (gR m r0 3) 8), .int 0] m).bind (gd_kI fun z5 m3 => if (z5 = 0 : Prop) then (some (.int 0, m3)) else (if gd_ok (gN m3) r0 3 = true then (if gd_ok (gN m3) (gR m3 r0 0) 5 = true then ((gd_call 41 [.ref r0, .int 12] m3).bind (gd_kI fun z12 m10 => if (z12 = 0 : Prop) then (some (.int 0, m10)) else (if gd_ok (gN m10) r0 3 = true then ((gd_call 40 [.ref r0, .int 1, .int 10] m10).bind (gd_kI fun z18 m16 => if (z18 = 0 : Prop) then (some (.int 0, m16)) else (if gd_ok (gN m16) r0 3 = true then (if gd_ok (gN m16) (gR m16 r0 0) 5 = true then ((gd_call 41 [.ref r0, .int 13] m16).bind (gd_kI fun z25 m23 => if (z25 = 0 : Prop) then (some (.int 0, m23)) else (if gd_ok (gN m23) r0 3 = true then ((gd_call 40 [.ref r0, .int 1, .int 20] m23).bind (gd_kI fun z31 m29 => if (z31 = 0 : Prop) then (some (.int 0, m29)) else (if gd_ok (gN m29) r0 3 = true then (if gd_ok (gN m29) (gR m29 r0 3) 1 = true then (if gd_okA (gN m29) (gR m29 (gR m29 r0 3) 8) 10 (gI m3 (gR m3 r0 0) 7) = true then (if gd_ok (gN m29) (gR m29 r0 0) 5 = true then (if gd_okA (gN m29) (gR m29 (gR m29 r0 3) 9) 10 (gI m3 (gR m3 r0 0) 7) = true then ((gd_call 32 [.ref (gR m29 r0 0)] (wI (wI m29 (gR m29 (gR m29 r0 3) 8) ((gI m3 (gR m3 r0 0) 7) : Int32).toNatClampNeg (gI m16 (gR m16 r0 0) 7)) (gR m29 (gR m29 r0 3) 9) ((gI m3 (gR m3 r0 0) 7) : Int32).toNatClampNeg (gI (wI m29 (gR m29 (gR m29 r0 3) 8) ((gI m3 (gR m3 r0 0) 7) : Int32).toNatClampNeg (gI m16 (gR m16 r0 0) 7)) (gR m29 r0 0) 7))).bind (gd_kV fun m39 => if gd_ok (gN m39) r0 3 = true then ((gd_call 44 [.ref r0] m39).bind (gd_kI fun z44 m42 => if gd_bo z44 = true then some (.int z44, m42) else none)) else none)) else none) else none) else none) else none) else none))) else none))) else none) else none))) else none))) else none) else none))) else none) else none := by
  refine Eq.trans (show gd_call 52 [.ref r0] m = gd_Den (52, 0, [.ref r0, .null, .null], [], m) from by unfold gd_call gd_ent; rw [gk_ml52]; rfl) ?_
  refine Eq.trans (D_aload_n (x := r0) gk_f52_0 rfl) ?_
  refine Eq.trans (D_aload_n (x := r0) gk_f52_1 rfl) ?_
  refine Eq.trans (D_gfR gk_f52_2 (by decide)) ?_
  refine gd_ite (fun h1 => ?_) (fun _ => rfl)
  refine Eq.trans (D_gfR gk_f52_5 (by decide)) ?_
  refine gd_ite (fun h2 => ?_) (fun _ => rfl)
  refine Eq.trans (D_iconst (x := 0) gk_f52_8 gk_c_0) ?_
  refine Eq.trans (D_ivZ (cl := 3) (args := [.ref r0, .ref (gR m (gR m r0 3) 8), .int 0]) (rest := []) gk_f52_9 rfl rfl (gd_rmk gk_rm52_51 gk_ln51 gk_ml51 rfl rfl rfl) gk_rk51 (gd_hnd_n gk_nc52) gk_nc51 gk_n11_51 gk_cl51) ?_
  refine Eq.trans (if_pos h1) ?_
  refine gd_bnd (gd_kI_c fun z5 m3 => ?_)
  refine Eq.trans (D_if_ne (t := 17) gk_f52_12 (by decide)) ?_
  refine gd_ite (fun h6 => ?_) (fun h7 => ?_)
  · refine Eq.trans (D_iconst (x := 0) gk_f52_15 gk_c_0) ?_
    refine Eq.trans (D_zreturn gk_f52_16 gk_rk52) ?_
    exact if_pos rfl
  · refine Eq.trans (D_aload_n (x := r0) gk_f52_17 rfl) ?_
    refine Eq.trans (D_gfR gk_f52_18 (by decide)) ?_
    refine gd_ite (fun h8 => ?_) (fun _ => rfl)
    refine Eq.trans (D_gfI gk_f52_21 (by decide) (by decide) (by decide)) ?_
    refine gd_ite (fun h9 => ?_) (fun _ => rfl)
    refine Eq.trans (D_istore_n gk_f52_24 gk_st52_1) ?_
    refine Eq.trans (D_aload_n (x := r0) gk_f52_25 rfl) ?_
    refine Eq.trans (D_bipush (x := 12) gk_f52_26 gk_b_12) ?_
    refine Eq.trans (D_ivZ (cl := 3) (args := [.ref r0, .int 12]) (rest := []) gk_f52_28 rfl rfl (gd_rmk gk_rm52_41 gk_ln41 gk_ml41 rfl rfl rfl) gk_rk41 (gd_hnd_n gk_nc52) gk_nc41 gk_n11_41 gk_cl41) ?_
    refine Eq.trans (if_pos h8) ?_
    refine gd_bnd (gd_kI_c fun z12 m10 => ?_)
    refine Eq.trans (D_if_eq (t := 44) gk_f52_31 (by decide)) ?_
    refine gd_ite (fun h13 => ?_) (fun h14 => ?_)
    · refine Eq.trans (D_iconst (x := 0) gk_f52_44 gk_c_0) ?_
      refine Eq.trans (D_zreturn gk_f52_45 gk_rk52) ?_
      exact if_pos rfl
    · refine Eq.trans (D_aload_n (x := r0) gk_f52_34 rfl) ?_
      refine Eq.trans (D_iconst (x := 1) gk_f52_35 gk_c_1) ?_
      refine Eq.trans (D_bipush (x := 10) gk_f52_36 gk_b_10) ?_
      refine Eq.trans (D_ivZ (cl := 3) (args := [.ref r0, .int 1, .int 10]) (rest := []) gk_f52_38 rfl rfl (gd_rmk gk_rm52_40 gk_ln40 gk_ml40 rfl rfl rfl) gk_rk40 (gd_hnd_n gk_nc52) gk_nc40 gk_n11_40 gk_cl40) ?_
      refine gd_ite (fun h15 => ?_) (fun _ => rfl)
      refine gd_bnd (gd_kI_c fun z18 m16 => ?_)
      refine Eq.trans (D_if_ne (t := 46) gk_f52_41 (by decide)) ?_
      refine gd_ite (fun h19 => ?_) (fun h20 => ?_)
      · refine Eq.trans (D_iconst (x := 0) gk_f52_44 gk_c_0) ?_
        refine Eq.trans (D_zreturn gk_f52_45 gk_rk52) ?_
        exact if_pos rfl
      · refine Eq.trans (D_aload_n (x := r0) gk_f52_46 rfl) ?_
        refine Eq.trans (D_gfR gk_f52_47 (by decide)) ?_
        refine gd_ite (fun h21 => ?_) (fun _ => rfl)
        refine Eq.trans (D_gfI gk_f52_50 (by decide) (by decide) (by decide)) ?_
        refine gd_ite (fun h22 => ?_) (fun _ => rfl)
        refine Eq.trans (D_istore_n gk_f52_53 gk_st52_2) ?_
        refine Eq.trans (D_aload_n (x := r0) gk_f52_54 rfl) ?_
        refine Eq.trans (D_bipush (x := 13) gk_f52_55 gk_b_13) ?_
        refine Eq.trans (D_ivZ (cl := 3) (args := [.ref r0, .int 13]) (rest := []) gk_f52_57 rfl rfl (gd_rmk gk_rm52_41 gk_ln41 gk_ml41 rfl rfl rfl) gk_rk41 (gd_hnd_n gk_nc52) gk_nc41 gk_n11_41 gk_cl41) ?_
        refine Eq.trans (if_pos h21) ?_
        refine gd_bnd (gd_kI_c fun z25 m23 => ?_)
        refine Eq.trans (D_if_eq (t := 73) gk_f52_60 (by decide)) ?_
        refine gd_ite (fun h26 => ?_) (fun h27 => ?_)
        · refine Eq.trans (D_iconst (x := 0) gk_f52_73 gk_c_0) ?_
          refine Eq.trans (D_zreturn gk_f52_74 gk_rk52) ?_
          exact if_pos rfl
        · refine Eq.trans (D_aload_n (x := r0) gk_f52_63 rfl) ?_
          refine Eq.trans (D_iconst (x := 1) gk_f52_64 gk_c_1) ?_
          refine Eq.trans (D_bipush (x := 20) gk_f52_65 gk_b_20) ?_
          refine Eq.trans (D_ivZ (cl := 3) (args := [.ref r0, .int 1, .int 20]) (rest := []) gk_f52_67 rfl rfl (gd_rmk gk_rm52_40 gk_ln40 gk_ml40 rfl rfl rfl) gk_rk40 (gd_hnd_n gk_nc52) gk_nc40 gk_n11_40 gk_cl40) ?_
          refine gd_ite (fun h28 => ?_) (fun _ => rfl)
          refine gd_bnd (gd_kI_c fun z31 m29 => ?_)
          refine Eq.trans (D_if_ne (t := 75) gk_f52_70 (by decide)) ?_
          refine gd_ite (fun h32 => ?_) (fun h33 => ?_)
          · refine Eq.trans (D_iconst (x := 0) gk_f52_73 gk_c_0) ?_
            refine Eq.trans (D_zreturn gk_f52_74 gk_rk52) ?_
            exact if_pos rfl
          · refine Eq.trans (D_aload_n (x := r0) gk_f52_75 rfl) ?_
            refine Eq.trans (D_gfR gk_f52_76 (by decide)) ?_
            refine gd_ite (fun h34 => ?_) (fun _ => rfl)
            refine Eq.trans (D_gfR gk_f52_79 (by decide)) ?_
            refine gd_ite (fun h35 => ?_) (fun _ => rfl)
            refine Eq.trans (D_iload_n (x := (gI m3 (gR m3 r0 0) 7)) gk_f52_82 rfl) ?_
            refine Eq.trans (D_iload_n (x := (gI m16 (gR m16 r0 0) 7)) gk_f52_83 rfl) ?_
            refine Eq.trans (D_iast gk_f52_84) ?_
            refine gd_ite (fun h36 => ?_) (fun _ => rfl)
            refine Eq.trans (D_aload_n (x := r0) gk_f52_85 rfl) ?_
            refine Eq.trans (D_gfR gk_f52_86 (by decide)) ?_
            refine Eq.trans (if_pos h34) ?_
            refine Eq.trans (D_gfR gk_f52_89 (by decide)) ?_
            refine Eq.trans (if_pos h35) ?_
            refine Eq.trans (D_iload_n (x := (gI m3 (gR m3 r0 0) 7)) gk_f52_92 rfl) ?_
            refine Eq.trans (D_aload_n (x := r0) gk_f52_93 rfl) ?_
            refine Eq.trans (D_gfR gk_f52_94 (by decide)) ?_
            refine Eq.trans (if_pos h34) ?_
            refine Eq.trans (D_gfI gk_f52_97 (by decide) (by decide) (by decide)) ?_
            refine gd_ite (fun h37 => ?_) (fun _ => rfl)
            refine Eq.trans (D_iast gk_f52_100) ?_
            refine gd_ite (fun h38 => ?_) (fun _ => rfl)
            refine Eq.trans (D_aload_n (x := r0) gk_f52_101 rfl) ?_
            refine Eq.trans (D_gfR gk_f52_102 (by decide)) ?_
            refine Eq.trans (if_pos h34) ?_
            refine Eq.trans (D_ivV (cl := 5) (args := [.ref (gR m29 r0 0)]) (rest := []) gk_f52_105 rfl rfl (gd_rmk gk_rm52_32 gk_ln32 gk_ml32 rfl rfl rfl) gk_rk32 (gd_hnd_n gk_nc52) gk_nc32 gk_n11_32 gk_cl32) ?_
            refine Eq.trans (if_pos h37) ?_
            refine gd_bnd (gd_kV_c fun m39 => ?_)
            refine Eq.trans (D_aload_n (x := r0) gk_f52_108 rfl) ?_
            refine Eq.trans (D_ivZ (cl := 3) (args := [.ref r0]) (rest := []) gk_f52_109 rfl rfl (gd_rmk gk_rm52_44 gk_ln44 gk_ml44 rfl rfl rfl) gk_rk44 (gd_hnd_n gk_nc52) gk_nc44 gk_n11_44 gk_cl44) ?_
            refine gd_ite (fun h41 => ?_) (fun _ => rfl)
            refine gd_bnd (gd_kI_c fun z44 m42 => ?_)
            refine Eq.trans (D_zreturn gk_f52_112 gk_rk52) ?_
            rfl
/-! GymDesk$Reader.readLimit ()Z -/
set_option maxRecDepth 20000 in
theorem gk_f53_0 : gd_fetch 53 0 = some (0, .aload_n 0, 1, 0, 0, 0, 0, 0) := rfl
set_option maxRecDepth 20000 in
theorem gk_f53_1 : gd_fetch 53 1 = some (1, .iconst 0, 1, 0, 0, 0, 0, 0) := rfl
set_option maxRecDepth 20000 in
theorem gk_f53_2 : gd_fetch 53 2 = some (2, .bipush 10, 2, 0, 0, 0, 0, 0) := rfl
set_option maxRecDepth 20000 in
theorem gk_f53_4 : gd_fetch 53 4 = some (4, .invokevirtual 103, 3, 582, 40, 2, 0, 0) := rfl
set_option maxRecDepth 20000 in
theorem gk_f53_7 : gd_fetch 53 7 = some (7, .ifCond .ne 5, 3, 0, 0, 0, 0, 0) := rfl
set_option maxRecDepth 20000 in
theorem gk_f53_10 : gd_fetch 53 10 = some (10, .iconst 0, 1, 0, 0, 0, 0, 0) := rfl
set_option maxRecDepth 20000 in
theorem gk_f53_11 : gd_fetch 53 11 = some (11, .ireturn, 1, 0, 0, 0, 0, 0) := rfl
set_option maxRecDepth 20000 in
theorem gk_f53_12 : gd_fetch 53 12 = some (12, .aload_n 0, 1, 0, 0, 0, 0, 0) := rfl
set_option maxRecDepth 20000 in
theorem gk_f53_13 : gd_fetch 53 13 = some (13, .getfield 12, 3, 212, 3, 0, 4, 1) := rfl
set_option maxRecDepth 20000 in
theorem gk_f53_16 : gd_fetch 53 16 = some (16, .getfield 107, 3, 184, 5, 7, 0, 0) := rfl
set_option maxRecDepth 20000 in
theorem gk_f53_19 : gd_fetch 53 19 = some (19, .istore_n 1, 1, 0, 0, 0, 0, 0) := rfl
set_option maxRecDepth 20000 in
theorem gk_f53_20 : gd_fetch 53 20 = some (20, .aload_n 0, 1, 0, 0, 0, 0, 0) := rfl
set_option maxRecDepth 20000 in
theorem gk_f53_21 : gd_fetch 53 21 = some (21, .bipush 14, 2, 0, 0, 0, 0, 0) := rfl
set_option maxRecDepth 20000 in
theorem gk_f53_23 : gd_fetch 53 23 = some (23, .invokevirtual 110, 3, 590, 41, 1, 0, 0) := rfl
set_option maxRecDepth 20000 in
theorem gk_f53_26 : gd_fetch 53 26 = some (26, .ifCond .eq 18, 3, 0, 0, 0, 0, 0) := rfl
set_option maxRecDepth 20000 in
theorem gk_f53_29 : gd_fetch 53 29 = some (29, .aload_n 0, 1, 0, 0, 0, 0, 0) := rfl
set_option maxRecDepth 20000 in
theorem gk_f53_30 : gd_fetch 53 30 = some (30, .aload_n 0, 1, 0, 0, 0, 0, 0) := rfl
set_option maxRecDepth 20000 in
theorem gk_f53_31 : gd_fetch 53 31 = some (31, .getfield 29, 3, 215, 3, 3, 4, 0) := rfl
set_option maxRecDepth 20000 in
theorem gk_f53_34 : gd_fetch 53 34 = some (34, .getfield 154, 3, 345, 1, 10, 4, 1) := rfl
set_option maxRecDepth 20000 in
theorem gk_f53_37 : gd_fetch 53 37 = some (37, .iconst (-1), 1, 0, 0, 0, 0, 0) := rfl
set_option maxRecDepth 20000 in
theorem gk_f53_38 : gd_fetch 53 38 = some (38, .invokevirtual 147, 3, 630, 51, 2, 0, 0) := rfl
set_option maxRecDepth 20000 in
theorem gk_f53_41 : gd_fetch 53 41 = some (41, .ifCond .ne 5, 3, 0, 0, 0, 0, 0) := rfl
set_option maxRecDepth 20000 in
theorem gk_f53_44 : gd_fetch 53 44 = some (44, .iconst 0, 1, 0, 0, 0, 0, 0) := rfl
set_option maxRecDepth 20000 in
theorem gk_f53_45 : gd_fetch 53 45 = some (45, .ireturn, 1, 0, 0, 0, 0, 0) := rfl
set_option maxRecDepth 20000 in
theorem gk_f53_46 : gd_fetch 53 46 = some (46, .aload_n 0, 1, 0, 0, 0, 0, 0) := rfl
set_option maxRecDepth 20000 in
theorem gk_f53_47 : gd_fetch 53 47 = some (47, .getfield 29, 3, 215, 3, 3, 4, 0) := rfl
set_option maxRecDepth 20000 in
theorem gk_f53_50 : gd_fetch 53 50 = some (50, .getfield 154, 3, 345, 1, 10, 4, 1) := rfl
set_option maxRecDepth 20000 in
theorem gk_f53_53 : gd_fetch 53 53 = some (53, .aload_n 0, 1, 0, 0, 0, 0, 0) := rfl
set_option maxRecDepth 20000 in
theorem gk_f53_54 : gd_fetch 53 54 = some (54, .getfield 12, 3, 212, 3, 0, 4, 1) := rfl
set_option maxRecDepth 20000 in
theorem gk_f53_57 : gd_fetch 53 57 = some (57, .getfield 107, 3, 184, 5, 7, 0, 0) := rfl
set_option maxRecDepth 20000 in
theorem gk_f53_60 : gd_fetch 53 60 = some (60, .iload_n 1, 1, 0, 0, 0, 0, 0) := rfl
set_option maxRecDepth 20000 in
theorem gk_f53_61 : gd_fetch 53 61 = some (61, .iastore, 1, 0, 0, 0, 0, 0) := rfl
set_option maxRecDepth 20000 in
theorem gk_f53_62 : gd_fetch 53 62 = some (62, .aload_n 0, 1, 0, 0, 0, 0, 0) := rfl
set_option maxRecDepth 20000 in
theorem gk_f53_63 : gd_fetch 53 63 = some (63, .getfield 12, 3, 212, 3, 0, 4, 1) := rfl
set_option maxRecDepth 20000 in
theorem gk_f53_66 : gd_fetch 53 66 = some (66, .invokevirtual 48, 3, 534, 32, 0, 0, 0) := rfl
set_option maxRecDepth 20000 in
theorem gk_f53_69 : gd_fetch 53 69 = some (69, .aload_n 0, 1, 0, 0, 0, 0, 0) := rfl
set_option maxRecDepth 20000 in
theorem gk_f53_70 : gd_fetch 53 70 = some (70, .invokevirtual 123, 3, 602, 44, 0, 0, 0) := rfl
set_option maxRecDepth 20000 in
theorem gk_f53_73 : gd_fetch 53 73 = some (73, .ireturn, 1, 0, 0, 0, 0, 0) := rfl
set_option maxRecDepth 20000 in
set_option maxHeartbeats 4000000 in
theorem q_Re_readLimit (r0 : Nat) (m : gd_M) : gd_call 53 [.ref r0] m = if gd_ok (gN m) r0 3 = true then ((gd_call 40 [.ref r0, .int 0, .int 10] m).bind (gd_kI fun z4 m2 => if (z4 = 0 : Prop) then (some (.int 0, m2)) else (if gd_ok (gN m2) r0 3 = true then (if gd_ok (gN m2) (gR m2 r0 0) 5 = true then ((gd_call 41 [.ref r0, .int 14] m2).bind (gd_kI fun z11 m9 => if (z11 = 0 : Prop) then (some (.int 0, m9)) else (if gd_ok (gN m9) r0 3 = true then (if gd_ok (gN m9) (gR m9 r0 3) 1 = true then ((gd_call 51 [.ref r0, .ref (gR m9 (gR m9 r0 3) 10), .int (-1)] m9).bind (gd_kI fun z18 m16 => if (z18 = 0 : Prop) then (some (.int 0, m16)) else (if gd_ok (gN m16) r0 3 = true then (if gd_ok (gN m16) (gR m16 r0 3) 1 = true then (if gd_ok (gN m16) (gR m16 r0 0) 5 = true then (if gd_okA (gN m16) (gR m16 (gR m16 r0 3) 10) 10 (gI m16 (gR m16 r0 0) 7) = true then ((gd_call 32 [.ref (gR m16 r0 0)] (wI m16 (gR m16 (gR m16 r0 3) 10) ((gI m16 (gR m16 r0 0) 7) : Int32).toNatClampNeg (gI m2 (gR m2 r0 0) 7))).bind (gd_kV fun m25 => if gd_ok (gN m25) r0 3 = true then ((gd_call 44 [.ref r0] m25).bind (gd_kI fun z30 m28 => if gd_bo z30 = true then some (.int z30, m28) else none)) else none)) else none) else none) else none) else none))) else none) else none))) else none) else none))) else none := by
  refine Eq.trans (show gd_call 53 [.ref r0] m = gd_Den (53, 0, [.ref r0, .null], [], m) from by unfold gd_call gd_ent; rw [gk_ml53]; rfl) ?_
  refine Eq.trans (D_aload_n (x := r0) gk_f53_0 rfl) ?_
  refine Eq.trans (D_iconst (x := 0) gk_f53_1 gk_c_0) ?_
  refine Eq.trans (D_bipush (x := 10) gk_f53_2 gk_b_10) ?_
  refine Eq.trans (D_ivZ (cl := 3) (args := [.ref r0, .int 0, .int 10]) (rest := []) gk_f53_4 rfl rfl (gd_rmk gk_rm53_40 gk_ln40 gk_ml40 rfl rfl rfl) gk_rk40 (gd_hnd_n gk_nc53) gk_nc40 gk_n11_40 gk_cl40) ?_
  refine gd_ite (fun h1 => ?_) (fun _ => rfl)
  refine gd_bnd (gd_kI_c fun z4 m2 => ?_)
  refine Eq.trans (D_if_ne (t := 12) gk_f53_7 (by decide)) ?_
  refine gd_ite (fun h5 => ?_) (fun h6 => ?_)
  · refine Eq.trans (D_iconst (x := 0) gk_f53_10 gk_c_0) ?_
    refine Eq.trans (D_zreturn gk_f53_11 gk_rk53) ?_
    exact if_pos rfl
  · refine Eq.trans (D_aload_n (x := r0) gk_f53_12 rfl) ?_
    refine Eq.trans (D_gfR gk_f53_13 (by decide)) ?_
    refine gd_ite (fun h7 => ?_) (fun _ => rfl)
    refine Eq.trans (D_gfI gk_f53_16 (by decide) (by decide) (by decide)) ?_
    refine gd_ite (fun h8 => ?_) (fun _ => rfl)
    refine Eq.trans (D_istore_n gk_f53_19 gk_st53_1) ?_
    refine Eq.trans (D_aload_n (x := r0) gk_f53_20 rfl) ?_
    refine Eq.trans (D_bipush (x := 14) gk_f53_21 gk_b_14) ?_
    refine Eq.trans (D_ivZ (cl := 3) (args := [.ref r0, .int 14]) (rest := []) gk_f53_23 rfl rfl (gd_rmk gk_rm53_41 gk_ln41 gk_ml41 rfl rfl rfl) gk_rk41 (gd_hnd_n gk_nc53) gk_nc41 gk_n11_41 gk_cl41) ?_
    refine Eq.trans (if_pos h7) ?_
    refine gd_bnd (gd_kI_c fun z11 m9 => ?_)
    refine Eq.trans (D_if_eq (t := 44) gk_f53_26 (by decide)) ?_
    refine gd_ite (fun h12 => ?_) (fun h13 => ?_)
    · refine Eq.trans (D_iconst (x := 0) gk_f53_44 gk_c_0) ?_
      refine Eq.trans (D_zreturn gk_f53_45 gk_rk53) ?_
      exact if_pos rfl
    · refine Eq.trans (D_aload_n (x := r0) gk_f53_29 rfl) ?_
      refine Eq.trans (D_aload_n (x := r0) gk_f53_30 rfl) ?_
      refine Eq.trans (D_gfR gk_f53_31 (by decide)) ?_
      refine gd_ite (fun h14 => ?_) (fun _ => rfl)
      refine Eq.trans (D_gfR gk_f53_34 (by decide)) ?_
      refine gd_ite (fun h15 => ?_) (fun _ => rfl)
      refine Eq.trans (D_iconst (x := (-1)) gk_f53_37 gk_c_m1) ?_
      refine Eq.trans (D_ivZ (cl := 3) (args := [.ref r0, .ref (gR m9 (gR m9 r0 3) 10), .int (-1)]) (rest := []) gk_f53_38 rfl rfl (gd_rmk gk_rm53_51 gk_ln51 gk_ml51 rfl rfl rfl) gk_rk51 (gd_hnd_n gk_nc53) gk_nc51 gk_n11_51 gk_cl51) ?_
      refine Eq.trans (if_pos h14) ?_
      refine gd_bnd (gd_kI_c fun z18 m16 => ?_)
      refine Eq.trans (D_if_ne (t := 46) gk_f53_41 (by decide)) ?_
      refine gd_ite (fun h19 => ?_) (fun h20 => ?_)
      · refine Eq.trans (D_iconst (x := 0) gk_f53_44 gk_c_0) ?_
        refine Eq.trans (D_zreturn gk_f53_45 gk_rk53) ?_
        exact if_pos rfl
      · refine Eq.trans (D_aload_n (x := r0) gk_f53_46 rfl) ?_
        refine Eq.trans (D_gfR gk_f53_47 (by decide)) ?_
        refine gd_ite (fun h21 => ?_) (fun _ => rfl)
        refine Eq.trans (D_gfR gk_f53_50 (by decide)) ?_
        refine gd_ite (fun h22 => ?_) (fun _ => rfl)
        refine Eq.trans (D_aload_n (x := r0) gk_f53_53 rfl) ?_
        refine Eq.trans (D_gfR gk_f53_54 (by decide)) ?_
        refine Eq.trans (if_pos h21) ?_
        refine Eq.trans (D_gfI gk_f53_57 (by decide) (by decide) (by decide)) ?_
        refine gd_ite (fun h23 => ?_) (fun _ => rfl)
        refine Eq.trans (D_iload_n (x := (gI m2 (gR m2 r0 0) 7)) gk_f53_60 rfl) ?_
        refine Eq.trans (D_iast gk_f53_61) ?_
        refine gd_ite (fun h24 => ?_) (fun _ => rfl)
        refine Eq.trans (D_aload_n (x := r0) gk_f53_62 rfl) ?_
        refine Eq.trans (D_gfR gk_f53_63 (by decide)) ?_
        refine Eq.trans (if_pos h21) ?_
        refine Eq.trans (D_ivV (cl := 5) (args := [.ref (gR m16 r0 0)]) (rest := []) gk_f53_66 rfl rfl (gd_rmk gk_rm53_32 gk_ln32 gk_ml32 rfl rfl rfl) gk_rk32 (gd_hnd_n gk_nc53) gk_nc32 gk_n11_32 gk_cl32) ?_
        refine Eq.trans (if_pos h23) ?_
        refine gd_bnd (gd_kV_c fun m25 => ?_)
        refine Eq.trans (D_aload_n (x := r0) gk_f53_69 rfl) ?_
        refine Eq.trans (D_ivZ (cl := 3) (args := [.ref r0]) (rest := []) gk_f53_70 rfl rfl (gd_rmk gk_rm53_44 gk_ln44 gk_ml44 rfl rfl rfl) gk_rk44 (gd_hnd_n gk_nc53) gk_nc44 gk_n11_44 gk_cl44) ?_
        refine gd_ite (fun h27 => ?_) (fun _ => rfl)
        refine gd_bnd (gd_kI_c fun z30 m28 => ?_)
        refine Eq.trans (D_zreturn gk_f53_73 gk_rk53) ?_
        rfl
/-! GymDesk$Code.addFault (IZ)V -/
set_option maxRecDepth 20000 in
theorem gk_f54_0 : gd_fetch 54 0 = some (0, .aload_n 0, 1, 0, 0, 0, 0, 0) := rfl
set_option maxRecDepth 20000 in
theorem gk_f54_1 : gd_fetch 54 1 = some (1, .getfield 59, 3, 358, 1, 14, 0, 0) := rfl
set_option maxRecDepth 20000 in
theorem gk_f54_4 : gd_fetch 54 4 = some (4, .bipush 10, 2, 0, 0, 0, 0, 0) := rfl
set_option maxRecDepth 20000 in
theorem gk_f54_6 : gd_fetch 54 6 = some (6, .if_icmp .ge 33, 3, 0, 0, 0, 0, 0) := rfl
set_option maxRecDepth 20000 in
theorem gk_f54_9 : gd_fetch 54 9 = some (9, .aload_n 0, 1, 0, 0, 0, 0, 0) := rfl
set_option maxRecDepth 20000 in
theorem gk_f54_10 : gd_fetch 54 10 = some (10, .getfield 30, 3, 331, 1, 6, 4, 1) := rfl
set_option maxRecDepth 20000 in
theorem gk_f54_13 : gd_fetch 54 13 = some (13, .aload_n 0, 1, 0, 0, 0, 0, 0) := rfl
set_option maxRecDepth 20000 in
theorem gk_f54_14 : gd_fetch 54 14 = some (14, .getfield 59, 3, 358, 1, 14, 0, 0) := rfl
set_option maxRecDepth 20000 in
theorem gk_f54_17 : gd_fetch 54 17 = some (17, .iload_n 1, 1, 0, 0, 0, 0, 0) := rfl
set_option maxRecDepth 20000 in
theorem gk_f54_18 : gd_fetch 54 18 = some (18, .iastore, 1, 0, 0, 0, 0, 0) := rfl
set_option maxRecDepth 20000 in
theorem gk_f54_19 : gd_fetch 54 19 = some (19, .aload_n 0, 1, 0, 0, 0, 0, 0) := rfl
set_option maxRecDepth 20000 in
theorem gk_f54_20 : gd_fetch 54 20 = some (20, .getfield 33, 3, 333, 1, 7, 4, 1) := rfl
set_option maxRecDepth 20000 in
theorem gk_f54_23 : gd_fetch 54 23 = some (23, .aload_n 0, 1, 0, 0, 0, 0, 0) := rfl
set_option maxRecDepth 20000 in
theorem gk_f54_24 : gd_fetch 54 24 = some (24, .getfield 59, 3, 358, 1, 14, 0, 0) := rfl
set_option maxRecDepth 20000 in
theorem gk_f54_27 : gd_fetch 54 27 = some (27, .iload_n 2, 1, 0, 0, 0, 0, 0) := rfl
set_option maxRecDepth 20000 in
theorem gk_f54_28 : gd_fetch 54 28 = some (28, .bastore, 1, 0, 0, 0, 0, 0) := rfl
set_option maxRecDepth 20000 in
theorem gk_f54_29 : gd_fetch 54 29 = some (29, .aload_n 0, 1, 0, 0, 0, 0, 0) := rfl
set_option maxRecDepth 20000 in
theorem gk_f54_30 : gd_fetch 54 30 = some (30, .dup, 1, 0, 0, 0, 0, 0) := rfl
set_option maxRecDepth 20000 in
theorem gk_f54_31 : gd_fetch 54 31 = some (31, .getfield 59, 3, 358, 1, 14, 0, 0) := rfl
set_option maxRecDepth 20000 in
theorem gk_f54_34 : gd_fetch 54 34 = some (34, .iconst 1, 1, 0, 0, 0, 0, 0) := rfl
set_option maxRecDepth 20000 in
theorem gk_f54_35 : gd_fetch 54 35 = some (35, .iadd, 1, 0, 0, 0, 0, 0) := rfl
set_option maxRecDepth 20000 in
theorem gk_f54_36 : gd_fetch 54 36 = some (36, .putfield 59, 3, 358, 1, 14, 0, 0) := rfl
set_option maxRecDepth 20000 in
theorem gk_f54_39 : gd_fetch 54 39 = some (39, .return_, 1, 0, 0, 0, 0, 0) := rfl
set_option maxRecDepth 20000 in
set_option maxHeartbeats 4000000 in
theorem q_Co_addFault (r0 : Nat) (x1 : Int32) (x2 : Int32) (m : gd_M) : gd_call 54 [.ref r0, .int x1, .int x2] m = if gd_ok (gN m) r0 1 = true then (if ((gI m r0 14) < 10 : Prop) then (if gd_okA (gN m) (gR m r0 6) 10 (gI m r0 14) = true then (if gd_okA (gN m) (gR m r0 7) 11 (gI (wI m (gR m r0 6) ((gI m r0 14) : Int32).toNatClampNeg x1) r0 14) = true then (some (.null, (wI (wI (wI m (gR m r0 6) ((gI m r0 14) : Int32).toNatClampNeg x1) (gR m r0 7) ((gI (wI m (gR m r0 6) ((gI m r0 14) : Int32).toNatClampNeg x1) r0 14) : Int32).toNatClampNeg (vp_nar .boolean x2)) r0 14 ((gI (wI (wI m (gR m r0 6) ((gI m r0 14) : Int32).toNatClampNeg x1) (gR m r0 7) ((gI (wI m (gR m r0 6) ((gI m r0 14) : Int32).toNatClampNeg x1) r0 14) : Int32).toNatClampNeg (vp_nar .boolean x2)) r0 14) + 1)))) else none) else none) else (some (.null, m))) else none := by
  refine Eq.trans (show gd_call 54 [.ref r0, .int x1, .int x2] m = gd_Den (54, 0, [.ref r0, .int x1, .int x2], [], m) from by unfold gd_call gd_ent; rw [gk_ml54]; rfl) ?_
  refine Eq.trans (D_aload_n (x := r0) gk_f54_0 rfl) ?_
  refine Eq.trans (D_gfI gk_f54_1 (by decide) (by decide) (by decide)) ?_
  refine gd_ite (fun h1 => ?_) (fun _ => rfl)
  refine Eq.trans (D_bipush (x := 10) gk_f54_4 gk_b_10) ?_
  refine Eq.trans (D_ic_ge (t := 39) gk_f54_6 (by decide)) ?_
  refine gd_ite (fun h2 => ?_) (fun h3 => ?_)
  · refine Eq.trans (D_aload_n (x := r0) gk_f54_9 rfl) ?_
    refine Eq.trans (D_gfR gk_f54_10 (by decide)) ?_
    refine Eq.trans (if_pos h1) ?_
    refine Eq.trans (D_aload_n (x := r0) gk_f54_13 rfl) ?_
    refine Eq.trans (D_gfI gk_f54_14 (by decide) (by decide) (by decide)) ?_
    refine Eq.trans (if_pos h1) ?_
    refine Eq.trans (D_iload_n (x := x1) gk_f54_17 rfl) ?_
    refine Eq.trans (D_iast gk_f54_18) ?_
    refine gd_ite (fun h4 => ?_) (fun _ => rfl)
    refine Eq.trans (D_aload_n (x := r0) gk_f54_19 rfl) ?_
    refine Eq.trans (D_gfR gk_f54_20 (by decide)) ?_
    refine Eq.trans (if_pos h1) ?_
    refine Eq.trans (D_aload_n (x := r0) gk_f54_23 rfl) ?_
    refine Eq.trans (D_gfI gk_f54_24 (by decide) (by decide) (by decide)) ?_
    refine Eq.trans (if_pos h1) ?_
    refine Eq.trans (D_iload_n (x := x2) gk_f54_27 rfl) ?_
    refine Eq.trans (D_bastZ gk_f54_28 gk_b12_54) ?_
    refine gd_ite (fun h5 => ?_) (fun _ => rfl)
    refine Eq.trans (D_aload_n (x := r0) gk_f54_29 rfl) ?_
    refine Eq.trans (D_dupR gk_f54_30) ?_
    refine Eq.trans (D_gfI gk_f54_31 (by decide) (by decide) (by decide)) ?_
    refine Eq.trans (if_pos h1) ?_
    refine Eq.trans (D_iconst (x := 1) gk_f54_34 gk_c_1) ?_
    refine Eq.trans (D_iadd gk_f54_35) ?_
    refine Eq.trans (D_pfI gk_f54_36) ?_
    refine Eq.trans (if_pos h1) ?_
    refine Eq.trans (D_vreturn gk_f54_39 gk_rk54) ?_
    rfl
  · refine Eq.trans (D_vreturn gk_f54_39 gk_rk54) ?_
    rfl
/-! GymDesk$Reader.readFault ()Z -/
set_option maxRecDepth 20000 in
theorem gk_f55_0 : gd_fetch 55 0 = some (0, .aload_n 0, 1, 0, 0, 0, 0, 0) := rfl
set_option maxRecDepth 20000 in
theorem gk_f55_1 : gd_fetch 55 1 = some (1, .aload_n 0, 1, 0, 0, 0, 0, 0) := rfl
set_option maxRecDepth 20000 in
theorem gk_f55_2 : gd_fetch 55 2 = some (2, .getfield 22, 3, 214, 3, 2, 4, 1) := rfl
set_option maxRecDepth 20000 in
theorem gk_f55_5 : gd_fetch 55 5 = some (5, .aload_n 0, 1, 0, 0, 0, 0, 0) := rfl
set_option maxRecDepth 20000 in
theorem gk_f55_6 : gd_fetch 55 6 = some (6, .getfield 29, 3, 215, 3, 3, 4, 0) := rfl
set_option maxRecDepth 20000 in
theorem gk_f55_9 : gd_fetch 55 9 = some (9, .getfield 93, 3, 359, 1, 14, 0, 0) := rfl
set_option maxRecDepth 20000 in
theorem gk_f55_12 : gd_fetch 55 12 = some (12, .invokevirtual 99, 3, 570, 38, 2, 0, 0) := rfl
set_option maxRecDepth 20000 in
theorem gk_f55_15 : gd_fetch 55 15 = some (15, .ifCond .eq 13, 3, 0, 0, 0, 0, 0) := rfl
set_option maxRecDepth 20000 in
theorem gk_f55_18 : gd_fetch 55 18 = some (18, .aload_n 0, 1, 0, 0, 0, 0, 0) := rfl
set_option maxRecDepth 20000 in
theorem gk_f55_19 : gd_fetch 55 19 = some (19, .iconst 1, 1, 0, 0, 0, 0, 0) := rfl
set_option maxRecDepth 20000 in
theorem gk_f55_20 : gd_fetch 55 20 = some (20, .bipush 50, 2, 0, 0, 0, 0, 0) := rfl
set_option maxRecDepth 20000 in
theorem gk_f55_22 : gd_fetch 55 22 = some (22, .invokevirtual 103, 3, 582, 40, 2, 0, 0) := rfl
set_option maxRecDepth 20000 in
theorem gk_f55_25 : gd_fetch 55 25 = some (25, .ifCond .ne 5, 3, 0, 0, 0, 0, 0) := rfl
set_option maxRecDepth 20000 in
theorem gk_f55_28 : gd_fetch 55 28 = some (28, .iconst 0, 1, 0, 0, 0, 0, 0) := rfl
set_option maxRecDepth 20000 in
theorem gk_f55_29 : gd_fetch 55 29 = some (29, .ireturn, 1, 0, 0, 0, 0, 0) := rfl
set_option maxRecDepth 20000 in
theorem gk_f55_30 : gd_fetch 55 30 = some (30, .aload_n 0, 1, 0, 0, 0, 0, 0) := rfl
set_option maxRecDepth 20000 in
theorem gk_f55_31 : gd_fetch 55 31 = some (31, .getfield 12, 3, 212, 3, 0, 4, 1) := rfl
set_option maxRecDepth 20000 in
theorem gk_f55_34 : gd_fetch 55 34 = some (34, .getfield 107, 3, 184, 5, 7, 0, 0) := rfl
set_option maxRecDepth 20000 in
theorem gk_f55_37 : gd_fetch 55 37 = some (37, .istore_n 1, 1, 0, 0, 0, 0, 0) := rfl
set_option maxRecDepth 20000 in
theorem gk_f55_38 : gd_fetch 55 38 = some (38, .iconst 0, 1, 0, 0, 0, 0, 0) := rfl
set_option maxRecDepth 20000 in
theorem gk_f55_39 : gd_fetch 55 39 = some (39, .istore_n 2, 1, 0, 0, 0, 0, 0) := rfl
set_option maxRecDepth 20000 in
theorem gk_f55_40 : gd_fetch 55 40 = some (40, .aload_n 0, 1, 0, 0, 0, 0, 0) := rfl
set_option maxRecDepth 20000 in
theorem gk_f55_41 : gd_fetch 55 41 = some (41, .getfield 12, 3, 212, 3, 0, 4, 1) := rfl
set_option maxRecDepth 20000 in
theorem gk_f55_44 : gd_fetch 55 44 = some (44, .invokevirtual 48, 3, 534, 32, 0, 0, 0) := rfl
set_option maxRecDepth 20000 in
theorem gk_f55_47 : gd_fetch 55 47 = some (47, .aload_n 0, 1, 0, 0, 0, 0, 0) := rfl
set_option maxRecDepth 20000 in
theorem gk_f55_48 : gd_fetch 55 48 = some (48, .getfield 12, 3, 212, 3, 0, 4, 1) := rfl
set_option maxRecDepth 20000 in
theorem gk_f55_51 : gd_fetch 55 51 = some (51, .getfield 54, 3, 187, 5, 9, 0, 0) := rfl
set_option maxRecDepth 20000 in
theorem gk_f55_54 : gd_fetch 55 54 = some (54, .bipush 16, 2, 0, 0, 0, 0, 0) := rfl
set_option maxRecDepth 20000 in
theorem gk_f55_56 : gd_fetch 55 56 = some (56, .if_icmp .ne 22, 3, 0, 0, 0, 0, 0) := rfl
set_option maxRecDepth 20000 in
theorem gk_f55_59 : gd_fetch 55 59 = some (59, .aload_n 0, 1, 0, 0, 0, 0, 0) := rfl
set_option maxRecDepth 20000 in
theorem gk_f55_60 : gd_fetch 55 60 = some (60, .iconst 0, 1, 0, 0, 0, 0, 0) := rfl
set_option maxRecDepth 20000 in
theorem gk_f55_61 : gd_fetch 55 61 = some (61, .invokevirtual 61, 3, 562, 35, 1, 0, 0) := rfl
set_option maxRecDepth 20000 in
theorem gk_f55_64 : gd_fetch 55 64 = some (64, .ifCond .ne 5, 3, 0, 0, 0, 0, 0) := rfl
set_option maxRecDepth 20000 in
theorem gk_f55_67 : gd_fetch 55 67 = some (67, .iconst 0, 1, 0, 0, 0, 0, 0) := rfl
set_option maxRecDepth 20000 in
theorem gk_f55_68 : gd_fetch 55 68 = some (68, .ireturn, 1, 0, 0, 0, 0, 0) := rfl
set_option maxRecDepth 20000 in
theorem gk_f55_69 : gd_fetch 55 69 = some (69, .iconst 1, 1, 0, 0, 0, 0, 0) := rfl
set_option maxRecDepth 20000 in
theorem gk_f55_70 : gd_fetch 55 70 = some (70, .istore_n 2, 1, 0, 0, 0, 0, 0) := rfl
set_option maxRecDepth 20000 in
theorem gk_f55_71 : gd_fetch 55 71 = some (71, .aload_n 0, 1, 0, 0, 0, 0, 0) := rfl
set_option maxRecDepth 20000 in
theorem gk_f55_72 : gd_fetch 55 72 = some (72, .getfield 12, 3, 212, 3, 0, 4, 1) := rfl
set_option maxRecDepth 20000 in
theorem gk_f55_75 : gd_fetch 55 75 = some (75, .invokevirtual 48, 3, 534, 32, 0, 0, 0) := rfl
set_option maxRecDepth 20000 in
theorem gk_f55_78 : gd_fetch 55 78 = some (78, .aload_n 0, 1, 0, 0, 0, 0, 0) := rfl
set_option maxRecDepth 20000 in
theorem gk_f55_79 : gd_fetch 55 79 = some (79, .invokevirtual 123, 3, 602, 44, 0, 0, 0) := rfl
set_option maxRecDepth 20000 in
theorem gk_f55_82 : gd_fetch 55 82 = some (82, .ifCond .ne 5, 3, 0, 0, 0, 0, 0) := rfl
set_option maxRecDepth 20000 in
theorem gk_f55_85 : gd_fetch 55 85 = some (85, .iconst 0, 1, 0, 0, 0, 0, 0) := rfl
set_option maxRecDepth 20000 in
theorem gk_f55_86 : gd_fetch 55 86 = some (86, .ireturn, 1, 0, 0, 0, 0, 0) := rfl
set_option maxRecDepth 20000 in
theorem gk_f55_87 : gd_fetch 55 87 = some (87, .aload_n 0, 1, 0, 0, 0, 0, 0) := rfl
set_option maxRecDepth 20000 in
theorem gk_f55_88 : gd_fetch 55 88 = some (88, .getfield 29, 3, 215, 3, 3, 4, 0) := rfl
set_option maxRecDepth 20000 in
theorem gk_f55_91 : gd_fetch 55 91 = some (91, .iload_n 1, 1, 0, 0, 0, 0, 0) := rfl
set_option maxRecDepth 20000 in
theorem gk_f55_92 : gd_fetch 55 92 = some (92, .iload_n 2, 1, 0, 0, 0, 0, 0) := rfl
set_option maxRecDepth 20000 in
theorem gk_f55_93 : gd_fetch 55 93 = some (93, .invokevirtual 157, 3, 642, 54, 2, 0, 0) := rfl
set_option maxRecDepth 20000 in
theorem gk_f55_96 : gd_fetch 55 96 = some (96, .iconst 1, 1, 0, 0, 0, 0, 0) := rfl
set_option maxRecDepth 20000 in
theorem gk_f55_97 : gd_fetch 55 97 = some (97, .ireturn, 1, 0, 0, 0, 0, 0) := rfl
set_option maxRecDepth 20000 in
set_option maxHeartbeats 4000000 in
theorem q_Re_readFault (r0 : Nat) (m : gd_M) : gd_call 55 [.ref r0] m = if gd_ok (gN m) r0 3 = true then (if gd_ok (gN m) (gR m r0 3) 1 = true then ((gd_call 38 [.ref r0, .ref (gR m r0 2), .int (gI m (gR m r0 3) 14)] m).bind (gd_kI fun z5 m3 => if (z5 = 0 : Prop) then (some (.int 0, m3)) else (if gd_ok (gN m3) r0 3 = true then ((gd_call 40 [.ref r0, .int 1, .int 50] m3).bind (gd_kI fun z11 m9 => if (z11 = 0 : Prop) then (some (.int 0, m9)) else (if gd_ok (gN m9) r0 3 = true then (if gd_ok (gN m9) (gR m9 r0 0) 5 = true then ((gd_call 32 [.ref (gR m9 r0 0)] m9).bind (gd_kV fun m16 => if gd_ok (gN m16) r0 3 = true then (if gd_ok (gN m16) (gR m16 r0 0) 5 = true then (if ((gI m16 (gR m16 r0 0) 9) = 16 : Prop) then ((gd_call 35 [.ref r0, .int 0] m16).bind (gd_kI fun z24 m22 => if (z24 = 0 : Prop) then (some (.int 0, m22)) else (if gd_ok (gN m22) r0 3 = true then (if gd_ok (gN m22) (gR m22 r0 0) 5 = true then ((gd_call 32 [.ref (gR m22 r0 0)] m22).bind (gd_kV fun m29 => if gd_ok (gN m29) r0 3 = true then ((gd_call 44 [.ref r0] m29).bind (gd_kI fun z34 m32 => if (z34 = 0 : Prop) then (some (.int 0, m32)) else (if gd_ok (gN m32) r0 3 = true then (if gd_ok (gN m32) (gR m32 r0 3) 1 = true then ((gd_call 54 [.ref (gR m32 r0 3), .int (gI m9 (gR m9 r0 0) 7), .int 1] m32).bind (gd_kV fun m39 => some (.int 1, m39))) else none) else none))) else none)) else none) else none))) else ((gd_call 44 [.ref r0] m16).bind (gd_kI fun z43 m41 => if (z43 = 0 : Prop) then (some (.int 0, m41)) else (if gd_ok (gN m41) r0 3 = true then (if gd_ok (gN m41) (gR m41 r0 3) 1 = true then ((gd_call 54 [.ref (gR m41 r0 3), .int (gI m9 (gR m9 r0 0) 7), .int 0] m41).bind (gd_kV fun m48 => some (.int 1, m48))) else none) else none)))) else none) else none)) else none) else none))) else none))) else none) else none := by
  refine Eq.trans (show gd_call 55 [.ref r0] m = gd_Den (55, 0, [.ref r0, .null, .null], [], m) from by unfold gd_call gd_ent; rw [gk_ml55]; rfl) ?_
  refine Eq.trans (D_aload_n (x := r0) gk_f55_0 rfl) ?_
  refine Eq.trans (D_aload_n (x := r0) gk_f55_1 rfl) ?_
  refine Eq.trans (D_gfR gk_f55_2 (by decide)) ?_
  refine gd_ite (fun h1 => ?_) (fun _ => rfl)
  refine Eq.trans (D_aload_n (x := r0) gk_f55_5 rfl) ?_
  refine Eq.trans (D_gfR gk_f55_6 (by decide)) ?_
  refine Eq.trans (if_pos h1) ?_
  refine Eq.trans (D_gfI gk_f55_9 (by decide) (by decide) (by decide)) ?_
  refine gd_ite (fun h2 => ?_) (fun _ => rfl)
  refine Eq.trans (D_ivZ (cl := 3) (args := [.ref r0, .ref (gR m r0 2), .int (gI m (gR m r0 3) 14)]) (rest := []) gk_f55_12 rfl rfl (gd_rmk gk_rm55_38 gk_ln38 gk_ml38 rfl rfl rfl) gk_rk38 (gd_hnd_n gk_nc55) gk_nc38 gk_n11_38 gk_cl38) ?_
  refine Eq.trans (if_pos h1) ?_
  refine gd_bnd (gd_kI_c fun z5 m3 => ?_)
  refine Eq.trans (D_if_eq (t := 28) gk_f55_15 (by decide)) ?_
  refine gd_ite (fun h6 => ?_) (fun h7 => ?_)
  · refine Eq.trans (D_iconst (x := 0) gk_f55_28 gk_c_0) ?_
    refine Eq.trans (D_zreturn gk_f55_29 gk_rk55) ?_
    exact if_pos rfl
  · refine Eq.trans (D_aload_n (x := r0) gk_f55_18 rfl) ?_
    refine Eq.trans (D_iconst (x := 1) gk_f55_19 gk_c_1) ?_
    refine Eq.trans (D_bipush (x := 50) gk_f55_20 gk_b_50) ?_
    refine Eq.trans (D_ivZ (cl := 3) (args := [.ref r0, .int 1, .int 50]) (rest := []) gk_f55_22 rfl rfl (gd_rmk gk_rm55_40 gk_ln40 gk_ml40 rfl rfl rfl) gk_rk40 (gd_hnd_n gk_nc55) gk_nc40 gk_n11_40 gk_cl40) ?_
    refine gd_ite (fun h8 => ?_) (fun _ => rfl)
    refine gd_bnd (gd_kI_c fun z11 m9 => ?_)
    refine Eq.trans (D_if_ne (t := 30) gk_f55_25 (by decide)) ?_
    refine gd_ite (fun h12 => ?_) (fun h13 => ?_)
    · refine Eq.trans (D_iconst (x := 0) gk_f55_28 gk_c_0) ?_
      refine Eq.trans (D_zreturn gk_f55_29 gk_rk55) ?_
      exact if_pos rfl
    · refine Eq.trans (D_aload_n (x := r0) gk_f55_30 rfl) ?_
      refine Eq.trans (D_gfR gk_f55_31 (by decide)) ?_
      refine gd_ite (fun h14 => ?_) (fun _ => rfl)
      refine Eq.trans (D_gfI gk_f55_34 (by decide) (by decide) (by decide)) ?_
      refine gd_ite (fun h15 => ?_) (fun _ => rfl)
      refine Eq.trans (D_istore_n gk_f55_37 gk_st55_1) ?_
      refine Eq.trans (D_iconst (x := 0) gk_f55_38 gk_c_0) ?_
      refine Eq.trans (D_istore_n gk_f55_39 gk_st55_2) ?_
      refine Eq.trans (D_aload_n (x := r0) gk_f55_40 rfl) ?_
      refine Eq.trans (D_gfR gk_f55_41 (by decide)) ?_
      refine Eq.trans (if_pos h14) ?_
      refine Eq.trans (D_ivV (cl := 5) (args := [.ref (gR m9 r0 0)]) (rest := []) gk_f55_44 rfl rfl (gd_rmk gk_rm55_32 gk_ln32 gk_ml32 rfl rfl rfl) gk_rk32 (gd_hnd_n gk_nc55) gk_nc32 gk_n11_32 gk_cl32) ?_
      refine Eq.trans (if_pos h15) ?_
      refine gd_bnd (gd_kV_c fun m16 => ?_)
      refine Eq.trans (D_aload_n (x := r0) gk_f55_47 rfl) ?_
      refine Eq.trans (D_gfR gk_f55_48 (by decide)) ?_
      refine gd_ite (fun h18 => ?_) (fun _ => rfl)
      refine Eq.trans (D_gfI gk_f55_51 (by decide) (by decide) (by decide)) ?_
      refine gd_ite (fun h19 => ?_) (fun _ => rfl)
      refine Eq.trans (D_bipush (x := 16) gk_f55_54 gk_b_16) ?_
      refine Eq.trans (D_ic_ne (t := 78) gk_f55_56 (by decide)) ?_
      refine gd_ite (fun h20 => ?_) (fun h21 => ?_)
      · refine Eq.trans (D_aload_n (x := r0) gk_f55_59 rfl) ?_
        refine Eq.trans (D_iconst (x := 0) gk_f55_60 gk_c_0) ?_
        refine Eq.trans (D_ivZ (cl := 3) (args := [.ref r0, .int 0]) (rest := []) gk_f55_61 rfl rfl (gd_rmk gk_rm55_35 gk_ln35 gk_ml35 rfl rfl rfl) gk_rk35 (gd_hnd_n gk_nc55) gk_nc35 gk_n11_35 gk_cl35) ?_
        refine Eq.trans (if_pos h18) ?_
        refine gd_bnd (gd_kI_c fun z24 m22 => ?_)
        refine Eq.trans (D_if_ne (t := 69) gk_f55_64 (by decide)) ?_
        refine gd_ite (fun h25 => ?_) (fun h26 => ?_)
        · refine Eq.trans (D_iconst (x := 0) gk_f55_67 gk_c_0) ?_
          refine Eq.trans (D_zreturn gk_f55_68 gk_rk55) ?_
          exact if_pos rfl
        · refine Eq.trans (D_iconst (x := 1) gk_f55_69 gk_c_1) ?_
          refine Eq.trans (D_istore_n gk_f55_70 gk_st55_2) ?_
          refine Eq.trans (D_aload_n (x := r0) gk_f55_71 rfl) ?_
          refine Eq.trans (D_gfR gk_f55_72 (by decide)) ?_
          refine gd_ite (fun h27 => ?_) (fun _ => rfl)
          refine Eq.trans (D_ivV (cl := 5) (args := [.ref (gR m22 r0 0)]) (rest := []) gk_f55_75 rfl rfl (gd_rmk gk_rm55_32 gk_ln32 gk_ml32 rfl rfl rfl) gk_rk32 (gd_hnd_n gk_nc55) gk_nc32 gk_n11_32 gk_cl32) ?_
          refine gd_ite (fun h28 => ?_) (fun _ => rfl)
          refine gd_bnd (gd_kV_c fun m29 => ?_)
          refine Eq.trans (D_aload_n (x := r0) gk_f55_78 rfl) ?_
          refine Eq.trans (D_ivZ (cl := 3) (args := [.ref r0]) (rest := []) gk_f55_79 rfl rfl (gd_rmk gk_rm55_44 gk_ln44 gk_ml44 rfl rfl rfl) gk_rk44 (gd_hnd_n gk_nc55) gk_nc44 gk_n11_44 gk_cl44) ?_
          refine gd_ite (fun h31 => ?_) (fun _ => rfl)
          refine gd_bnd (gd_kI_c fun z34 m32 => ?_)
          refine Eq.trans (D_if_ne (t := 87) gk_f55_82 (by decide)) ?_
          refine gd_ite (fun h35 => ?_) (fun h36 => ?_)
          · refine Eq.trans (D_iconst (x := 0) gk_f55_85 gk_c_0) ?_
            refine Eq.trans (D_zreturn gk_f55_86 gk_rk55) ?_
            exact if_pos rfl
          · refine Eq.trans (D_aload_n (x := r0) gk_f55_87 rfl) ?_
            refine Eq.trans (D_gfR gk_f55_88 (by decide)) ?_
            refine gd_ite (fun h37 => ?_) (fun _ => rfl)
            refine Eq.trans (D_iload_n (x := (gI m9 (gR m9 r0 0) 7)) gk_f55_91 rfl) ?_
            refine Eq.trans (D_iload_n (x := 1) gk_f55_92 rfl) ?_
            refine Eq.trans (D_ivV (cl := 1) (args := [.ref (gR m32 r0 3), .int (gI m9 (gR m9 r0 0) 7), .int 1]) (rest := []) gk_f55_93 rfl rfl (gd_rmk gk_rm55_54 gk_ln54 gk_ml54 rfl rfl rfl) gk_rk54 (gd_hnd_n gk_nc55) gk_nc54 gk_n11_54 gk_cl54) ?_
            refine gd_ite (fun h38 => ?_) (fun _ => rfl)
            refine gd_bnd (gd_kV_c fun m39 => ?_)
            refine Eq.trans (D_iconst (x := 1) gk_f55_96 gk_c_1) ?_
            refine Eq.trans (D_zreturn gk_f55_97 gk_rk55) ?_
            exact if_pos rfl
      · refine Eq.trans (D_aload_n (x := r0) gk_f55_78 rfl) ?_
        refine Eq.trans (D_ivZ (cl := 3) (args := [.ref r0]) (rest := []) gk_f55_79 rfl rfl (gd_rmk gk_rm55_44 gk_ln44 gk_ml44 rfl rfl rfl) gk_rk44 (gd_hnd_n gk_nc55) gk_nc44 gk_n11_44 gk_cl44) ?_
        refine Eq.trans (if_pos h18) ?_
        refine gd_bnd (gd_kI_c fun z43 m41 => ?_)
        refine Eq.trans (D_if_ne (t := 87) gk_f55_82 (by decide)) ?_
        refine gd_ite (fun h44 => ?_) (fun h45 => ?_)
        · refine Eq.trans (D_iconst (x := 0) gk_f55_85 gk_c_0) ?_
          refine Eq.trans (D_zreturn gk_f55_86 gk_rk55) ?_
          exact if_pos rfl
        · refine Eq.trans (D_aload_n (x := r0) gk_f55_87 rfl) ?_
          refine Eq.trans (D_gfR gk_f55_88 (by decide)) ?_
          refine gd_ite (fun h46 => ?_) (fun _ => rfl)
          refine Eq.trans (D_iload_n (x := (gI m9 (gR m9 r0 0) 7)) gk_f55_91 rfl) ?_
          refine Eq.trans (D_iload_n (x := 0) gk_f55_92 rfl) ?_
          refine Eq.trans (D_ivV (cl := 1) (args := [.ref (gR m41 r0 3), .int (gI m9 (gR m9 r0 0) 7), .int 0]) (rest := []) gk_f55_93 rfl rfl (gd_rmk gk_rm55_54 gk_ln54 gk_ml54 rfl rfl rfl) gk_rk54 (gd_hnd_n gk_nc55) gk_nc54 gk_n11_54 gk_cl54) ?_
          refine gd_ite (fun h47 => ?_) (fun _ => rfl)
          refine gd_bnd (gd_kV_c fun m48 => ?_)
          refine Eq.trans (D_iconst (x := 1) gk_f55_96 gk_c_1) ?_
          refine Eq.trans (D_zreturn gk_f55_97 gk_rk55) ?_
          exact if_pos rfl
/-! GymDesk$Reader.numberFor (III)Z -/
set_option maxRecDepth 20000 in
theorem gk_f56_0 : gd_fetch 56 0 = some (0, .aload_n 0, 1, 0, 0, 0, 0, 0) := rfl
set_option maxRecDepth 20000 in
theorem gk_f56_1 : gd_fetch 56 1 = some (1, .getfield 12, 3, 212, 3, 0, 4, 1) := rfl
set_option maxRecDepth 20000 in
theorem gk_f56_4 : gd_fetch 56 4 = some (4, .invokevirtual 48, 3, 534, 32, 0, 0, 0) := rfl
set_option maxRecDepth 20000 in
theorem gk_f56_7 : gd_fetch 56 7 = some (7, .aload_n 0, 1, 0, 0, 0, 0, 0) := rfl
set_option maxRecDepth 20000 in
theorem gk_f56_8 : gd_fetch 56 8 = some (8, .iload_n 2, 1, 0, 0, 0, 0, 0) := rfl
set_option maxRecDepth 20000 in
theorem gk_f56_9 : gd_fetch 56 9 = some (9, .iload_n 3, 1, 0, 0, 0, 0, 0) := rfl
set_option maxRecDepth 20000 in
theorem gk_f56_10 : gd_fetch 56 10 = some (10, .invokevirtual 174, 3, 586, 39, 2, 0, 0) := rfl
set_option maxRecDepth 20000 in
theorem gk_f56_13 : gd_fetch 56 13 = some (13, .istore 4, 2, 0, 0, 0, 0, 0) := rfl
set_option maxRecDepth 20000 in
theorem gk_f56_15 : gd_fetch 56 15 = some (15, .iload 4, 2, 0, 0, 0, 0, 0) := rfl
set_option maxRecDepth 20000 in
theorem gk_f56_17 : gd_fetch 56 17 = some (17, .ifCond .ne 19, 3, 0, 0, 0, 0, 0) := rfl
set_option maxRecDepth 20000 in
theorem gk_f56_20 : gd_fetch 56 20 = some (20, .aload_n 0, 1, 0, 0, 0, 0, 0) := rfl
set_option maxRecDepth 20000 in
theorem gk_f56_21 : gd_fetch 56 21 = some (21, .getfield 29, 3, 215, 3, 3, 4, 0) := rfl
set_option maxRecDepth 20000 in
theorem gk_f56_24 : gd_fetch 56 24 = some (24, .getfield 165, 3, 349, 1, 11, 4, 1) := rfl
set_option maxRecDepth 20000 in
theorem gk_f56_27 : gd_fetch 56 27 = some (27, .iload_n 1, 1, 0, 0, 0, 0, 0) := rfl
set_option maxRecDepth 20000 in
theorem gk_f56_28 : gd_fetch 56 28 = some (28, .aload_n 0, 1, 0, 0, 0, 0, 0) := rfl
set_option maxRecDepth 20000 in
theorem gk_f56_29 : gd_fetch 56 29 = some (29, .getfield 12, 3, 212, 3, 0, 4, 1) := rfl
set_option maxRecDepth 20000 in
theorem gk_f56_32 : gd_fetch 56 32 = some (32, .getfield 107, 3, 184, 5, 7, 0, 0) := rfl
set_option maxRecDepth 20000 in
theorem gk_f56_35 : gd_fetch 56 35 = some (35, .iastore, 1, 0, 0, 0, 0, 0) := rfl
set_option maxRecDepth 20000 in
theorem gk_f56_36 : gd_fetch 56 36 = some (36, .aload_n 0, 1, 0, 0, 0, 0, 0) := rfl
set_option maxRecDepth 20000 in
theorem gk_f56_37 : gd_fetch 56 37 = some (37, .iload 4, 2, 0, 0, 0, 0, 0) := rfl
set_option maxRecDepth 20000 in
theorem gk_f56_39 : gd_fetch 56 39 = some (39, .invokevirtual 61, 3, 562, 35, 1, 0, 0) := rfl
set_option maxRecDepth 20000 in
theorem gk_f56_42 : gd_fetch 56 42 = some (42, .ireturn, 1, 0, 0, 0, 0, 0) := rfl
set_option maxRecDepth 20000 in
set_option maxHeartbeats 4000000 in
theorem q_Re_numberFor (r0 : Nat) (x1 : Int32) (x2 : Int32) (x3 : Int32) (m : gd_M) : gd_call 56 [.ref r0, .int x1, .int x2, .int x3] m = if gd_ok (gN m) r0 3 = true then (if gd_ok (gN m) (gR m r0 0) 5 = true then ((gd_call 32 [.ref (gR m r0 0)] m).bind (gd_kV fun m3 => if gd_ok (gN m3) r0 3 = true then ((gd_call 39 [.ref r0, .int x2, .int x3] m3).bind (gd_kI fun z8 m6 => if (z8 = 0 : Prop) then (if gd_ok (gN m6) r0 3 = true then (if gd_ok (gN m6) (gR m6 r0 3) 1 = true then (if gd_ok (gN m6) (gR m6 r0 0) 5 = true then (if gd_okA (gN m6) (gR m6 (gR m6 r0 3) 11) 10 x1 = true then ((gd_call 35 [.ref r0, .int z8] (wI m6 (gR m6 (gR m6 r0 3) 11) (x1 : Int32).toNatClampNeg (gI m6 (gR m6 r0 0) 7))).bind (gd_kI fun z17 m15 => if gd_bo z17 = true then some (.int z17, m15) else none)) else none) else none) else none) else none) else (if gd_ok (gN m6) r0 3 = true then ((gd_call 35 [.ref r0, .int z8] m6).bind (gd_kI fun z21 m19 => if gd_bo z21 = true then some (.int z21, m19) else none)) else none))) else none)) else none) else none := by
  refine Eq.trans (show gd_call 56 [.ref r0, .int x1, .int x2, .int x3] m = gd_Den (56, 0, [.ref r0, .int x1, .int x2, .int x3, .null], [], m) from by unfold gd_call gd_ent; rw [gk_ml56]; rfl) ?_
  refine Eq.trans (D_aload_n (x := r0) gk_f56_0 rfl) ?_
  refine Eq.trans (D_gfR gk_f56_1 (by decide)) ?_
  refine gd_ite (fun h1 => ?_) (fun _ => rfl)
  refine Eq.trans (D_ivV (cl := 5) (args := [.ref (gR m r0 0)]) (rest := []) gk_f56_4 rfl rfl (gd_rmk gk_rm56_32 gk_ln32 gk_ml32 rfl rfl rfl) gk_rk32 (gd_hnd_n gk_nc56) gk_nc32 gk_n11_32 gk_cl32) ?_
  refine gd_ite (fun h2 => ?_) (fun _ => rfl)
  refine gd_bnd (gd_kV_c fun m3 => ?_)
  refine Eq.trans (D_aload_n (x := r0) gk_f56_7 rfl) ?_
  refine Eq.trans (D_iload_n (x := x2) gk_f56_8 rfl) ?_
  refine Eq.trans (D_iload_n (x := x3) gk_f56_9 rfl) ?_
  refine Eq.trans (D_ivI (cl := 3) (args := [.ref r0, .int x2, .int x3]) (rest := []) gk_f56_10 rfl rfl (gd_rmk gk_rm56_39 gk_ln39 gk_ml39 rfl rfl rfl) gk_rk39 (gd_hnd_n gk_nc56) gk_nc39 gk_n11_39 gk_cl39) ?_
  refine gd_ite (fun h5 => ?_) (fun _ => rfl)
  refine gd_bnd (gd_kI_c fun z8 m6 => ?_)
  refine Eq.trans (D_istore gk_f56_13 gk_st56_4) ?_
  refine Eq.trans (D_iload (x := z8) gk_f56_15 rfl) ?_
  refine Eq.trans (D_if_ne (t := 36) gk_f56_17 (by decide)) ?_
  refine gd_ite (fun h9 => ?_) (fun h10 => ?_)
  · refine Eq.trans (D_aload_n (x := r0) gk_f56_20 rfl) ?_
    refine Eq.trans (D_gfR gk_f56_21 (by decide)) ?_
    refine gd_ite (fun h11 => ?_) (fun _ => rfl)
    refine Eq.trans (D_gfR gk_f56_24 (by decide)) ?_
    refine gd_ite (fun h12 => ?_) (fun _ => rfl)
    refine Eq.trans (D_iload_n (x := x1) gk_f56_27 rfl) ?_
    refine Eq.trans (D_aload_n (x := r0) gk_f56_28 rfl) ?_
    refine Eq.trans (D_gfR gk_f56_29 (by decide)) ?_
    refine Eq.trans (if_pos h11) ?_
    refine Eq.trans (D_gfI gk_f56_32 (by decide) (by decide) (by decide)) ?_
    refine gd_ite (fun h13 => ?_) (fun _ => rfl)
    refine Eq.trans (D_iast gk_f56_35) ?_
    refine gd_ite (fun h14 => ?_) (fun _ => rfl)
    refine Eq.trans (D_aload_n (x := r0) gk_f56_36 rfl) ?_
    refine Eq.trans (D_iload (x := z8) gk_f56_37 rfl) ?_
    refine Eq.trans (D_ivZ (cl := 3) (args := [.ref r0, .int z8]) (rest := []) gk_f56_39 rfl rfl (gd_rmk gk_rm56_35 gk_ln35 gk_ml35 rfl rfl rfl) gk_rk35 (gd_hnd_n gk_nc56) gk_nc35 gk_n11_35 gk_cl35) ?_
    refine Eq.trans (if_pos h11) ?_
    refine gd_bnd (gd_kI_c fun z17 m15 => ?_)
    refine Eq.trans (D_zreturn gk_f56_42 gk_rk56) ?_
    rfl
  · refine Eq.trans (D_aload_n (x := r0) gk_f56_36 rfl) ?_
    refine Eq.trans (D_iload (x := z8) gk_f56_37 rfl) ?_
    refine Eq.trans (D_ivZ (cl := 3) (args := [.ref r0, .int z8]) (rest := []) gk_f56_39 rfl rfl (gd_rmk gk_rm56_35 gk_ln35 gk_ml35 rfl rfl rfl) gk_rk35 (gd_hnd_n gk_nc56) gk_nc35 gk_n11_35 gk_cl35) ?_
    refine gd_ite (fun h18 => ?_) (fun _ => rfl)
    refine gd_bnd (gd_kI_c fun z21 m19 => ?_)
    refine Eq.trans (D_zreturn gk_f56_42 gk_rk56) ?_
    rfl
/-! GymDesk$Reader.readNumbers (I)Z -/
set_option maxRecDepth 20000 in
theorem gk_f57_0 : gd_fetch 57 0 = some (0, .iload_n 1, 1, 0, 0, 0, 0, 0) := rfl
set_option maxRecDepth 20000 in
theorem gk_f57_1 : gd_fetch 57 1 = some (1, .tableswitch 179 4 8 #[35, 47, 179, 89, 129], 35, 0, 0, 0, 0, 0) := rfl
set_option maxRecDepth 20000 in
theorem gk_f57_36 : gd_fetch 57 36 = some (36, .aload_n 0, 1, 0, 0, 0, 0, 0) := rfl
set_option maxRecDepth 20000 in
theorem gk_f57_37 : gd_fetch 57 37 = some (37, .iconst 5, 1, 0, 0, 0, 0, 0) := rfl
set_option maxRecDepth 20000 in
theorem gk_f57_38 : gd_fetch 57 38 = some (38, .iconst 1, 1, 0, 0, 0, 0, 0) := rfl
set_option maxRecDepth 20000 in
theorem gk_f57_39 : gd_fetch 57 39 = some (39, .bipush 10, 2, 0, 0, 0, 0, 0) := rfl
set_option maxRecDepth 20000 in
theorem gk_f57_41 : gd_fetch 57 41 = some (41, .invokevirtual 161, 3, 650, 56, 3, 0, 0) := rfl
set_option maxRecDepth 20000 in
theorem gk_f57_44 : gd_fetch 57 44 = some (44, .istore_n 2, 1, 0, 0, 0, 0, 0) := rfl
set_option maxRecDepth 20000 in
theorem gk_f57_45 : gd_fetch 57 45 = some (45, .goto 174, 3, 0, 0, 0, 0, 0) := rfl
set_option maxRecDepth 20000 in
theorem gk_f57_48 : gd_fetch 57 48 = some (48, .aload_n 0, 1, 0, 0, 0, 0, 0) := rfl
set_option maxRecDepth 20000 in
theorem gk_f57_49 : gd_fetch 57 49 = some (49, .bipush 6, 2, 0, 0, 0, 0, 0) := rfl
set_option maxRecDepth 20000 in
theorem gk_f57_51 : gd_fetch 57 51 = some (51, .iconst 1, 1, 0, 0, 0, 0, 0) := rfl
set_option maxRecDepth 20000 in
theorem gk_f57_52 : gd_fetch 57 52 = some (52, .bipush 10, 2, 0, 0, 0, 0, 0) := rfl
set_option maxRecDepth 20000 in
theorem gk_f57_54 : gd_fetch 57 54 = some (54, .invokevirtual 161, 3, 650, 56, 3, 0, 0) := rfl
set_option maxRecDepth 20000 in
theorem gk_f57_57 : gd_fetch 57 57 = some (57, .ifCond .eq 28, 3, 0, 0, 0, 0, 0) := rfl
set_option maxRecDepth 20000 in
theorem gk_f57_60 : gd_fetch 57 60 = some (60, .aload_n 0, 1, 0, 0, 0, 0, 0) := rfl
set_option maxRecDepth 20000 in
theorem gk_f57_61 : gd_fetch 57 61 = some (61, .bipush 15, 2, 0, 0, 0, 0, 0) := rfl
set_option maxRecDepth 20000 in
theorem gk_f57_63 : gd_fetch 57 63 = some (63, .invokevirtual 110, 3, 590, 41, 1, 0, 0) := rfl
set_option maxRecDepth 20000 in
theorem gk_f57_66 : gd_fetch 57 66 = some (66, .ifCond .eq 19, 3, 0, 0, 0, 0, 0) := rfl
set_option maxRecDepth 20000 in
theorem gk_f57_69 : gd_fetch 57 69 = some (69, .aload_n 0, 1, 0, 0, 0, 0, 0) := rfl
set_option maxRecDepth 20000 in
theorem gk_f57_70 : gd_fetch 57 70 = some (70, .bipush 7, 2, 0, 0, 0, 0, 0) := rfl
set_option maxRecDepth 20000 in
theorem gk_f57_72 : gd_fetch 57 72 = some (72, .iconst 1, 1, 0, 0, 0, 0, 0) := rfl
set_option maxRecDepth 20000 in
theorem gk_f57_73 : gd_fetch 57 73 = some (73, .bipush 99, 2, 0, 0, 0, 0, 0) := rfl
set_option maxRecDepth 20000 in
theorem gk_f57_75 : gd_fetch 57 75 = some (75, .invokevirtual 161, 3, 650, 56, 3, 0, 0) := rfl
set_option maxRecDepth 20000 in
theorem gk_f57_78 : gd_fetch 57 78 = some (78, .ifCond .eq 7, 3, 0, 0, 0, 0, 0) := rfl
set_option maxRecDepth 20000 in
theorem gk_f57_81 : gd_fetch 57 81 = some (81, .iconst 1, 1, 0, 0, 0, 0, 0) := rfl
set_option maxRecDepth 20000 in
theorem gk_f57_82 : gd_fetch 57 82 = some (82, .goto 4, 3, 0, 0, 0, 0, 0) := rfl
set_option maxRecDepth 20000 in
theorem gk_f57_85 : gd_fetch 57 85 = some (85, .iconst 0, 1, 0, 0, 0, 0, 0) := rfl
set_option maxRecDepth 20000 in
theorem gk_f57_86 : gd_fetch 57 86 = some (86, .istore_n 2, 1, 0, 0, 0, 0, 0) := rfl
set_option maxRecDepth 20000 in
theorem gk_f57_87 : gd_fetch 57 87 = some (87, .goto 132, 3, 0, 0, 0, 0, 0) := rfl
set_option maxRecDepth 20000 in
theorem gk_f57_90 : gd_fetch 57 90 = some (90, .aload_n 0, 1, 0, 0, 0, 0, 0) := rfl
set_option maxRecDepth 20000 in
theorem gk_f57_91 : gd_fetch 57 91 = some (91, .iconst 3, 1, 0, 0, 0, 0, 0) := rfl
set_option maxRecDepth 20000 in
theorem gk_f57_92 : gd_fetch 57 92 = some (92, .iconst 1, 1, 0, 0, 0, 0, 0) := rfl
set_option maxRecDepth 20000 in
theorem gk_f57_93 : gd_fetch 57 93 = some (93, .bipush 6, 2, 0, 0, 0, 0, 0) := rfl
set_option maxRecDepth 20000 in
theorem gk_f57_95 : gd_fetch 57 95 = some (95, .invokevirtual 161, 3, 650, 56, 3, 0, 0) := rfl
set_option maxRecDepth 20000 in
theorem gk_f57_98 : gd_fetch 57 98 = some (98, .ifCond .eq 27, 3, 0, 0, 0, 0, 0) := rfl
set_option maxRecDepth 20000 in
theorem gk_f57_101 : gd_fetch 57 101 = some (101, .aload_n 0, 1, 0, 0, 0, 0, 0) := rfl
set_option maxRecDepth 20000 in
theorem gk_f57_102 : gd_fetch 57 102 = some (102, .bipush 17, 2, 0, 0, 0, 0, 0) := rfl
set_option maxRecDepth 20000 in
theorem gk_f57_104 : gd_fetch 57 104 = some (104, .invokevirtual 110, 3, 590, 41, 1, 0, 0) := rfl
set_option maxRecDepth 20000 in
theorem gk_f57_107 : gd_fetch 57 107 = some (107, .ifCond .eq 18, 3, 0, 0, 0, 0, 0) := rfl
set_option maxRecDepth 20000 in
theorem gk_f57_110 : gd_fetch 57 110 = some (110, .aload_n 0, 1, 0, 0, 0, 0, 0) := rfl
set_option maxRecDepth 20000 in
theorem gk_f57_111 : gd_fetch 57 111 = some (111, .iconst 4, 1, 0, 0, 0, 0, 0) := rfl
set_option maxRecDepth 20000 in
theorem gk_f57_112 : gd_fetch 57 112 = some (112, .iconst 0, 1, 0, 0, 0, 0, 0) := rfl
set_option maxRecDepth 20000 in
theorem gk_f57_113 : gd_fetch 57 113 = some (113, .bipush 50, 2, 0, 0, 0, 0, 0) := rfl
set_option maxRecDepth 20000 in
theorem gk_f57_115 : gd_fetch 57 115 = some (115, .invokevirtual 161, 3, 650, 56, 3, 0, 0) := rfl
set_option maxRecDepth 20000 in
theorem gk_f57_118 : gd_fetch 57 118 = some (118, .ifCond .eq 7, 3, 0, 0, 0, 0, 0) := rfl
set_option maxRecDepth 20000 in
theorem gk_f57_121 : gd_fetch 57 121 = some (121, .iconst 1, 1, 0, 0, 0, 0, 0) := rfl
set_option maxRecDepth 20000 in
theorem gk_f57_122 : gd_fetch 57 122 = some (122, .goto 4, 3, 0, 0, 0, 0, 0) := rfl
set_option maxRecDepth 20000 in
theorem gk_f57_125 : gd_fetch 57 125 = some (125, .iconst 0, 1, 0, 0, 0, 0, 0) := rfl
set_option maxRecDepth 20000 in
theorem gk_f57_126 : gd_fetch 57 126 = some (126, .istore_n 2, 1, 0, 0, 0, 0, 0) := rfl
set_option maxRecDepth 20000 in
theorem gk_f57_127 : gd_fetch 57 127 = some (127, .goto 92, 3, 0, 0, 0, 0, 0) := rfl
set_option maxRecDepth 20000 in
theorem gk_f57_130 : gd_fetch 57 130 = some (130, .aload_n 0, 1, 0, 0, 0, 0, 0) := rfl
set_option maxRecDepth 20000 in
theorem gk_f57_131 : gd_fetch 57 131 = some (131, .bipush 8, 2, 0, 0, 0, 0, 0) := rfl
set_option maxRecDepth 20000 in
theorem gk_f57_133 : gd_fetch 57 133 = some (133, .iconst 1, 1, 0, 0, 0, 0, 0) := rfl
set_option maxRecDepth 20000 in
theorem gk_f57_134 : gd_fetch 57 134 = some (134, .bipush 6, 2, 0, 0, 0, 0, 0) := rfl
set_option maxRecDepth 20000 in
theorem gk_f57_136 : gd_fetch 57 136 = some (136, .invokevirtual 161, 3, 650, 56, 3, 0, 0) := rfl
set_option maxRecDepth 20000 in
theorem gk_f57_139 : gd_fetch 57 139 = some (139, .ifCond .eq 36, 3, 0, 0, 0, 0, 0) := rfl
set_option maxRecDepth 20000 in
theorem gk_f57_142 : gd_fetch 57 142 = some (142, .aload_n 0, 1, 0, 0, 0, 0, 0) := rfl
set_option maxRecDepth 20000 in
theorem gk_f57_143 : gd_fetch 57 143 = some (143, .bipush 14, 2, 0, 0, 0, 0, 0) := rfl
set_option maxRecDepth 20000 in
theorem gk_f57_145 : gd_fetch 57 145 = some (145, .invokevirtual 110, 3, 590, 41, 1, 0, 0) := rfl
set_option maxRecDepth 20000 in
theorem gk_f57_148 : gd_fetch 57 148 = some (148, .ifCond .eq 27, 3, 0, 0, 0, 0, 0) := rfl
set_option maxRecDepth 20000 in
theorem gk_f57_151 : gd_fetch 57 151 = some (151, .aload_n 0, 1, 0, 0, 0, 0, 0) := rfl
set_option maxRecDepth 20000 in
theorem gk_f57_152 : gd_fetch 57 152 = some (152, .bipush 9, 2, 0, 0, 0, 0, 0) := rfl
set_option maxRecDepth 20000 in
theorem gk_f57_154 : gd_fetch 57 154 = some (154, .iconst 1, 1, 0, 0, 0, 0, 0) := rfl
set_option maxRecDepth 20000 in
theorem gk_f57_155 : gd_fetch 57 155 = some (155, .aload_n 0, 1, 0, 0, 0, 0, 0) := rfl
set_option maxRecDepth 20000 in
theorem gk_f57_156 : gd_fetch 57 156 = some (156, .getfield 29, 3, 215, 3, 3, 4, 0) := rfl
set_option maxRecDepth 20000 in
theorem gk_f57_159 : gd_fetch 57 159 = some (159, .getfield 165, 3, 349, 1, 11, 4, 1) := rfl
set_option maxRecDepth 20000 in
theorem gk_f57_162 : gd_fetch 57 162 = some (162, .bipush 8, 2, 0, 0, 0, 0, 0) := rfl
set_option maxRecDepth 20000 in
theorem gk_f57_164 : gd_fetch 57 164 = some (164, .iaload, 1, 0, 0, 0, 0, 0) := rfl
set_option maxRecDepth 20000 in
theorem gk_f57_165 : gd_fetch 57 165 = some (165, .invokevirtual 161, 3, 650, 56, 3, 0, 0) := rfl
set_option maxRecDepth 20000 in
theorem gk_f57_168 : gd_fetch 57 168 = some (168, .ifCond .eq 7, 3, 0, 0, 0, 0, 0) := rfl
set_option maxRecDepth 20000 in
theorem gk_f57_171 : gd_fetch 57 171 = some (171, .iconst 1, 1, 0, 0, 0, 0, 0) := rfl
set_option maxRecDepth 20000 in
theorem gk_f57_172 : gd_fetch 57 172 = some (172, .goto 4, 3, 0, 0, 0, 0, 0) := rfl
set_option maxRecDepth 20000 in
theorem gk_f57_175 : gd_fetch 57 175 = some (175, .iconst 0, 1, 0, 0, 0, 0, 0) := rfl
set_option maxRecDepth 20000 in
theorem gk_f57_176 : gd_fetch 57 176 = some (176, .istore_n 2, 1, 0, 0, 0, 0, 0) := rfl
set_option maxRecDepth 20000 in
theorem gk_f57_177 : gd_fetch 57 177 = some (177, .goto 42, 3, 0, 0, 0, 0, 0) := rfl
set_option maxRecDepth 20000 in
theorem gk_f57_180 : gd_fetch 57 180 = some (180, .aload_n 0, 1, 0, 0, 0, 0, 0) := rfl
set_option maxRecDepth 20000 in
theorem gk_f57_181 : gd_fetch 57 181 = some (181, .bipush 10, 2, 0, 0, 0, 0, 0) := rfl
set_option maxRecDepth 20000 in
theorem gk_f57_183 : gd_fetch 57 183 = some (183, .iconst 1, 1, 0, 0, 0, 0, 0) := rfl
set_option maxRecDepth 20000 in
theorem gk_f57_184 : gd_fetch 57 184 = some (184, .bipush 10, 2, 0, 0, 0, 0, 0) := rfl
set_option maxRecDepth 20000 in
theorem gk_f57_186 : gd_fetch 57 186 = some (186, .invokevirtual 161, 3, 650, 56, 3, 0, 0) := rfl
set_option maxRecDepth 20000 in
theorem gk_f57_189 : gd_fetch 57 189 = some (189, .ifCond .eq 28, 3, 0, 0, 0, 0, 0) := rfl
set_option maxRecDepth 20000 in
theorem gk_f57_192 : gd_fetch 57 192 = some (192, .aload_n 0, 1, 0, 0, 0, 0, 0) := rfl
set_option maxRecDepth 20000 in
theorem gk_f57_193 : gd_fetch 57 193 = some (193, .bipush 18, 2, 0, 0, 0, 0, 0) := rfl
set_option maxRecDepth 20000 in
theorem gk_f57_195 : gd_fetch 57 195 = some (195, .invokevirtual 110, 3, 590, 41, 1, 0, 0) := rfl
set_option maxRecDepth 20000 in
theorem gk_f57_198 : gd_fetch 57 198 = some (198, .ifCond .eq 19, 3, 0, 0, 0, 0, 0) := rfl
set_option maxRecDepth 20000 in
theorem gk_f57_201 : gd_fetch 57 201 = some (201, .aload_n 0, 1, 0, 0, 0, 0, 0) := rfl
set_option maxRecDepth 20000 in
theorem gk_f57_202 : gd_fetch 57 202 = some (202, .bipush 11, 2, 0, 0, 0, 0, 0) := rfl
set_option maxRecDepth 20000 in
theorem gk_f57_204 : gd_fetch 57 204 = some (204, .iconst 1, 1, 0, 0, 0, 0, 0) := rfl
set_option maxRecDepth 20000 in
theorem gk_f57_205 : gd_fetch 57 205 = some (205, .bipush 10, 2, 0, 0, 0, 0, 0) := rfl
set_option maxRecDepth 20000 in
theorem gk_f57_207 : gd_fetch 57 207 = some (207, .invokevirtual 161, 3, 650, 56, 3, 0, 0) := rfl
set_option maxRecDepth 20000 in
theorem gk_f57_210 : gd_fetch 57 210 = some (210, .ifCond .eq 7, 3, 0, 0, 0, 0, 0) := rfl
set_option maxRecDepth 20000 in
theorem gk_f57_213 : gd_fetch 57 213 = some (213, .iconst 1, 1, 0, 0, 0, 0, 0) := rfl
set_option maxRecDepth 20000 in
theorem gk_f57_214 : gd_fetch 57 214 = some (214, .goto 4, 3, 0, 0, 0, 0, 0) := rfl
set_option maxRecDepth 20000 in
theorem gk_f57_217 : gd_fetch 57 217 = some (217, .iconst 0, 1, 0, 0, 0, 0, 0) := rfl
set_option maxRecDepth 20000 in
theorem gk_f57_218 : gd_fetch 57 218 = some (218, .istore_n 2, 1, 0, 0, 0, 0, 0) := rfl
set_option maxRecDepth 20000 in
theorem gk_f57_219 : gd_fetch 57 219 = some (219, .iload_n 2, 1, 0, 0, 0, 0, 0) := rfl
set_option maxRecDepth 20000 in
theorem gk_f57_220 : gd_fetch 57 220 = some (220, .ifCond .ne 5, 3, 0, 0, 0, 0, 0) := rfl
set_option maxRecDepth 20000 in
theorem gk_f57_223 : gd_fetch 57 223 = some (223, .iconst 0, 1, 0, 0, 0, 0, 0) := rfl
set_option maxRecDepth 20000 in
theorem gk_f57_224 : gd_fetch 57 224 = some (224, .ireturn, 1, 0, 0, 0, 0, 0) := rfl
set_option maxRecDepth 20000 in
theorem gk_f57_225 : gd_fetch 57 225 = some (225, .aload_n 0, 1, 0, 0, 0, 0, 0) := rfl
set_option maxRecDepth 20000 in
theorem gk_f57_226 : gd_fetch 57 226 = some (226, .getfield 12, 3, 212, 3, 0, 4, 1) := rfl
set_option maxRecDepth 20000 in
theorem gk_f57_229 : gd_fetch 57 229 = some (229, .invokevirtual 48, 3, 534, 32, 0, 0, 0) := rfl
set_option maxRecDepth 20000 in
theorem gk_f57_232 : gd_fetch 57 232 = some (232, .aload_n 0, 1, 0, 0, 0, 0, 0) := rfl
set_option maxRecDepth 20000 in
theorem gk_f57_233 : gd_fetch 57 233 = some (233, .invokevirtual 123, 3, 602, 44, 0, 0, 0) := rfl
set_option maxRecDepth 20000 in
theorem gk_f57_236 : gd_fetch 57 236 = some (236, .ireturn, 1, 0, 0, 0, 0, 0) := rfl
set_option maxRecDepth 20000 in
set_option maxHeartbeats 4000000 in
theorem q_Re_readNumbers (r0 : Nat) (x1 : Int32) (m : gd_M) : gd_call 57 [.ref r0, .int x1] m = if x1 = 4 then (if gd_ok (gN m) r0 3 = true then ((gd_call 56 [.ref r0, .int 5, .int 1, .int 10] m).bind (gd_kI fun z6 m4 => if (z6 = 0 : Prop) then (some (.int 0, m4)) else (if gd_ok (gN m4) r0 3 = true then (if gd_ok (gN m4) (gR m4 r0 0) 5 = true then ((gd_call 32 [.ref (gR m4 r0 0)] m4).bind (gd_kV fun m11 => if gd_ok (gN m11) r0 3 = true then ((gd_call 44 [.ref r0] m11).bind (gd_kI fun z16 m14 => if gd_bo z16 = true then some (.int z16, m14) else none)) else none)) else none) else none))) else none) else if x1 = 5 then (if gd_ok (gN m) r0 3 = true then ((gd_call 56 [.ref r0, .int 6, .int 1, .int 10] m).bind (gd_kI fun z22 m20 => if (z22 = 0 : Prop) then (some (.int 0, m20)) else (if gd_ok (gN m20) r0 3 = true then ((gd_call 41 [.ref r0, .int 15] m20).bind (gd_kI fun z28 m26 => if (z28 = 0 : Prop) then (some (.int 0, m26)) else (if gd_ok (gN m26) r0 3 = true then ((gd_call 56 [.ref r0, .int 7, .int 1, .int 99] m26).bind (gd_kI fun z34 m32 => if (z34 = 0 : Prop) then (some (.int 0, m32)) else (if gd_ok (gN m32) r0 3 = true then (if gd_ok (gN m32) (gR m32 r0 0) 5 = true then ((gd_call 32 [.ref (gR m32 r0 0)] m32).bind (gd_kV fun m39 => if gd_ok (gN m39) r0 3 = true then ((gd_call 44 [.ref r0] m39).bind (gd_kI fun z44 m42 => if gd_bo z44 = true then some (.int z44, m42) else none)) else none)) else none) else none))) else none))) else none))) else none) else if x1 = 6 then (if gd_ok (gN m) r0 3 = true then ((gd_call 56 [.ref r0, .int 10, .int 1, .int 10] m).bind (gd_kI fun z50 m48 => if (z50 = 0 : Prop) then (some (.int 0, m48)) else (if gd_ok (gN m48) r0 3 = true then ((gd_call 41 [.ref r0, .int 18] m48).bind (gd_kI fun z56 m54 => if (z56 = 0 : Prop) then (some (.int 0, m54)) else (if gd_ok (gN m54) r0 3 = true then ((gd_call 56 [.ref r0, .int 11, .int 1, .int 10] m54).bind (gd_kI fun z62 m60 => if (z62 = 0 : Prop) then (some (.int 0, m60)) else (if gd_ok (gN m60) r0 3 = true then (if gd_ok (gN m60) (gR m60 r0 0) 5 = true then ((gd_call 32 [.ref (gR m60 r0 0)] m60).bind (gd_kV fun m67 => if gd_ok (gN m67) r0 3 = true then ((gd_call 44 [.ref r0] m67).bind (gd_kI fun z72 m70 => if gd_bo z72 = true then some (.int z72, m70) else none)) else none)) else none) else none))) else none))) else none))) else none) else if x1 = 7 then (if gd_ok (gN m) r0 3 = true then ((gd_call 56 [.ref r0, .int 3, .int 1, .int 6] m).bind (gd_kI fun z78 m76 => if (z78 = 0 : Prop) then (some (.int 0, m76)) else (if gd_ok (gN m76) r0 3 = true then ((gd_call 41 [.ref r0, .int 17] m76).bind (gd_kI fun z84 m82 => if (z84 = 0 : Prop) then (some (.int 0, m82)) else (if gd_ok (gN m82) r0 3 = true then ((gd_call 56 [.ref r0, .int 4, .int 0, .int 50] m82).bind (gd_kI fun z90 m88 => if (z90 = 0 : Prop) then (some (.int 0, m88)) else (if gd_ok (gN m88) r0 3 = true then (if gd_ok (gN m88) (gR m88 r0 0) 5 = true then ((gd_call 32 [.ref (gR m88 r0 0)] m88).bind (gd_kV fun m95 => if gd_ok (gN m95) r0 3 = true then ((gd_call 44 [.ref r0] m95).bind (gd_kI fun z100 m98 => if gd_bo z100 = true then some (.int z100, m98) else none)) else none)) else none) else none))) else none))) else none))) else none) else if x1 = 8 then (if gd_ok (gN m) r0 3 = true then ((gd_call 56 [.ref r0, .int 8, .int 1, .int 6] m).bind (gd_kI fun z106 m104 => if (z106 = 0 : Prop) then (some (.int 0, m104)) else (if gd_ok (gN m104) r0 3 = true then ((gd_call 41 [.ref r0, .int 14] m104).bind (gd_kI fun z112 m110 => if (z112 = 0 : Prop) then (some (.int 0, m110)) else (if gd_ok (gN m110) r0 3 = true then (if gd_ok (gN m110) (gR m110 r0 3) 1 = true then (if gd_okA (gN m110) (gR m110 (gR m110 r0 3) 11) 10 8 = true then ((gd_call 56 [.ref r0, .int 9, .int 1, .int (gI m110 (gR m110 (gR m110 r0 3) 11) (8 : Int32).toNatClampNeg)] m110).bind (gd_kI fun z120 m118 => if (z120 = 0 : Prop) then (some (.int 0, m118)) else (if gd_ok (gN m118) r0 3 = true then (if gd_ok (gN m118) (gR m118 r0 0) 5 = true then ((gd_call 32 [.ref (gR m118 r0 0)] m118).bind (gd_kV fun m125 => if gd_ok (gN m125) r0 3 = true then ((gd_call 44 [.ref r0] m125).bind (gd_kI fun z130 m128 => if gd_bo z130 = true then some (.int z130, m128) else none)) else none)) else none) else none))) else none) else none) else none))) else none))) else none) else (if gd_ok (gN m) r0 3 = true then ((gd_call 56 [.ref r0, .int 10, .int 1, .int 10] m).bind (gd_kI fun z134 m132 => if (z134 = 0 : Prop) then (some (.int 0, m132)) else (if gd_ok (gN m132) r0 3 = true then ((gd_call 41 [.ref r0, .int 18] m132).bind (gd_kI fun z140 m138 => if (z140 = 0 : Prop) then (some (.int 0, m138)) else (if gd_ok (gN m138) r0 3 = true then ((gd_call 56 [.ref r0, .int 11, .int 1, .int 10] m138).bind (gd_kI fun z146 m144 => if (z146 = 0 : Prop) then (some (.int 0, m144)) else (if gd_ok (gN m144) r0 3 = true then (if gd_ok (gN m144) (gR m144 r0 0) 5 = true then ((gd_call 32 [.ref (gR m144 r0 0)] m144).bind (gd_kV fun m151 => if gd_ok (gN m151) r0 3 = true then ((gd_call 44 [.ref r0] m151).bind (gd_kI fun z156 m154 => if gd_bo z156 = true then some (.int z156, m154) else none)) else none)) else none) else none))) else none))) else none))) else none) := by
  refine Eq.trans (show gd_call 57 [.ref r0, .int x1] m = gd_Den (57, 0, [.ref r0, .int x1, .null], [], m) from by unfold gd_call gd_ent; rw [gk_ml57]; rfl) ?_
  refine Eq.trans (D_iload_n (x := x1) gk_f57_0 rfl) ?_
  refine Eq.trans (D_tsw (vs := [(4, 36), (5, 48), (6, 180), (7, 90), (8, 130)]) (t := 180) gk_f57_1 (by decide) (by decide)) ?_
  refine gd_ite (fun h1 => ?_) (fun h2 => ?_)
  · refine Eq.trans (D_aload_n (x := r0) gk_f57_36 rfl) ?_
    refine Eq.trans (D_iconst (x := 5) gk_f57_37 gk_c_5) ?_
    refine Eq.trans (D_iconst (x := 1) gk_f57_38 gk_c_1) ?_
    refine Eq.trans (D_bipush (x := 10) gk_f57_39 gk_b_10) ?_
    refine Eq.trans (D_ivZ (cl := 3) (args := [.ref r0, .int 5, .int 1, .int 10]) (rest := []) gk_f57_41 rfl rfl (gd_rmk gk_rm57_56 gk_ln56 gk_ml56 rfl rfl rfl) gk_rk56 (gd_hnd_n gk_nc57) gk_nc56 gk_n11_56 gk_cl56) ?_
    refine gd_ite (fun h3 => ?_) (fun _ => rfl)
    refine gd_bnd (gd_kI_c fun z6 m4 => ?_)
    refine Eq.trans (D_istore_n gk_f57_44 gk_st57_2) ?_
    refine Eq.trans (D_goto (t := 219) gk_f57_45 (by decide)) ?_
    refine Eq.trans (D_iload_n (x := z6) gk_f57_219 rfl) ?_
    refine Eq.trans (D_if_ne (t := 225) gk_f57_220 (by decide)) ?_
    refine gd_ite (fun h7 => ?_) (fun h8 => ?_)
    · refine Eq.trans (D_iconst (x := 0) gk_f57_223 gk_c_0) ?_
      refine Eq.trans (D_zreturn gk_f57_224 gk_rk57) ?_
      exact if_pos rfl
    · refine Eq.trans (D_aload_n (x := r0) gk_f57_225 rfl) ?_
      refine Eq.trans (D_gfR gk_f57_226 (by decide)) ?_
      refine gd_ite (fun h9 => ?_) (fun _ => rfl)
      refine Eq.trans (D_ivV (cl := 5) (args := [.ref (gR m4 r0 0)]) (rest := []) gk_f57_229 rfl rfl (gd_rmk gk_rm57_32 gk_ln32 gk_ml32 rfl rfl rfl) gk_rk32 (gd_hnd_n gk_nc57) gk_nc32 gk_n11_32 gk_cl32) ?_
      refine gd_ite (fun h10 => ?_) (fun _ => rfl)
      refine gd_bnd (gd_kV_c fun m11 => ?_)
      refine Eq.trans (D_aload_n (x := r0) gk_f57_232 rfl) ?_
      refine Eq.trans (D_ivZ (cl := 3) (args := [.ref r0]) (rest := []) gk_f57_233 rfl rfl (gd_rmk gk_rm57_44 gk_ln44 gk_ml44 rfl rfl rfl) gk_rk44 (gd_hnd_n gk_nc57) gk_nc44 gk_n11_44 gk_cl44) ?_
      refine gd_ite (fun h13 => ?_) (fun _ => rfl)
      refine gd_bnd (gd_kI_c fun z16 m14 => ?_)
      refine Eq.trans (D_zreturn gk_f57_236 gk_rk57) ?_
      rfl
  refine gd_ite (fun h17 => ?_) (fun h18 => ?_)
  · refine Eq.trans (D_aload_n (x := r0) gk_f57_48 rfl) ?_
    refine Eq.trans (D_bipush (x := 6) gk_f57_49 gk_b_6) ?_
    refine Eq.trans (D_iconst (x := 1) gk_f57_51 gk_c_1) ?_
    refine Eq.trans (D_bipush (x := 10) gk_f57_52 gk_b_10) ?_
    refine Eq.trans (D_ivZ (cl := 3) (args := [.ref r0, .int 6, .int 1, .int 10]) (rest := []) gk_f57_54 rfl rfl (gd_rmk gk_rm57_56 gk_ln56 gk_ml56 rfl rfl rfl) gk_rk56 (gd_hnd_n gk_nc57) gk_nc56 gk_n11_56 gk_cl56) ?_
    refine gd_ite (fun h19 => ?_) (fun _ => rfl)
    refine gd_bnd (gd_kI_c fun z22 m20 => ?_)
    refine Eq.trans (D_if_eq (t := 85) gk_f57_57 (by decide)) ?_
    refine gd_ite (fun h23 => ?_) (fun h24 => ?_)
    · refine Eq.trans (D_iconst (x := 0) gk_f57_85 gk_c_0) ?_
      refine Eq.trans (D_istore_n gk_f57_86 gk_st57_2) ?_
      refine Eq.trans (D_goto (t := 219) gk_f57_87 (by decide)) ?_
      refine Eq.trans (D_iload_n (x := 0) gk_f57_219 rfl) ?_
      refine Eq.trans (D_if_ne (t := 225) gk_f57_220 (by decide)) ?_
      refine Eq.trans (if_pos (by decide)) ?_
      refine Eq.trans (D_iconst (x := 0) gk_f57_223 gk_c_0) ?_
      refine Eq.trans (D_zreturn gk_f57_224 gk_rk57) ?_
      exact if_pos rfl
    · refine Eq.trans (D_aload_n (x := r0) gk_f57_60 rfl) ?_
      refine Eq.trans (D_bipush (x := 15) gk_f57_61 gk_b_15) ?_
      refine Eq.trans (D_ivZ (cl := 3) (args := [.ref r0, .int 15]) (rest := []) gk_f57_63 rfl rfl (gd_rmk gk_rm57_41 gk_ln41 gk_ml41 rfl rfl rfl) gk_rk41 (gd_hnd_n gk_nc57) gk_nc41 gk_n11_41 gk_cl41) ?_
      refine gd_ite (fun h25 => ?_) (fun _ => rfl)
      refine gd_bnd (gd_kI_c fun z28 m26 => ?_)
      refine Eq.trans (D_if_eq (t := 85) gk_f57_66 (by decide)) ?_
      refine gd_ite (fun h29 => ?_) (fun h30 => ?_)
      · refine Eq.trans (D_iconst (x := 0) gk_f57_85 gk_c_0) ?_
        refine Eq.trans (D_istore_n gk_f57_86 gk_st57_2) ?_
        refine Eq.trans (D_goto (t := 219) gk_f57_87 (by decide)) ?_
        refine Eq.trans (D_iload_n (x := 0) gk_f57_219 rfl) ?_
        refine Eq.trans (D_if_ne (t := 225) gk_f57_220 (by decide)) ?_
        refine Eq.trans (if_pos (by decide)) ?_
        refine Eq.trans (D_iconst (x := 0) gk_f57_223 gk_c_0) ?_
        refine Eq.trans (D_zreturn gk_f57_224 gk_rk57) ?_
        exact if_pos rfl
      · refine Eq.trans (D_aload_n (x := r0) gk_f57_69 rfl) ?_
        refine Eq.trans (D_bipush (x := 7) gk_f57_70 gk_b_7) ?_
        refine Eq.trans (D_iconst (x := 1) gk_f57_72 gk_c_1) ?_
        refine Eq.trans (D_bipush (x := 99) gk_f57_73 gk_b_99) ?_
        refine Eq.trans (D_ivZ (cl := 3) (args := [.ref r0, .int 7, .int 1, .int 99]) (rest := []) gk_f57_75 rfl rfl (gd_rmk gk_rm57_56 gk_ln56 gk_ml56 rfl rfl rfl) gk_rk56 (gd_hnd_n gk_nc57) gk_nc56 gk_n11_56 gk_cl56) ?_
        refine gd_ite (fun h31 => ?_) (fun _ => rfl)
        refine gd_bnd (gd_kI_c fun z34 m32 => ?_)
        refine Eq.trans (D_if_eq (t := 85) gk_f57_78 (by decide)) ?_
        refine gd_ite (fun h35 => ?_) (fun h36 => ?_)
        · refine Eq.trans (D_iconst (x := 0) gk_f57_85 gk_c_0) ?_
          refine Eq.trans (D_istore_n gk_f57_86 gk_st57_2) ?_
          refine Eq.trans (D_goto (t := 219) gk_f57_87 (by decide)) ?_
          refine Eq.trans (D_iload_n (x := 0) gk_f57_219 rfl) ?_
          refine Eq.trans (D_if_ne (t := 225) gk_f57_220 (by decide)) ?_
          refine Eq.trans (if_pos (by decide)) ?_
          refine Eq.trans (D_iconst (x := 0) gk_f57_223 gk_c_0) ?_
          refine Eq.trans (D_zreturn gk_f57_224 gk_rk57) ?_
          exact if_pos rfl
        · refine Eq.trans (D_iconst (x := 1) gk_f57_81 gk_c_1) ?_
          refine Eq.trans (D_goto (t := 86) gk_f57_82 (by decide)) ?_
          refine Eq.trans (D_istore_n gk_f57_86 gk_st57_2) ?_
          refine Eq.trans (D_goto (t := 219) gk_f57_87 (by decide)) ?_
          refine Eq.trans (D_iload_n (x := 1) gk_f57_219 rfl) ?_
          refine Eq.trans (D_if_ne (t := 225) gk_f57_220 (by decide)) ?_
          refine Eq.trans (if_neg (by decide)) ?_
          refine Eq.trans (D_aload_n (x := r0) gk_f57_225 rfl) ?_
          refine Eq.trans (D_gfR gk_f57_226 (by decide)) ?_
          refine gd_ite (fun h37 => ?_) (fun _ => rfl)
          refine Eq.trans (D_ivV (cl := 5) (args := [.ref (gR m32 r0 0)]) (rest := []) gk_f57_229 rfl rfl (gd_rmk gk_rm57_32 gk_ln32 gk_ml32 rfl rfl rfl) gk_rk32 (gd_hnd_n gk_nc57) gk_nc32 gk_n11_32 gk_cl32) ?_
          refine gd_ite (fun h38 => ?_) (fun _ => rfl)
          refine gd_bnd (gd_kV_c fun m39 => ?_)
          refine Eq.trans (D_aload_n (x := r0) gk_f57_232 rfl) ?_
          refine Eq.trans (D_ivZ (cl := 3) (args := [.ref r0]) (rest := []) gk_f57_233 rfl rfl (gd_rmk gk_rm57_44 gk_ln44 gk_ml44 rfl rfl rfl) gk_rk44 (gd_hnd_n gk_nc57) gk_nc44 gk_n11_44 gk_cl44) ?_
          refine gd_ite (fun h41 => ?_) (fun _ => rfl)
          refine gd_bnd (gd_kI_c fun z44 m42 => ?_)
          refine Eq.trans (D_zreturn gk_f57_236 gk_rk57) ?_
          rfl
  refine gd_ite (fun h45 => ?_) (fun h46 => ?_)
  · refine Eq.trans (D_aload_n (x := r0) gk_f57_180 rfl) ?_
    refine Eq.trans (D_bipush (x := 10) gk_f57_181 gk_b_10) ?_
    refine Eq.trans (D_iconst (x := 1) gk_f57_183 gk_c_1) ?_
    refine Eq.trans (D_bipush (x := 10) gk_f57_184 gk_b_10) ?_
    refine Eq.trans (D_ivZ (cl := 3) (args := [.ref r0, .int 10, .int 1, .int 10]) (rest := []) gk_f57_186 rfl rfl (gd_rmk gk_rm57_56 gk_ln56 gk_ml56 rfl rfl rfl) gk_rk56 (gd_hnd_n gk_nc57) gk_nc56 gk_n11_56 gk_cl56) ?_
    refine gd_ite (fun h47 => ?_) (fun _ => rfl)
    refine gd_bnd (gd_kI_c fun z50 m48 => ?_)
    refine Eq.trans (D_if_eq (t := 217) gk_f57_189 (by decide)) ?_
    refine gd_ite (fun h51 => ?_) (fun h52 => ?_)
    · refine Eq.trans (D_iconst (x := 0) gk_f57_217 gk_c_0) ?_
      refine Eq.trans (D_istore_n gk_f57_218 gk_st57_2) ?_
      refine Eq.trans (D_iload_n (x := 0) gk_f57_219 rfl) ?_
      refine Eq.trans (D_if_ne (t := 225) gk_f57_220 (by decide)) ?_
      refine Eq.trans (if_pos (by decide)) ?_
      refine Eq.trans (D_iconst (x := 0) gk_f57_223 gk_c_0) ?_
      refine Eq.trans (D_zreturn gk_f57_224 gk_rk57) ?_
      exact if_pos rfl
    · refine Eq.trans (D_aload_n (x := r0) gk_f57_192 rfl) ?_
      refine Eq.trans (D_bipush (x := 18) gk_f57_193 gk_b_18) ?_
      refine Eq.trans (D_ivZ (cl := 3) (args := [.ref r0, .int 18]) (rest := []) gk_f57_195 rfl rfl (gd_rmk gk_rm57_41 gk_ln41 gk_ml41 rfl rfl rfl) gk_rk41 (gd_hnd_n gk_nc57) gk_nc41 gk_n11_41 gk_cl41) ?_
      refine gd_ite (fun h53 => ?_) (fun _ => rfl)
      refine gd_bnd (gd_kI_c fun z56 m54 => ?_)
      refine Eq.trans (D_if_eq (t := 217) gk_f57_198 (by decide)) ?_
      refine gd_ite (fun h57 => ?_) (fun h58 => ?_)
      · refine Eq.trans (D_iconst (x := 0) gk_f57_217 gk_c_0) ?_
        refine Eq.trans (D_istore_n gk_f57_218 gk_st57_2) ?_
        refine Eq.trans (D_iload_n (x := 0) gk_f57_219 rfl) ?_
        refine Eq.trans (D_if_ne (t := 225) gk_f57_220 (by decide)) ?_
        refine Eq.trans (if_pos (by decide)) ?_
        refine Eq.trans (D_iconst (x := 0) gk_f57_223 gk_c_0) ?_
        refine Eq.trans (D_zreturn gk_f57_224 gk_rk57) ?_
        exact if_pos rfl
      · refine Eq.trans (D_aload_n (x := r0) gk_f57_201 rfl) ?_
        refine Eq.trans (D_bipush (x := 11) gk_f57_202 gk_b_11) ?_
        refine Eq.trans (D_iconst (x := 1) gk_f57_204 gk_c_1) ?_
        refine Eq.trans (D_bipush (x := 10) gk_f57_205 gk_b_10) ?_
        refine Eq.trans (D_ivZ (cl := 3) (args := [.ref r0, .int 11, .int 1, .int 10]) (rest := []) gk_f57_207 rfl rfl (gd_rmk gk_rm57_56 gk_ln56 gk_ml56 rfl rfl rfl) gk_rk56 (gd_hnd_n gk_nc57) gk_nc56 gk_n11_56 gk_cl56) ?_
        refine gd_ite (fun h59 => ?_) (fun _ => rfl)
        refine gd_bnd (gd_kI_c fun z62 m60 => ?_)
        refine Eq.trans (D_if_eq (t := 217) gk_f57_210 (by decide)) ?_
        refine gd_ite (fun h63 => ?_) (fun h64 => ?_)
        · refine Eq.trans (D_iconst (x := 0) gk_f57_217 gk_c_0) ?_
          refine Eq.trans (D_istore_n gk_f57_218 gk_st57_2) ?_
          refine Eq.trans (D_iload_n (x := 0) gk_f57_219 rfl) ?_
          refine Eq.trans (D_if_ne (t := 225) gk_f57_220 (by decide)) ?_
          refine Eq.trans (if_pos (by decide)) ?_
          refine Eq.trans (D_iconst (x := 0) gk_f57_223 gk_c_0) ?_
          refine Eq.trans (D_zreturn gk_f57_224 gk_rk57) ?_
          exact if_pos rfl
        · refine Eq.trans (D_iconst (x := 1) gk_f57_213 gk_c_1) ?_
          refine Eq.trans (D_goto (t := 218) gk_f57_214 (by decide)) ?_
          refine Eq.trans (D_istore_n gk_f57_218 gk_st57_2) ?_
          refine Eq.trans (D_iload_n (x := 1) gk_f57_219 rfl) ?_
          refine Eq.trans (D_if_ne (t := 225) gk_f57_220 (by decide)) ?_
          refine Eq.trans (if_neg (by decide)) ?_
          refine Eq.trans (D_aload_n (x := r0) gk_f57_225 rfl) ?_
          refine Eq.trans (D_gfR gk_f57_226 (by decide)) ?_
          refine gd_ite (fun h65 => ?_) (fun _ => rfl)
          refine Eq.trans (D_ivV (cl := 5) (args := [.ref (gR m60 r0 0)]) (rest := []) gk_f57_229 rfl rfl (gd_rmk gk_rm57_32 gk_ln32 gk_ml32 rfl rfl rfl) gk_rk32 (gd_hnd_n gk_nc57) gk_nc32 gk_n11_32 gk_cl32) ?_
          refine gd_ite (fun h66 => ?_) (fun _ => rfl)
          refine gd_bnd (gd_kV_c fun m67 => ?_)
          refine Eq.trans (D_aload_n (x := r0) gk_f57_232 rfl) ?_
          refine Eq.trans (D_ivZ (cl := 3) (args := [.ref r0]) (rest := []) gk_f57_233 rfl rfl (gd_rmk gk_rm57_44 gk_ln44 gk_ml44 rfl rfl rfl) gk_rk44 (gd_hnd_n gk_nc57) gk_nc44 gk_n11_44 gk_cl44) ?_
          refine gd_ite (fun h69 => ?_) (fun _ => rfl)
          refine gd_bnd (gd_kI_c fun z72 m70 => ?_)
          refine Eq.trans (D_zreturn gk_f57_236 gk_rk57) ?_
          rfl
  refine gd_ite (fun h73 => ?_) (fun h74 => ?_)
  · refine Eq.trans (D_aload_n (x := r0) gk_f57_90 rfl) ?_
    refine Eq.trans (D_iconst (x := 3) gk_f57_91 gk_c_3) ?_
    refine Eq.trans (D_iconst (x := 1) gk_f57_92 gk_c_1) ?_
    refine Eq.trans (D_bipush (x := 6) gk_f57_93 gk_b_6) ?_
    refine Eq.trans (D_ivZ (cl := 3) (args := [.ref r0, .int 3, .int 1, .int 6]) (rest := []) gk_f57_95 rfl rfl (gd_rmk gk_rm57_56 gk_ln56 gk_ml56 rfl rfl rfl) gk_rk56 (gd_hnd_n gk_nc57) gk_nc56 gk_n11_56 gk_cl56) ?_
    refine gd_ite (fun h75 => ?_) (fun _ => rfl)
    refine gd_bnd (gd_kI_c fun z78 m76 => ?_)
    refine Eq.trans (D_if_eq (t := 125) gk_f57_98 (by decide)) ?_
    refine gd_ite (fun h79 => ?_) (fun h80 => ?_)
    · refine Eq.trans (D_iconst (x := 0) gk_f57_125 gk_c_0) ?_
      refine Eq.trans (D_istore_n gk_f57_126 gk_st57_2) ?_
      refine Eq.trans (D_goto (t := 219) gk_f57_127 (by decide)) ?_
      refine Eq.trans (D_iload_n (x := 0) gk_f57_219 rfl) ?_
      refine Eq.trans (D_if_ne (t := 225) gk_f57_220 (by decide)) ?_
      refine Eq.trans (if_pos (by decide)) ?_
      refine Eq.trans (D_iconst (x := 0) gk_f57_223 gk_c_0) ?_
      refine Eq.trans (D_zreturn gk_f57_224 gk_rk57) ?_
      exact if_pos rfl
    · refine Eq.trans (D_aload_n (x := r0) gk_f57_101 rfl) ?_
      refine Eq.trans (D_bipush (x := 17) gk_f57_102 gk_b_17) ?_
      refine Eq.trans (D_ivZ (cl := 3) (args := [.ref r0, .int 17]) (rest := []) gk_f57_104 rfl rfl (gd_rmk gk_rm57_41 gk_ln41 gk_ml41 rfl rfl rfl) gk_rk41 (gd_hnd_n gk_nc57) gk_nc41 gk_n11_41 gk_cl41) ?_
      refine gd_ite (fun h81 => ?_) (fun _ => rfl)
      refine gd_bnd (gd_kI_c fun z84 m82 => ?_)
      refine Eq.trans (D_if_eq (t := 125) gk_f57_107 (by decide)) ?_
      refine gd_ite (fun h85 => ?_) (fun h86 => ?_)
      · refine Eq.trans (D_iconst (x := 0) gk_f57_125 gk_c_0) ?_
        refine Eq.trans (D_istore_n gk_f57_126 gk_st57_2) ?_
        refine Eq.trans (D_goto (t := 219) gk_f57_127 (by decide)) ?_
        refine Eq.trans (D_iload_n (x := 0) gk_f57_219 rfl) ?_
        refine Eq.trans (D_if_ne (t := 225) gk_f57_220 (by decide)) ?_
        refine Eq.trans (if_pos (by decide)) ?_
        refine Eq.trans (D_iconst (x := 0) gk_f57_223 gk_c_0) ?_
        refine Eq.trans (D_zreturn gk_f57_224 gk_rk57) ?_
        exact if_pos rfl
      · refine Eq.trans (D_aload_n (x := r0) gk_f57_110 rfl) ?_
        refine Eq.trans (D_iconst (x := 4) gk_f57_111 gk_c_4) ?_
        refine Eq.trans (D_iconst (x := 0) gk_f57_112 gk_c_0) ?_
        refine Eq.trans (D_bipush (x := 50) gk_f57_113 gk_b_50) ?_
        refine Eq.trans (D_ivZ (cl := 3) (args := [.ref r0, .int 4, .int 0, .int 50]) (rest := []) gk_f57_115 rfl rfl (gd_rmk gk_rm57_56 gk_ln56 gk_ml56 rfl rfl rfl) gk_rk56 (gd_hnd_n gk_nc57) gk_nc56 gk_n11_56 gk_cl56) ?_
        refine gd_ite (fun h87 => ?_) (fun _ => rfl)
        refine gd_bnd (gd_kI_c fun z90 m88 => ?_)
        refine Eq.trans (D_if_eq (t := 125) gk_f57_118 (by decide)) ?_
        refine gd_ite (fun h91 => ?_) (fun h92 => ?_)
        · refine Eq.trans (D_iconst (x := 0) gk_f57_125 gk_c_0) ?_
          refine Eq.trans (D_istore_n gk_f57_126 gk_st57_2) ?_
          refine Eq.trans (D_goto (t := 219) gk_f57_127 (by decide)) ?_
          refine Eq.trans (D_iload_n (x := 0) gk_f57_219 rfl) ?_
          refine Eq.trans (D_if_ne (t := 225) gk_f57_220 (by decide)) ?_
          refine Eq.trans (if_pos (by decide)) ?_
          refine Eq.trans (D_iconst (x := 0) gk_f57_223 gk_c_0) ?_
          refine Eq.trans (D_zreturn gk_f57_224 gk_rk57) ?_
          exact if_pos rfl
        · refine Eq.trans (D_iconst (x := 1) gk_f57_121 gk_c_1) ?_
          refine Eq.trans (D_goto (t := 126) gk_f57_122 (by decide)) ?_
          refine Eq.trans (D_istore_n gk_f57_126 gk_st57_2) ?_
          refine Eq.trans (D_goto (t := 219) gk_f57_127 (by decide)) ?_
          refine Eq.trans (D_iload_n (x := 1) gk_f57_219 rfl) ?_
          refine Eq.trans (D_if_ne (t := 225) gk_f57_220 (by decide)) ?_
          refine Eq.trans (if_neg (by decide)) ?_
          refine Eq.trans (D_aload_n (x := r0) gk_f57_225 rfl) ?_
          refine Eq.trans (D_gfR gk_f57_226 (by decide)) ?_
          refine gd_ite (fun h93 => ?_) (fun _ => rfl)
          refine Eq.trans (D_ivV (cl := 5) (args := [.ref (gR m88 r0 0)]) (rest := []) gk_f57_229 rfl rfl (gd_rmk gk_rm57_32 gk_ln32 gk_ml32 rfl rfl rfl) gk_rk32 (gd_hnd_n gk_nc57) gk_nc32 gk_n11_32 gk_cl32) ?_
          refine gd_ite (fun h94 => ?_) (fun _ => rfl)
          refine gd_bnd (gd_kV_c fun m95 => ?_)
          refine Eq.trans (D_aload_n (x := r0) gk_f57_232 rfl) ?_
          refine Eq.trans (D_ivZ (cl := 3) (args := [.ref r0]) (rest := []) gk_f57_233 rfl rfl (gd_rmk gk_rm57_44 gk_ln44 gk_ml44 rfl rfl rfl) gk_rk44 (gd_hnd_n gk_nc57) gk_nc44 gk_n11_44 gk_cl44) ?_
          refine gd_ite (fun h97 => ?_) (fun _ => rfl)
          refine gd_bnd (gd_kI_c fun z100 m98 => ?_)
          refine Eq.trans (D_zreturn gk_f57_236 gk_rk57) ?_
          rfl
  refine gd_ite (fun h101 => ?_) (fun h102 => ?_)
  · refine Eq.trans (D_aload_n (x := r0) gk_f57_130 rfl) ?_
    refine Eq.trans (D_bipush (x := 8) gk_f57_131 gk_b_8) ?_
    refine Eq.trans (D_iconst (x := 1) gk_f57_133 gk_c_1) ?_
    refine Eq.trans (D_bipush (x := 6) gk_f57_134 gk_b_6) ?_
    refine Eq.trans (D_ivZ (cl := 3) (args := [.ref r0, .int 8, .int 1, .int 6]) (rest := []) gk_f57_136 rfl rfl (gd_rmk gk_rm57_56 gk_ln56 gk_ml56 rfl rfl rfl) gk_rk56 (gd_hnd_n gk_nc57) gk_nc56 gk_n11_56 gk_cl56) ?_
    refine gd_ite (fun h103 => ?_) (fun _ => rfl)
    refine gd_bnd (gd_kI_c fun z106 m104 => ?_)
    refine Eq.trans (D_if_eq (t := 175) gk_f57_139 (by decide)) ?_
    refine gd_ite (fun h107 => ?_) (fun h108 => ?_)
    · refine Eq.trans (D_iconst (x := 0) gk_f57_175 gk_c_0) ?_
      refine Eq.trans (D_istore_n gk_f57_176 gk_st57_2) ?_
      refine Eq.trans (D_goto (t := 219) gk_f57_177 (by decide)) ?_
      refine Eq.trans (D_iload_n (x := 0) gk_f57_219 rfl) ?_
      refine Eq.trans (D_if_ne (t := 225) gk_f57_220 (by decide)) ?_
      refine Eq.trans (if_pos (by decide)) ?_
      refine Eq.trans (D_iconst (x := 0) gk_f57_223 gk_c_0) ?_
      refine Eq.trans (D_zreturn gk_f57_224 gk_rk57) ?_
      exact if_pos rfl
    · refine Eq.trans (D_aload_n (x := r0) gk_f57_142 rfl) ?_
      refine Eq.trans (D_bipush (x := 14) gk_f57_143 gk_b_14) ?_
      refine Eq.trans (D_ivZ (cl := 3) (args := [.ref r0, .int 14]) (rest := []) gk_f57_145 rfl rfl (gd_rmk gk_rm57_41 gk_ln41 gk_ml41 rfl rfl rfl) gk_rk41 (gd_hnd_n gk_nc57) gk_nc41 gk_n11_41 gk_cl41) ?_
      refine gd_ite (fun h109 => ?_) (fun _ => rfl)
      refine gd_bnd (gd_kI_c fun z112 m110 => ?_)
      refine Eq.trans (D_if_eq (t := 175) gk_f57_148 (by decide)) ?_
      refine gd_ite (fun h113 => ?_) (fun h114 => ?_)
      · refine Eq.trans (D_iconst (x := 0) gk_f57_175 gk_c_0) ?_
        refine Eq.trans (D_istore_n gk_f57_176 gk_st57_2) ?_
        refine Eq.trans (D_goto (t := 219) gk_f57_177 (by decide)) ?_
        refine Eq.trans (D_iload_n (x := 0) gk_f57_219 rfl) ?_
        refine Eq.trans (D_if_ne (t := 225) gk_f57_220 (by decide)) ?_
        refine Eq.trans (if_pos (by decide)) ?_
        refine Eq.trans (D_iconst (x := 0) gk_f57_223 gk_c_0) ?_
        refine Eq.trans (D_zreturn gk_f57_224 gk_rk57) ?_
        exact if_pos rfl
      · refine Eq.trans (D_aload_n (x := r0) gk_f57_151 rfl) ?_
        refine Eq.trans (D_bipush (x := 9) gk_f57_152 gk_b_9) ?_
        refine Eq.trans (D_iconst (x := 1) gk_f57_154 gk_c_1) ?_
        refine Eq.trans (D_aload_n (x := r0) gk_f57_155 rfl) ?_
        refine Eq.trans (D_gfR gk_f57_156 (by decide)) ?_
        refine gd_ite (fun h115 => ?_) (fun _ => rfl)
        refine Eq.trans (D_gfR gk_f57_159 (by decide)) ?_
        refine gd_ite (fun h116 => ?_) (fun _ => rfl)
        refine Eq.trans (D_bipush (x := 8) gk_f57_162 gk_b_8) ?_
        refine Eq.trans (D_iald gk_f57_164 gk_n10_57) ?_
        refine gd_ite (fun h117 => ?_) (fun _ => rfl)
        refine Eq.trans (D_ivZ (cl := 3) (args := [.ref r0, .int 9, .int 1, .int (gI m110 (gR m110 (gR m110 r0 3) 11) (8 : Int32).toNatClampNeg)]) (rest := []) gk_f57_165 rfl rfl (gd_rmk gk_rm57_56 gk_ln56 gk_ml56 rfl rfl rfl) gk_rk56 (gd_hnd_n gk_nc57) gk_nc56 gk_n11_56 gk_cl56) ?_
        refine Eq.trans (if_pos h115) ?_
        refine gd_bnd (gd_kI_c fun z120 m118 => ?_)
        refine Eq.trans (D_if_eq (t := 175) gk_f57_168 (by decide)) ?_
        refine gd_ite (fun h121 => ?_) (fun h122 => ?_)
        · refine Eq.trans (D_iconst (x := 0) gk_f57_175 gk_c_0) ?_
          refine Eq.trans (D_istore_n gk_f57_176 gk_st57_2) ?_
          refine Eq.trans (D_goto (t := 219) gk_f57_177 (by decide)) ?_
          refine Eq.trans (D_iload_n (x := 0) gk_f57_219 rfl) ?_
          refine Eq.trans (D_if_ne (t := 225) gk_f57_220 (by decide)) ?_
          refine Eq.trans (if_pos (by decide)) ?_
          refine Eq.trans (D_iconst (x := 0) gk_f57_223 gk_c_0) ?_
          refine Eq.trans (D_zreturn gk_f57_224 gk_rk57) ?_
          exact if_pos rfl
        · refine Eq.trans (D_iconst (x := 1) gk_f57_171 gk_c_1) ?_
          refine Eq.trans (D_goto (t := 176) gk_f57_172 (by decide)) ?_
          refine Eq.trans (D_istore_n gk_f57_176 gk_st57_2) ?_
          refine Eq.trans (D_goto (t := 219) gk_f57_177 (by decide)) ?_
          refine Eq.trans (D_iload_n (x := 1) gk_f57_219 rfl) ?_
          refine Eq.trans (D_if_ne (t := 225) gk_f57_220 (by decide)) ?_
          refine Eq.trans (if_neg (by decide)) ?_
          refine Eq.trans (D_aload_n (x := r0) gk_f57_225 rfl) ?_
          refine Eq.trans (D_gfR gk_f57_226 (by decide)) ?_
          refine gd_ite (fun h123 => ?_) (fun _ => rfl)
          refine Eq.trans (D_ivV (cl := 5) (args := [.ref (gR m118 r0 0)]) (rest := []) gk_f57_229 rfl rfl (gd_rmk gk_rm57_32 gk_ln32 gk_ml32 rfl rfl rfl) gk_rk32 (gd_hnd_n gk_nc57) gk_nc32 gk_n11_32 gk_cl32) ?_
          refine gd_ite (fun h124 => ?_) (fun _ => rfl)
          refine gd_bnd (gd_kV_c fun m125 => ?_)
          refine Eq.trans (D_aload_n (x := r0) gk_f57_232 rfl) ?_
          refine Eq.trans (D_ivZ (cl := 3) (args := [.ref r0]) (rest := []) gk_f57_233 rfl rfl (gd_rmk gk_rm57_44 gk_ln44 gk_ml44 rfl rfl rfl) gk_rk44 (gd_hnd_n gk_nc57) gk_nc44 gk_n11_44 gk_cl44) ?_
          refine gd_ite (fun h127 => ?_) (fun _ => rfl)
          refine gd_bnd (gd_kI_c fun z130 m128 => ?_)
          refine Eq.trans (D_zreturn gk_f57_236 gk_rk57) ?_
          rfl
  refine Eq.trans (D_aload_n (x := r0) gk_f57_180 rfl) ?_
  refine Eq.trans (D_bipush (x := 10) gk_f57_181 gk_b_10) ?_
  refine Eq.trans (D_iconst (x := 1) gk_f57_183 gk_c_1) ?_
  refine Eq.trans (D_bipush (x := 10) gk_f57_184 gk_b_10) ?_
  refine Eq.trans (D_ivZ (cl := 3) (args := [.ref r0, .int 10, .int 1, .int 10]) (rest := []) gk_f57_186 rfl rfl (gd_rmk gk_rm57_56 gk_ln56 gk_ml56 rfl rfl rfl) gk_rk56 (gd_hnd_n gk_nc57) gk_nc56 gk_n11_56 gk_cl56) ?_
  refine gd_ite (fun h131 => ?_) (fun _ => rfl)
  refine gd_bnd (gd_kI_c fun z134 m132 => ?_)
  refine Eq.trans (D_if_eq (t := 217) gk_f57_189 (by decide)) ?_
  refine gd_ite (fun h135 => ?_) (fun h136 => ?_)
  · refine Eq.trans (D_iconst (x := 0) gk_f57_217 gk_c_0) ?_
    refine Eq.trans (D_istore_n gk_f57_218 gk_st57_2) ?_
    refine Eq.trans (D_iload_n (x := 0) gk_f57_219 rfl) ?_
    refine Eq.trans (D_if_ne (t := 225) gk_f57_220 (by decide)) ?_
    refine Eq.trans (if_pos (by decide)) ?_
    refine Eq.trans (D_iconst (x := 0) gk_f57_223 gk_c_0) ?_
    refine Eq.trans (D_zreturn gk_f57_224 gk_rk57) ?_
    exact if_pos rfl
  · refine Eq.trans (D_aload_n (x := r0) gk_f57_192 rfl) ?_
    refine Eq.trans (D_bipush (x := 18) gk_f57_193 gk_b_18) ?_
    refine Eq.trans (D_ivZ (cl := 3) (args := [.ref r0, .int 18]) (rest := []) gk_f57_195 rfl rfl (gd_rmk gk_rm57_41 gk_ln41 gk_ml41 rfl rfl rfl) gk_rk41 (gd_hnd_n gk_nc57) gk_nc41 gk_n11_41 gk_cl41) ?_
    refine gd_ite (fun h137 => ?_) (fun _ => rfl)
    refine gd_bnd (gd_kI_c fun z140 m138 => ?_)
    refine Eq.trans (D_if_eq (t := 217) gk_f57_198 (by decide)) ?_
    refine gd_ite (fun h141 => ?_) (fun h142 => ?_)
    · refine Eq.trans (D_iconst (x := 0) gk_f57_217 gk_c_0) ?_
      refine Eq.trans (D_istore_n gk_f57_218 gk_st57_2) ?_
      refine Eq.trans (D_iload_n (x := 0) gk_f57_219 rfl) ?_
      refine Eq.trans (D_if_ne (t := 225) gk_f57_220 (by decide)) ?_
      refine Eq.trans (if_pos (by decide)) ?_
      refine Eq.trans (D_iconst (x := 0) gk_f57_223 gk_c_0) ?_
      refine Eq.trans (D_zreturn gk_f57_224 gk_rk57) ?_
      exact if_pos rfl
    · refine Eq.trans (D_aload_n (x := r0) gk_f57_201 rfl) ?_
      refine Eq.trans (D_bipush (x := 11) gk_f57_202 gk_b_11) ?_
      refine Eq.trans (D_iconst (x := 1) gk_f57_204 gk_c_1) ?_
      refine Eq.trans (D_bipush (x := 10) gk_f57_205 gk_b_10) ?_
      refine Eq.trans (D_ivZ (cl := 3) (args := [.ref r0, .int 11, .int 1, .int 10]) (rest := []) gk_f57_207 rfl rfl (gd_rmk gk_rm57_56 gk_ln56 gk_ml56 rfl rfl rfl) gk_rk56 (gd_hnd_n gk_nc57) gk_nc56 gk_n11_56 gk_cl56) ?_
      refine gd_ite (fun h143 => ?_) (fun _ => rfl)
      refine gd_bnd (gd_kI_c fun z146 m144 => ?_)
      refine Eq.trans (D_if_eq (t := 217) gk_f57_210 (by decide)) ?_
      refine gd_ite (fun h147 => ?_) (fun h148 => ?_)
      · refine Eq.trans (D_iconst (x := 0) gk_f57_217 gk_c_0) ?_
        refine Eq.trans (D_istore_n gk_f57_218 gk_st57_2) ?_
        refine Eq.trans (D_iload_n (x := 0) gk_f57_219 rfl) ?_
        refine Eq.trans (D_if_ne (t := 225) gk_f57_220 (by decide)) ?_
        refine Eq.trans (if_pos (by decide)) ?_
        refine Eq.trans (D_iconst (x := 0) gk_f57_223 gk_c_0) ?_
        refine Eq.trans (D_zreturn gk_f57_224 gk_rk57) ?_
        exact if_pos rfl
      · refine Eq.trans (D_iconst (x := 1) gk_f57_213 gk_c_1) ?_
        refine Eq.trans (D_goto (t := 218) gk_f57_214 (by decide)) ?_
        refine Eq.trans (D_istore_n gk_f57_218 gk_st57_2) ?_
        refine Eq.trans (D_iload_n (x := 1) gk_f57_219 rfl) ?_
        refine Eq.trans (D_if_ne (t := 225) gk_f57_220 (by decide)) ?_
        refine Eq.trans (if_neg (by decide)) ?_
        refine Eq.trans (D_aload_n (x := r0) gk_f57_225 rfl) ?_
        refine Eq.trans (D_gfR gk_f57_226 (by decide)) ?_
        refine gd_ite (fun h149 => ?_) (fun _ => rfl)
        refine Eq.trans (D_ivV (cl := 5) (args := [.ref (gR m144 r0 0)]) (rest := []) gk_f57_229 rfl rfl (gd_rmk gk_rm57_32 gk_ln32 gk_ml32 rfl rfl rfl) gk_rk32 (gd_hnd_n gk_nc57) gk_nc32 gk_n11_32 gk_cl32) ?_
        refine gd_ite (fun h150 => ?_) (fun _ => rfl)
        refine gd_bnd (gd_kV_c fun m151 => ?_)
        refine Eq.trans (D_aload_n (x := r0) gk_f57_232 rfl) ?_
        refine Eq.trans (D_ivZ (cl := 3) (args := [.ref r0]) (rest := []) gk_f57_233 rfl rfl (gd_rmk gk_rm57_44 gk_ln44 gk_ml44 rfl rfl rfl) gk_rk44 (gd_hnd_n gk_nc57) gk_nc44 gk_n11_44 gk_cl44) ?_
        refine gd_ite (fun h153 => ?_) (fun _ => rfl)
        refine gd_bnd (gd_kI_c fun z156 m154 => ?_)
        refine Eq.trans (D_zreturn gk_f57_236 gk_rk57) ?_
        rfl
/-! GymDesk$Reader.readLine (I)Z -/
set_option maxRecDepth 20000 in
theorem gk_f58_0 : gd_fetch 58 0 = some (0, .aload_n 0, 1, 0, 0, 0, 0, 0) := rfl
set_option maxRecDepth 20000 in
theorem gk_f58_1 : gd_fetch 58 1 = some (1, .aload_n 0, 1, 0, 0, 0, 0, 0) := rfl
set_option maxRecDepth 20000 in
theorem gk_f58_2 : gd_fetch 58 2 = some (2, .iload_n 1, 1, 0, 0, 0, 0, 0) := rfl
set_option maxRecDepth 20000 in
theorem gk_f58_3 : gd_fetch 58 3 = some (3, .invokevirtual 64, 3, 554, 34, 1, 0, 0) := rfl
set_option maxRecDepth 20000 in
theorem gk_f58_6 : gd_fetch 58 6 = some (6, .invokevirtual 61, 3, 562, 35, 1, 0, 0) := rfl
set_option maxRecDepth 20000 in
theorem gk_f58_9 : gd_fetch 58 9 = some (9, .ifCond .ne 5, 3, 0, 0, 0, 0, 0) := rfl
set_option maxRecDepth 20000 in
theorem gk_f58_12 : gd_fetch 58 12 = some (12, .iconst 0, 1, 0, 0, 0, 0, 0) := rfl
set_option maxRecDepth 20000 in
theorem gk_f58_13 : gd_fetch 58 13 = some (13, .ireturn, 1, 0, 0, 0, 0, 0) := rfl
set_option maxRecDepth 20000 in
theorem gk_f58_14 : gd_fetch 58 14 = some (14, .iload_n 1, 1, 0, 0, 0, 0, 0) := rfl
set_option maxRecDepth 20000 in
theorem gk_f58_15 : gd_fetch 58 15 = some (15, .tableswitch 66 0 6 #[41, 46, 51, 56, 66, 66, 61], 41, 0, 0, 0, 0, 0) := rfl
set_option maxRecDepth 20000 in
theorem gk_f58_56 : gd_fetch 58 56 = some (56, .aload_n 0, 1, 0, 0, 0, 0, 0) := rfl
set_option maxRecDepth 20000 in
theorem gk_f58_57 : gd_fetch 58 57 = some (57, .invokevirtual 68, 3, 566, 46, 0, 0, 0) := rfl
set_option maxRecDepth 20000 in
theorem gk_f58_60 : gd_fetch 58 60 = some (60, .ireturn, 1, 0, 0, 0, 0, 0) := rfl
set_option maxRecDepth 20000 in
theorem gk_f58_61 : gd_fetch 58 61 = some (61, .aload_n 0, 1, 0, 0, 0, 0, 0) := rfl
set_option maxRecDepth 20000 in
theorem gk_f58_62 : gd_fetch 58 62 = some (62, .invokevirtual 72, 3, 610, 50, 0, 0, 0) := rfl
set_option maxRecDepth 20000 in
theorem gk_f58_65 : gd_fetch 58 65 = some (65, .ireturn, 1, 0, 0, 0, 0, 0) := rfl
set_option maxRecDepth 20000 in
theorem gk_f58_66 : gd_fetch 58 66 = some (66, .aload_n 0, 1, 0, 0, 0, 0, 0) := rfl
set_option maxRecDepth 20000 in
theorem gk_f58_67 : gd_fetch 58 67 = some (67, .invokevirtual 75, 3, 626, 52, 0, 0, 0) := rfl
set_option maxRecDepth 20000 in
theorem gk_f58_70 : gd_fetch 58 70 = some (70, .ireturn, 1, 0, 0, 0, 0, 0) := rfl
set_option maxRecDepth 20000 in
theorem gk_f58_71 : gd_fetch 58 71 = some (71, .aload_n 0, 1, 0, 0, 0, 0, 0) := rfl
set_option maxRecDepth 20000 in
theorem gk_f58_72 : gd_fetch 58 72 = some (72, .invokevirtual 78, 3, 634, 53, 0, 0, 0) := rfl
set_option maxRecDepth 20000 in
theorem gk_f58_75 : gd_fetch 58 75 = some (75, .ireturn, 1, 0, 0, 0, 0, 0) := rfl
set_option maxRecDepth 20000 in
theorem gk_f58_76 : gd_fetch 58 76 = some (76, .aload_n 0, 1, 0, 0, 0, 0, 0) := rfl
set_option maxRecDepth 20000 in
theorem gk_f58_77 : gd_fetch 58 77 = some (77, .invokevirtual 81, 3, 638, 55, 0, 0, 0) := rfl
set_option maxRecDepth 20000 in
theorem gk_f58_80 : gd_fetch 58 80 = some (80, .ireturn, 1, 0, 0, 0, 0, 0) := rfl
set_option maxRecDepth 20000 in
theorem gk_f58_81 : gd_fetch 58 81 = some (81, .aload_n 0, 1, 0, 0, 0, 0, 0) := rfl
set_option maxRecDepth 20000 in
theorem gk_f58_82 : gd_fetch 58 82 = some (82, .iload_n 1, 1, 0, 0, 0, 0, 0) := rfl
set_option maxRecDepth 20000 in
theorem gk_f58_83 : gd_fetch 58 83 = some (83, .invokevirtual 84, 3, 646, 57, 1, 0, 0) := rfl
set_option maxRecDepth 20000 in
theorem gk_f58_86 : gd_fetch 58 86 = some (86, .ireturn, 1, 0, 0, 0, 0, 0) := rfl
set_option maxRecDepth 20000 in
set_option maxHeartbeats 4000000 in
theorem q_Re_readLine (r0 : Nat) (x1 : Int32) (m : gd_M) : gd_call 58 [.ref r0, .int x1] m = if gd_ok (gN m) r0 3 = true then ((gd_call 34 [.ref r0, .int x1] m).bind (gd_kI fun z4 m2 => if gd_ok (gN m2) r0 3 = true then ((gd_call 35 [.ref r0, .int z4] m2).bind (gd_kI fun z8 m6 => if (z8 = 0 : Prop) then (some (.int 0, m6)) else (if x1 = 0 then (if gd_ok (gN m6) r0 3 = true then ((gd_call 46 [.ref r0] m6).bind (gd_kI fun z16 m14 => if gd_bo z16 = true then some (.int z16, m14) else none)) else none) else if x1 = 1 then (if gd_ok (gN m6) r0 3 = true then ((gd_call 50 [.ref r0] m6).bind (gd_kI fun z22 m20 => if gd_bo z22 = true then some (.int z22, m20) else none)) else none) else if x1 = 2 then (if gd_ok (gN m6) r0 3 = true then ((gd_call 52 [.ref r0] m6).bind (gd_kI fun z28 m26 => if gd_bo z28 = true then some (.int z28, m26) else none)) else none) else if x1 = 3 then (if gd_ok (gN m6) r0 3 = true then ((gd_call 53 [.ref r0] m6).bind (gd_kI fun z34 m32 => if gd_bo z34 = true then some (.int z34, m32) else none)) else none) else if x1 = 4 then (if gd_ok (gN m6) r0 3 = true then ((gd_call 57 [.ref r0, .int x1] m6).bind (gd_kI fun z40 m38 => if gd_bo z40 = true then some (.int z40, m38) else none)) else none) else if x1 = 5 then (if gd_ok (gN m6) r0 3 = true then ((gd_call 57 [.ref r0, .int x1] m6).bind (gd_kI fun z46 m44 => if gd_bo z46 = true then some (.int z46, m44) else none)) else none) else if x1 = 6 then (if gd_ok (gN m6) r0 3 = true then ((gd_call 55 [.ref r0] m6).bind (gd_kI fun z52 m50 => if gd_bo z52 = true then some (.int z52, m50) else none)) else none) else (if gd_ok (gN m6) r0 3 = true then ((gd_call 57 [.ref r0, .int x1] m6).bind (gd_kI fun z56 m54 => if gd_bo z56 = true then some (.int z56, m54) else none)) else none)))) else none)) else none := by
  refine Eq.trans (show gd_call 58 [.ref r0, .int x1] m = gd_Den (58, 0, [.ref r0, .int x1], [], m) from by unfold gd_call gd_ent; rw [gk_ml58]; rfl) ?_
  refine Eq.trans (D_aload_n (x := r0) gk_f58_0 rfl) ?_
  refine Eq.trans (D_aload_n (x := r0) gk_f58_1 rfl) ?_
  refine Eq.trans (D_iload_n (x := x1) gk_f58_2 rfl) ?_
  refine Eq.trans (D_ivI (cl := 3) (args := [.ref r0, .int x1]) (rest := [.ref r0]) gk_f58_3 rfl rfl (gd_rmk gk_rm58_34 gk_ln34 gk_ml34 rfl rfl rfl) gk_rk34 (gd_hnd_n gk_nc58) gk_nc34 gk_n11_34 gk_cl34) ?_
  refine gd_ite (fun h1 => ?_) (fun _ => rfl)
  refine gd_bnd (gd_kI_c fun z4 m2 => ?_)
  refine Eq.trans (D_ivZ (cl := 3) (args := [.ref r0, .int z4]) (rest := []) gk_f58_6 rfl rfl (gd_rmk gk_rm58_35 gk_ln35 gk_ml35 rfl rfl rfl) gk_rk35 (gd_hnd_n gk_nc58) gk_nc35 gk_n11_35 gk_cl35) ?_
  refine gd_ite (fun h5 => ?_) (fun _ => rfl)
  refine gd_bnd (gd_kI_c fun z8 m6 => ?_)
  refine Eq.trans (D_if_ne (t := 14) gk_f58_9 (by decide)) ?_
  refine gd_ite (fun h9 => ?_) (fun h10 => ?_)
  · refine Eq.trans (D_iconst (x := 0) gk_f58_12 gk_c_0) ?_
    refine Eq.trans (D_zreturn gk_f58_13 gk_rk58) ?_
    exact if_pos rfl
  · refine Eq.trans (D_iload_n (x := x1) gk_f58_14 rfl) ?_
    refine Eq.trans (D_tsw (vs := [(0, 56), (1, 61), (2, 66), (3, 71), (4, 81), (5, 81), (6, 76)]) (t := 81) gk_f58_15 (by decide) (by decide)) ?_
    refine gd_ite (fun h11 => ?_) (fun h12 => ?_)
    · refine Eq.trans (D_aload_n (x := r0) gk_f58_56 rfl) ?_
      refine Eq.trans (D_ivZ (cl := 3) (args := [.ref r0]) (rest := []) gk_f58_57 rfl rfl (gd_rmk gk_rm58_46 gk_ln46 gk_ml46 rfl rfl rfl) gk_rk46 (gd_hnd_n gk_nc58) gk_nc46 gk_n11_46 gk_cl46) ?_
      refine gd_ite (fun h13 => ?_) (fun _ => rfl)
      refine gd_bnd (gd_kI_c fun z16 m14 => ?_)
      refine Eq.trans (D_zreturn gk_f58_60 gk_rk58) ?_
      rfl
    refine gd_ite (fun h17 => ?_) (fun h18 => ?_)
    · refine Eq.trans (D_aload_n (x := r0) gk_f58_61 rfl) ?_
      refine Eq.trans (D_ivZ (cl := 3) (args := [.ref r0]) (rest := []) gk_f58_62 rfl rfl (gd_rmk gk_rm58_50 gk_ln50 gk_ml50 rfl rfl rfl) gk_rk50 (gd_hnd_n gk_nc58) gk_nc50 gk_n11_50 gk_cl50) ?_
      refine gd_ite (fun h19 => ?_) (fun _ => rfl)
      refine gd_bnd (gd_kI_c fun z22 m20 => ?_)
      refine Eq.trans (D_zreturn gk_f58_65 gk_rk58) ?_
      rfl
    refine gd_ite (fun h23 => ?_) (fun h24 => ?_)
    · refine Eq.trans (D_aload_n (x := r0) gk_f58_66 rfl) ?_
      refine Eq.trans (D_ivZ (cl := 3) (args := [.ref r0]) (rest := []) gk_f58_67 rfl rfl (gd_rmk gk_rm58_52 gk_ln52 gk_ml52 rfl rfl rfl) gk_rk52 (gd_hnd_n gk_nc58) gk_nc52 gk_n11_52 gk_cl52) ?_
      refine gd_ite (fun h25 => ?_) (fun _ => rfl)
      refine gd_bnd (gd_kI_c fun z28 m26 => ?_)
      refine Eq.trans (D_zreturn gk_f58_70 gk_rk58) ?_
      rfl
    refine gd_ite (fun h29 => ?_) (fun h30 => ?_)
    · refine Eq.trans (D_aload_n (x := r0) gk_f58_71 rfl) ?_
      refine Eq.trans (D_ivZ (cl := 3) (args := [.ref r0]) (rest := []) gk_f58_72 rfl rfl (gd_rmk gk_rm58_53 gk_ln53 gk_ml53 rfl rfl rfl) gk_rk53 (gd_hnd_n gk_nc58) gk_nc53 gk_n11_53 gk_cl53) ?_
      refine gd_ite (fun h31 => ?_) (fun _ => rfl)
      refine gd_bnd (gd_kI_c fun z34 m32 => ?_)
      refine Eq.trans (D_zreturn gk_f58_75 gk_rk58) ?_
      rfl
    refine gd_ite (fun h35 => ?_) (fun h36 => ?_)
    · refine Eq.trans (D_aload_n (x := r0) gk_f58_81 rfl) ?_
      refine Eq.trans (D_iload_n (x := x1) gk_f58_82 rfl) ?_
      refine Eq.trans (D_ivZ (cl := 3) (args := [.ref r0, .int x1]) (rest := []) gk_f58_83 rfl rfl (gd_rmk gk_rm58_57 gk_ln57 gk_ml57 rfl rfl rfl) gk_rk57 (gd_hnd_n gk_nc58) gk_nc57 gk_n11_57 gk_cl57) ?_
      refine gd_ite (fun h37 => ?_) (fun _ => rfl)
      refine gd_bnd (gd_kI_c fun z40 m38 => ?_)
      refine Eq.trans (D_zreturn gk_f58_86 gk_rk58) ?_
      rfl
    refine gd_ite (fun h41 => ?_) (fun h42 => ?_)
    · refine Eq.trans (D_aload_n (x := r0) gk_f58_81 rfl) ?_
      refine Eq.trans (D_iload_n (x := x1) gk_f58_82 rfl) ?_
      refine Eq.trans (D_ivZ (cl := 3) (args := [.ref r0, .int x1]) (rest := []) gk_f58_83 rfl rfl (gd_rmk gk_rm58_57 gk_ln57 gk_ml57 rfl rfl rfl) gk_rk57 (gd_hnd_n gk_nc58) gk_nc57 gk_n11_57 gk_cl57) ?_
      refine gd_ite (fun h43 => ?_) (fun _ => rfl)
      refine gd_bnd (gd_kI_c fun z46 m44 => ?_)
      refine Eq.trans (D_zreturn gk_f58_86 gk_rk58) ?_
      rfl
    refine gd_ite (fun h47 => ?_) (fun h48 => ?_)
    · refine Eq.trans (D_aload_n (x := r0) gk_f58_76 rfl) ?_
      refine Eq.trans (D_ivZ (cl := 3) (args := [.ref r0]) (rest := []) gk_f58_77 rfl rfl (gd_rmk gk_rm58_55 gk_ln55 gk_ml55 rfl rfl rfl) gk_rk55 (gd_hnd_n gk_nc58) gk_nc55 gk_n11_55 gk_cl55) ?_
      refine gd_ite (fun h49 => ?_) (fun _ => rfl)
      refine gd_bnd (gd_kI_c fun z52 m50 => ?_)
      refine Eq.trans (D_zreturn gk_f58_80 gk_rk58) ?_
      rfl
    refine Eq.trans (D_aload_n (x := r0) gk_f58_81 rfl) ?_
    refine Eq.trans (D_iload_n (x := x1) gk_f58_82 rfl) ?_
    refine Eq.trans (D_ivZ (cl := 3) (args := [.ref r0, .int x1]) (rest := []) gk_f58_83 rfl rfl (gd_rmk gk_rm58_57 gk_ln57 gk_ml57 rfl rfl rfl) gk_rk57 (gd_hnd_n gk_nc58) gk_nc57 gk_n11_57 gk_cl57) ?_
    refine gd_ite (fun h53 => ?_) (fun _ => rfl)
    refine gd_bnd (gd_kI_c fun z56 m54 => ?_)
    refine Eq.trans (D_zreturn gk_f58_86 gk_rk58) ?_
    rfl
/-! GymDesk$Reader.readCode ([BILGymDesk$Code;)Z -/
set_option maxRecDepth 20000 in
theorem gk_f59_0 : gd_fetch 59 0 = some (0, .aload_n 0, 1, 0, 0, 0, 0, 0) := rfl
set_option maxRecDepth 20000 in
theorem gk_f59_1 : gd_fetch 59 1 = some (1, .aload_n 3, 1, 0, 0, 0, 0, 0) := rfl
set_option maxRecDepth 20000 in
theorem gk_f59_2 : gd_fetch 59 2 = some (2, .putfield 29, 3, 215, 3, 3, 4, 0) := rfl
set_option maxRecDepth 20000 in
theorem gk_f59_5 : gd_fetch 59 5 = some (5, .aload_n 0, 1, 0, 0, 0, 0, 0) := rfl
set_option maxRecDepth 20000 in
theorem gk_f59_6 : gd_fetch 59 6 = some (6, .getfield 29, 3, 215, 3, 3, 4, 0) := rfl
set_option maxRecDepth 20000 in
theorem gk_f59_9 : gd_fetch 59 9 = some (9, .invokevirtual 33, 3, 526, 11, 0, 0, 0) := rfl
set_option maxRecDepth 20000 in
theorem gk_f59_12 : gd_fetch 59 12 = some (12, .aload_n 0, 1, 0, 0, 0, 0, 0) := rfl
set_option maxRecDepth 20000 in
theorem gk_f59_13 : gd_fetch 59 13 = some (13, .iconst 0, 1, 0, 0, 0, 0, 0) := rfl
set_option maxRecDepth 20000 in
theorem gk_f59_14 : gd_fetch 59 14 = some (14, .putfield 38, 3, 216, 3, 4, 0, 0) := rfl
set_option maxRecDepth 20000 in
theorem gk_f59_17 : gd_fetch 59 17 = some (17, .aload_n 0, 1, 0, 0, 0, 0, 0) := rfl
set_option maxRecDepth 20000 in
theorem gk_f59_18 : gd_fetch 59 18 = some (18, .iconst 0, 1, 0, 0, 0, 0, 0) := rfl
set_option maxRecDepth 20000 in
theorem gk_f59_19 : gd_fetch 59 19 = some (19, .putfield 41, 3, 218, 3, 6, 0, 0) := rfl
set_option maxRecDepth 20000 in
theorem gk_f59_22 : gd_fetch 59 22 = some (22, .aload_n 0, 1, 0, 0, 0, 0, 0) := rfl
set_option maxRecDepth 20000 in
theorem gk_f59_23 : gd_fetch 59 23 = some (23, .iconst (-1), 1, 0, 0, 0, 0, 0) := rfl
set_option maxRecDepth 20000 in
theorem gk_f59_24 : gd_fetch 59 24 = some (24, .putfield 25, 3, 220, 3, 7, 0, 0) := rfl
set_option maxRecDepth 20000 in
theorem gk_f59_27 : gd_fetch 59 27 = some (27, .aload_n 0, 1, 0, 0, 0, 0, 0) := rfl
set_option maxRecDepth 20000 in
theorem gk_f59_28 : gd_fetch 59 28 = some (28, .getfield 12, 3, 212, 3, 0, 4, 1) := rfl
set_option maxRecDepth 20000 in
theorem gk_f59_31 : gd_fetch 59 31 = some (31, .aload_n 1, 1, 0, 0, 0, 0, 0) := rfl
set_option maxRecDepth 20000 in
theorem gk_f59_32 : gd_fetch 59 32 = some (32, .iload_n 2, 1, 0, 0, 0, 0, 0) := rfl
set_option maxRecDepth 20000 in
theorem gk_f59_33 : gd_fetch 59 33 = some (33, .invokevirtual 44, 3, 527, 28, 2, 0, 0) := rfl
set_option maxRecDepth 20000 in
theorem gk_f59_36 : gd_fetch 59 36 = some (36, .iconst 0, 1, 0, 0, 0, 0, 0) := rfl
set_option maxRecDepth 20000 in
theorem gk_f59_37 : gd_fetch 59 37 = some (37, .istore 4, 2, 0, 0, 0, 0, 0) := rfl
set_option maxRecDepth 20000 in
theorem gk_f59_39 : gd_fetch 59 39 = some (39, .iload 4, 2, 0, 0, 0, 0, 0) := rfl
set_option maxRecDepth 20000 in
theorem gk_f59_41 : gd_fetch 59 41 = some (41, .sipush 700, 3, 0, 0, 0, 0, 0) := rfl
set_option maxRecDepth 20000 in
theorem gk_f59_44 : gd_fetch 59 44 = some (44, .if_icmp .gt 44, 3, 0, 0, 0, 0, 0) := rfl
set_option maxRecDepth 20000 in
theorem gk_f59_47 : gd_fetch 59 47 = some (47, .aload_n 0, 1, 0, 0, 0, 0, 0) := rfl
set_option maxRecDepth 20000 in
theorem gk_f59_48 : gd_fetch 59 48 = some (48, .getfield 12, 3, 212, 3, 0, 4, 1) := rfl
set_option maxRecDepth 20000 in
theorem gk_f59_51 : gd_fetch 59 51 = some (51, .invokevirtual 48, 3, 534, 32, 0, 0, 0) := rfl
set_option maxRecDepth 20000 in
theorem gk_f59_54 : gd_fetch 59 54 = some (54, .aload_n 0, 1, 0, 0, 0, 0, 0) := rfl
set_option maxRecDepth 20000 in
theorem gk_f59_55 : gd_fetch 59 55 = some (55, .getfield 12, 3, 212, 3, 0, 4, 1) := rfl
set_option maxRecDepth 20000 in
theorem gk_f59_58 : gd_fetch 59 58 = some (58, .getfield 51, 3, 179, 5, 5, 0, 0) := rfl
set_option maxRecDepth 20000 in
theorem gk_f59_61 : gd_fetch 59 61 = some (61, .ifCond .ne 5, 3, 0, 0, 0, 0, 0) := rfl
set_option maxRecDepth 20000 in
theorem gk_f59_64 : gd_fetch 59 64 = some (64, .iconst 1, 1, 0, 0, 0, 0, 0) := rfl
set_option maxRecDepth 20000 in
theorem gk_f59_65 : gd_fetch 59 65 = some (65, .ireturn, 1, 0, 0, 0, 0, 0) := rfl
set_option maxRecDepth 20000 in
theorem gk_f59_66 : gd_fetch 59 66 = some (66, .aload_n 0, 1, 0, 0, 0, 0, 0) := rfl
set_option maxRecDepth 20000 in
theorem gk_f59_67 : gd_fetch 59 67 = some (67, .aload_n 0, 1, 0, 0, 0, 0, 0) := rfl
set_option maxRecDepth 20000 in
theorem gk_f59_68 : gd_fetch 59 68 = some (68, .getfield 12, 3, 212, 3, 0, 4, 1) := rfl
set_option maxRecDepth 20000 in
theorem gk_f59_71 : gd_fetch 59 71 = some (71, .getfield 54, 3, 187, 5, 9, 0, 0) := rfl
set_option maxRecDepth 20000 in
theorem gk_f59_74 : gd_fetch 59 74 = some (74, .invokevirtual 57, 3, 550, 58, 1, 0, 0) := rfl
set_option maxRecDepth 20000 in
theorem gk_f59_77 : gd_fetch 59 77 = some (77, .ifCond .ne 5, 3, 0, 0, 0, 0, 0) := rfl
set_option maxRecDepth 20000 in
theorem gk_f59_80 : gd_fetch 59 80 = some (80, .iconst 0, 1, 0, 0, 0, 0, 0) := rfl
set_option maxRecDepth 20000 in
theorem gk_f59_81 : gd_fetch 59 81 = some (81, .ireturn, 1, 0, 0, 0, 0, 0) := rfl
set_option maxRecDepth 20000 in
theorem gk_f59_82 : gd_fetch 59 82 = some (82, .iinc 4 1, 3, 0, 0, 0, 0, 0) := rfl
set_option maxRecDepth 20000 in
theorem gk_f59_85 : gd_fetch 59 85 = some (85, .goto (-46), 3, 0, 0, 0, 0, 0) := rfl
set_option maxRecDepth 20000 in
theorem gk_f59_88 : gd_fetch 59 88 = some (88, .aload_n 0, 1, 0, 0, 0, 0, 0) := rfl
set_option maxRecDepth 20000 in
theorem gk_f59_89 : gd_fetch 59 89 = some (89, .iconst 1, 1, 0, 0, 0, 0, 0) := rfl
set_option maxRecDepth 20000 in
theorem gk_f59_90 : gd_fetch 59 90 = some (90, .invokevirtual 61, 3, 562, 35, 1, 0, 0) := rfl
set_option maxRecDepth 20000 in
theorem gk_f59_93 : gd_fetch 59 93 = some (93, .ireturn, 1, 0, 0, 0, 0, 0) := rfl
set_option maxRecDepth 20000 in
set_option maxHeartbeats 4000000 in
theorem q_Re_readCode (r0 : Nat) (r1 : Nat) (x2 : Int32) (r3 : Nat) (m : gd_M) : gd_call 59 [.ref r0, .ref r1, .int x2, .ref r3] m = if gd_ok (gN m) r0 3 = true then (if gd_ok (gN m) (gR (wR m r0 3 r3) r0 3) 1 = true then ((gd_call 11 [.ref (gR (wR m r0 3 r3) r0 3)] (wR m r0 3 r3)).bind (gd_kV fun m3 => if gd_ok (gN m3) r0 3 = true then (if gd_ok (gN m3) (gR m3 r0 0) 5 = true then ((gd_call 28 [.ref (gR m3 r0 0), .ref r1, .int x2] (wI (wI (wI m3 r0 4 0) r0 6 0) r0 7 (-1))).bind (gd_kV fun m7 => gd_Den (59, 39, [.ref r0, .ref r1, .int x2, .ref r3, .int 0], [], m7))) else none) else none)) else none) else none := by
  refine Eq.trans (show gd_call 59 [.ref r0, .ref r1, .int x2, .ref r3] m = gd_Den (59, 0, [.ref r0, .ref r1, .int x2, .ref r3, .null], [], m) from by unfold gd_call gd_ent; rw [gk_ml59]; rfl) ?_
  refine Eq.trans (D_aload_n (x := r0) gk_f59_0 rfl) ?_
  refine Eq.trans (D_aload_n (x := r3) gk_f59_1 rfl) ?_
  refine Eq.trans (D_pfR gk_f59_2) ?_
  refine gd_ite (fun h1 => ?_) (fun _ => rfl)
  refine Eq.trans (D_aload_n (x := r0) gk_f59_5 rfl) ?_
  refine Eq.trans (D_gfR gk_f59_6 (by decide)) ?_
  refine Eq.trans (if_pos h1) ?_
  refine Eq.trans (D_ivV (cl := 1) (args := [.ref (gR (wR m r0 3 r3) r0 3)]) (rest := []) gk_f59_9 rfl rfl (gd_rmk gk_rm59_11 gk_ln11 gk_ml11 rfl rfl rfl) gk_rk11 (gd_hnd_n gk_nc59) gk_nc11 gk_n11_11 gk_cl11) ?_
  refine gd_ite (fun h2 => ?_) (fun _ => rfl)
  refine gd_bnd (gd_kV_c fun m3 => ?_)
  refine Eq.trans (D_aload_n (x := r0) gk_f59_12 rfl) ?_
  refine Eq.trans (D_iconst (x := 0) gk_f59_13 gk_c_0) ?_
  refine Eq.trans (D_pfI gk_f59_14) ?_
  refine gd_ite (fun h5 => ?_) (fun _ => rfl)
  refine Eq.trans (D_aload_n (x := r0) gk_f59_17 rfl) ?_
  refine Eq.trans (D_iconst (x := 0) gk_f59_18 gk_c_0) ?_
  refine Eq.trans (D_pfI gk_f59_19) ?_
  refine Eq.trans (if_pos h5) ?_
  refine Eq.trans (D_aload_n (x := r0) gk_f59_22 rfl) ?_
  refine Eq.trans (D_iconst (x := (-1)) gk_f59_23 gk_c_m1) ?_
  refine Eq.trans (D_pfI gk_f59_24) ?_
  refine Eq.trans (if_pos h5) ?_
  refine Eq.trans (D_aload_n (x := r0) gk_f59_27 rfl) ?_
  refine Eq.trans (D_gfR gk_f59_28 (by decide)) ?_
  refine Eq.trans (if_pos h5) ?_
  refine Eq.trans (D_aload_n (x := r1) gk_f59_31 rfl) ?_
  refine Eq.trans (D_iload_n (x := x2) gk_f59_32 rfl) ?_
  refine Eq.trans (D_ivV (cl := 5) (args := [.ref (gR m3 r0 0), .ref r1, .int x2]) (rest := []) gk_f59_33 rfl rfl (gd_rmk gk_rm59_28 gk_ln28 gk_ml28 rfl rfl rfl) gk_rk28 (gd_hnd_n gk_nc59) gk_nc28 gk_n11_28 gk_cl28) ?_
  refine gd_ite (fun h6 => ?_) (fun _ => rfl)
  refine gd_bnd (gd_kV_c fun m7 => ?_)
  refine Eq.trans (D_iconst (x := 0) gk_f59_36 gk_c_0) ?_
  refine Eq.trans (D_istore gk_f59_37 gk_st59_4) ?_
  rfl
set_option maxRecDepth 20000 in
set_option maxHeartbeats 4000000 in
theorem q_Re_readCode_39 (r0 : Nat) (r1 : Nat) (x2 : Int32) (r3 : Nat) (x4 : Int32) (m : gd_M) : gd_Den (59, 39, [.ref r0, .ref r1, .int x2, .ref r3, .int x4], [], m) = if (700 < x4 : Prop) then (if gd_ok (gN m) r0 3 = true then ((gd_call 35 [.ref r0, .int 1] m).bind (gd_kI fun z6 m4 => if gd_bo z6 = true then some (.int z6, m4) else none)) else none) else (if gd_ok (gN m) r0 3 = true then (if gd_ok (gN m) (gR m r0 0) 5 = true then ((gd_call 32 [.ref (gR m r0 0)] m).bind (gd_kV fun m9 => if gd_ok (gN m9) r0 3 = true then (if gd_ok (gN m9) (gR m9 r0 0) 5 = true then (if ((gI m9 (gR m9 r0 0) 5) = 0 : Prop) then (some (.int 1, m9)) else ((gd_call 58 [.ref r0, .int (gI m9 (gR m9 r0 0) 9)] m9).bind (gd_kI fun z17 m15 => if (z17 = 0 : Prop) then (some (.int 0, m15)) else (gd_Den (59, 39, [.ref r0, .ref r1, .int x2, .ref r3, .int (x4 + 1)], [], m15))))) else none) else none)) else none) else none) := by
  refine Eq.trans (D_iload (x := x4) gk_f59_39 rfl) ?_
  refine Eq.trans (D_sipush (x := 700) gk_f59_41 gk_s_700) ?_
  refine Eq.trans (D_ic_gt (t := 88) gk_f59_44 (by decide)) ?_
  refine gd_ite (fun h1 => ?_) (fun h2 => ?_)
  · refine Eq.trans (D_aload_n (x := r0) gk_f59_88 rfl) ?_
    refine Eq.trans (D_iconst (x := 1) gk_f59_89 gk_c_1) ?_
    refine Eq.trans (D_ivZ (cl := 3) (args := [.ref r0, .int 1]) (rest := []) gk_f59_90 rfl rfl (gd_rmk gk_rm59_35 gk_ln35 gk_ml35 rfl rfl rfl) gk_rk35 (gd_hnd_n gk_nc59) gk_nc35 gk_n11_35 gk_cl35) ?_
    refine gd_ite (fun h3 => ?_) (fun _ => rfl)
    refine gd_bnd (gd_kI_c fun z6 m4 => ?_)
    refine Eq.trans (D_zreturn gk_f59_93 gk_rk59) ?_
    rfl
  · refine Eq.trans (D_aload_n (x := r0) gk_f59_47 rfl) ?_
    refine Eq.trans (D_gfR gk_f59_48 (by decide)) ?_
    refine gd_ite (fun h7 => ?_) (fun _ => rfl)
    refine Eq.trans (D_ivV (cl := 5) (args := [.ref (gR m r0 0)]) (rest := []) gk_f59_51 rfl rfl (gd_rmk gk_rm59_32 gk_ln32 gk_ml32 rfl rfl rfl) gk_rk32 (gd_hnd_n gk_nc59) gk_nc32 gk_n11_32 gk_cl32) ?_
    refine gd_ite (fun h8 => ?_) (fun _ => rfl)
    refine gd_bnd (gd_kV_c fun m9 => ?_)
    refine Eq.trans (D_aload_n (x := r0) gk_f59_54 rfl) ?_
    refine Eq.trans (D_gfR gk_f59_55 (by decide)) ?_
    refine gd_ite (fun h11 => ?_) (fun _ => rfl)
    refine Eq.trans (D_gfI gk_f59_58 (by decide) (by decide) (by decide)) ?_
    refine gd_ite (fun h12 => ?_) (fun _ => rfl)
    refine Eq.trans (D_if_ne (t := 66) gk_f59_61 (by decide)) ?_
    refine gd_ite (fun h13 => ?_) (fun h14 => ?_)
    · refine Eq.trans (D_iconst (x := 1) gk_f59_64 gk_c_1) ?_
      refine Eq.trans (D_zreturn gk_f59_65 gk_rk59) ?_
      exact if_pos rfl
    · refine Eq.trans (D_aload_n (x := r0) gk_f59_66 rfl) ?_
      refine Eq.trans (D_aload_n (x := r0) gk_f59_67 rfl) ?_
      refine Eq.trans (D_gfR gk_f59_68 (by decide)) ?_
      refine Eq.trans (if_pos h11) ?_
      refine Eq.trans (D_gfI gk_f59_71 (by decide) (by decide) (by decide)) ?_
      refine Eq.trans (if_pos h12) ?_
      refine Eq.trans (D_ivZ (cl := 3) (args := [.ref r0, .int (gI m9 (gR m9 r0 0) 9)]) (rest := []) gk_f59_74 rfl rfl (gd_rmk gk_rm59_58 gk_ln58 gk_ml58 rfl rfl rfl) gk_rk58 (gd_hnd_n gk_nc59) gk_nc58 gk_n11_58 gk_cl58) ?_
      refine Eq.trans (if_pos h11) ?_
      refine gd_bnd (gd_kI_c fun z17 m15 => ?_)
      refine Eq.trans (D_if_ne (t := 82) gk_f59_77 (by decide)) ?_
      refine gd_ite (fun h18 => ?_) (fun h19 => ?_)
      · refine Eq.trans (D_iconst (x := 0) gk_f59_80 gk_c_0) ?_
        refine Eq.trans (D_zreturn gk_f59_81 gk_rk59) ?_
        exact if_pos rfl
      · refine Eq.trans (D_iinc (x := x4) (y := 1) gk_f59_82 rfl gk_c_1 gk_st59_4) ?_
        refine Eq.trans (D_goto (t := 39) gk_f59_85 (by decide)) ?_
        rfl
/-! GymDesk.startMeeting ()V -/
set_option maxRecDepth 20000 in
theorem gk_f60_0 : gd_fetch 60 0 = some (0, .iconst 0, 1, 0, 0, 0, 0, 0) := rfl
set_option maxRecDepth 20000 in
theorem gk_f60_1 : gd_fetch 60 1 = some (1, .istore_n 1, 1, 0, 0, 0, 0, 0) := rfl
set_option maxRecDepth 20000 in
theorem gk_f60_2 : gd_fetch 60 2 = some (2, .iload_n 1, 1, 0, 0, 0, 0, 0) := rfl
set_option maxRecDepth 20000 in
theorem gk_f60_3 : gd_fetch 60 3 = some (3, .aload_n 0, 1, 0, 0, 0, 0, 0) := rfl
set_option maxRecDepth 20000 in
theorem gk_f60_4 : gd_fetch 60 4 = some (4, .getfield 36, 3, 464, 6, 4, 4, 1) := rfl
set_option maxRecDepth 20000 in
theorem gk_f60_7 : gd_fetch 60 7 = some (7, .arraylength, 1, 0, 0, 0, 0, 0) := rfl
set_option maxRecDepth 20000 in
theorem gk_f60_8 : gd_fetch 60 8 = some (8, .if_icmp .ge 19, 3, 0, 0, 0, 0, 0) := rfl
set_option maxRecDepth 20000 in
theorem gk_f60_11 : gd_fetch 60 11 = some (11, .aload_n 0, 1, 0, 0, 0, 0, 0) := rfl
set_option maxRecDepth 20000 in
theorem gk_f60_12 : gd_fetch 60 12 = some (12, .getfield 36, 3, 464, 6, 4, 4, 1) := rfl
set_option maxRecDepth 20000 in
theorem gk_f60_15 : gd_fetch 60 15 = some (15, .iload_n 1, 1, 0, 0, 0, 0, 0) := rfl
set_option maxRecDepth 20000 in
theorem gk_f60_16 : gd_fetch 60 16 = some (16, .aaload, 1, 0, 0, 0, 0, 0) := rfl
set_option maxRecDepth 20000 in
theorem gk_f60_17 : gd_fetch 60 17 = some (17, .iconst 0, 1, 0, 0, 0, 0, 0) := rfl
set_option maxRecDepth 20000 in
theorem gk_f60_18 : gd_fetch 60 18 = some (18, .putfield 82, 3, 406, 4, 3, 1, 0) := rfl
set_option maxRecDepth 20000 in
theorem gk_f60_21 : gd_fetch 60 21 = some (21, .iinc 1 1, 3, 0, 0, 0, 0, 0) := rfl
set_option maxRecDepth 20000 in
theorem gk_f60_24 : gd_fetch 60 24 = some (24, .goto (-22), 3, 0, 0, 0, 0, 0) := rfl
set_option maxRecDepth 20000 in
theorem gk_f60_27 : gd_fetch 60 27 = some (27, .iconst 0, 1, 0, 0, 0, 0, 0) := rfl
set_option maxRecDepth 20000 in
theorem gk_f60_28 : gd_fetch 60 28 = some (28, .istore_n 1, 1, 0, 0, 0, 0, 0) := rfl
set_option maxRecDepth 20000 in
theorem gk_f60_29 : gd_fetch 60 29 = some (29, .iload_n 1, 1, 0, 0, 0, 0, 0) := rfl
set_option maxRecDepth 20000 in
theorem gk_f60_30 : gd_fetch 60 30 = some (30, .bipush 10, 2, 0, 0, 0, 0, 0) := rfl
set_option maxRecDepth 20000 in
theorem gk_f60_32 : gd_fetch 60 32 = some (32, .if_icmp .ge 16, 3, 0, 0, 0, 0, 0) := rfl
set_option maxRecDepth 20000 in
theorem gk_f60_35 : gd_fetch 60 35 = some (35, .aload_n 0, 1, 0, 0, 0, 0, 0) := rfl
set_option maxRecDepth 20000 in
theorem gk_f60_36 : gd_fetch 60 36 = some (36, .getfield 47, 3, 467, 6, 7, 4, 1) := rfl
set_option maxRecDepth 20000 in
theorem gk_f60_39 : gd_fetch 60 39 = some (39, .iload_n 1, 1, 0, 0, 0, 0, 0) := rfl
set_option maxRecDepth 20000 in
theorem gk_f60_40 : gd_fetch 60 40 = some (40, .iconst 0, 1, 0, 0, 0, 0, 0) := rfl
set_option maxRecDepth 20000 in
theorem gk_f60_41 : gd_fetch 60 41 = some (41, .iastore, 1, 0, 0, 0, 0, 0) := rfl
set_option maxRecDepth 20000 in
theorem gk_f60_42 : gd_fetch 60 42 = some (42, .iinc 1 1, 3, 0, 0, 0, 0, 0) := rfl
set_option maxRecDepth 20000 in
theorem gk_f60_45 : gd_fetch 60 45 = some (45, .goto (-16), 3, 0, 0, 0, 0, 0) := rfl
set_option maxRecDepth 20000 in
theorem gk_f60_48 : gd_fetch 60 48 = some (48, .aload_n 0, 1, 0, 0, 0, 0, 0) := rfl
set_option maxRecDepth 20000 in
theorem gk_f60_49 : gd_fetch 60 49 = some (49, .iconst 0, 1, 0, 0, 0, 0, 0) := rfl
set_option maxRecDepth 20000 in
theorem gk_f60_50 : gd_fetch 60 50 = some (50, .putfield 86, 3, 472, 6, 12, 0, 0) := rfl
set_option maxRecDepth 20000 in
theorem gk_f60_53 : gd_fetch 60 53 = some (53, .aload_n 0, 1, 0, 0, 0, 0, 0) := rfl
set_option maxRecDepth 20000 in
theorem gk_f60_54 : gd_fetch 60 54 = some (54, .iconst 0, 1, 0, 0, 0, 0, 0) := rfl
set_option maxRecDepth 20000 in
theorem gk_f60_55 : gd_fetch 60 55 = some (55, .putfield 89, 3, 473, 6, 13, 0, 0) := rfl
set_option maxRecDepth 20000 in
theorem gk_f60_58 : gd_fetch 60 58 = some (58, .aload_n 0, 1, 0, 0, 0, 0, 0) := rfl
set_option maxRecDepth 20000 in
theorem gk_f60_59 : gd_fetch 60 59 = some (59, .iconst 0, 1, 0, 0, 0, 0, 0) := rfl
set_option maxRecDepth 20000 in
theorem gk_f60_60 : gd_fetch 60 60 = some (60, .putfield 92, 3, 474, 6, 14, 0, 0) := rfl
set_option maxRecDepth 20000 in
theorem gk_f60_63 : gd_fetch 60 63 = some (63, .return_, 1, 0, 0, 0, 0, 0) := rfl
set_option maxRecDepth 20000 in
set_option maxHeartbeats 4000000 in
theorem q_X_startMeeting (r0 : Nat) (m : gd_M) : gd_call 60 [.ref r0] m = gd_Den (60, 2, [.ref r0, .int 0], [], m) := by
  refine Eq.trans (show gd_call 60 [.ref r0] m = gd_Den (60, 0, [.ref r0, .null], [], m) from by unfold gd_call gd_ent; rw [gk_ml60]; rfl) ?_
  refine Eq.trans (D_iconst (x := 0) gk_f60_0 gk_c_0) ?_
  refine Eq.trans (D_istore_n gk_f60_1 gk_st60_1) ?_
  rfl
set_option maxRecDepth 20000 in
set_option maxHeartbeats 4000000 in
theorem q_X_startMeeting_2 (r0 : Nat) (x1 : Int32) (m : gd_M) : gd_Den (60, 2, [.ref r0, .int x1], [], m) = if gd_ok (gN m) r0 6 = true then (if (Nat.ble 10 (gd_KD (gR m r0 4)) && Nat.ble (gd_KD (gR m r0 4)) 14 && decide ((gR m r0 4) < (gN m))) = true then (if (x1 < (Int32.ofNat (gd_LN (gR m r0 4))) : Prop) then (if gd_okA (gN m) (gR m r0 4) 14 x1 = true then (if gd_ok (gN m) (gR m (gR m r0 4) (x1 : Int32).toNatClampNeg) 4 = true then (gd_Den (60, 2, [.ref r0, .int (x1 + 1)], [], (wI m (gR m (gR m r0 4) (x1 : Int32).toNatClampNeg) 3 0))) else none) else none) else (gd_Den (60, 29, [.ref r0, .int 0], [], m))) else none) else none := by
  refine Eq.trans (D_iload_n (x := x1) gk_f60_2 rfl) ?_
  refine Eq.trans (D_aload_n (x := r0) gk_f60_3 rfl) ?_
  refine Eq.trans (D_gfR gk_f60_4 (by decide)) ?_
  refine gd_ite (fun h1 => ?_) (fun _ => rfl)
  refine Eq.trans (D_alen gk_f60_7 gk_n10_60 gk_nt60) ?_
  refine gd_ite (fun h2 => ?_) (fun _ => rfl)
  refine Eq.trans (D_ic_ge (t := 27) gk_f60_8 (by decide)) ?_
  refine gd_ite (fun h3 => ?_) (fun h4 => ?_)
  · refine Eq.trans (D_aload_n (x := r0) gk_f60_11 rfl) ?_
    refine Eq.trans (D_gfR gk_f60_12 (by decide)) ?_
    refine Eq.trans (if_pos h1) ?_
    refine Eq.trans (D_iload_n (x := x1) gk_f60_15 rfl) ?_
    refine Eq.trans (D_aald gk_f60_16) ?_
    refine gd_ite (fun h5 => ?_) (fun _ => rfl)
    refine Eq.trans (D_iconst (x := 0) gk_f60_17 gk_c_0) ?_
    refine Eq.trans (D_pfZ gk_f60_18) ?_
    refine gd_ite (fun h6 => ?_) (fun _ => rfl)
    refine Eq.trans (if_pos rfl) ?_
    refine Eq.trans (D_iinc (x := x1) (y := 1) gk_f60_21 rfl gk_c_1 gk_st60_1) ?_
    refine Eq.trans (D_goto (t := 2) gk_f60_24 (by decide)) ?_
    rfl
  · refine Eq.trans (D_iconst (x := 0) gk_f60_27 gk_c_0) ?_
    refine Eq.trans (D_istore_n gk_f60_28 gk_st60_1) ?_
    rfl
set_option maxRecDepth 20000 in
set_option maxHeartbeats 4000000 in
theorem q_X_startMeeting_29 (r0 : Nat) (x1 : Int32) (m : gd_M) : gd_Den (60, 29, [.ref r0, .int x1], [], m) = if (x1 < 10 : Prop) then (if gd_ok (gN m) r0 6 = true then (if gd_okA (gN m) (gR m r0 7) 10 x1 = true then (gd_Den (60, 29, [.ref r0, .int (x1 + 1)], [], (wI m (gR m r0 7) (x1 : Int32).toNatClampNeg 0))) else none) else none) else (if gd_ok (gN m) r0 6 = true then (some (.null, (wI (wI (wI m r0 12 0) r0 13 0) r0 14 0))) else none) := by
  refine Eq.trans (D_iload_n (x := x1) gk_f60_29 rfl) ?_
  refine Eq.trans (D_bipush (x := 10) gk_f60_30 gk_b_10) ?_
  refine Eq.trans (D_ic_ge (t := 48) gk_f60_32 (by decide)) ?_
  refine gd_ite (fun h1 => ?_) (fun h2 => ?_)
  · refine Eq.trans (D_aload_n (x := r0) gk_f60_35 rfl) ?_
    refine Eq.trans (D_gfR gk_f60_36 (by decide)) ?_
    refine gd_ite (fun h3 => ?_) (fun _ => rfl)
    refine Eq.trans (D_iload_n (x := x1) gk_f60_39 rfl) ?_
    refine Eq.trans (D_iconst (x := 0) gk_f60_40 gk_c_0) ?_
    refine Eq.trans (D_iast gk_f60_41) ?_
    refine gd_ite (fun h4 => ?_) (fun _ => rfl)
    refine Eq.trans (D_iinc (x := x1) (y := 1) gk_f60_42 rfl gk_c_1 gk_st60_1) ?_
    refine Eq.trans (D_goto (t := 29) gk_f60_45 (by decide)) ?_
    rfl
  · refine Eq.trans (D_aload_n (x := r0) gk_f60_48 rfl) ?_
    refine Eq.trans (D_iconst (x := 0) gk_f60_49 gk_c_0) ?_
    refine Eq.trans (D_pfI gk_f60_50) ?_
    refine gd_ite (fun h5 => ?_) (fun _ => rfl)
    refine Eq.trans (D_aload_n (x := r0) gk_f60_53 rfl) ?_
    refine Eq.trans (D_iconst (x := 0) gk_f60_54 gk_c_0) ?_
    refine Eq.trans (D_pfI gk_f60_55) ?_
    refine Eq.trans (if_pos h5) ?_
    refine Eq.trans (D_aload_n (x := r0) gk_f60_58 rfl) ?_
    refine Eq.trans (D_iconst (x := 0) gk_f60_59 gk_c_0) ?_
    refine Eq.trans (D_pfI gk_f60_60) ?_
    refine Eq.trans (if_pos h5) ?_
    refine Eq.trans (D_vreturn gk_f60_63 gk_rk60) ?_
    rfl
/-! GymDesk.code ()I -/
set_option maxRecDepth 20000 in
theorem gk_f61_0 : gd_fetch 61 0 = some (0, .aload_n 0, 1, 0, 0, 0, 0, 0) := rfl
set_option maxRecDepth 20000 in
theorem gk_f61_1 : gd_fetch 61 1 = some (1, .getfield 16, 3, 461, 6, 1, 4, 1) := rfl
set_option maxRecDepth 20000 in
theorem gk_f61_4 : gd_fetch 61 4 = some (4, .aload_n 0, 1, 0, 0, 0, 0, 0) := rfl
set_option maxRecDepth 20000 in
theorem gk_f61_5 : gd_fetch 61 5 = some (5, .getfield 9, 3, 460, 6, 0, 4, 1) := rfl
set_option maxRecDepth 20000 in
theorem gk_f61_8 : gd_fetch 61 8 = some (8, .aload_n 0, 1, 0, 0, 0, 0, 0) := rfl
set_option maxRecDepth 20000 in
theorem gk_f61_9 : gd_fetch 61 9 = some (9, .getfield 64, 3, 471, 6, 11, 0, 0) := rfl
set_option maxRecDepth 20000 in
theorem gk_f61_12 : gd_fetch 61 12 = some (12, .aload_n 0, 1, 0, 0, 0, 0, 0) := rfl
set_option maxRecDepth 20000 in
theorem gk_f61_13 : gd_fetch 61 13 = some (13, .getfield 60, 3, 470, 6, 10, 4, 0) := rfl
set_option maxRecDepth 20000 in
theorem gk_f61_16 : gd_fetch 61 16 = some (16, .invokevirtual 72, 3, 522, 59, 3, 0, 0) := rfl
set_option maxRecDepth 20000 in
theorem gk_f61_19 : gd_fetch 61 19 = some (19, .istore_n 1, 1, 0, 0, 0, 0, 0) := rfl
set_option maxRecDepth 20000 in
theorem gk_f61_20 : gd_fetch 61 20 = some (20, .aload_n 0, 1, 0, 0, 0, 0, 0) := rfl
set_option maxRecDepth 20000 in
theorem gk_f61_21 : gd_fetch 61 21 = some (21, .iconst 0, 1, 0, 0, 0, 0, 0) := rfl
set_option maxRecDepth 20000 in
theorem gk_f61_22 : gd_fetch 61 22 = some (22, .putfield 64, 3, 471, 6, 11, 0, 0) := rfl
set_option maxRecDepth 20000 in
theorem gk_f61_25 : gd_fetch 61 25 = some (25, .iload_n 1, 1, 0, 0, 0, 0, 0) := rfl
set_option maxRecDepth 20000 in
theorem gk_f61_26 : gd_fetch 61 26 = some (26, .ifCond .ne 5, 3, 0, 0, 0, 0, 0) := rfl
set_option maxRecDepth 20000 in
theorem gk_f61_29 : gd_fetch 61 29 = some (29, .iconst (-1), 1, 0, 0, 0, 0, 0) := rfl
set_option maxRecDepth 20000 in
theorem gk_f61_30 : gd_fetch 61 30 = some (30, .ireturn, 1, 0, 0, 0, 0, 0) := rfl
set_option maxRecDepth 20000 in
theorem gk_f61_31 : gd_fetch 61 31 = some (31, .aload_n 0, 1, 0, 0, 0, 0, 0) := rfl
set_option maxRecDepth 20000 in
theorem gk_f61_32 : gd_fetch 61 32 = some (32, .getfield 60, 3, 470, 6, 10, 4, 0) := rfl
set_option maxRecDepth 20000 in
theorem gk_f61_35 : gd_fetch 61 35 = some (35, .astore_n 2, 1, 0, 0, 0, 0, 0) := rfl
set_option maxRecDepth 20000 in
theorem gk_f61_36 : gd_fetch 61 36 = some (36, .aload_n 0, 1, 0, 0, 0, 0, 0) := rfl
set_option maxRecDepth 20000 in
theorem gk_f61_37 : gd_fetch 61 37 = some (37, .aload_n 0, 1, 0, 0, 0, 0, 0) := rfl
set_option maxRecDepth 20000 in
theorem gk_f61_38 : gd_fetch 61 38 = some (38, .getfield 56, 3, 469, 6, 9, 4, 0) := rfl
set_option maxRecDepth 20000 in
theorem gk_f61_41 : gd_fetch 61 41 = some (41, .putfield 60, 3, 470, 6, 10, 4, 0) := rfl
set_option maxRecDepth 20000 in
theorem gk_f61_44 : gd_fetch 61 44 = some (44, .aload_n 0, 1, 0, 0, 0, 0, 0) := rfl
set_option maxRecDepth 20000 in
theorem gk_f61_45 : gd_fetch 61 45 = some (45, .aload_n 2, 1, 0, 0, 0, 0, 0) := rfl
set_option maxRecDepth 20000 in
theorem gk_f61_46 : gd_fetch 61 46 = some (46, .putfield 56, 3, 469, 6, 9, 4, 0) := rfl
set_option maxRecDepth 20000 in
theorem gk_f61_49 : gd_fetch 61 49 = some (49, .aload_n 0, 1, 0, 0, 0, 0, 0) := rfl
set_option maxRecDepth 20000 in
theorem gk_f61_50 : gd_fetch 61 50 = some (50, .invokevirtual 76, 3, 654, 60, 0, 0, 0) := rfl
set_option maxRecDepth 20000 in
theorem gk_f61_53 : gd_fetch 61 53 = some (53, .aload_n 0, 1, 0, 0, 0, 0, 0) := rfl
set_option maxRecDepth 20000 in
theorem gk_f61_54 : gd_fetch 61 54 = some (54, .getfield 56, 3, 469, 6, 9, 4, 0) := rfl
set_option maxRecDepth 20000 in
theorem gk_f61_57 : gd_fetch 61 57 = some (57, .getfield 79, 3, 354, 1, 12, 0, 0) := rfl
set_option maxRecDepth 20000 in
theorem gk_f61_60 : gd_fetch 61 60 = some (60, .ireturn, 1, 0, 0, 0, 0, 0) := rfl
set_option maxRecDepth 20000 in
set_option maxHeartbeats 4000000 in
theorem q_X_code (r0 : Nat) (m : gd_M) : gd_call 61 [.ref r0] m = if gd_ok (gN m) r0 6 = true then (if gd_ok (gN m) (gR m r0 1) 3 = true then ((gd_call 59 [.ref (gR m r0 1), .ref (gR m r0 0), .int (gI m r0 11), .ref (gR m r0 10)] m).bind (gd_kI fun z5 m3 => if gd_ok (gN m3) r0 6 = true then (if (z5 = 0 : Prop) then (some (.int (-1), (wI m3 r0 11 0))) else ((gd_call 60 [.ref r0] (wR (wR (wI m3 r0 11 0) r0 10 (gR m3 r0 9)) r0 9 (gR m3 r0 10))).bind (gd_kV fun m9 => if gd_ok (gN m9) r0 6 = true then (if gd_ok (gN m9) (gR m9 r0 9) 1 = true then (some (.int (gI m9 (gR m9 r0 9) 12), m9)) else none) else none))) else none)) else none) else none := by
  refine Eq.trans (show gd_call 61 [.ref r0] m = gd_Den (61, 0, [.ref r0, .null, .null], [], m) from by unfold gd_call gd_ent; rw [gk_ml61]; rfl) ?_
  refine Eq.trans (D_aload_n (x := r0) gk_f61_0 rfl) ?_
  refine Eq.trans (D_gfR gk_f61_1 (by decide)) ?_
  refine gd_ite (fun h1 => ?_) (fun _ => rfl)
  refine Eq.trans (D_aload_n (x := r0) gk_f61_4 rfl) ?_
  refine Eq.trans (D_gfR gk_f61_5 (by decide)) ?_
  refine Eq.trans (if_pos h1) ?_
  refine Eq.trans (D_aload_n (x := r0) gk_f61_8 rfl) ?_
  refine Eq.trans (D_gfI gk_f61_9 (by decide) (by decide) (by decide)) ?_
  refine Eq.trans (if_pos h1) ?_
  refine Eq.trans (D_aload_n (x := r0) gk_f61_12 rfl) ?_
  refine Eq.trans (D_gfR gk_f61_13 (by decide)) ?_
  refine Eq.trans (if_pos h1) ?_
  refine Eq.trans (D_ivZ (cl := 3) (args := [.ref (gR m r0 1), .ref (gR m r0 0), .int (gI m r0 11), .ref (gR m r0 10)]) (rest := []) gk_f61_16 rfl rfl (gd_rmk gk_rm61_59 gk_ln59 gk_ml59 rfl rfl rfl) gk_rk59 (gd_hnd_n gk_nc61) gk_nc59 gk_n11_59 gk_cl59) ?_
  refine gd_ite (fun h2 => ?_) (fun _ => rfl)
  refine gd_bnd (gd_kI_c fun z5 m3 => ?_)
  refine Eq.trans (D_istore_n gk_f61_19 gk_st61_1) ?_
  refine Eq.trans (D_aload_n (x := r0) gk_f61_20 rfl) ?_
  refine Eq.trans (D_iconst (x := 0) gk_f61_21 gk_c_0) ?_
  refine Eq.trans (D_pfI gk_f61_22) ?_
  refine gd_ite (fun h6 => ?_) (fun _ => rfl)
  refine Eq.trans (D_iload_n (x := z5) gk_f61_25 rfl) ?_
  refine Eq.trans (D_if_ne (t := 31) gk_f61_26 (by decide)) ?_
  refine gd_ite (fun h7 => ?_) (fun h8 => ?_)
  · refine Eq.trans (D_iconst (x := (-1)) gk_f61_29 gk_c_m1) ?_
    refine Eq.trans (D_ireturn gk_f61_30 gk_rk61) ?_
    rfl
  · refine Eq.trans (D_aload_n (x := r0) gk_f61_31 rfl) ?_
    refine Eq.trans (D_gfR gk_f61_32 (by decide)) ?_
    refine Eq.trans (if_pos h6) ?_
    refine Eq.trans (D_astore_n gk_f61_35 gk_st61_2) ?_
    refine Eq.trans (D_aload_n (x := r0) gk_f61_36 rfl) ?_
    refine Eq.trans (D_aload_n (x := r0) gk_f61_37 rfl) ?_
    refine Eq.trans (D_gfR gk_f61_38 (by decide)) ?_
    refine Eq.trans (if_pos h6) ?_
    refine Eq.trans (D_pfR gk_f61_41) ?_
    refine Eq.trans (if_pos h6) ?_
    refine Eq.trans (D_aload_n (x := r0) gk_f61_44 rfl) ?_
    refine Eq.trans (D_aload_n (x := (gR m3 r0 10)) gk_f61_45 rfl) ?_
    refine Eq.trans (D_pfR gk_f61_46) ?_
    refine Eq.trans (if_pos h6) ?_
    refine Eq.trans (D_aload_n (x := r0) gk_f61_49 rfl) ?_
    refine Eq.trans (D_ivV (cl := 6) (args := [.ref r0]) (rest := []) gk_f61_50 rfl rfl (gd_rmk gk_rm61_60 gk_ln60 gk_ml60 rfl rfl rfl) gk_rk60 (gd_hnd_n gk_nc61) gk_nc60 gk_n11_60 gk_cl60) ?_
    refine Eq.trans (if_pos h6) ?_
    refine gd_bnd (gd_kV_c fun m9 => ?_)
    refine Eq.trans (D_aload_n (x := r0) gk_f61_53 rfl) ?_
    refine Eq.trans (D_gfR gk_f61_54 (by decide)) ?_
    refine gd_ite (fun h11 => ?_) (fun _ => rfl)
    refine Eq.trans (D_gfI gk_f61_57 (by decide) (by decide) (by decide)) ?_
    refine gd_ite (fun h12 => ?_) (fun _ => rfl)
    refine Eq.trans (D_ireturn gk_f61_60 gk_rk61) ?_
    rfl
/-! GymDeskModel.see (I)I -/
set_option maxRecDepth 20000 in
theorem gk_f62_0 : gd_fetch 62 0 = some (0, .iload_n 1, 1, 0, 0, 0, 0, 0) := rfl
set_option maxRecDepth 20000 in
theorem gk_f62_1 : gd_fetch 62 1 = some (1, .aload_n 0, 1, 0, 0, 0, 0, 0) := rfl
set_option maxRecDepth 20000 in
theorem gk_f62_2 : gd_fetch 62 2 = some (2, .getfield 117, 3, 1168, 9, 5, 0, 0) := rfl
set_option maxRecDepth 20000 in
theorem gk_f62_5 : gd_fetch 62 5 = some (5, .if_icmp .ge 16, 3, 0, 0, 0, 0, 0) := rfl
set_option maxRecDepth 20000 in
theorem gk_f62_8 : gd_fetch 62 8 = some (8, .aload_n 0, 1, 0, 0, 0, 0, 0) := rfl
set_option maxRecDepth 20000 in
theorem gk_f62_9 : gd_fetch 62 9 = some (9, .getfield 26, 3, 1166, 9, 3, 4, 1) := rfl
set_option maxRecDepth 20000 in
theorem gk_f62_12 : gd_fetch 62 12 = some (12, .iload_n 1, 1, 0, 0, 0, 0, 0) := rfl
set_option maxRecDepth 20000 in
theorem gk_f62_13 : gd_fetch 62 13 = some (13, .baload, 1, 0, 0, 0, 0, 0) := rfl
set_option maxRecDepth 20000 in
theorem gk_f62_14 : gd_fetch 62 14 = some (14, .sipush 255, 3, 0, 0, 0, 0, 0) := rfl
set_option maxRecDepth 20000 in
theorem gk_f62_17 : gd_fetch 62 17 = some (17, .iand, 1, 0, 0, 0, 0, 0) := rfl
set_option maxRecDepth 20000 in
theorem gk_f62_18 : gd_fetch 62 18 = some (18, .goto 4, 3, 0, 0, 0, 0, 0) := rfl
set_option maxRecDepth 20000 in
theorem gk_f62_21 : gd_fetch 62 21 = some (21, .iconst (-1), 1, 0, 0, 0, 0, 0) := rfl
set_option maxRecDepth 20000 in
theorem gk_f62_22 : gd_fetch 62 22 = some (22, .ireturn, 1, 0, 0, 0, 0, 0) := rfl
set_option maxRecDepth 20000 in
set_option maxHeartbeats 4000000 in
theorem q_Mo_see_1 (r0 : Nat) (x1 : Int32) (m : gd_M) : gd_call 62 [.ref r0, .int x1] m = if gd_ok (gN m) r0 9 = true then (if (x1 < (gI m r0 5) : Prop) then (if gd_okA (gN m) (gR m r0 3) 12 x1 = true then (some (.int ((gI m (gR m r0 3) (x1 : Int32).toNatClampNeg) &&& 255), m)) else none) else (some (.int (-1), m))) else none := by
  refine Eq.trans (show gd_call 62 [.ref r0, .int x1] m = gd_Den (62, 0, [.ref r0, .int x1], [], m) from by unfold gd_call gd_ent; rw [gk_ml62]; rfl) ?_
  refine Eq.trans (D_iload_n (x := x1) gk_f62_0 rfl) ?_
  refine Eq.trans (D_aload_n (x := r0) gk_f62_1 rfl) ?_
  refine Eq.trans (D_gfI gk_f62_2 (by decide) (by decide) (by decide)) ?_
  refine gd_ite (fun h1 => ?_) (fun _ => rfl)
  refine Eq.trans (D_ic_ge (t := 21) gk_f62_5 (by decide)) ?_
  refine gd_ite (fun h2 => ?_) (fun h3 => ?_)
  · refine Eq.trans (D_aload_n (x := r0) gk_f62_8 rfl) ?_
    refine Eq.trans (D_gfR gk_f62_9 (by decide)) ?_
    refine Eq.trans (if_pos h1) ?_
    refine Eq.trans (D_iload_n (x := x1) gk_f62_12 rfl) ?_
    refine Eq.trans (D_bald (kd := 12) gk_f62_13 gk_n12_62 gk_bk62) ?_
    refine gd_ite (fun h4 => ?_) (fun _ => rfl)
    refine Eq.trans (D_sipush (x := 255) gk_f62_14 gk_s_255) ?_
    refine Eq.trans (D_iand gk_f62_17) ?_
    refine Eq.trans (D_goto (t := 22) gk_f62_18 (by decide)) ?_
    refine Eq.trans (D_ireturn gk_f62_22 gk_rk62) ?_
    rfl
  · refine Eq.trans (D_iconst (x := (-1)) gk_f62_21 gk_c_m1) ?_
    refine Eq.trans (D_ireturn gk_f62_22 gk_rk62) ?_
    rfl
/-! GymDeskModel.isSmall (I)Z -/
set_option maxRecDepth 20000 in
theorem gk_f63_0 : gd_fetch 63 0 = some (0, .iload_n 0, 1, 0, 0, 0, 0, 0) := rfl
set_option maxRecDepth 20000 in
theorem gk_f63_1 : gd_fetch 63 1 = some (1, .bipush 97, 2, 0, 0, 0, 0, 0) := rfl
set_option maxRecDepth 20000 in
theorem gk_f63_3 : gd_fetch 63 3 = some (3, .if_icmp .lt 13, 3, 0, 0, 0, 0, 0) := rfl
set_option maxRecDepth 20000 in
theorem gk_f63_6 : gd_fetch 63 6 = some (6, .iload_n 0, 1, 0, 0, 0, 0, 0) := rfl
set_option maxRecDepth 20000 in
theorem gk_f63_7 : gd_fetch 63 7 = some (7, .bipush 122, 2, 0, 0, 0, 0, 0) := rfl
set_option maxRecDepth 20000 in
theorem gk_f63_9 : gd_fetch 63 9 = some (9, .if_icmp .gt 7, 3, 0, 0, 0, 0, 0) := rfl
set_option maxRecDepth 20000 in
theorem gk_f63_12 : gd_fetch 63 12 = some (12, .iconst 1, 1, 0, 0, 0, 0, 0) := rfl
set_option maxRecDepth 20000 in
theorem gk_f63_13 : gd_fetch 63 13 = some (13, .goto 4, 3, 0, 0, 0, 0, 0) := rfl
set_option maxRecDepth 20000 in
theorem gk_f63_16 : gd_fetch 63 16 = some (16, .iconst 0, 1, 0, 0, 0, 0, 0) := rfl
set_option maxRecDepth 20000 in
theorem gk_f63_17 : gd_fetch 63 17 = some (17, .ireturn, 1, 0, 0, 0, 0, 0) := rfl
set_option maxRecDepth 20000 in
set_option maxHeartbeats 4000000 in
theorem q_Mo_isSmall (x0 : Int32) (m : gd_M) : gd_call 63 [.int x0] m = if (x0 < 97 : Prop) then (some (.int 0, m)) else (if (122 < x0 : Prop) then (some (.int 0, m)) else (some (.int 1, m))) := by
  refine Eq.trans (show gd_call 63 [.int x0] m = gd_Den (63, 0, [.int x0], [], m) from by unfold gd_call gd_ent; rw [gk_ml63]; rfl) ?_
  refine Eq.trans (D_iload_n (x := x0) gk_f63_0 rfl) ?_
  refine Eq.trans (D_bipush (x := 97) gk_f63_1 gk_b_97) ?_
  refine Eq.trans (D_ic_lt (t := 16) gk_f63_3 (by decide)) ?_
  refine gd_ite (fun h1 => ?_) (fun h2 => ?_)
  · refine Eq.trans (D_iconst (x := 0) gk_f63_16 gk_c_0) ?_
    refine Eq.trans (D_zreturn gk_f63_17 gk_rk63) ?_
    exact if_pos rfl
  · refine Eq.trans (D_iload_n (x := x0) gk_f63_6 rfl) ?_
    refine Eq.trans (D_bipush (x := 122) gk_f63_7 gk_b_122) ?_
    refine Eq.trans (D_ic_gt (t := 16) gk_f63_9 (by decide)) ?_
    refine gd_ite (fun h3 => ?_) (fun h4 => ?_)
    · refine Eq.trans (D_iconst (x := 0) gk_f63_16 gk_c_0) ?_
      refine Eq.trans (D_zreturn gk_f63_17 gk_rk63) ?_
      exact if_pos rfl
    · refine Eq.trans (D_iconst (x := 1) gk_f63_12 gk_c_1) ?_
      refine Eq.trans (D_goto (t := 17) gk_f63_13 (by decide)) ?_
      refine Eq.trans (D_zreturn gk_f63_17 gk_rk63) ?_
      exact if_pos rfl
/-! GymDeskModel.keyAt (II)I -/
set_option maxRecDepth 20000 in
theorem gk_f64_0 : gd_fetch 64 0 = some (0, .iconst 0, 1, 0, 0, 0, 0, 0) := rfl
set_option maxRecDepth 20000 in
theorem gk_f64_1 : gd_fetch 64 1 = some (1, .istore_n 3, 1, 0, 0, 0, 0, 0) := rfl
set_option maxRecDepth 20000 in
theorem gk_f64_2 : gd_fetch 64 2 = some (2, .iconst 0, 1, 0, 0, 0, 0, 0) := rfl
set_option maxRecDepth 20000 in
theorem gk_f64_3 : gd_fetch 64 3 = some (3, .istore 4, 2, 0, 0, 0, 0, 0) := rfl
set_option maxRecDepth 20000 in
theorem gk_f64_5 : gd_fetch 64 5 = some (5, .iconst 0, 1, 0, 0, 0, 0, 0) := rfl
set_option maxRecDepth 20000 in
theorem gk_f64_6 : gd_fetch 64 6 = some (6, .istore 5, 2, 0, 0, 0, 0, 0) := rfl
set_option maxRecDepth 20000 in
theorem gk_f64_8 : gd_fetch 64 8 = some (8, .iload 5, 2, 0, 0, 0, 0, 0) := rfl
set_option maxRecDepth 20000 in
theorem gk_f64_10 : gd_fetch 64 10 = some (10, .ldc 126, 2, 1326, 0, 0, 1, 0) := rfl
set_option maxRecDepth 20000 in
theorem gk_f64_12 : gd_fetch 64 12 = some (12, .invokevirtual 128, 3, 1327, 1, 0, 0, 0) := rfl
set_option maxRecDepth 20000 in
theorem gk_f64_15 : gd_fetch 64 15 = some (15, .if_icmp .ge 104, 3, 0, 0, 0, 0, 0) := rfl
set_option maxRecDepth 20000 in
theorem gk_f64_18 : gd_fetch 64 18 = some (18, .ldc 126, 2, 1326, 0, 0, 1, 0) := rfl
set_option maxRecDepth 20000 in
theorem gk_f64_20 : gd_fetch 64 20 = some (20, .iload 5, 2, 0, 0, 0, 0, 0) := rfl
set_option maxRecDepth 20000 in
theorem gk_f64_22 : gd_fetch 64 22 = some (22, .invokevirtual 134, 3, 1328, 6, 1, 0, 0) := rfl
set_option maxRecDepth 20000 in
theorem gk_f64_25 : gd_fetch 64 25 = some (25, .bipush 32, 2, 0, 0, 0, 0, 0) := rfl
set_option maxRecDepth 20000 in
theorem gk_f64_27 : gd_fetch 64 27 = some (27, .if_icmp .eq 6, 3, 0, 0, 0, 0, 0) := rfl
set_option maxRecDepth 20000 in
theorem gk_f64_30 : gd_fetch 64 30 = some (30, .goto 83, 3, 0, 0, 0, 0, 0) := rfl
set_option maxRecDepth 20000 in
theorem gk_f64_33 : gd_fetch 64 33 = some (33, .iload 5, 2, 0, 0, 0, 0, 0) := rfl
set_option maxRecDepth 20000 in
theorem gk_f64_35 : gd_fetch 64 35 = some (35, .iload 4, 2, 0, 0, 0, 0, 0) := rfl
set_option maxRecDepth 20000 in
theorem gk_f64_37 : gd_fetch 64 37 = some (37, .isub, 1, 0, 0, 0, 0, 0) := rfl
set_option maxRecDepth 20000 in
theorem gk_f64_38 : gd_fetch 64 38 = some (38, .iload_n 2, 1, 0, 0, 0, 0, 0) := rfl
set_option maxRecDepth 20000 in
theorem gk_f64_39 : gd_fetch 64 39 = some (39, .if_icmp .ne 7, 3, 0, 0, 0, 0, 0) := rfl
set_option maxRecDepth 20000 in
theorem gk_f64_42 : gd_fetch 64 42 = some (42, .iconst 1, 1, 0, 0, 0, 0, 0) := rfl
set_option maxRecDepth 20000 in
theorem gk_f64_43 : gd_fetch 64 43 = some (43, .goto 4, 3, 0, 0, 0, 0, 0) := rfl
set_option maxRecDepth 20000 in
theorem gk_f64_46 : gd_fetch 64 46 = some (46, .iconst 0, 1, 0, 0, 0, 0, 0) := rfl
set_option maxRecDepth 20000 in
theorem gk_f64_47 : gd_fetch 64 47 = some (47, .istore 6, 2, 0, 0, 0, 0, 0) := rfl
set_option maxRecDepth 20000 in
theorem gk_f64_49 : gd_fetch 64 49 = some (49, .iconst 0, 1, 0, 0, 0, 0, 0) := rfl
set_option maxRecDepth 20000 in
theorem gk_f64_50 : gd_fetch 64 50 = some (50, .istore 7, 2, 0, 0, 0, 0, 0) := rfl
set_option maxRecDepth 20000 in
theorem gk_f64_52 : gd_fetch 64 52 = some (52, .iload 7, 2, 0, 0, 0, 0, 0) := rfl
set_option maxRecDepth 20000 in
theorem gk_f64_54 : gd_fetch 64 54 = some (54, .iload_n 2, 1, 0, 0, 0, 0, 0) := rfl
set_option maxRecDepth 20000 in
theorem gk_f64_55 : gd_fetch 64 55 = some (55, .if_icmp .ge 42, 3, 0, 0, 0, 0, 0) := rfl
set_option maxRecDepth 20000 in
theorem gk_f64_58 : gd_fetch 64 58 = some (58, .iload 6, 2, 0, 0, 0, 0, 0) := rfl
set_option maxRecDepth 20000 in
theorem gk_f64_60 : gd_fetch 64 60 = some (60, .ifCond .eq 37, 3, 0, 0, 0, 0, 0) := rfl
set_option maxRecDepth 20000 in
theorem gk_f64_63 : gd_fetch 64 63 = some (63, .ldc 126, 2, 1326, 0, 0, 1, 0) := rfl
set_option maxRecDepth 20000 in
theorem gk_f64_65 : gd_fetch 64 65 = some (65, .iload 4, 2, 0, 0, 0, 0, 0) := rfl
set_option maxRecDepth 20000 in
theorem gk_f64_67 : gd_fetch 64 67 = some (67, .iload 7, 2, 0, 0, 0, 0, 0) := rfl
set_option maxRecDepth 20000 in
theorem gk_f64_69 : gd_fetch 64 69 = some (69, .iadd, 1, 0, 0, 0, 0, 0) := rfl
set_option maxRecDepth 20000 in
theorem gk_f64_70 : gd_fetch 64 70 = some (70, .invokevirtual 134, 3, 1328, 6, 1, 0, 0) := rfl
set_option maxRecDepth 20000 in
theorem gk_f64_73 : gd_fetch 64 73 = some (73, .aload_n 0, 1, 0, 0, 0, 0, 0) := rfl
set_option maxRecDepth 20000 in
theorem gk_f64_74 : gd_fetch 64 74 = some (74, .iload_n 1, 1, 0, 0, 0, 0, 0) := rfl
set_option maxRecDepth 20000 in
theorem gk_f64_75 : gd_fetch 64 75 = some (75, .iload 7, 2, 0, 0, 0, 0, 0) := rfl
set_option maxRecDepth 20000 in
theorem gk_f64_77 : gd_fetch 64 77 = some (77, .iadd, 1, 0, 0, 0, 0, 0) := rfl
set_option maxRecDepth 20000 in
theorem gk_f64_78 : gd_fetch 64 78 = some (78, .invokevirtual 138, 3, 1315, 62, 1, 0, 0) := rfl
set_option maxRecDepth 20000 in
theorem gk_f64_81 : gd_fetch 64 81 = some (81, .if_icmp .ne 7, 3, 0, 0, 0, 0, 0) := rfl
set_option maxRecDepth 20000 in
theorem gk_f64_84 : gd_fetch 64 84 = some (84, .iconst 1, 1, 0, 0, 0, 0, 0) := rfl
set_option maxRecDepth 20000 in
theorem gk_f64_85 : gd_fetch 64 85 = some (85, .goto 4, 3, 0, 0, 0, 0, 0) := rfl
set_option maxRecDepth 20000 in
theorem gk_f64_88 : gd_fetch 64 88 = some (88, .iconst 0, 1, 0, 0, 0, 0, 0) := rfl
set_option maxRecDepth 20000 in
theorem gk_f64_89 : gd_fetch 64 89 = some (89, .istore 6, 2, 0, 0, 0, 0, 0) := rfl
set_option maxRecDepth 20000 in
theorem gk_f64_91 : gd_fetch 64 91 = some (91, .iinc 7 1, 3, 0, 0, 0, 0, 0) := rfl
set_option maxRecDepth 20000 in
theorem gk_f64_94 : gd_fetch 64 94 = some (94, .goto (-42), 3, 0, 0, 0, 0, 0) := rfl
set_option maxRecDepth 20000 in
theorem gk_f64_97 : gd_fetch 64 97 = some (97, .iload 6, 2, 0, 0, 0, 0, 0) := rfl
set_option maxRecDepth 20000 in
theorem gk_f64_99 : gd_fetch 64 99 = some (99, .ifCond .eq 5, 3, 0, 0, 0, 0, 0) := rfl
set_option maxRecDepth 20000 in
theorem gk_f64_102 : gd_fetch 64 102 = some (102, .iload_n 3, 1, 0, 0, 0, 0, 0) := rfl
set_option maxRecDepth 20000 in
theorem gk_f64_103 : gd_fetch 64 103 = some (103, .ireturn, 1, 0, 0, 0, 0, 0) := rfl
set_option maxRecDepth 20000 in
theorem gk_f64_104 : gd_fetch 64 104 = some (104, .iinc 3 1, 3, 0, 0, 0, 0, 0) := rfl
set_option maxRecDepth 20000 in
theorem gk_f64_107 : gd_fetch 64 107 = some (107, .iload 5, 2, 0, 0, 0, 0, 0) := rfl
set_option maxRecDepth 20000 in
theorem gk_f64_109 : gd_fetch 64 109 = some (109, .iconst 1, 1, 0, 0, 0, 0, 0) := rfl
set_option maxRecDepth 20000 in
theorem gk_f64_110 : gd_fetch 64 110 = some (110, .iadd, 1, 0, 0, 0, 0, 0) := rfl
set_option maxRecDepth 20000 in
theorem gk_f64_111 : gd_fetch 64 111 = some (111, .istore 4, 2, 0, 0, 0, 0, 0) := rfl
set_option maxRecDepth 20000 in
theorem gk_f64_113 : gd_fetch 64 113 = some (113, .iinc 5 1, 3, 0, 0, 0, 0, 0) := rfl
set_option maxRecDepth 20000 in
theorem gk_f64_116 : gd_fetch 64 116 = some (116, .goto (-108), 3, 0, 0, 0, 0, 0) := rfl
set_option maxRecDepth 20000 in
theorem gk_f64_119 : gd_fetch 64 119 = some (119, .iconst (-1), 1, 0, 0, 0, 0, 0) := rfl
set_option maxRecDepth 20000 in
theorem gk_f64_120 : gd_fetch 64 120 = some (120, .ireturn, 1, 0, 0, 0, 0, 0) := rfl
set_option maxRecDepth 20000 in
set_option maxHeartbeats 4000000 in
theorem q_Mo_keyAt (r0 : Nat) (x1 : Int32) (x2 : Int32) (m : gd_M) : gd_call 64 [.ref r0, .int x1, .int x2] m = gd_Den (64, 8, [.ref r0, .int x1, .int x2, .int 0, .int 0, .int 0, .null, .null], [], m) := by
  refine Eq.trans (show gd_call 64 [.ref r0, .int x1, .int x2] m = gd_Den (64, 0, [.ref r0, .int x1, .int x2, .null, .null, .null, .null, .null], [], m) from by unfold gd_call gd_ent; rw [gk_ml64]; rfl) ?_
  refine Eq.trans (D_iconst (x := 0) gk_f64_0 gk_c_0) ?_
  refine Eq.trans (D_istore_n gk_f64_1 gk_st64_3) ?_
  refine Eq.trans (D_iconst (x := 0) gk_f64_2 gk_c_0) ?_
  refine Eq.trans (D_istore gk_f64_3 gk_st64_4) ?_
  refine Eq.trans (D_iconst (x := 0) gk_f64_5 gk_c_0) ?_
  refine Eq.trans (D_istore gk_f64_6 gk_st64_5) ?_
  rfl
set_option maxRecDepth 20000 in
set_option maxHeartbeats 4000000 in
theorem q_Mo_keyAt_8 (r0 : Nat) (x1 : Int32) (x2 : Int32) (x3 : Int32) (x4 : Int32) (x5 : Int32) (v6 : Value) (v7 : Value) (m : gd_M) : gd_Den (64, 8, [.ref r0, .int x1, .int x2, .int x3, .int x4, .int x5, v6, v7], [], m) = (gd_call 1 [.ref 1] m).bind (gd_kI fun z3 m1 => if (x5 < z3 : Prop) then ((gd_call 6 [.ref 1, .int x5] m1).bind (gd_kI fun z8 m6 => if (z8 = 32 : Prop) then (if ((x5 - x4) = x2 : Prop) then (gd_Den (64, 52, [.ref r0, .int x1, .int x2, .int x3, .int x4, .int x5, .int 1, .int 0], [], m6)) else (gd_Den (64, 52, [.ref r0, .int x1, .int x2, .int x3, .int x4, .int x5, .int 0, .int 0], [], m6))) else (gd_Den (64, 8, [.ref r0, .int x1, .int x2, .int x3, .int x4, .int (x5 + 1), v6, v7], [], m6)))) else (some (.int (-1), m1))) := by
  refine Eq.trans (D_iload (x := x5) gk_f64_8 rfl) ?_
  refine Eq.trans (D_ldcS gk_f64_10) ?_
  refine Eq.trans (D_ivSI (args := [.ref 1]) (rest := [.int x5]) gk_f64_12 rfl rfl (gd_rmk gk_rm64_1 gk_ln1 gk_ml1 rfl rfl rfl) gk_rk1 (gd_hnd_n gk_nc64) gk_nc1 gk_t11_1) ?_
  refine gd_bnd (gd_kI_c fun z3 m1 => ?_)
  refine Eq.trans (D_ic_ge (t := 119) gk_f64_15 (by decide)) ?_
  refine gd_ite (fun h4 => ?_) (fun h5 => ?_)
  · refine Eq.trans (D_ldcS gk_f64_18) ?_
    refine Eq.trans (D_iload (x := x5) gk_f64_20 rfl) ?_
    refine Eq.trans (D_ivSC (args := [.ref 1, .int x5]) (rest := []) gk_f64_22 rfl rfl (gd_rmk gk_rm64_6 gk_ln6 gk_ml6 rfl rfl rfl) gk_rk6 (gd_hnd_n gk_nc64) gk_nc6 gk_t11_6) ?_
    refine gd_bnd (gd_kI_c fun z8 m6 => ?_)
    refine Eq.trans (D_bipush (x := 32) gk_f64_25 gk_b_32) ?_
    refine Eq.trans (D_ic_eq (t := 33) gk_f64_27 (by decide)) ?_
    refine gd_ite (fun h9 => ?_) (fun h10 => ?_)
    · refine Eq.trans (D_iload (x := x5) gk_f64_33 rfl) ?_
      refine Eq.trans (D_iload (x := x4) gk_f64_35 rfl) ?_
      refine Eq.trans (D_isub gk_f64_37) ?_
      refine Eq.trans (D_iload_n (x := x2) gk_f64_38 rfl) ?_
      refine Eq.trans (D_ic_ne (t := 46) gk_f64_39 (by decide)) ?_
      refine gd_ite (fun h11 => ?_) (fun h12 => ?_)
      · refine Eq.trans (D_iconst (x := 1) gk_f64_42 gk_c_1) ?_
        refine Eq.trans (D_goto (t := 47) gk_f64_43 (by decide)) ?_
        refine Eq.trans (D_istore gk_f64_47 gk_st64_6) ?_
        refine Eq.trans (D_iconst (x := 0) gk_f64_49 gk_c_0) ?_
        refine Eq.trans (D_istore gk_f64_50 gk_st64_7) ?_
        rfl
      · refine Eq.trans (D_iconst (x := 0) gk_f64_46 gk_c_0) ?_
        refine Eq.trans (D_istore gk_f64_47 gk_st64_6) ?_
        refine Eq.trans (D_iconst (x := 0) gk_f64_49 gk_c_0) ?_
        refine Eq.trans (D_istore gk_f64_50 gk_st64_7) ?_
        rfl
    · refine Eq.trans (D_goto (t := 113) gk_f64_30 (by decide)) ?_
      refine Eq.trans (D_iinc (x := x5) (y := 1) gk_f64_113 rfl gk_c_1 gk_st64_5) ?_
      refine Eq.trans (D_goto (t := 8) gk_f64_116 (by decide)) ?_
      rfl
  · refine Eq.trans (D_iconst (x := (-1)) gk_f64_119 gk_c_m1) ?_
    refine Eq.trans (D_ireturn gk_f64_120 gk_rk64) ?_
    rfl
set_option maxRecDepth 20000 in
set_option maxHeartbeats 4000000 in
theorem q_Mo_keyAt_52 (r0 : Nat) (x1 : Int32) (x2 : Int32) (x3 : Int32) (x4 : Int32) (x5 : Int32) (x6 : Int32) (x7 : Int32) (m : gd_M) : gd_Den (64, 52, [.ref r0, .int x1, .int x2, .int x3, .int x4, .int x5, .int x6, .int x7], [], m) = if (x7 < x2 : Prop) then (if (x6 = 0 : Prop) then (if (x6 = 0 : Prop) then (gd_Den (64, 8, [.ref r0, .int x1, .int x2, .int (x3 + 1), .int (x5 + 1), .int (x5 + 1), .int x6, .int x7], [], m)) else (some (.int x3, m))) else ((gd_call 6 [.ref 1, .int (x4 + x7)] m).bind (gd_kI fun z9 m7 => if gd_ok (gN m7) r0 9 = true then ((gd_call 62 [.ref r0, .int (x1 + x7)] m7).bind (gd_kI fun z13 m11 => if (z9 = z13 : Prop) then (gd_Den (64, 52, [.ref r0, .int x1, .int x2, .int x3, .int x4, .int x5, .int 1, .int (x7 + 1)], [], m11)) else (gd_Den (64, 52, [.ref r0, .int x1, .int x2, .int x3, .int x4, .int x5, .int 0, .int (x7 + 1)], [], m11)))) else none))) else (if (x6 = 0 : Prop) then (gd_Den (64, 8, [.ref r0, .int x1, .int x2, .int (x3 + 1), .int (x5 + 1), .int (x5 + 1), .int x6, .int x7], [], m)) else (some (.int x3, m))) := by
  refine Eq.trans (D_iload (x := x7) gk_f64_52 rfl) ?_
  refine Eq.trans (D_iload_n (x := x2) gk_f64_54 rfl) ?_
  refine Eq.trans (D_ic_ge (t := 97) gk_f64_55 (by decide)) ?_
  refine gd_ite (fun h1 => ?_) (fun h2 => ?_)
  · refine Eq.trans (D_iload (x := x6) gk_f64_58 rfl) ?_
    refine Eq.trans (D_if_eq (t := 97) gk_f64_60 (by decide)) ?_
    refine gd_ite (fun h3 => ?_) (fun h4 => ?_)
    · refine Eq.trans (D_iload (x := x6) gk_f64_97 rfl) ?_
      refine Eq.trans (D_if_eq (t := 104) gk_f64_99 (by decide)) ?_
      refine gd_ite (fun h5 => ?_) (fun h6 => ?_)
      · refine Eq.trans (D_iinc (x := x3) (y := 1) gk_f64_104 rfl gk_c_1 gk_st64_3) ?_
        refine Eq.trans (D_iload (x := x5) gk_f64_107 rfl) ?_
        refine Eq.trans (D_iconst (x := 1) gk_f64_109 gk_c_1) ?_
        refine Eq.trans (D_iadd gk_f64_110) ?_
        refine Eq.trans (D_istore gk_f64_111 gk_st64_4) ?_
        refine Eq.trans (D_iinc (x := x5) (y := 1) gk_f64_113 rfl gk_c_1 gk_st64_5) ?_
        refine Eq.trans (D_goto (t := 8) gk_f64_116 (by decide)) ?_
        rfl
      · refine Eq.trans (D_iload_n (x := x3) gk_f64_102 rfl) ?_
        refine Eq.trans (D_ireturn gk_f64_103 gk_rk64) ?_
        rfl
    · refine Eq.trans (D_ldcS gk_f64_63) ?_
      refine Eq.trans (D_iload (x := x4) gk_f64_65 rfl) ?_
      refine Eq.trans (D_iload (x := x7) gk_f64_67 rfl) ?_
      refine Eq.trans (D_iadd gk_f64_69) ?_
      refine Eq.trans (D_ivSC (args := [.ref 1, .int (x4 + x7)]) (rest := []) gk_f64_70 rfl rfl (gd_rmk gk_rm64_6 gk_ln6 gk_ml6 rfl rfl rfl) gk_rk6 (gd_hnd_n gk_nc64) gk_nc6 gk_t11_6) ?_
      refine gd_bnd (gd_kI_c fun z9 m7 => ?_)
      refine Eq.trans (D_aload_n (x := r0) gk_f64_73 rfl) ?_
      refine Eq.trans (D_iload_n (x := x1) gk_f64_74 rfl) ?_
      refine Eq.trans (D_iload (x := x7) gk_f64_75 rfl) ?_
      refine Eq.trans (D_iadd gk_f64_77) ?_
      refine Eq.trans (D_ivI (cl := 9) (args := [.ref r0, .int (x1 + x7)]) (rest := [.int z9]) gk_f64_78 rfl rfl (gd_rmk gk_rm64_62 gk_ln62 gk_ml62 rfl rfl rfl) gk_rk62 (gd_hnd_n gk_nc64) gk_nc62 gk_n11_62 gk_cl62) ?_
      refine gd_ite (fun h10 => ?_) (fun _ => rfl)
      refine gd_bnd (gd_kI_c fun z13 m11 => ?_)
      refine Eq.trans (D_ic_ne (t := 88) gk_f64_81 (by decide)) ?_
      refine gd_ite (fun h14 => ?_) (fun h15 => ?_)
      · refine Eq.trans (D_iconst (x := 1) gk_f64_84 gk_c_1) ?_
        refine Eq.trans (D_goto (t := 89) gk_f64_85 (by decide)) ?_
        refine Eq.trans (D_istore gk_f64_89 gk_st64_6) ?_
        refine Eq.trans (D_iinc (x := x7) (y := 1) gk_f64_91 rfl gk_c_1 gk_st64_7) ?_
        refine Eq.trans (D_goto (t := 52) gk_f64_94 (by decide)) ?_
        rfl
      · refine Eq.trans (D_iconst (x := 0) gk_f64_88 gk_c_0) ?_
        refine Eq.trans (D_istore gk_f64_89 gk_st64_6) ?_
        refine Eq.trans (D_iinc (x := x7) (y := 1) gk_f64_91 rfl gk_c_1 gk_st64_7) ?_
        refine Eq.trans (D_goto (t := 52) gk_f64_94 (by decide)) ?_
        rfl
  · refine Eq.trans (D_iload (x := x6) gk_f64_97 rfl) ?_
    refine Eq.trans (D_if_eq (t := 104) gk_f64_99 (by decide)) ?_
    refine gd_ite (fun h16 => ?_) (fun h17 => ?_)
    · refine Eq.trans (D_iinc (x := x3) (y := 1) gk_f64_104 rfl gk_c_1 gk_st64_3) ?_
      refine Eq.trans (D_iload (x := x5) gk_f64_107 rfl) ?_
      refine Eq.trans (D_iconst (x := 1) gk_f64_109 gk_c_1) ?_
      refine Eq.trans (D_iadd gk_f64_110) ?_
      refine Eq.trans (D_istore gk_f64_111 gk_st64_4) ?_
      refine Eq.trans (D_iinc (x := x5) (y := 1) gk_f64_113 rfl gk_c_1 gk_st64_5) ?_
      refine Eq.trans (D_goto (t := 8) gk_f64_116 (by decide)) ?_
      rfl
    · refine Eq.trans (D_iload_n (x := x3) gk_f64_102 rfl) ?_
      refine Eq.trans (D_ireturn gk_f64_103 gk_rk64) ?_
      rfl
/-! GymDeskModel.letters (II)J -/
set_option maxRecDepth 20000 in
theorem gk_f65_0 : gd_fetch 65 0 = some (0, .lconst 0, 1, 0, 0, 0, 0, 0) := rfl
set_option maxRecDepth 20000 in
theorem gk_f65_1 : gd_fetch 65 1 = some (1, .lstore_n 3, 1, 0, 0, 0, 0, 0) := rfl
set_option maxRecDepth 20000 in
theorem gk_f65_2 : gd_fetch 65 2 = some (2, .iload_n 1, 1, 0, 0, 0, 0, 0) := rfl
set_option maxRecDepth 20000 in
theorem gk_f65_3 : gd_fetch 65 3 = some (3, .istore 5, 2, 0, 0, 0, 0, 0) := rfl
set_option maxRecDepth 20000 in
theorem gk_f65_5 : gd_fetch 65 5 = some (5, .iload 5, 2, 0, 0, 0, 0, 0) := rfl
set_option maxRecDepth 20000 in
theorem gk_f65_7 : gd_fetch 65 7 = some (7, .iload_n 2, 1, 0, 0, 0, 0, 0) := rfl
set_option maxRecDepth 20000 in
theorem gk_f65_8 : gd_fetch 65 8 = some (8, .if_icmp .ge 22, 3, 0, 0, 0, 0, 0) := rfl
set_option maxRecDepth 20000 in
theorem gk_f65_11 : gd_fetch 65 11 = some (11, .lload_n 3, 1, 0, 0, 0, 0, 0) := rfl
set_option maxRecDepth 20000 in
theorem gk_f65_12 : gd_fetch 65 12 = some (12, .bipush 8, 2, 0, 0, 0, 0, 0) := rfl
set_option maxRecDepth 20000 in
theorem gk_f65_14 : gd_fetch 65 14 = some (14, .lshl, 1, 0, 0, 0, 0, 0) := rfl
set_option maxRecDepth 20000 in
theorem gk_f65_15 : gd_fetch 65 15 = some (15, .aload_n 0, 1, 0, 0, 0, 0, 0) := rfl
set_option maxRecDepth 20000 in
theorem gk_f65_16 : gd_fetch 65 16 = some (16, .iload 5, 2, 0, 0, 0, 0, 0) := rfl
set_option maxRecDepth 20000 in
theorem gk_f65_18 : gd_fetch 65 18 = some (18, .invokevirtual 138, 3, 1315, 62, 1, 0, 0) := rfl
set_option maxRecDepth 20000 in
theorem gk_f65_21 : gd_fetch 65 21 = some (21, .i2l, 1, 0, 0, 0, 0, 0) := rfl
set_option maxRecDepth 20000 in
theorem gk_f65_22 : gd_fetch 65 22 = some (22, .lor, 1, 0, 0, 0, 0, 0) := rfl
set_option maxRecDepth 20000 in
theorem gk_f65_23 : gd_fetch 65 23 = some (23, .lstore_n 3, 1, 0, 0, 0, 0, 0) := rfl
set_option maxRecDepth 20000 in
theorem gk_f65_24 : gd_fetch 65 24 = some (24, .iinc 5 1, 3, 0, 0, 0, 0, 0) := rfl
set_option maxRecDepth 20000 in
theorem gk_f65_27 : gd_fetch 65 27 = some (27, .goto (-22), 3, 0, 0, 0, 0, 0) := rfl
set_option maxRecDepth 20000 in
theorem gk_f65_30 : gd_fetch 65 30 = some (30, .lload_n 3, 1, 0, 0, 0, 0, 0) := rfl
set_option maxRecDepth 20000 in
theorem gk_f65_31 : gd_fetch 65 31 = some (31, .lreturn, 1, 0, 0, 0, 0, 0) := rfl
set_option maxRecDepth 20000 in
set_option maxHeartbeats 4000000 in
theorem q_Mo_letters (r0 : Nat) (x1 : Int32) (x2 : Int32) (m : gd_M) : gd_call 65 [.ref r0, .int x1, .int x2] m = gd_Den (65, 5, [.ref r0, .int x1, .int x2, .long 0, .null, .int x1], [], m) := by
  refine Eq.trans (show gd_call 65 [.ref r0, .int x1, .int x2] m = gd_Den (65, 0, [.ref r0, .int x1, .int x2, .null, .null, .null], [], m) from by unfold gd_call gd_ent; rw [gk_ml65]; rfl) ?_
  refine Eq.trans (D_lconst (x := 0) gk_f65_0 (by decide)) ?_
  refine Eq.trans (D_lstore_n gk_f65_1 gk_stL65_3) ?_
  refine Eq.trans (D_iload_n (x := x1) gk_f65_2 rfl) ?_
  refine Eq.trans (D_istore gk_f65_3 gk_st65_5) ?_
  rfl
set_option maxRecDepth 20000 in
set_option maxHeartbeats 4000000 in
theorem q_Mo_letters_5 (r0 : Nat) (x1 : Int32) (x2 : Int32) (y3 : Int64) (x5 : Int32) (m : gd_M) : gd_Den (65, 5, [.ref r0, .int x1, .int x2, .long y3, .null, .int x5], [], m) = if (x5 < x2 : Prop) then (if gd_ok (gN m) r0 9 = true then ((gd_call 62 [.ref r0, .int x5] m).bind (gd_kI fun z6 m4 => gd_Den (65, 5, [.ref r0, .int x1, .int x2, .long (((y3 : Int64) <<< ((8 : Int32).toInt64 &&& 63)) ||| (z6 : Int32).toInt64), .null, .int (x5 + 1)], [], m4))) else none) else (some (.long y3, m)) := by
  refine Eq.trans (D_iload (x := x5) gk_f65_5 rfl) ?_
  refine Eq.trans (D_iload_n (x := x2) gk_f65_7 rfl) ?_
  refine Eq.trans (D_ic_ge (t := 30) gk_f65_8 (by decide)) ?_
  refine gd_ite (fun h1 => ?_) (fun h2 => ?_)
  · refine Eq.trans (D_lload_n (x := y3) gk_f65_11 rfl) ?_
    refine Eq.trans (D_bipush (x := 8) gk_f65_12 gk_b_8) ?_
    refine Eq.trans (D_lshl gk_f65_14) ?_
    refine Eq.trans (D_aload_n (x := r0) gk_f65_15 rfl) ?_
    refine Eq.trans (D_iload (x := x5) gk_f65_16 rfl) ?_
    refine Eq.trans (D_ivI (cl := 9) (args := [.ref r0, .int x5]) (rest := [.long ((y3 : Int64) <<< ((8 : Int32).toInt64 &&& 63))]) gk_f65_18 rfl rfl (gd_rmk gk_rm65_62 gk_ln62 gk_ml62 rfl rfl rfl) gk_rk62 (gd_hnd_n gk_nc65) gk_nc62 gk_n11_62 gk_cl62) ?_
    refine gd_ite (fun h3 => ?_) (fun _ => rfl)
    refine gd_bnd (gd_kI_c fun z6 m4 => ?_)
    refine Eq.trans (D_i2l gk_f65_21) ?_
    refine Eq.trans (D_lor gk_f65_22) ?_
    refine Eq.trans (D_lstore_n gk_f65_23 gk_stL65_3) ?_
    refine Eq.trans (D_iinc (x := x5) (y := 1) gk_f65_24 rfl gk_c_1 gk_st65_5) ?_
    refine Eq.trans (D_goto (t := 5) gk_f65_27 (by decide)) ?_
    rfl
  · refine Eq.trans (D_lload_n (x := y3) gk_f65_30 rfl) ?_
    refine Eq.trans (D_lreturn gk_f65_31 gk_rk65) ?_
    rfl
/-! GymDeskModel.isDigit (I)Z -/
set_option maxRecDepth 20000 in
theorem gk_f66_0 : gd_fetch 66 0 = some (0, .iload_n 0, 1, 0, 0, 0, 0, 0) := rfl
set_option maxRecDepth 20000 in
theorem gk_f66_1 : gd_fetch 66 1 = some (1, .bipush 48, 2, 0, 0, 0, 0, 0) := rfl
set_option maxRecDepth 20000 in
theorem gk_f66_3 : gd_fetch 66 3 = some (3, .if_icmp .lt 13, 3, 0, 0, 0, 0, 0) := rfl
set_option maxRecDepth 20000 in
theorem gk_f66_6 : gd_fetch 66 6 = some (6, .iload_n 0, 1, 0, 0, 0, 0, 0) := rfl
set_option maxRecDepth 20000 in
theorem gk_f66_7 : gd_fetch 66 7 = some (7, .bipush 57, 2, 0, 0, 0, 0, 0) := rfl
set_option maxRecDepth 20000 in
theorem gk_f66_9 : gd_fetch 66 9 = some (9, .if_icmp .gt 7, 3, 0, 0, 0, 0, 0) := rfl
set_option maxRecDepth 20000 in
theorem gk_f66_12 : gd_fetch 66 12 = some (12, .iconst 1, 1, 0, 0, 0, 0, 0) := rfl
set_option maxRecDepth 20000 in
theorem gk_f66_13 : gd_fetch 66 13 = some (13, .goto 4, 3, 0, 0, 0, 0, 0) := rfl
set_option maxRecDepth 20000 in
theorem gk_f66_16 : gd_fetch 66 16 = some (16, .iconst 0, 1, 0, 0, 0, 0, 0) := rfl
set_option maxRecDepth 20000 in
theorem gk_f66_17 : gd_fetch 66 17 = some (17, .ireturn, 1, 0, 0, 0, 0, 0) := rfl
set_option maxRecDepth 20000 in
set_option maxHeartbeats 4000000 in
theorem q_Mo_isDigit (x0 : Int32) (m : gd_M) : gd_call 66 [.int x0] m = if (x0 < 48 : Prop) then (some (.int 0, m)) else (if (57 < x0 : Prop) then (some (.int 0, m)) else (some (.int 1, m))) := by
  refine Eq.trans (show gd_call 66 [.int x0] m = gd_Den (66, 0, [.int x0], [], m) from by unfold gd_call gd_ent; rw [gk_ml66]; rfl) ?_
  refine Eq.trans (D_iload_n (x := x0) gk_f66_0 rfl) ?_
  refine Eq.trans (D_bipush (x := 48) gk_f66_1 gk_b_48) ?_
  refine Eq.trans (D_ic_lt (t := 16) gk_f66_3 (by decide)) ?_
  refine gd_ite (fun h1 => ?_) (fun h2 => ?_)
  · refine Eq.trans (D_iconst (x := 0) gk_f66_16 gk_c_0) ?_
    refine Eq.trans (D_zreturn gk_f66_17 gk_rk66) ?_
    exact if_pos rfl
  · refine Eq.trans (D_iload_n (x := x0) gk_f66_6 rfl) ?_
    refine Eq.trans (D_bipush (x := 57) gk_f66_7 gk_b_57) ?_
    refine Eq.trans (D_ic_gt (t := 16) gk_f66_9 (by decide)) ?_
    refine gd_ite (fun h3 => ?_) (fun h4 => ?_)
    · refine Eq.trans (D_iconst (x := 0) gk_f66_16 gk_c_0) ?_
      refine Eq.trans (D_zreturn gk_f66_17 gk_rk66) ?_
      exact if_pos rfl
    · refine Eq.trans (D_iconst (x := 1) gk_f66_12 gk_c_1) ?_
      refine Eq.trans (D_goto (t := 17) gk_f66_13 (by decide)) ?_
      refine Eq.trans (D_zreturn gk_f66_17 gk_rk66) ?_
      exact if_pos rfl
/-! GymDeskModel.scan ()V -/
set_option maxRecDepth 20000 in
theorem gk_f67_0 : gd_fetch 67 0 = some (0, .aload_n 0, 1, 0, 0, 0, 0, 0) := rfl
set_option maxRecDepth 20000 in
theorem gk_f67_1 : gd_fetch 67 1 = some (1, .getfield 142, 3, 1172, 9, 9, 0, 0) := rfl
set_option maxRecDepth 20000 in
theorem gk_f67_4 : gd_fetch 67 4 = some (4, .istore_n 1, 1, 0, 0, 0, 0, 0) := rfl
set_option maxRecDepth 20000 in
theorem gk_f67_5 : gd_fetch 67 5 = some (5, .aload_n 0, 1, 0, 0, 0, 0, 0) := rfl
set_option maxRecDepth 20000 in
theorem gk_f67_6 : gd_fetch 67 6 = some (6, .iload_n 1, 1, 0, 0, 0, 0, 0) := rfl
set_option maxRecDepth 20000 in
theorem gk_f67_7 : gd_fetch 67 7 = some (7, .invokevirtual 138, 3, 1315, 62, 1, 0, 0) := rfl
set_option maxRecDepth 20000 in
theorem gk_f67_10 : gd_fetch 67 10 = some (10, .bipush 32, 2, 0, 0, 0, 0, 0) := rfl
set_option maxRecDepth 20000 in
theorem gk_f67_12 : gd_fetch 67 12 = some (12, .if_icmp .eq 13, 3, 0, 0, 0, 0, 0) := rfl
set_option maxRecDepth 20000 in
theorem gk_f67_15 : gd_fetch 67 15 = some (15, .aload_n 0, 1, 0, 0, 0, 0, 0) := rfl
set_option maxRecDepth 20000 in
theorem gk_f67_16 : gd_fetch 67 16 = some (16, .iload_n 1, 1, 0, 0, 0, 0, 0) := rfl
set_option maxRecDepth 20000 in
theorem gk_f67_17 : gd_fetch 67 17 = some (17, .invokevirtual 138, 3, 1315, 62, 1, 0, 0) := rfl
set_option maxRecDepth 20000 in
theorem gk_f67_20 : gd_fetch 67 20 = some (20, .bipush 10, 2, 0, 0, 0, 0, 0) := rfl
set_option maxRecDepth 20000 in
theorem gk_f67_22 : gd_fetch 67 22 = some (22, .if_icmp .ne 9, 3, 0, 0, 0, 0, 0) := rfl
set_option maxRecDepth 20000 in
theorem gk_f67_25 : gd_fetch 67 25 = some (25, .iinc 1 1, 3, 0, 0, 0, 0, 0) := rfl
set_option maxRecDepth 20000 in
theorem gk_f67_28 : gd_fetch 67 28 = some (28, .goto (-23), 3, 0, 0, 0, 0, 0) := rfl
set_option maxRecDepth 20000 in
theorem gk_f67_31 : gd_fetch 67 31 = some (31, .aload_n 0, 1, 0, 0, 0, 0, 0) := rfl
set_option maxRecDepth 20000 in
theorem gk_f67_32 : gd_fetch 67 32 = some (32, .iload_n 1, 1, 0, 0, 0, 0, 0) := rfl
set_option maxRecDepth 20000 in
theorem gk_f67_33 : gd_fetch 67 33 = some (33, .putfield 123, 3, 1171, 9, 8, 0, 0) := rfl
set_option maxRecDepth 20000 in
theorem gk_f67_36 : gd_fetch 67 36 = some (36, .aload_n 0, 1, 0, 0, 0, 0, 0) := rfl
set_option maxRecDepth 20000 in
theorem gk_f67_37 : gd_fetch 67 37 = some (37, .iload_n 1, 1, 0, 0, 0, 0, 0) := rfl
set_option maxRecDepth 20000 in
theorem gk_f67_38 : gd_fetch 67 38 = some (38, .invokevirtual 138, 3, 1315, 62, 1, 0, 0) := rfl
set_option maxRecDepth 20000 in
theorem gk_f67_41 : gd_fetch 67 41 = some (41, .istore_n 2, 1, 0, 0, 0, 0, 0) := rfl
set_option maxRecDepth 20000 in
theorem gk_f67_42 : gd_fetch 67 42 = some (42, .iload_n 2, 1, 0, 0, 0, 0, 0) := rfl
set_option maxRecDepth 20000 in
theorem gk_f67_43 : gd_fetch 67 43 = some (43, .iconst (-1), 1, 0, 0, 0, 0, 0) := rfl
set_option maxRecDepth 20000 in
theorem gk_f67_44 : gd_fetch 67 44 = some (44, .if_icmp .ne 14, 3, 0, 0, 0, 0, 0) := rfl
set_option maxRecDepth 20000 in
theorem gk_f67_47 : gd_fetch 67 47 = some (47, .aload_n 0, 1, 0, 0, 0, 0, 0) := rfl
set_option maxRecDepth 20000 in
theorem gk_f67_48 : gd_fetch 67 48 = some (48, .iconst 5, 1, 0, 0, 0, 0, 0) := rfl
set_option maxRecDepth 20000 in
theorem gk_f67_49 : gd_fetch 67 49 = some (49, .putfield 145, 3, 1169, 9, 6, 0, 0) := rfl
set_option maxRecDepth 20000 in
theorem gk_f67_52 : gd_fetch 67 52 = some (52, .aload_n 0, 1, 0, 0, 0, 0, 0) := rfl
set_option maxRecDepth 20000 in
theorem gk_f67_53 : gd_fetch 67 53 = some (53, .iload_n 1, 1, 0, 0, 0, 0, 0) := rfl
set_option maxRecDepth 20000 in
theorem gk_f67_54 : gd_fetch 67 54 = some (54, .putfield 142, 3, 1172, 9, 9, 0, 0) := rfl
set_option maxRecDepth 20000 in
theorem gk_f67_57 : gd_fetch 67 57 = some (57, .return_, 1, 0, 0, 0, 0, 0) := rfl
set_option maxRecDepth 20000 in
theorem gk_f67_58 : gd_fetch 67 58 = some (58, .aload_n 0, 1, 0, 0, 0, 0, 0) := rfl
set_option maxRecDepth 20000 in
theorem gk_f67_59 : gd_fetch 67 59 = some (59, .dup, 1, 0, 0, 0, 0, 0) := rfl
set_option maxRecDepth 20000 in
theorem gk_f67_60 : gd_fetch 67 60 = some (60, .getfield 148, 3, 1174, 9, 11, 0, 0) := rfl
set_option maxRecDepth 20000 in
theorem gk_f67_63 : gd_fetch 67 63 = some (63, .iconst 1, 1, 0, 0, 0, 0, 0) := rfl
set_option maxRecDepth 20000 in
theorem gk_f67_64 : gd_fetch 67 64 = some (64, .iadd, 1, 0, 0, 0, 0, 0) := rfl
set_option maxRecDepth 20000 in
theorem gk_f67_65 : gd_fetch 67 65 = some (65, .putfield 148, 3, 1174, 9, 11, 0, 0) := rfl
set_option maxRecDepth 20000 in
theorem gk_f67_68 : gd_fetch 67 68 = some (68, .iload_n 1, 1, 0, 0, 0, 0, 0) := rfl
set_option maxRecDepth 20000 in
theorem gk_f67_69 : gd_fetch 67 69 = some (69, .iconst 1, 1, 0, 0, 0, 0, 0) := rfl
set_option maxRecDepth 20000 in
theorem gk_f67_70 : gd_fetch 67 70 = some (70, .iadd, 1, 0, 0, 0, 0, 0) := rfl
set_option maxRecDepth 20000 in
theorem gk_f67_71 : gd_fetch 67 71 = some (71, .istore_n 3, 1, 0, 0, 0, 0, 0) := rfl
set_option maxRecDepth 20000 in
theorem gk_f67_72 : gd_fetch 67 72 = some (72, .iload_n 2, 1, 0, 0, 0, 0, 0) := rfl
set_option maxRecDepth 20000 in
theorem gk_f67_73 : gd_fetch 67 73 = some (73, .invokestatic 151, 3, 1319, 63, 1, 0, 0) := rfl
set_option maxRecDepth 20000 in
theorem gk_f67_76 : gd_fetch 67 76 = some (76, .ifCond .eq 118, 3, 0, 0, 0, 0, 0) := rfl
set_option maxRecDepth 20000 in
theorem gk_f67_79 : gd_fetch 67 79 = some (79, .aload_n 0, 1, 0, 0, 0, 0, 0) := rfl
set_option maxRecDepth 20000 in
theorem gk_f67_80 : gd_fetch 67 80 = some (80, .iload_n 3, 1, 0, 0, 0, 0, 0) := rfl
set_option maxRecDepth 20000 in
theorem gk_f67_81 : gd_fetch 67 81 = some (81, .invokevirtual 138, 3, 1315, 62, 1, 0, 0) := rfl
set_option maxRecDepth 20000 in
theorem gk_f67_84 : gd_fetch 67 84 = some (84, .invokestatic 151, 3, 1319, 63, 1, 0, 0) := rfl
set_option maxRecDepth 20000 in
theorem gk_f67_87 : gd_fetch 67 87 = some (87, .ifCond .eq 9, 3, 0, 0, 0, 0, 0) := rfl
set_option maxRecDepth 20000 in
theorem gk_f67_90 : gd_fetch 67 90 = some (90, .iinc 3 1, 3, 0, 0, 0, 0, 0) := rfl
set_option maxRecDepth 20000 in
theorem gk_f67_93 : gd_fetch 67 93 = some (93, .goto (-14), 3, 0, 0, 0, 0, 0) := rfl
set_option maxRecDepth 20000 in
theorem gk_f67_96 : gd_fetch 67 96 = some (96, .aload_n 0, 1, 0, 0, 0, 0, 0) := rfl
set_option maxRecDepth 20000 in
theorem gk_f67_97 : gd_fetch 67 97 = some (97, .aload_n 0, 1, 0, 0, 0, 0, 0) := rfl
set_option maxRecDepth 20000 in
theorem gk_f67_98 : gd_fetch 67 98 = some (98, .iload_n 1, 1, 0, 0, 0, 0, 0) := rfl
set_option maxRecDepth 20000 in
theorem gk_f67_99 : gd_fetch 67 99 = some (99, .iload_n 3, 1, 0, 0, 0, 0, 0) := rfl
set_option maxRecDepth 20000 in
theorem gk_f67_100 : gd_fetch 67 100 = some (100, .iload_n 1, 1, 0, 0, 0, 0, 0) := rfl
set_option maxRecDepth 20000 in
theorem gk_f67_101 : gd_fetch 67 101 = some (101, .isub, 1, 0, 0, 0, 0, 0) := rfl
set_option maxRecDepth 20000 in
theorem gk_f67_102 : gd_fetch 67 102 = some (102, .invokevirtual 155, 3, 1322, 64, 2, 0, 0) := rfl
set_option maxRecDepth 20000 in
theorem gk_f67_105 : gd_fetch 67 105 = some (105, .putfield 159, 3, 1170, 9, 7, 0, 0) := rfl
set_option maxRecDepth 20000 in
theorem gk_f67_108 : gd_fetch 67 108 = some (108, .aload_n 0, 1, 0, 0, 0, 0, 0) := rfl
set_option maxRecDepth 20000 in
theorem gk_f67_109 : gd_fetch 67 109 = some (109, .aload_n 0, 1, 0, 0, 0, 0, 0) := rfl
set_option maxRecDepth 20000 in
theorem gk_f67_110 : gd_fetch 67 110 = some (110, .getfield 159, 3, 1170, 9, 7, 0, 0) := rfl
set_option maxRecDepth 20000 in
theorem gk_f67_113 : gd_fetch 67 113 = some (113, .iconst (-1), 1, 0, 0, 0, 0, 0) := rfl
set_option maxRecDepth 20000 in
theorem gk_f67_114 : gd_fetch 67 114 = some (114, .if_icmp .eq 7, 3, 0, 0, 0, 0, 0) := rfl
set_option maxRecDepth 20000 in
theorem gk_f67_117 : gd_fetch 67 117 = some (117, .iconst 2, 1, 0, 0, 0, 0, 0) := rfl
set_option maxRecDepth 20000 in
theorem gk_f67_118 : gd_fetch 67 118 = some (118, .goto 16, 3, 0, 0, 0, 0, 0) := rfl
set_option maxRecDepth 20000 in
theorem gk_f67_121 : gd_fetch 67 121 = some (121, .iload_n 3, 1, 0, 0, 0, 0, 0) := rfl
set_option maxRecDepth 20000 in
theorem gk_f67_122 : gd_fetch 67 122 = some (122, .iload_n 1, 1, 0, 0, 0, 0, 0) := rfl
set_option maxRecDepth 20000 in
theorem gk_f67_123 : gd_fetch 67 123 = some (123, .isub, 1, 0, 0, 0, 0, 0) := rfl
set_option maxRecDepth 20000 in
theorem gk_f67_124 : gd_fetch 67 124 = some (124, .bipush 10, 2, 0, 0, 0, 0, 0) := rfl
set_option maxRecDepth 20000 in
theorem gk_f67_126 : gd_fetch 67 126 = some (126, .if_icmp .le 7, 3, 0, 0, 0, 0, 0) := rfl
set_option maxRecDepth 20000 in
theorem gk_f67_129 : gd_fetch 67 129 = some (129, .iconst 0, 1, 0, 0, 0, 0, 0) := rfl
set_option maxRecDepth 20000 in
theorem gk_f67_130 : gd_fetch 67 130 = some (130, .goto 4, 3, 0, 0, 0, 0, 0) := rfl
set_option maxRecDepth 20000 in
theorem gk_f67_133 : gd_fetch 67 133 = some (133, .iconst 1, 1, 0, 0, 0, 0, 0) := rfl
set_option maxRecDepth 20000 in
theorem gk_f67_134 : gd_fetch 67 134 = some (134, .putfield 145, 3, 1169, 9, 6, 0, 0) := rfl
set_option maxRecDepth 20000 in
theorem gk_f67_137 : gd_fetch 67 137 = some (137, .aload_n 0, 1, 0, 0, 0, 0, 0) := rfl
set_option maxRecDepth 20000 in
theorem gk_f67_138 : gd_fetch 67 138 = some (138, .aload_n 0, 1, 0, 0, 0, 0, 0) := rfl
set_option maxRecDepth 20000 in
theorem gk_f67_139 : gd_fetch 67 139 = some (139, .iload_n 1, 1, 0, 0, 0, 0, 0) := rfl
set_option maxRecDepth 20000 in
theorem gk_f67_140 : gd_fetch 67 140 = some (140, .iload_n 3, 1, 0, 0, 0, 0, 0) := rfl
set_option maxRecDepth 20000 in
theorem gk_f67_141 : gd_fetch 67 141 = some (141, .iload_n 1, 1, 0, 0, 0, 0, 0) := rfl
set_option maxRecDepth 20000 in
theorem gk_f67_142 : gd_fetch 67 142 = some (142, .iconst 5, 1, 0, 0, 0, 0, 0) := rfl
set_option maxRecDepth 20000 in
theorem gk_f67_143 : gd_fetch 67 143 = some (143, .iadd, 1, 0, 0, 0, 0, 0) := rfl
set_option maxRecDepth 20000 in
theorem gk_f67_144 : gd_fetch 67 144 = some (144, .if_icmp .ge 7, 3, 0, 0, 0, 0, 0) := rfl
set_option maxRecDepth 20000 in
theorem gk_f67_147 : gd_fetch 67 147 = some (147, .iload_n 3, 1, 0, 0, 0, 0, 0) := rfl
set_option maxRecDepth 20000 in
theorem gk_f67_148 : gd_fetch 67 148 = some (148, .goto 6, 3, 0, 0, 0, 0, 0) := rfl
set_option maxRecDepth 20000 in
theorem gk_f67_151 : gd_fetch 67 151 = some (151, .iload_n 1, 1, 0, 0, 0, 0, 0) := rfl
set_option maxRecDepth 20000 in
theorem gk_f67_152 : gd_fetch 67 152 = some (152, .iconst 5, 1, 0, 0, 0, 0, 0) := rfl
set_option maxRecDepth 20000 in
theorem gk_f67_153 : gd_fetch 67 153 = some (153, .iadd, 1, 0, 0, 0, 0, 0) := rfl
set_option maxRecDepth 20000 in
theorem gk_f67_154 : gd_fetch 67 154 = some (154, .invokevirtual 162, 3, 1329, 65, 2, 0, 0) := rfl
set_option maxRecDepth 20000 in
theorem gk_f67_157 : gd_fetch 67 157 = some (157, .putfield 166, 3, 1175, 9, 12, 3, 0) := rfl
set_option maxRecDepth 20000 in
theorem gk_f67_160 : gd_fetch 67 160 = some (160, .aload_n 0, 1, 0, 0, 0, 0, 0) := rfl
set_option maxRecDepth 20000 in
theorem gk_f67_161 : gd_fetch 67 161 = some (161, .iload_n 3, 1, 0, 0, 0, 0, 0) := rfl
set_option maxRecDepth 20000 in
theorem gk_f67_162 : gd_fetch 67 162 = some (162, .iload_n 1, 1, 0, 0, 0, 0, 0) := rfl
set_option maxRecDepth 20000 in
theorem gk_f67_163 : gd_fetch 67 163 = some (163, .iconst 5, 1, 0, 0, 0, 0, 0) := rfl
set_option maxRecDepth 20000 in
theorem gk_f67_164 : gd_fetch 67 164 = some (164, .iadd, 1, 0, 0, 0, 0, 0) := rfl
set_option maxRecDepth 20000 in
theorem gk_f67_165 : gd_fetch 67 165 = some (165, .if_icmp .le 22, 3, 0, 0, 0, 0, 0) := rfl
set_option maxRecDepth 20000 in
theorem gk_f67_168 : gd_fetch 67 168 = some (168, .iload_n 3, 1, 0, 0, 0, 0, 0) := rfl
set_option maxRecDepth 20000 in
theorem gk_f67_169 : gd_fetch 67 169 = some (169, .iload_n 1, 1, 0, 0, 0, 0, 0) := rfl
set_option maxRecDepth 20000 in
theorem gk_f67_170 : gd_fetch 67 170 = some (170, .bipush 10, 2, 0, 0, 0, 0, 0) := rfl
set_option maxRecDepth 20000 in
theorem gk_f67_172 : gd_fetch 67 172 = some (172, .iadd, 1, 0, 0, 0, 0, 0) := rfl
set_option maxRecDepth 20000 in
theorem gk_f67_173 : gd_fetch 67 173 = some (173, .if_icmp .gt 14, 3, 0, 0, 0, 0, 0) := rfl
set_option maxRecDepth 20000 in
theorem gk_f67_176 : gd_fetch 67 176 = some (176, .aload_n 0, 1, 0, 0, 0, 0, 0) := rfl
set_option maxRecDepth 20000 in
theorem gk_f67_177 : gd_fetch 67 177 = some (177, .iload_n 1, 1, 0, 0, 0, 0, 0) := rfl
set_option maxRecDepth 20000 in
theorem gk_f67_178 : gd_fetch 67 178 = some (178, .iconst 5, 1, 0, 0, 0, 0, 0) := rfl
set_option maxRecDepth 20000 in
theorem gk_f67_179 : gd_fetch 67 179 = some (179, .iadd, 1, 0, 0, 0, 0, 0) := rfl
set_option maxRecDepth 20000 in
theorem gk_f67_180 : gd_fetch 67 180 = some (180, .iload_n 3, 1, 0, 0, 0, 0, 0) := rfl
set_option maxRecDepth 20000 in
theorem gk_f67_181 : gd_fetch 67 181 = some (181, .invokevirtual 162, 3, 1329, 65, 2, 0, 0) := rfl
set_option maxRecDepth 20000 in
theorem gk_f67_184 : gd_fetch 67 184 = some (184, .goto 4, 3, 0, 0, 0, 0, 0) := rfl
set_option maxRecDepth 20000 in
theorem gk_f67_187 : gd_fetch 67 187 = some (187, .lconst 0, 1, 0, 0, 0, 0, 0) := rfl
set_option maxRecDepth 20000 in
theorem gk_f67_188 : gd_fetch 67 188 = some (188, .putfield 170, 3, 1176, 9, 13, 3, 0) := rfl
set_option maxRecDepth 20000 in
theorem gk_f67_191 : gd_fetch 67 191 = some (191, .goto 103, 3, 0, 0, 0, 0, 0) := rfl
set_option maxRecDepth 20000 in
theorem gk_f67_194 : gd_fetch 67 194 = some (194, .iload_n 2, 1, 0, 0, 0, 0, 0) := rfl
set_option maxRecDepth 20000 in
theorem gk_f67_195 : gd_fetch 67 195 = some (195, .invokestatic 173, 3, 1333, 66, 1, 0, 0) := rfl
set_option maxRecDepth 20000 in
theorem gk_f67_198 : gd_fetch 67 198 = some (198, .ifCond .eq 81, 3, 0, 0, 0, 0, 0) := rfl
set_option maxRecDepth 20000 in
theorem gk_f67_201 : gd_fetch 67 201 = some (201, .aload_n 0, 1, 0, 0, 0, 0, 0) := rfl
set_option maxRecDepth 20000 in
theorem gk_f67_202 : gd_fetch 67 202 = some (202, .iload_n 2, 1, 0, 0, 0, 0, 0) := rfl
set_option maxRecDepth 20000 in
theorem gk_f67_203 : gd_fetch 67 203 = some (203, .bipush 48, 2, 0, 0, 0, 0, 0) := rfl
set_option maxRecDepth 20000 in
theorem gk_f67_205 : gd_fetch 67 205 = some (205, .isub, 1, 0, 0, 0, 0, 0) := rfl
set_option maxRecDepth 20000 in
theorem gk_f67_206 : gd_fetch 67 206 = some (206, .putfield 176, 3, 1173, 9, 10, 0, 0) := rfl
set_option maxRecDepth 20000 in
theorem gk_f67_209 : gd_fetch 67 209 = some (209, .aload_n 0, 1, 0, 0, 0, 0, 0) := rfl
set_option maxRecDepth 20000 in
theorem gk_f67_210 : gd_fetch 67 210 = some (210, .iload_n 3, 1, 0, 0, 0, 0, 0) := rfl
set_option maxRecDepth 20000 in
theorem gk_f67_211 : gd_fetch 67 211 = some (211, .invokevirtual 138, 3, 1315, 62, 1, 0, 0) := rfl
set_option maxRecDepth 20000 in
theorem gk_f67_214 : gd_fetch 67 214 = some (214, .invokestatic 173, 3, 1333, 66, 1, 0, 0) := rfl
set_option maxRecDepth 20000 in
theorem gk_f67_217 : gd_fetch 67 217 = some (217, .ifCond .eq 43, 3, 0, 0, 0, 0, 0) := rfl
set_option maxRecDepth 20000 in
theorem gk_f67_220 : gd_fetch 67 220 = some (220, .aload_n 0, 1, 0, 0, 0, 0, 0) := rfl
set_option maxRecDepth 20000 in
theorem gk_f67_221 : gd_fetch 67 221 = some (221, .iload_n 3, 1, 0, 0, 0, 0, 0) := rfl
set_option maxRecDepth 20000 in
theorem gk_f67_222 : gd_fetch 67 222 = some (222, .iload_n 1, 1, 0, 0, 0, 0, 0) := rfl
set_option maxRecDepth 20000 in
theorem gk_f67_223 : gd_fetch 67 223 = some (223, .isub, 1, 0, 0, 0, 0, 0) := rfl
set_option maxRecDepth 20000 in
theorem gk_f67_224 : gd_fetch 67 224 = some (224, .iconst 3, 1, 0, 0, 0, 0, 0) := rfl
set_option maxRecDepth 20000 in
theorem gk_f67_225 : gd_fetch 67 225 = some (225, .if_icmp .ge 22, 3, 0, 0, 0, 0, 0) := rfl
set_option maxRecDepth 20000 in
theorem gk_f67_228 : gd_fetch 67 228 = some (228, .bipush 10, 2, 0, 0, 0, 0, 0) := rfl
set_option maxRecDepth 20000 in
theorem gk_f67_230 : gd_fetch 67 230 = some (230, .aload_n 0, 1, 0, 0, 0, 0, 0) := rfl
set_option maxRecDepth 20000 in
theorem gk_f67_231 : gd_fetch 67 231 = some (231, .getfield 176, 3, 1173, 9, 10, 0, 0) := rfl
set_option maxRecDepth 20000 in
theorem gk_f67_234 : gd_fetch 67 234 = some (234, .imul, 1, 0, 0, 0, 0, 0) := rfl
set_option maxRecDepth 20000 in
theorem gk_f67_235 : gd_fetch 67 235 = some (235, .aload_n 0, 1, 0, 0, 0, 0, 0) := rfl
set_option maxRecDepth 20000 in
theorem gk_f67_236 : gd_fetch 67 236 = some (236, .iload_n 3, 1, 0, 0, 0, 0, 0) := rfl
set_option maxRecDepth 20000 in
theorem gk_f67_237 : gd_fetch 67 237 = some (237, .invokevirtual 138, 3, 1315, 62, 1, 0, 0) := rfl
set_option maxRecDepth 20000 in
theorem gk_f67_240 : gd_fetch 67 240 = some (240, .iadd, 1, 0, 0, 0, 0, 0) := rfl
set_option maxRecDepth 20000 in
theorem gk_f67_241 : gd_fetch 67 241 = some (241, .bipush 48, 2, 0, 0, 0, 0, 0) := rfl
set_option maxRecDepth 20000 in
theorem gk_f67_243 : gd_fetch 67 243 = some (243, .isub, 1, 0, 0, 0, 0, 0) := rfl
set_option maxRecDepth 20000 in
theorem gk_f67_244 : gd_fetch 67 244 = some (244, .goto 7, 3, 0, 0, 0, 0, 0) := rfl
set_option maxRecDepth 20000 in
theorem gk_f67_247 : gd_fetch 67 247 = some (247, .aload_n 0, 1, 0, 0, 0, 0, 0) := rfl
set_option maxRecDepth 20000 in
theorem gk_f67_248 : gd_fetch 67 248 = some (248, .getfield 176, 3, 1173, 9, 10, 0, 0) := rfl
set_option maxRecDepth 20000 in
theorem gk_f67_251 : gd_fetch 67 251 = some (251, .putfield 176, 3, 1173, 9, 10, 0, 0) := rfl
set_option maxRecDepth 20000 in
theorem gk_f67_254 : gd_fetch 67 254 = some (254, .iinc 3 1, 3, 0, 0, 0, 0, 0) := rfl
set_option maxRecDepth 20000 in
theorem gk_f67_257 : gd_fetch 67 257 = some (257, .goto (-48), 3, 0, 0, 0, 0, 0) := rfl
set_option maxRecDepth 20000 in
theorem gk_f67_260 : gd_fetch 67 260 = some (260, .aload_n 0, 1, 0, 0, 0, 0, 0) := rfl
set_option maxRecDepth 20000 in
theorem gk_f67_261 : gd_fetch 67 261 = some (261, .iload_n 3, 1, 0, 0, 0, 0, 0) := rfl
set_option maxRecDepth 20000 in
theorem gk_f67_262 : gd_fetch 67 262 = some (262, .iload_n 1, 1, 0, 0, 0, 0, 0) := rfl
set_option maxRecDepth 20000 in
theorem gk_f67_263 : gd_fetch 67 263 = some (263, .isub, 1, 0, 0, 0, 0, 0) := rfl
set_option maxRecDepth 20000 in
theorem gk_f67_264 : gd_fetch 67 264 = some (264, .iconst 3, 1, 0, 0, 0, 0, 0) := rfl
set_option maxRecDepth 20000 in
theorem gk_f67_265 : gd_fetch 67 265 = some (265, .if_icmp .le 7, 3, 0, 0, 0, 0, 0) := rfl
set_option maxRecDepth 20000 in
theorem gk_f67_268 : gd_fetch 67 268 = some (268, .iconst 0, 1, 0, 0, 0, 0, 0) := rfl
set_option maxRecDepth 20000 in
theorem gk_f67_269 : gd_fetch 67 269 = some (269, .goto 4, 3, 0, 0, 0, 0, 0) := rfl
set_option maxRecDepth 20000 in
theorem gk_f67_272 : gd_fetch 67 272 = some (272, .iconst 3, 1, 0, 0, 0, 0, 0) := rfl
set_option maxRecDepth 20000 in
theorem gk_f67_273 : gd_fetch 67 273 = some (273, .putfield 145, 3, 1169, 9, 6, 0, 0) := rfl
set_option maxRecDepth 20000 in
theorem gk_f67_276 : gd_fetch 67 276 = some (276, .goto 18, 3, 0, 0, 0, 0, 0) := rfl
set_option maxRecDepth 20000 in
theorem gk_f67_279 : gd_fetch 67 279 = some (279, .aload_n 0, 1, 0, 0, 0, 0, 0) := rfl
set_option maxRecDepth 20000 in
theorem gk_f67_280 : gd_fetch 67 280 = some (280, .iload_n 2, 1, 0, 0, 0, 0, 0) := rfl
set_option maxRecDepth 20000 in
theorem gk_f67_281 : gd_fetch 67 281 = some (281, .bipush 59, 2, 0, 0, 0, 0, 0) := rfl
set_option maxRecDepth 20000 in
theorem gk_f67_283 : gd_fetch 67 283 = some (283, .if_icmp .ne 7, 3, 0, 0, 0, 0, 0) := rfl
set_option maxRecDepth 20000 in
theorem gk_f67_286 : gd_fetch 67 286 = some (286, .iconst 4, 1, 0, 0, 0, 0, 0) := rfl
set_option maxRecDepth 20000 in
theorem gk_f67_287 : gd_fetch 67 287 = some (287, .goto 4, 3, 0, 0, 0, 0, 0) := rfl
set_option maxRecDepth 20000 in
theorem gk_f67_290 : gd_fetch 67 290 = some (290, .iconst 0, 1, 0, 0, 0, 0, 0) := rfl
set_option maxRecDepth 20000 in
theorem gk_f67_291 : gd_fetch 67 291 = some (291, .putfield 145, 3, 1169, 9, 6, 0, 0) := rfl
set_option maxRecDepth 20000 in
theorem gk_f67_294 : gd_fetch 67 294 = some (294, .aload_n 0, 1, 0, 0, 0, 0, 0) := rfl
set_option maxRecDepth 20000 in
theorem gk_f67_295 : gd_fetch 67 295 = some (295, .iload_n 3, 1, 0, 0, 0, 0, 0) := rfl
set_option maxRecDepth 20000 in
theorem gk_f67_296 : gd_fetch 67 296 = some (296, .putfield 142, 3, 1172, 9, 9, 0, 0) := rfl
set_option maxRecDepth 20000 in
theorem gk_f67_299 : gd_fetch 67 299 = some (299, .return_, 1, 0, 0, 0, 0, 0) := rfl
set_option maxRecDepth 20000 in
set_option maxHeartbeats 4000000 in
theorem q_Mo_scan (r0 : Nat) (m : gd_M) : gd_call 67 [.ref r0] m = if gd_ok (gN m) r0 9 = true then (gd_Den (67, 5, [.ref r0, .int (gI m r0 9), .null, .null], [], m)) else none := by
  refine Eq.trans (show gd_call 67 [.ref r0] m = gd_Den (67, 0, [.ref r0, .null, .null, .null], [], m) from by unfold gd_call gd_ent; rw [gk_ml67]; rfl) ?_
  refine Eq.trans (D_aload_n (x := r0) gk_f67_0 rfl) ?_
  refine Eq.trans (D_gfI gk_f67_1 (by decide) (by decide) (by decide)) ?_
  refine gd_ite (fun h1 => ?_) (fun _ => rfl)
  refine Eq.trans (D_istore_n gk_f67_4 gk_st67_1) ?_
  rfl
set_option maxRecDepth 20000 in
set_option maxHeartbeats 4000000 in
theorem q_Mo_scan_5 (r0 : Nat) (x1 : Int32) (m : gd_M) : gd_Den (67, 5, [.ref r0, .int x1, .null, .null], [], m) = if gd_ok (gN m) r0 9 = true then ((gd_call 62 [.ref r0, .int x1] m).bind (gd_kI fun z4 m2 => if (z4 = 32 : Prop) then (gd_Den (67, 5, [.ref r0, .int (x1 + 1), .null, .null], [], m2)) else (if gd_ok (gN m2) r0 9 = true then ((gd_call 62 [.ref r0, .int x1] m2).bind (gd_kI fun z10 m8 => if (z10 = 10 : Prop) then (gd_Den (67, 5, [.ref r0, .int (x1 + 1), .null, .null], [], m8)) else (if gd_ok (gN m8) r0 9 = true then ((gd_call 62 [.ref r0, .int x1] (wI m8 r0 8 x1)).bind (gd_kI fun z16 m14 => if (z16 = (-1) : Prop) then (if gd_ok (gN m14) r0 9 = true then (some (.null, (wI (wI m14 r0 6 5) r0 9 x1))) else none) else (if gd_ok (gN m14) r0 9 = true then ((gd_call 63 [.int z16] (wI m14 r0 11 ((gI m14 r0 11) + 1))).bind (gd_k0I fun z23 m21 => if (z23 = 0 : Prop) then ((gd_call 66 [.int z16] m21).bind (gd_k0I fun z28 m26 => if (z28 = 0 : Prop) then (if (z16 = 59 : Prop) then (if gd_ok (gN m26) r0 9 = true then (some (.null, (wI (wI m26 r0 6 4) r0 9 (x1 + 1)))) else none) else (if gd_ok (gN m26) r0 9 = true then (some (.null, (wI (wI m26 r0 6 0) r0 9 (x1 + 1)))) else none)) else (if gd_ok (gN m26) r0 9 = true then (gd_Den (67, 209, [.ref r0, .int x1, .int z16, .int (x1 + 1)], [], (wI m26 r0 10 (z16 - 48)))) else none))) else (gd_Den (67, 79, [.ref r0, .int x1, .int z16, .int (x1 + 1)], [], m21)))) else none))) else none))) else none))) else none := by
  refine Eq.trans (D_aload_n (x := r0) gk_f67_5 rfl) ?_
  refine Eq.trans (D_iload_n (x := x1) gk_f67_6 rfl) ?_
  refine Eq.trans (D_ivI (cl := 9) (args := [.ref r0, .int x1]) (rest := []) gk_f67_7 rfl rfl (gd_rmk gk_rm67_62 gk_ln62 gk_ml62 rfl rfl rfl) gk_rk62 (gd_hnd_n gk_nc67) gk_nc62 gk_n11_62 gk_cl62) ?_
  refine gd_ite (fun h1 => ?_) (fun _ => rfl)
  refine gd_bnd (gd_kI_c fun z4 m2 => ?_)
  refine Eq.trans (D_bipush (x := 32) gk_f67_10 gk_b_32) ?_
  refine Eq.trans (D_ic_eq (t := 25) gk_f67_12 (by decide)) ?_
  refine gd_ite (fun h5 => ?_) (fun h6 => ?_)
  · refine Eq.trans (D_iinc (x := x1) (y := 1) gk_f67_25 rfl gk_c_1 gk_st67_1) ?_
    refine Eq.trans (D_goto (t := 5) gk_f67_28 (by decide)) ?_
    rfl
  · refine Eq.trans (D_aload_n (x := r0) gk_f67_15 rfl) ?_
    refine Eq.trans (D_iload_n (x := x1) gk_f67_16 rfl) ?_
    refine Eq.trans (D_ivI (cl := 9) (args := [.ref r0, .int x1]) (rest := []) gk_f67_17 rfl rfl (gd_rmk gk_rm67_62 gk_ln62 gk_ml62 rfl rfl rfl) gk_rk62 (gd_hnd_n gk_nc67) gk_nc62 gk_n11_62 gk_cl62) ?_
    refine gd_ite (fun h7 => ?_) (fun _ => rfl)
    refine gd_bnd (gd_kI_c fun z10 m8 => ?_)
    refine Eq.trans (D_bipush (x := 10) gk_f67_20 gk_b_10) ?_
    refine Eq.trans (D_ic_ne (t := 31) gk_f67_22 (by decide)) ?_
    refine gd_ite (fun h11 => ?_) (fun h12 => ?_)
    · refine Eq.trans (D_iinc (x := x1) (y := 1) gk_f67_25 rfl gk_c_1 gk_st67_1) ?_
      refine Eq.trans (D_goto (t := 5) gk_f67_28 (by decide)) ?_
      rfl
    · refine Eq.trans (D_aload_n (x := r0) gk_f67_31 rfl) ?_
      refine Eq.trans (D_iload_n (x := x1) gk_f67_32 rfl) ?_
      refine Eq.trans (D_pfI gk_f67_33) ?_
      refine gd_ite (fun h13 => ?_) (fun _ => rfl)
      refine Eq.trans (D_aload_n (x := r0) gk_f67_36 rfl) ?_
      refine Eq.trans (D_iload_n (x := x1) gk_f67_37 rfl) ?_
      refine Eq.trans (D_ivI (cl := 9) (args := [.ref r0, .int x1]) (rest := []) gk_f67_38 rfl rfl (gd_rmk gk_rm67_62 gk_ln62 gk_ml62 rfl rfl rfl) gk_rk62 (gd_hnd_n gk_nc67) gk_nc62 gk_n11_62 gk_cl62) ?_
      refine Eq.trans (if_pos h13) ?_
      refine gd_bnd (gd_kI_c fun z16 m14 => ?_)
      refine Eq.trans (D_istore_n gk_f67_41 gk_st67_2) ?_
      refine Eq.trans (D_iload_n (x := z16) gk_f67_42 rfl) ?_
      refine Eq.trans (D_iconst (x := (-1)) gk_f67_43 gk_c_m1) ?_
      refine Eq.trans (D_ic_ne (t := 58) gk_f67_44 (by decide)) ?_
      refine gd_ite (fun h17 => ?_) (fun h18 => ?_)
      · refine Eq.trans (D_aload_n (x := r0) gk_f67_47 rfl) ?_
        refine Eq.trans (D_iconst (x := 5) gk_f67_48 gk_c_5) ?_
        refine Eq.trans (D_pfI gk_f67_49) ?_
        refine gd_ite (fun h19 => ?_) (fun _ => rfl)
        refine Eq.trans (D_aload_n (x := r0) gk_f67_52 rfl) ?_
        refine Eq.trans (D_iload_n (x := x1) gk_f67_53 rfl) ?_
        refine Eq.trans (D_pfI gk_f67_54) ?_
        refine Eq.trans (if_pos h19) ?_
        refine Eq.trans (D_vreturn gk_f67_57 gk_rk67) ?_
        rfl
      · refine Eq.trans (D_aload_n (x := r0) gk_f67_58 rfl) ?_
        refine Eq.trans (D_dupR gk_f67_59) ?_
        refine Eq.trans (D_gfI gk_f67_60 (by decide) (by decide) (by decide)) ?_
        refine gd_ite (fun h20 => ?_) (fun _ => rfl)
        refine Eq.trans (D_iconst (x := 1) gk_f67_63 gk_c_1) ?_
        refine Eq.trans (D_iadd gk_f67_64) ?_
        refine Eq.trans (D_pfI gk_f67_65) ?_
        refine Eq.trans (if_pos h20) ?_
        refine Eq.trans (D_iload_n (x := x1) gk_f67_68 rfl) ?_
        refine Eq.trans (D_iconst (x := 1) gk_f67_69 gk_c_1) ?_
        refine Eq.trans (D_iadd gk_f67_70) ?_
        refine Eq.trans (D_istore_n gk_f67_71 gk_st67_3) ?_
        refine Eq.trans (D_iload_n (x := z16) gk_f67_72 rfl) ?_
        refine Eq.trans (D_isZ (args := [.int z16]) (rest := []) gk_f67_73 rfl rfl rfl (gd_rmk gk_rm67_63 gk_ln63 gk_ml63 rfl rfl rfl) gk_rk63 (gd_hnd_n gk_nc67)) ?_
        refine gd_bnd (gd_k0I_c fun z23 m21 => ?_)
        refine Eq.trans (D_if_eq (t := 194) gk_f67_76 (by decide)) ?_
        refine gd_ite (fun h24 => ?_) (fun h25 => ?_)
        · refine Eq.trans (D_iload_n (x := z16) gk_f67_194 rfl) ?_
          refine Eq.trans (D_isZ (args := [.int z16]) (rest := []) gk_f67_195 rfl rfl rfl (gd_rmk gk_rm67_66 gk_ln66 gk_ml66 rfl rfl rfl) gk_rk66 (gd_hnd_n gk_nc67)) ?_
          refine gd_bnd (gd_k0I_c fun z28 m26 => ?_)
          refine Eq.trans (D_if_eq (t := 279) gk_f67_198 (by decide)) ?_
          refine gd_ite (fun h29 => ?_) (fun h30 => ?_)
          · refine Eq.trans (D_aload_n (x := r0) gk_f67_279 rfl) ?_
            refine Eq.trans (D_iload_n (x := z16) gk_f67_280 rfl) ?_
            refine Eq.trans (D_bipush (x := 59) gk_f67_281 gk_b_59) ?_
            refine Eq.trans (D_ic_ne (t := 290) gk_f67_283 (by decide)) ?_
            refine gd_ite (fun h31 => ?_) (fun h32 => ?_)
            · refine Eq.trans (D_iconst (x := 4) gk_f67_286 gk_c_4) ?_
              refine Eq.trans (D_goto (t := 291) gk_f67_287 (by decide)) ?_
              refine Eq.trans (D_pfI gk_f67_291) ?_
              refine gd_ite (fun h33 => ?_) (fun _ => rfl)
              refine Eq.trans (D_aload_n (x := r0) gk_f67_294 rfl) ?_
              refine Eq.trans (D_iload_n (x := (x1 + 1)) gk_f67_295 rfl) ?_
              refine Eq.trans (D_pfI gk_f67_296) ?_
              refine Eq.trans (if_pos h33) ?_
              refine Eq.trans (D_vreturn gk_f67_299 gk_rk67) ?_
              rfl
            · refine Eq.trans (D_iconst (x := 0) gk_f67_290 gk_c_0) ?_
              refine Eq.trans (D_pfI gk_f67_291) ?_
              refine gd_ite (fun h34 => ?_) (fun _ => rfl)
              refine Eq.trans (D_aload_n (x := r0) gk_f67_294 rfl) ?_
              refine Eq.trans (D_iload_n (x := (x1 + 1)) gk_f67_295 rfl) ?_
              refine Eq.trans (D_pfI gk_f67_296) ?_
              refine Eq.trans (if_pos h34) ?_
              refine Eq.trans (D_vreturn gk_f67_299 gk_rk67) ?_
              rfl
          · refine Eq.trans (D_aload_n (x := r0) gk_f67_201 rfl) ?_
            refine Eq.trans (D_iload_n (x := z16) gk_f67_202 rfl) ?_
            refine Eq.trans (D_bipush (x := 48) gk_f67_203 gk_b_48) ?_
            refine Eq.trans (D_isub gk_f67_205) ?_
            refine Eq.trans (D_pfI gk_f67_206) ?_
            refine gd_ite (fun h35 => ?_) (fun _ => rfl)
            rfl
        · rfl
set_option maxRecDepth 20000 in
set_option maxHeartbeats 4000000 in
theorem q_Mo_scan_79 (r0 : Nat) (x1 : Int32) (x2 : Int32) (x3 : Int32) (m : gd_M) : gd_Den (67, 79, [.ref r0, .int x1, .int x2, .int x3], [], m) = if gd_ok (gN m) r0 9 = true then ((gd_call 62 [.ref r0, .int x3] m).bind (gd_kI fun z4 m2 => (gd_call 63 [.int z4] m2).bind (gd_k0I fun z7 m5 => if (z7 = 0 : Prop) then (if gd_ok (gN m5) r0 9 = true then ((gd_call 64 [.ref r0, .int x1, .int (x3 - x1)] m5).bind (gd_kI fun z13 m11 => if gd_ok (gN m11) r0 9 = true then (if ((gI (wI m11 r0 7 z13) r0 7) = (-1) : Prop) then (if (10 < (x3 - x1) : Prop) then (gd_Den (67, 134, [.ref r0, .int x1, .int x2, .int x3], [.int 0, .ref r0], (wI m11 r0 7 z13))) else (gd_Den (67, 134, [.ref r0, .int x1, .int x2, .int x3], [.int 1, .ref r0], (wI m11 r0 7 z13)))) else (gd_Den (67, 134, [.ref r0, .int x1, .int x2, .int x3], [.int 2, .ref r0], (wI m11 r0 7 z13)))) else none)) else none) else (gd_Den (67, 79, [.ref r0, .int x1, .int x2, .int (x3 + 1)], [], m5))))) else none := by
  refine Eq.trans (D_aload_n (x := r0) gk_f67_79 rfl) ?_
  refine Eq.trans (D_iload_n (x := x3) gk_f67_80 rfl) ?_
  refine Eq.trans (D_ivI (cl := 9) (args := [.ref r0, .int x3]) (rest := []) gk_f67_81 rfl rfl (gd_rmk gk_rm67_62 gk_ln62 gk_ml62 rfl rfl rfl) gk_rk62 (gd_hnd_n gk_nc67) gk_nc62 gk_n11_62 gk_cl62) ?_
  refine gd_ite (fun h1 => ?_) (fun _ => rfl)
  refine gd_bnd (gd_kI_c fun z4 m2 => ?_)
  refine Eq.trans (D_isZ (args := [.int z4]) (rest := []) gk_f67_84 rfl rfl rfl (gd_rmk gk_rm67_63 gk_ln63 gk_ml63 rfl rfl rfl) gk_rk63 (gd_hnd_n gk_nc67)) ?_
  refine gd_bnd (gd_k0I_c fun z7 m5 => ?_)
  refine Eq.trans (D_if_eq (t := 96) gk_f67_87 (by decide)) ?_
  refine gd_ite (fun h8 => ?_) (fun h9 => ?_)
  · refine Eq.trans (D_aload_n (x := r0) gk_f67_96 rfl) ?_
    refine Eq.trans (D_aload_n (x := r0) gk_f67_97 rfl) ?_
    refine Eq.trans (D_iload_n (x := x1) gk_f67_98 rfl) ?_
    refine Eq.trans (D_iload_n (x := x3) gk_f67_99 rfl) ?_
    refine Eq.trans (D_iload_n (x := x1) gk_f67_100 rfl) ?_
    refine Eq.trans (D_isub gk_f67_101) ?_
    refine Eq.trans (D_ivI (cl := 9) (args := [.ref r0, .int x1, .int (x3 - x1)]) (rest := [.ref r0]) gk_f67_102 rfl rfl (gd_rmk gk_rm67_64 gk_ln64 gk_ml64 rfl rfl rfl) gk_rk64 (gd_hnd_n gk_nc67) gk_nc64 gk_n11_64 gk_cl64) ?_
    refine gd_ite (fun h10 => ?_) (fun _ => rfl)
    refine gd_bnd (gd_kI_c fun z13 m11 => ?_)
    refine Eq.trans (D_pfI gk_f67_105) ?_
    refine gd_ite (fun h14 => ?_) (fun _ => rfl)
    refine Eq.trans (D_aload_n (x := r0) gk_f67_108 rfl) ?_
    refine Eq.trans (D_aload_n (x := r0) gk_f67_109 rfl) ?_
    refine Eq.trans (D_gfI gk_f67_110 (by decide) (by decide) (by decide)) ?_
    refine Eq.trans (if_pos h14) ?_
    refine Eq.trans (D_iconst (x := (-1)) gk_f67_113 gk_c_m1) ?_
    refine Eq.trans (D_ic_eq (t := 121) gk_f67_114 (by decide)) ?_
    refine gd_ite (fun h15 => ?_) (fun h16 => ?_)
    · refine Eq.trans (D_iload_n (x := x3) gk_f67_121 rfl) ?_
      refine Eq.trans (D_iload_n (x := x1) gk_f67_122 rfl) ?_
      refine Eq.trans (D_isub gk_f67_123) ?_
      refine Eq.trans (D_bipush (x := 10) gk_f67_124 gk_b_10) ?_
      refine Eq.trans (D_ic_le (t := 133) gk_f67_126 (by decide)) ?_
      refine gd_ite (fun h17 => ?_) (fun h18 => ?_)
      · refine Eq.trans (D_iconst (x := 0) gk_f67_129 gk_c_0) ?_
        refine Eq.trans (D_goto (t := 134) gk_f67_130 (by decide)) ?_
        rfl
      · refine Eq.trans (D_iconst (x := 1) gk_f67_133 gk_c_1) ?_
        rfl
    · refine Eq.trans (D_iconst (x := 2) gk_f67_117 gk_c_2) ?_
      refine Eq.trans (D_goto (t := 134) gk_f67_118 (by decide)) ?_
      rfl
  · refine Eq.trans (D_iinc (x := x3) (y := 1) gk_f67_90 rfl gk_c_1 gk_st67_3) ?_
    refine Eq.trans (D_goto (t := 79) gk_f67_93 (by decide)) ?_
    rfl
set_option maxRecDepth 20000 in
set_option maxHeartbeats 4000000 in
theorem q_Mo_scan_134 (r0 : Nat) (x1 : Int32) (x2 : Int32) (x3 : Int32) (sr0 : Nat) (sx1 : Int32) (m : gd_M) : gd_Den (67, 134, [.ref r0, .int x1, .int x2, .int x3], [.int sx1, .ref sr0], m) = if gd_ok (gN m) sr0 9 = true then (if (x3 < (x1 + 5) : Prop) then (if gd_ok (gN m) r0 9 = true then ((gd_call 65 [.ref r0, .int x1, .int x3] (wI m sr0 6 sx1)).bind (gd_kJ fun w7 m5 => if gd_ok (gN m5) r0 9 = true then (if ((x1 + 5) < x3 : Prop) then (if ((x1 + 10) < x3 : Prop) then (some (.null, (wI (wJ (wJ m5 r0 12 w7) r0 13 0) r0 9 x3))) else ((gd_call 65 [.ref r0, .int (x1 + 5), .int x3] (wJ m5 r0 12 w7)).bind (gd_kJ fun w15 m13 => if gd_ok (gN m13) r0 9 = true then (some (.null, (wI (wJ m13 r0 13 w15) r0 9 x3))) else none))) else (some (.null, (wI (wJ (wJ m5 r0 12 w7) r0 13 0) r0 9 x3)))) else none)) else none) else (if gd_ok (gN m) r0 9 = true then ((gd_call 65 [.ref r0, .int x1, .int (x1 + 5)] (wI m sr0 6 sx1)).bind (gd_kJ fun w20 m18 => if gd_ok (gN m18) r0 9 = true then (if ((x1 + 5) < x3 : Prop) then (if ((x1 + 10) < x3 : Prop) then (some (.null, (wI (wJ (wJ m18 r0 12 w20) r0 13 0) r0 9 x3))) else ((gd_call 65 [.ref r0, .int (x1 + 5), .int x3] (wJ m18 r0 12 w20)).bind (gd_kJ fun w28 m26 => if gd_ok (gN m26) r0 9 = true then (some (.null, (wI (wJ m26 r0 13 w28) r0 9 x3))) else none))) else (some (.null, (wI (wJ (wJ m18 r0 12 w20) r0 13 0) r0 9 x3)))) else none)) else none)) else none := by
  refine Eq.trans (D_pfI gk_f67_134) ?_
  refine gd_ite (fun h1 => ?_) (fun _ => rfl)
  refine Eq.trans (D_aload_n (x := r0) gk_f67_137 rfl) ?_
  refine Eq.trans (D_aload_n (x := r0) gk_f67_138 rfl) ?_
  refine Eq.trans (D_iload_n (x := x1) gk_f67_139 rfl) ?_
  refine Eq.trans (D_iload_n (x := x3) gk_f67_140 rfl) ?_
  refine Eq.trans (D_iload_n (x := x1) gk_f67_141 rfl) ?_
  refine Eq.trans (D_iconst (x := 5) gk_f67_142 gk_c_5) ?_
  refine Eq.trans (D_iadd gk_f67_143) ?_
  refine Eq.trans (D_ic_ge (t := 151) gk_f67_144 (by decide)) ?_
  refine gd_ite (fun h2 => ?_) (fun h3 => ?_)
  · refine Eq.trans (D_iload_n (x := x3) gk_f67_147 rfl) ?_
    refine Eq.trans (D_goto (t := 154) gk_f67_148 (by decide)) ?_
    refine Eq.trans (D_ivJ (cl := 9) (args := [.ref r0, .int x1, .int x3]) (rest := [.ref r0]) gk_f67_154 rfl rfl (gd_rmk gk_rm67_65 gk_ln65 gk_ml65 rfl rfl rfl) gk_rk65 (gd_hnd_n gk_nc67) gk_nc65 gk_n11_65 gk_cl65) ?_
    refine gd_ite (fun h4 => ?_) (fun _ => rfl)
    refine gd_bnd (gd_kJ_c fun w7 m5 => ?_)
    refine Eq.trans (D_pfJ gk_f67_157) ?_
    refine gd_ite (fun h8 => ?_) (fun _ => rfl)
    refine Eq.trans (D_aload_n (x := r0) gk_f67_160 rfl) ?_
    refine Eq.trans (D_iload_n (x := x3) gk_f67_161 rfl) ?_
    refine Eq.trans (D_iload_n (x := x1) gk_f67_162 rfl) ?_
    refine Eq.trans (D_iconst (x := 5) gk_f67_163 gk_c_5) ?_
    refine Eq.trans (D_iadd gk_f67_164) ?_
    refine Eq.trans (D_ic_le (t := 187) gk_f67_165 (by decide)) ?_
    refine gd_ite (fun h9 => ?_) (fun h10 => ?_)
    · refine Eq.trans (D_iload_n (x := x3) gk_f67_168 rfl) ?_
      refine Eq.trans (D_iload_n (x := x1) gk_f67_169 rfl) ?_
      refine Eq.trans (D_bipush (x := 10) gk_f67_170 gk_b_10) ?_
      refine Eq.trans (D_iadd gk_f67_172) ?_
      refine Eq.trans (D_ic_gt (t := 187) gk_f67_173 (by decide)) ?_
      refine gd_ite (fun h11 => ?_) (fun h12 => ?_)
      · refine Eq.trans (D_lconst (x := 0) gk_f67_187 (by decide)) ?_
        refine Eq.trans (D_pfJ gk_f67_188) ?_
        refine Eq.trans (if_pos h8) ?_
        refine Eq.trans (D_goto (t := 294) gk_f67_191 (by decide)) ?_
        refine Eq.trans (D_aload_n (x := r0) gk_f67_294 rfl) ?_
        refine Eq.trans (D_iload_n (x := x3) gk_f67_295 rfl) ?_
        refine Eq.trans (D_pfI gk_f67_296) ?_
        refine Eq.trans (if_pos h8) ?_
        refine Eq.trans (D_vreturn gk_f67_299 gk_rk67) ?_
        rfl
      · refine Eq.trans (D_aload_n (x := r0) gk_f67_176 rfl) ?_
        refine Eq.trans (D_iload_n (x := x1) gk_f67_177 rfl) ?_
        refine Eq.trans (D_iconst (x := 5) gk_f67_178 gk_c_5) ?_
        refine Eq.trans (D_iadd gk_f67_179) ?_
        refine Eq.trans (D_iload_n (x := x3) gk_f67_180 rfl) ?_
        refine Eq.trans (D_ivJ (cl := 9) (args := [.ref r0, .int (x1 + 5), .int x3]) (rest := [.ref r0]) gk_f67_181 rfl rfl (gd_rmk gk_rm67_65 gk_ln65 gk_ml65 rfl rfl rfl) gk_rk65 (gd_hnd_n gk_nc67) gk_nc65 gk_n11_65 gk_cl65) ?_
        refine Eq.trans (if_pos h8) ?_
        refine gd_bnd (gd_kJ_c fun w15 m13 => ?_)
        refine Eq.trans (D_goto (t := 188) gk_f67_184 (by decide)) ?_
        refine Eq.trans (D_pfJ gk_f67_188) ?_
        refine gd_ite (fun h16 => ?_) (fun _ => rfl)
        refine Eq.trans (D_goto (t := 294) gk_f67_191 (by decide)) ?_
        refine Eq.trans (D_aload_n (x := r0) gk_f67_294 rfl) ?_
        refine Eq.trans (D_iload_n (x := x3) gk_f67_295 rfl) ?_
        refine Eq.trans (D_pfI gk_f67_296) ?_
        refine Eq.trans (if_pos h16) ?_
        refine Eq.trans (D_vreturn gk_f67_299 gk_rk67) ?_
        rfl
    · refine Eq.trans (D_lconst (x := 0) gk_f67_187 (by decide)) ?_
      refine Eq.trans (D_pfJ gk_f67_188) ?_
      refine Eq.trans (if_pos h8) ?_
      refine Eq.trans (D_goto (t := 294) gk_f67_191 (by decide)) ?_
      refine Eq.trans (D_aload_n (x := r0) gk_f67_294 rfl) ?_
      refine Eq.trans (D_iload_n (x := x3) gk_f67_295 rfl) ?_
      refine Eq.trans (D_pfI gk_f67_296) ?_
      refine Eq.trans (if_pos h8) ?_
      refine Eq.trans (D_vreturn gk_f67_299 gk_rk67) ?_
      rfl
  · refine Eq.trans (D_iload_n (x := x1) gk_f67_151 rfl) ?_
    refine Eq.trans (D_iconst (x := 5) gk_f67_152 gk_c_5) ?_
    refine Eq.trans (D_iadd gk_f67_153) ?_
    refine Eq.trans (D_ivJ (cl := 9) (args := [.ref r0, .int x1, .int (x1 + 5)]) (rest := [.ref r0]) gk_f67_154 rfl rfl (gd_rmk gk_rm67_65 gk_ln65 gk_ml65 rfl rfl rfl) gk_rk65 (gd_hnd_n gk_nc67) gk_nc65 gk_n11_65 gk_cl65) ?_
    refine gd_ite (fun h17 => ?_) (fun _ => rfl)
    refine gd_bnd (gd_kJ_c fun w20 m18 => ?_)
    refine Eq.trans (D_pfJ gk_f67_157) ?_
    refine gd_ite (fun h21 => ?_) (fun _ => rfl)
    refine Eq.trans (D_aload_n (x := r0) gk_f67_160 rfl) ?_
    refine Eq.trans (D_iload_n (x := x3) gk_f67_161 rfl) ?_
    refine Eq.trans (D_iload_n (x := x1) gk_f67_162 rfl) ?_
    refine Eq.trans (D_iconst (x := 5) gk_f67_163 gk_c_5) ?_
    refine Eq.trans (D_iadd gk_f67_164) ?_
    refine Eq.trans (D_ic_le (t := 187) gk_f67_165 (by decide)) ?_
    refine gd_ite (fun h22 => ?_) (fun h23 => ?_)
    · refine Eq.trans (D_iload_n (x := x3) gk_f67_168 rfl) ?_
      refine Eq.trans (D_iload_n (x := x1) gk_f67_169 rfl) ?_
      refine Eq.trans (D_bipush (x := 10) gk_f67_170 gk_b_10) ?_
      refine Eq.trans (D_iadd gk_f67_172) ?_
      refine Eq.trans (D_ic_gt (t := 187) gk_f67_173 (by decide)) ?_
      refine gd_ite (fun h24 => ?_) (fun h25 => ?_)
      · refine Eq.trans (D_lconst (x := 0) gk_f67_187 (by decide)) ?_
        refine Eq.trans (D_pfJ gk_f67_188) ?_
        refine Eq.trans (if_pos h21) ?_
        refine Eq.trans (D_goto (t := 294) gk_f67_191 (by decide)) ?_
        refine Eq.trans (D_aload_n (x := r0) gk_f67_294 rfl) ?_
        refine Eq.trans (D_iload_n (x := x3) gk_f67_295 rfl) ?_
        refine Eq.trans (D_pfI gk_f67_296) ?_
        refine Eq.trans (if_pos h21) ?_
        refine Eq.trans (D_vreturn gk_f67_299 gk_rk67) ?_
        rfl
      · refine Eq.trans (D_aload_n (x := r0) gk_f67_176 rfl) ?_
        refine Eq.trans (D_iload_n (x := x1) gk_f67_177 rfl) ?_
        refine Eq.trans (D_iconst (x := 5) gk_f67_178 gk_c_5) ?_
        refine Eq.trans (D_iadd gk_f67_179) ?_
        refine Eq.trans (D_iload_n (x := x3) gk_f67_180 rfl) ?_
        refine Eq.trans (D_ivJ (cl := 9) (args := [.ref r0, .int (x1 + 5), .int x3]) (rest := [.ref r0]) gk_f67_181 rfl rfl (gd_rmk gk_rm67_65 gk_ln65 gk_ml65 rfl rfl rfl) gk_rk65 (gd_hnd_n gk_nc67) gk_nc65 gk_n11_65 gk_cl65) ?_
        refine Eq.trans (if_pos h21) ?_
        refine gd_bnd (gd_kJ_c fun w28 m26 => ?_)
        refine Eq.trans (D_goto (t := 188) gk_f67_184 (by decide)) ?_
        refine Eq.trans (D_pfJ gk_f67_188) ?_
        refine gd_ite (fun h29 => ?_) (fun _ => rfl)
        refine Eq.trans (D_goto (t := 294) gk_f67_191 (by decide)) ?_
        refine Eq.trans (D_aload_n (x := r0) gk_f67_294 rfl) ?_
        refine Eq.trans (D_iload_n (x := x3) gk_f67_295 rfl) ?_
        refine Eq.trans (D_pfI gk_f67_296) ?_
        refine Eq.trans (if_pos h29) ?_
        refine Eq.trans (D_vreturn gk_f67_299 gk_rk67) ?_
        rfl
    · refine Eq.trans (D_lconst (x := 0) gk_f67_187 (by decide)) ?_
      refine Eq.trans (D_pfJ gk_f67_188) ?_
      refine Eq.trans (if_pos h21) ?_
      refine Eq.trans (D_goto (t := 294) gk_f67_191 (by decide)) ?_
      refine Eq.trans (D_aload_n (x := r0) gk_f67_294 rfl) ?_
      refine Eq.trans (D_iload_n (x := x3) gk_f67_295 rfl) ?_
      refine Eq.trans (D_pfI gk_f67_296) ?_
      refine Eq.trans (if_pos h21) ?_
      refine Eq.trans (D_vreturn gk_f67_299 gk_rk67) ?_
      rfl
set_option maxRecDepth 20000 in
set_option maxHeartbeats 4000000 in
theorem q_Mo_scan_209 (r0 : Nat) (x1 : Int32) (x2 : Int32) (x3 : Int32) (m : gd_M) : gd_Den (67, 209, [.ref r0, .int x1, .int x2, .int x3], [], m) = if gd_ok (gN m) r0 9 = true then ((gd_call 62 [.ref r0, .int x3] m).bind (gd_kI fun z4 m2 => (gd_call 66 [.int z4] m2).bind (gd_k0I fun z7 m5 => if (z7 = 0 : Prop) then (if (3 < (x3 - x1) : Prop) then (if gd_ok (gN m5) r0 9 = true then (some (.null, (wI (wI m5 r0 6 0) r0 9 x3))) else none) else (if gd_ok (gN m5) r0 9 = true then (some (.null, (wI (wI m5 r0 6 3) r0 9 x3))) else none)) else (if ((x3 - x1) < 3 : Prop) then (if gd_ok (gN m5) r0 9 = true then ((gd_call 62 [.ref r0, .int x3] m5).bind (gd_kI fun z19 m17 => if gd_ok (gN m17) r0 9 = true then (gd_Den (67, 209, [.ref r0, .int x1, .int x2, .int (x3 + 1)], [], (wI m17 r0 10 (((10 * (gI m5 r0 10)) + z19) - 48)))) else none)) else none) else (if gd_ok (gN m5) r0 9 = true then (gd_Den (67, 209, [.ref r0, .int x1, .int x2, .int (x3 + 1)], [], (wI m5 r0 10 (gI m5 r0 10)))) else none))))) else none := by
  refine Eq.trans (D_aload_n (x := r0) gk_f67_209 rfl) ?_
  refine Eq.trans (D_iload_n (x := x3) gk_f67_210 rfl) ?_
  refine Eq.trans (D_ivI (cl := 9) (args := [.ref r0, .int x3]) (rest := []) gk_f67_211 rfl rfl (gd_rmk gk_rm67_62 gk_ln62 gk_ml62 rfl rfl rfl) gk_rk62 (gd_hnd_n gk_nc67) gk_nc62 gk_n11_62 gk_cl62) ?_
  refine gd_ite (fun h1 => ?_) (fun _ => rfl)
  refine gd_bnd (gd_kI_c fun z4 m2 => ?_)
  refine Eq.trans (D_isZ (args := [.int z4]) (rest := []) gk_f67_214 rfl rfl rfl (gd_rmk gk_rm67_66 gk_ln66 gk_ml66 rfl rfl rfl) gk_rk66 (gd_hnd_n gk_nc67)) ?_
  refine gd_bnd (gd_k0I_c fun z7 m5 => ?_)
  refine Eq.trans (D_if_eq (t := 260) gk_f67_217 (by decide)) ?_
  refine gd_ite (fun h8 => ?_) (fun h9 => ?_)
  · refine Eq.trans (D_aload_n (x := r0) gk_f67_260 rfl) ?_
    refine Eq.trans (D_iload_n (x := x3) gk_f67_261 rfl) ?_
    refine Eq.trans (D_iload_n (x := x1) gk_f67_262 rfl) ?_
    refine Eq.trans (D_isub gk_f67_263) ?_
    refine Eq.trans (D_iconst (x := 3) gk_f67_264 gk_c_3) ?_
    refine Eq.trans (D_ic_le (t := 272) gk_f67_265 (by decide)) ?_
    refine gd_ite (fun h10 => ?_) (fun h11 => ?_)
    · refine Eq.trans (D_iconst (x := 0) gk_f67_268 gk_c_0) ?_
      refine Eq.trans (D_goto (t := 273) gk_f67_269 (by decide)) ?_
      refine Eq.trans (D_pfI gk_f67_273) ?_
      refine gd_ite (fun h12 => ?_) (fun _ => rfl)
      refine Eq.trans (D_goto (t := 294) gk_f67_276 (by decide)) ?_
      refine Eq.trans (D_aload_n (x := r0) gk_f67_294 rfl) ?_
      refine Eq.trans (D_iload_n (x := x3) gk_f67_295 rfl) ?_
      refine Eq.trans (D_pfI gk_f67_296) ?_
      refine Eq.trans (if_pos h12) ?_
      refine Eq.trans (D_vreturn gk_f67_299 gk_rk67) ?_
      rfl
    · refine Eq.trans (D_iconst (x := 3) gk_f67_272 gk_c_3) ?_
      refine Eq.trans (D_pfI gk_f67_273) ?_
      refine gd_ite (fun h13 => ?_) (fun _ => rfl)
      refine Eq.trans (D_goto (t := 294) gk_f67_276 (by decide)) ?_
      refine Eq.trans (D_aload_n (x := r0) gk_f67_294 rfl) ?_
      refine Eq.trans (D_iload_n (x := x3) gk_f67_295 rfl) ?_
      refine Eq.trans (D_pfI gk_f67_296) ?_
      refine Eq.trans (if_pos h13) ?_
      refine Eq.trans (D_vreturn gk_f67_299 gk_rk67) ?_
      rfl
  · refine Eq.trans (D_aload_n (x := r0) gk_f67_220 rfl) ?_
    refine Eq.trans (D_iload_n (x := x3) gk_f67_221 rfl) ?_
    refine Eq.trans (D_iload_n (x := x1) gk_f67_222 rfl) ?_
    refine Eq.trans (D_isub gk_f67_223) ?_
    refine Eq.trans (D_iconst (x := 3) gk_f67_224 gk_c_3) ?_
    refine Eq.trans (D_ic_ge (t := 247) gk_f67_225 (by decide)) ?_
    refine gd_ite (fun h14 => ?_) (fun h15 => ?_)
    · refine Eq.trans (D_bipush (x := 10) gk_f67_228 gk_b_10) ?_
      refine Eq.trans (D_aload_n (x := r0) gk_f67_230 rfl) ?_
      refine Eq.trans (D_gfI gk_f67_231 (by decide) (by decide) (by decide)) ?_
      refine gd_ite (fun h16 => ?_) (fun _ => rfl)
      refine Eq.trans (D_imul gk_f67_234) ?_
      refine Eq.trans (D_aload_n (x := r0) gk_f67_235 rfl) ?_
      refine Eq.trans (D_iload_n (x := x3) gk_f67_236 rfl) ?_
      refine Eq.trans (D_ivI (cl := 9) (args := [.ref r0, .int x3]) (rest := [.int (10 * (gI m5 r0 10)), .ref r0]) gk_f67_237 rfl rfl (gd_rmk gk_rm67_62 gk_ln62 gk_ml62 rfl rfl rfl) gk_rk62 (gd_hnd_n gk_nc67) gk_nc62 gk_n11_62 gk_cl62) ?_
      refine Eq.trans (if_pos h16) ?_
      refine gd_bnd (gd_kI_c fun z19 m17 => ?_)
      refine Eq.trans (D_iadd gk_f67_240) ?_
      refine Eq.trans (D_bipush (x := 48) gk_f67_241 gk_b_48) ?_
      refine Eq.trans (D_isub gk_f67_243) ?_
      refine Eq.trans (D_goto (t := 251) gk_f67_244 (by decide)) ?_
      refine Eq.trans (D_pfI gk_f67_251) ?_
      refine gd_ite (fun h20 => ?_) (fun _ => rfl)
      refine Eq.trans (D_iinc (x := x3) (y := 1) gk_f67_254 rfl gk_c_1 gk_st67_3) ?_
      refine Eq.trans (D_goto (t := 209) gk_f67_257 (by decide)) ?_
      rfl
    · refine Eq.trans (D_aload_n (x := r0) gk_f67_247 rfl) ?_
      refine Eq.trans (D_gfI gk_f67_248 (by decide) (by decide) (by decide)) ?_
      refine gd_ite (fun h21 => ?_) (fun _ => rfl)
      refine Eq.trans (D_pfI gk_f67_251) ?_
      refine Eq.trans (if_pos h21) ?_
      refine Eq.trans (D_iinc (x := x3) (y := 1) gk_f67_254 rfl gk_c_1 gk_st67_3) ?_
      refine Eq.trans (D_goto (t := 209) gk_f67_257 (by decide)) ?_
      rfl
/-! GymDeskModel.need (ZI)V -/
set_option maxRecDepth 20000 in
theorem gk_f68_0 : gd_fetch 68 0 = some (0, .iload_n 1, 1, 0, 0, 0, 0, 0) := rfl
set_option maxRecDepth 20000 in
theorem gk_f68_1 : gd_fetch 68 1 = some (1, .ifCond .eq 4, 3, 0, 0, 0, 0, 0) := rfl
set_option maxRecDepth 20000 in
theorem gk_f68_4 : gd_fetch 68 4 = some (4, .return_, 1, 0, 0, 0, 0, 0) := rfl
set_option maxRecDepth 20000 in
theorem gk_f68_5 : gd_fetch 68 5 = some (5, .aload_n 0, 1, 0, 0, 0, 0, 0) := rfl
set_option maxRecDepth 20000 in
theorem gk_f68_6 : gd_fetch 68 6 = some (6, .iload_n 2, 1, 0, 0, 0, 0, 0) := rfl
set_option maxRecDepth 20000 in
theorem gk_f68_7 : gd_fetch 68 7 = some (7, .putfield 120, 3, 1177, 9, 14, 0, 0) := rfl
set_option maxRecDepth 20000 in
theorem gk_f68_10 : gd_fetch 68 10 = some (10, .aload_n 0, 1, 0, 0, 0, 0, 0) := rfl
set_option maxRecDepth 20000 in
theorem gk_f68_11 : gd_fetch 68 11 = some (11, .aload_n 0, 1, 0, 0, 0, 0, 0) := rfl
set_option maxRecDepth 20000 in
theorem gk_f68_12 : gd_fetch 68 12 = some (12, .getfield 123, 3, 1171, 9, 8, 0, 0) := rfl
set_option maxRecDepth 20000 in
theorem gk_f68_15 : gd_fetch 68 15 = some (15, .putfield 30, 3, 1178, 9, 15, 0, 0) := rfl
set_option maxRecDepth 20000 in
theorem gk_f68_18 : gd_fetch 68 18 = some (18, .aload_n 0, 1, 0, 0, 0, 0, 0) := rfl
set_option maxRecDepth 20000 in
theorem gk_f68_19 : gd_fetch 68 19 = some (19, .getfield 10, 3, 1163, 9, 0, 4, 1) := rfl
set_option maxRecDepth 20000 in
theorem gk_f68_22 : gd_fetch 68 22 = some (22, .athrow, 1, 0, 0, 0, 0, 0) := rfl
set_option maxRecDepth 20000 in
set_option maxHeartbeats 4000000 in
theorem q_Mo_need (r0 : Nat) (x1 : Int32) (x2 : Int32) (m : gd_M) : gd_call 68 [.ref r0, .int x1, .int x2] m = if (x1 = 0 : Prop) then (if gd_ok (gN m) r0 9 = true then (if gd_ok (gN m) (gR m r0 0) 8 = true then some (.retAddr 0, (wI (wI m r0 14 x2) r0 15 (gI (wI m r0 14 x2) r0 8))) else none) else none) else (some (.null, m)) := by
  refine Eq.trans (show gd_call 68 [.ref r0, .int x1, .int x2] m = gd_Den (68, 0, [.ref r0, .int x1, .int x2], [], m) from by unfold gd_call gd_ent; rw [gk_ml68]; rfl) ?_
  refine Eq.trans (D_iload_n (x := x1) gk_f68_0 rfl) ?_
  refine Eq.trans (D_if_eq (t := 5) gk_f68_1 (by decide)) ?_
  refine gd_ite (fun h1 => ?_) (fun h2 => ?_)
  · refine Eq.trans (D_aload_n (x := r0) gk_f68_5 rfl) ?_
    refine Eq.trans (D_iload_n (x := x2) gk_f68_6 rfl) ?_
    refine Eq.trans (D_pfI gk_f68_7) ?_
    refine gd_ite (fun h3 => ?_) (fun _ => rfl)
    refine Eq.trans (D_aload_n (x := r0) gk_f68_10 rfl) ?_
    refine Eq.trans (D_aload_n (x := r0) gk_f68_11 rfl) ?_
    refine Eq.trans (D_gfI gk_f68_12 (by decide) (by decide) (by decide)) ?_
    refine Eq.trans (if_pos h3) ?_
    refine Eq.trans (D_pfI gk_f68_15) ?_
    refine Eq.trans (if_pos h3) ?_
    refine Eq.trans (D_aload_n (x := r0) gk_f68_18 rfl) ?_
    refine Eq.trans (D_gfR gk_f68_19 (by decide)) ?_
    refine Eq.trans (if_pos h3) ?_
    refine Eq.trans (D_athrow gk_f68_22 (gd_hnd_n gk_nc68)) ?_
    rfl
  · refine Eq.trans (D_vreturn gk_f68_4 gk_rk68) ?_
    rfl
/-! GymDeskModel.next ()V -/
set_option maxRecDepth 20000 in
theorem gk_f69_0 : gd_fetch 69 0 = some (0, .aload_n 0, 1, 0, 0, 0, 0, 0) := rfl
set_option maxRecDepth 20000 in
theorem gk_f69_1 : gd_fetch 69 1 = some (1, .aload_n 0, 1, 0, 0, 0, 0, 0) := rfl
set_option maxRecDepth 20000 in
theorem gk_f69_2 : gd_fetch 69 2 = some (2, .getfield 148, 3, 1174, 9, 11, 0, 0) := rfl
set_option maxRecDepth 20000 in
theorem gk_f69_5 : gd_fetch 69 5 = some (5, .sipush 700, 3, 0, 0, 0, 0, 0) := rfl
set_option maxRecDepth 20000 in
theorem gk_f69_8 : gd_fetch 69 8 = some (8, .if_icmp .gt 7, 3, 0, 0, 0, 0, 0) := rfl
set_option maxRecDepth 20000 in
theorem gk_f69_11 : gd_fetch 69 11 = some (11, .iconst 1, 1, 0, 0, 0, 0, 0) := rfl
set_option maxRecDepth 20000 in
theorem gk_f69_12 : gd_fetch 69 12 = some (12, .goto 4, 3, 0, 0, 0, 0, 0) := rfl
set_option maxRecDepth 20000 in
theorem gk_f69_15 : gd_fetch 69 15 = some (15, .iconst 0, 1, 0, 0, 0, 0, 0) := rfl
set_option maxRecDepth 20000 in
theorem gk_f69_16 : gd_fetch 69 16 = some (16, .iconst 4, 1, 0, 0, 0, 0, 0) := rfl
set_option maxRecDepth 20000 in
theorem gk_f69_17 : gd_fetch 69 17 = some (17, .invokevirtual 179, 3, 1340, 68, 2, 0, 0) := rfl
set_option maxRecDepth 20000 in
theorem gk_f69_20 : gd_fetch 69 20 = some (20, .aload_n 0, 1, 0, 0, 0, 0, 0) := rfl
set_option maxRecDepth 20000 in
theorem gk_f69_21 : gd_fetch 69 21 = some (21, .invokevirtual 183, 3, 1311, 67, 0, 0, 0) := rfl
set_option maxRecDepth 20000 in
theorem gk_f69_24 : gd_fetch 69 24 = some (24, .return_, 1, 0, 0, 0, 0, 0) := rfl
set_option maxRecDepth 20000 in
set_option maxHeartbeats 4000000 in
theorem q_Mo_next (r0 : Nat) (m : gd_M) : gd_call 69 [.ref r0] m = if gd_ok (gN m) r0 9 = true then (if (700 < (gI m r0 11) : Prop) then ((gd_call 68 [.ref r0, .int 0, .int 4] m).bind (gd_kV fun m4 => if gd_ok (gN m4) r0 9 = true then ((gd_call 67 [.ref r0] m4).bind (gd_kV fun m7 => some (.null, m7))) else none)) else ((gd_call 68 [.ref r0, .int 1, .int 4] m).bind (gd_kV fun m9 => if gd_ok (gN m9) r0 9 = true then ((gd_call 67 [.ref r0] m9).bind (gd_kV fun m12 => some (.null, m12))) else none))) else none := by
  refine Eq.trans (show gd_call 69 [.ref r0] m = gd_Den (69, 0, [.ref r0], [], m) from by unfold gd_call gd_ent; rw [gk_ml69]; rfl) ?_
  refine Eq.trans (D_aload_n (x := r0) gk_f69_0 rfl) ?_
  refine Eq.trans (D_aload_n (x := r0) gk_f69_1 rfl) ?_
  refine Eq.trans (D_gfI gk_f69_2 (by decide) (by decide) (by decide)) ?_
  refine gd_ite (fun h1 => ?_) (fun _ => rfl)
  refine Eq.trans (D_sipush (x := 700) gk_f69_5 gk_s_700) ?_
  refine Eq.trans (D_ic_gt (t := 15) gk_f69_8 (by decide)) ?_
  refine gd_ite (fun h2 => ?_) (fun h3 => ?_)
  · refine Eq.trans (D_iconst (x := 0) gk_f69_15 gk_c_0) ?_
    refine Eq.trans (D_iconst (x := 4) gk_f69_16 gk_c_4) ?_
    refine Eq.trans (D_ivV (cl := 9) (args := [.ref r0, .int 0, .int 4]) (rest := []) gk_f69_17 rfl rfl (gd_rmk gk_rm69_68 gk_ln68 gk_ml68 rfl rfl rfl) gk_rk68 (gd_hnd_n gk_nc69) gk_nc68 gk_n11_68 gk_cl68) ?_
    refine Eq.trans (if_pos h1) ?_
    refine gd_bnd (gd_kV_c fun m4 => ?_)
    refine Eq.trans (D_aload_n (x := r0) gk_f69_20 rfl) ?_
    refine Eq.trans (D_ivV (cl := 9) (args := [.ref r0]) (rest := []) gk_f69_21 rfl rfl (gd_rmk gk_rm69_67 gk_ln67 gk_ml67 rfl rfl rfl) gk_rk67 (gd_hnd_n gk_nc69) gk_nc67 gk_n11_67 gk_cl67) ?_
    refine gd_ite (fun h6 => ?_) (fun _ => rfl)
    refine gd_bnd (gd_kV_c fun m7 => ?_)
    refine Eq.trans (D_vreturn gk_f69_24 gk_rk69) ?_
    rfl
  · refine Eq.trans (D_iconst (x := 1) gk_f69_11 gk_c_1) ?_
    refine Eq.trans (D_goto (t := 16) gk_f69_12 (by decide)) ?_
    refine Eq.trans (D_iconst (x := 4) gk_f69_16 gk_c_4) ?_
    refine Eq.trans (D_ivV (cl := 9) (args := [.ref r0, .int 1, .int 4]) (rest := []) gk_f69_17 rfl rfl (gd_rmk gk_rm69_68 gk_ln68 gk_ml68 rfl rfl rfl) gk_rk68 (gd_hnd_n gk_nc69) gk_nc68 gk_n11_68 gk_cl68) ?_
    refine Eq.trans (if_pos h1) ?_
    refine gd_bnd (gd_kV_c fun m9 => ?_)
    refine Eq.trans (D_aload_n (x := r0) gk_f69_20 rfl) ?_
    refine Eq.trans (D_ivV (cl := 9) (args := [.ref r0]) (rest := []) gk_f69_21 rfl rfl (gd_rmk gk_rm69_67 gk_ln67 gk_ml67 rfl rfl rfl) gk_rk67 (gd_hnd_n gk_nc69) gk_nc67 gk_n11_67 gk_cl67) ?_
    refine gd_ite (fun h11 => ?_) (fun _ => rfl)
    refine gd_bnd (gd_kV_c fun m12 => ?_)
    refine Eq.trans (D_vreturn gk_f69_24 gk_rk69) ?_
    rfl
/-! GymDeskModel.partOf (JJ)I -/
set_option maxRecDepth 20000 in
theorem gk_f70_0 : gd_fetch 70 0 = some (0, .iconst 0, 1, 0, 0, 0, 0, 0) := rfl
set_option maxRecDepth 20000 in
theorem gk_f70_1 : gd_fetch 70 1 = some (1, .istore 5, 2, 0, 0, 0, 0, 0) := rfl
set_option maxRecDepth 20000 in
theorem gk_f70_3 : gd_fetch 70 3 = some (3, .iload 5, 2, 0, 0, 0, 0, 0) := rfl
set_option maxRecDepth 20000 in
theorem gk_f70_5 : gd_fetch 70 5 = some (5, .aload_n 0, 1, 0, 0, 0, 0, 0) := rfl
set_option maxRecDepth 20000 in
theorem gk_f70_6 : gd_fetch 70 6 = some (6, .getfield 23, 3, 1165, 9, 2, 4, 0) := rfl
set_option maxRecDepth 20000 in
theorem gk_f70_9 : gd_fetch 70 9 = some (9, .getfield 196, 3, 1031, 7, 0, 0, 0) := rfl
set_option maxRecDepth 20000 in
theorem gk_f70_12 : gd_fetch 70 12 = some (12, .if_icmp .ge 42, 3, 0, 0, 0, 0, 0) := rfl
set_option maxRecDepth 20000 in
theorem gk_f70_15 : gd_fetch 70 15 = some (15, .aload_n 0, 1, 0, 0, 0, 0, 0) := rfl
set_option maxRecDepth 20000 in
theorem gk_f70_16 : gd_fetch 70 16 = some (16, .getfield 23, 3, 1165, 9, 2, 4, 0) := rfl
set_option maxRecDepth 20000 in
theorem gk_f70_19 : gd_fetch 70 19 = some (19, .getfield 199, 3, 1037, 7, 3, 4, 1) := rfl
set_option maxRecDepth 20000 in
theorem gk_f70_22 : gd_fetch 70 22 = some (22, .iload 5, 2, 0, 0, 0, 0, 0) := rfl
set_option maxRecDepth 20000 in
theorem gk_f70_24 : gd_fetch 70 24 = some (24, .laload, 1, 0, 0, 0, 0, 0) := rfl
set_option maxRecDepth 20000 in
theorem gk_f70_25 : gd_fetch 70 25 = some (25, .lload_n 1, 1, 0, 0, 0, 0, 0) := rfl
set_option maxRecDepth 20000 in
theorem gk_f70_26 : gd_fetch 70 26 = some (26, .lcmp, 1, 0, 0, 0, 0, 0) := rfl
set_option maxRecDepth 20000 in
theorem gk_f70_27 : gd_fetch 70 27 = some (27, .ifCond .ne 21, 3, 0, 0, 0, 0, 0) := rfl
set_option maxRecDepth 20000 in
theorem gk_f70_30 : gd_fetch 70 30 = some (30, .aload_n 0, 1, 0, 0, 0, 0, 0) := rfl
set_option maxRecDepth 20000 in
theorem gk_f70_31 : gd_fetch 70 31 = some (31, .getfield 23, 3, 1165, 9, 2, 4, 0) := rfl
set_option maxRecDepth 20000 in
theorem gk_f70_34 : gd_fetch 70 34 = some (34, .getfield 203, 3, 1039, 7, 4, 4, 1) := rfl
set_option maxRecDepth 20000 in
theorem gk_f70_37 : gd_fetch 70 37 = some (37, .iload 5, 2, 0, 0, 0, 0, 0) := rfl
set_option maxRecDepth 20000 in
theorem gk_f70_39 : gd_fetch 70 39 = some (39, .laload, 1, 0, 0, 0, 0, 0) := rfl
set_option maxRecDepth 20000 in
theorem gk_f70_40 : gd_fetch 70 40 = some (40, .lload_n 3, 1, 0, 0, 0, 0, 0) := rfl
set_option maxRecDepth 20000 in
theorem gk_f70_41 : gd_fetch 70 41 = some (41, .lcmp, 1, 0, 0, 0, 0, 0) := rfl
set_option maxRecDepth 20000 in
theorem gk_f70_42 : gd_fetch 70 42 = some (42, .ifCond .ne 6, 3, 0, 0, 0, 0, 0) := rfl
set_option maxRecDepth 20000 in
theorem gk_f70_45 : gd_fetch 70 45 = some (45, .iload 5, 2, 0, 0, 0, 0, 0) := rfl
set_option maxRecDepth 20000 in
theorem gk_f70_47 : gd_fetch 70 47 = some (47, .ireturn, 1, 0, 0, 0, 0, 0) := rfl
set_option maxRecDepth 20000 in
theorem gk_f70_48 : gd_fetch 70 48 = some (48, .iinc 5 1, 3, 0, 0, 0, 0, 0) := rfl
set_option maxRecDepth 20000 in
theorem gk_f70_51 : gd_fetch 70 51 = some (51, .goto (-48), 3, 0, 0, 0, 0, 0) := rfl
set_option maxRecDepth 20000 in
theorem gk_f70_54 : gd_fetch 70 54 = some (54, .iconst (-1), 1, 0, 0, 0, 0, 0) := rfl
set_option maxRecDepth 20000 in
theorem gk_f70_55 : gd_fetch 70 55 = some (55, .ireturn, 1, 0, 0, 0, 0, 0) := rfl
set_option maxRecDepth 20000 in
set_option maxHeartbeats 4000000 in
theorem q_Mo_partOf (r0 : Nat) (y1 : Int64) (y3 : Int64) (m : gd_M) : gd_call 70 [.ref r0, .long y1, .long y3] m = gd_Den (70, 3, [.ref r0, .long y1, .null, .long y3, .null, .int 0], [], m) := by
  refine Eq.trans (show gd_call 70 [.ref r0, .long y1, .long y3] m = gd_Den (70, 0, [.ref r0, .long y1, .null, .long y3, .null, .null], [], m) from by unfold gd_call gd_ent; rw [gk_ml70]; rfl) ?_
  refine Eq.trans (D_iconst (x := 0) gk_f70_0 gk_c_0) ?_
  refine Eq.trans (D_istore gk_f70_1 gk_st70_5) ?_
  rfl
set_option maxRecDepth 20000 in
set_option maxHeartbeats 4000000 in
theorem q_Mo_partOf_3 (r0 : Nat) (y1 : Int64) (y3 : Int64) (x5 : Int32) (m : gd_M) : gd_Den (70, 3, [.ref r0, .long y1, .null, .long y3, .null, .int x5], [], m) = if gd_ok (gN m) r0 9 = true then (if gd_ok (gN m) (gR m r0 2) 7 = true then (if (x5 < (gI m (gR m r0 2) 0) : Prop) then (if gd_okA (gN m) (gR m (gR m r0 2) 3) 13 x5 = true then (if ((lg_cmp (gJ m (gR m (gR m r0 2) 3) (x5 : Int32).toNatClampNeg) y1) = 0 : Prop) then (if gd_okA (gN m) (gR m (gR m r0 2) 4) 13 x5 = true then (if ((lg_cmp (gJ m (gR m (gR m r0 2) 4) (x5 : Int32).toNatClampNeg) y3) = 0 : Prop) then (some (.int x5, m)) else (gd_Den (70, 3, [.ref r0, .long y1, .null, .long y3, .null, .int (x5 + 1)], [], m))) else none) else (gd_Den (70, 3, [.ref r0, .long y1, .null, .long y3, .null, .int (x5 + 1)], [], m))) else none) else (some (.int (-1), m))) else none) else none := by
  refine Eq.trans (D_iload (x := x5) gk_f70_3 rfl) ?_
  refine Eq.trans (D_aload_n (x := r0) gk_f70_5 rfl) ?_
  refine Eq.trans (D_gfR gk_f70_6 (by decide)) ?_
  refine gd_ite (fun h1 => ?_) (fun _ => rfl)
  refine Eq.trans (D_gfI gk_f70_9 (by decide) (by decide) (by decide)) ?_
  refine gd_ite (fun h2 => ?_) (fun _ => rfl)
  refine Eq.trans (D_ic_ge (t := 54) gk_f70_12 (by decide)) ?_
  refine gd_ite (fun h3 => ?_) (fun h4 => ?_)
  · refine Eq.trans (D_aload_n (x := r0) gk_f70_15 rfl) ?_
    refine Eq.trans (D_gfR gk_f70_16 (by decide)) ?_
    refine Eq.trans (if_pos h1) ?_
    refine Eq.trans (D_gfR gk_f70_19 (by decide)) ?_
    refine Eq.trans (if_pos h2) ?_
    refine Eq.trans (D_iload (x := x5) gk_f70_22 rfl) ?_
    refine Eq.trans (D_lald gk_f70_24) ?_
    refine gd_ite (fun h5 => ?_) (fun _ => rfl)
    refine Eq.trans (D_lload_n (x := y1) gk_f70_25 rfl) ?_
    refine Eq.trans (D_lcmp gk_f70_26) ?_
    refine Eq.trans (D_if_ne (t := 48) gk_f70_27 (by decide)) ?_
    refine gd_ite (fun h6 => ?_) (fun h7 => ?_)
    · refine Eq.trans (D_aload_n (x := r0) gk_f70_30 rfl) ?_
      refine Eq.trans (D_gfR gk_f70_31 (by decide)) ?_
      refine Eq.trans (if_pos h1) ?_
      refine Eq.trans (D_gfR gk_f70_34 (by decide)) ?_
      refine Eq.trans (if_pos h2) ?_
      refine Eq.trans (D_iload (x := x5) gk_f70_37 rfl) ?_
      refine Eq.trans (D_lald gk_f70_39) ?_
      refine gd_ite (fun h8 => ?_) (fun _ => rfl)
      refine Eq.trans (D_lload_n (x := y3) gk_f70_40 rfl) ?_
      refine Eq.trans (D_lcmp gk_f70_41) ?_
      refine Eq.trans (D_if_ne (t := 48) gk_f70_42 (by decide)) ?_
      refine gd_ite (fun h9 => ?_) (fun h10 => ?_)
      · refine Eq.trans (D_iload (x := x5) gk_f70_45 rfl) ?_
        refine Eq.trans (D_ireturn gk_f70_47 gk_rk70) ?_
        rfl
      · refine Eq.trans (D_iinc (x := x5) (y := 1) gk_f70_48 rfl gk_c_1 gk_st70_5) ?_
        refine Eq.trans (D_goto (t := 3) gk_f70_51 (by decide)) ?_
        rfl
    · refine Eq.trans (D_iinc (x := x5) (y := 1) gk_f70_48 rfl gk_c_1 gk_st70_5) ?_
      refine Eq.trans (D_goto (t := 3) gk_f70_51 (by decide)) ?_
      rfl
  · refine Eq.trans (D_iconst (x := (-1)) gk_f70_54 gk_c_m1) ?_
    refine Eq.trans (D_ireturn gk_f70_55 gk_rk70) ?_
    rfl
/-! GymDeskModel.in (III)Z -/
set_option maxRecDepth 20000 in
theorem gk_f71_0 : gd_fetch 71 0 = some (0, .iload_n 0, 1, 0, 0, 0, 0, 0) := rfl
set_option maxRecDepth 20000 in
theorem gk_f71_1 : gd_fetch 71 1 = some (1, .iload_n 1, 1, 0, 0, 0, 0, 0) := rfl
set_option maxRecDepth 20000 in
theorem gk_f71_2 : gd_fetch 71 2 = some (2, .if_icmp .lt 12, 3, 0, 0, 0, 0, 0) := rfl
set_option maxRecDepth 20000 in
theorem gk_f71_5 : gd_fetch 71 5 = some (5, .iload_n 0, 1, 0, 0, 0, 0, 0) := rfl
set_option maxRecDepth 20000 in
theorem gk_f71_6 : gd_fetch 71 6 = some (6, .iload_n 2, 1, 0, 0, 0, 0, 0) := rfl
set_option maxRecDepth 20000 in
theorem gk_f71_7 : gd_fetch 71 7 = some (7, .if_icmp .gt 7, 3, 0, 0, 0, 0, 0) := rfl
set_option maxRecDepth 20000 in
theorem gk_f71_10 : gd_fetch 71 10 = some (10, .iconst 1, 1, 0, 0, 0, 0, 0) := rfl
set_option maxRecDepth 20000 in
theorem gk_f71_11 : gd_fetch 71 11 = some (11, .goto 4, 3, 0, 0, 0, 0, 0) := rfl
set_option maxRecDepth 20000 in
theorem gk_f71_14 : gd_fetch 71 14 = some (14, .iconst 0, 1, 0, 0, 0, 0, 0) := rfl
set_option maxRecDepth 20000 in
theorem gk_f71_15 : gd_fetch 71 15 = some (15, .ireturn, 1, 0, 0, 0, 0, 0) := rfl
set_option maxRecDepth 20000 in
set_option maxHeartbeats 4000000 in
theorem q_Mo_in (x0 : Int32) (x1 : Int32) (x2 : Int32) (m : gd_M) : gd_call 71 [.int x0, .int x1, .int x2] m = if (x0 < x1 : Prop) then (some (.int 0, m)) else (if (x2 < x0 : Prop) then (some (.int 0, m)) else (some (.int 1, m))) := by
  refine Eq.trans (show gd_call 71 [.int x0, .int x1, .int x2] m = gd_Den (71, 0, [.int x0, .int x1, .int x2], [], m) from by unfold gd_call gd_ent; rw [gk_ml71]; rfl) ?_
  refine Eq.trans (D_iload_n (x := x0) gk_f71_0 rfl) ?_
  refine Eq.trans (D_iload_n (x := x1) gk_f71_1 rfl) ?_
  refine Eq.trans (D_ic_lt (t := 14) gk_f71_2 (by decide)) ?_
  refine gd_ite (fun h1 => ?_) (fun h2 => ?_)
  · refine Eq.trans (D_iconst (x := 0) gk_f71_14 gk_c_0) ?_
    refine Eq.trans (D_zreturn gk_f71_15 gk_rk71) ?_
    exact if_pos rfl
  · refine Eq.trans (D_iload_n (x := x0) gk_f71_5 rfl) ?_
    refine Eq.trans (D_iload_n (x := x2) gk_f71_6 rfl) ?_
    refine Eq.trans (D_ic_gt (t := 14) gk_f71_7 (by decide)) ?_
    refine gd_ite (fun h3 => ?_) (fun h4 => ?_)
    · refine Eq.trans (D_iconst (x := 0) gk_f71_14 gk_c_0) ?_
      refine Eq.trans (D_zreturn gk_f71_15 gk_rk71) ?_
      exact if_pos rfl
    · refine Eq.trans (D_iconst (x := 1) gk_f71_10 gk_c_1) ?_
      refine Eq.trans (D_goto (t := 15) gk_f71_11 (by decide)) ?_
      refine Eq.trans (D_zreturn gk_f71_15 gk_rk71) ?_
      exact if_pos rfl
/-! GymDeskModel.number (II)I -/
set_option maxRecDepth 20000 in
theorem gk_f72_0 : gd_fetch 72 0 = some (0, .aload_n 0, 1, 0, 0, 0, 0, 0) := rfl
set_option maxRecDepth 20000 in
theorem gk_f72_1 : gd_fetch 72 1 = some (1, .aload_n 0, 1, 0, 0, 0, 0, 0) := rfl
set_option maxRecDepth 20000 in
theorem gk_f72_2 : gd_fetch 72 2 = some (2, .getfield 145, 3, 1169, 9, 6, 0, 0) := rfl
set_option maxRecDepth 20000 in
theorem gk_f72_5 : gd_fetch 72 5 = some (5, .iconst 3, 1, 0, 0, 0, 0, 0) := rfl
set_option maxRecDepth 20000 in
theorem gk_f72_6 : gd_fetch 72 6 = some (6, .if_icmp .ne 7, 3, 0, 0, 0, 0, 0) := rfl
set_option maxRecDepth 20000 in
theorem gk_f72_9 : gd_fetch 72 9 = some (9, .iconst 1, 1, 0, 0, 0, 0, 0) := rfl
set_option maxRecDepth 20000 in
theorem gk_f72_10 : gd_fetch 72 10 = some (10, .goto 4, 3, 0, 0, 0, 0, 0) := rfl
set_option maxRecDepth 20000 in
theorem gk_f72_13 : gd_fetch 72 13 = some (13, .iconst 0, 1, 0, 0, 0, 0, 0) := rfl
set_option maxRecDepth 20000 in
theorem gk_f72_14 : gd_fetch 72 14 = some (14, .iconst 1, 1, 0, 0, 0, 0, 0) := rfl
set_option maxRecDepth 20000 in
theorem gk_f72_15 : gd_fetch 72 15 = some (15, .invokevirtual 179, 3, 1340, 68, 2, 0, 0) := rfl
set_option maxRecDepth 20000 in
theorem gk_f72_18 : gd_fetch 72 18 = some (18, .aload_n 0, 1, 0, 0, 0, 0, 0) := rfl
set_option maxRecDepth 20000 in
theorem gk_f72_19 : gd_fetch 72 19 = some (19, .aload_n 0, 1, 0, 0, 0, 0, 0) := rfl
set_option maxRecDepth 20000 in
theorem gk_f72_20 : gd_fetch 72 20 = some (20, .getfield 176, 3, 1173, 9, 10, 0, 0) := rfl
set_option maxRecDepth 20000 in
theorem gk_f72_23 : gd_fetch 72 23 = some (23, .iload_n 1, 1, 0, 0, 0, 0, 0) := rfl
set_option maxRecDepth 20000 in
theorem gk_f72_24 : gd_fetch 72 24 = some (24, .iload_n 2, 1, 0, 0, 0, 0, 0) := rfl
set_option maxRecDepth 20000 in
theorem gk_f72_25 : gd_fetch 72 25 = some (25, .invokestatic 192, 3, 1360, 71, 3, 0, 0) := rfl
set_option maxRecDepth 20000 in
theorem gk_f72_28 : gd_fetch 72 28 = some (28, .iconst 3, 1, 0, 0, 0, 0, 0) := rfl
set_option maxRecDepth 20000 in
theorem gk_f72_29 : gd_fetch 72 29 = some (29, .invokevirtual 179, 3, 1340, 68, 2, 0, 0) := rfl
set_option maxRecDepth 20000 in
theorem gk_f72_32 : gd_fetch 72 32 = some (32, .aload_n 0, 1, 0, 0, 0, 0, 0) := rfl
set_option maxRecDepth 20000 in
theorem gk_f72_33 : gd_fetch 72 33 = some (33, .getfield 176, 3, 1173, 9, 10, 0, 0) := rfl
set_option maxRecDepth 20000 in
theorem gk_f72_36 : gd_fetch 72 36 = some (36, .istore_n 3, 1, 0, 0, 0, 0, 0) := rfl
set_option maxRecDepth 20000 in
theorem gk_f72_37 : gd_fetch 72 37 = some (37, .aload_n 0, 1, 0, 0, 0, 0, 0) := rfl
set_option maxRecDepth 20000 in
theorem gk_f72_38 : gd_fetch 72 38 = some (38, .invokevirtual 189, 3, 1348, 69, 0, 0, 0) := rfl
set_option maxRecDepth 20000 in
theorem gk_f72_41 : gd_fetch 72 41 = some (41, .iload_n 3, 1, 0, 0, 0, 0, 0) := rfl
set_option maxRecDepth 20000 in
theorem gk_f72_42 : gd_fetch 72 42 = some (42, .ireturn, 1, 0, 0, 0, 0, 0) := rfl
set_option maxRecDepth 20000 in
set_option maxHeartbeats 4000000 in
theorem q_Mo_number (r0 : Nat) (x1 : Int32) (x2 : Int32) (m : gd_M) : gd_call 72 [.ref r0, .int x1, .int x2] m = if gd_ok (gN m) r0 9 = true then (if ((gI m r0 6) = 3 : Prop) then ((gd_call 68 [.ref r0, .int 1, .int 1] m).bind (gd_kV fun m4 => if gd_ok (gN m4) r0 9 = true then ((gd_call 71 [.int (gI m4 r0 10), .int x1, .int x2] m4).bind (gd_k0I fun z9 m7 => if gd_ok (gN m7) r0 9 = true then ((gd_call 68 [.ref r0, .int z9, .int 3] m7).bind (gd_kV fun m11 => if gd_ok (gN m11) r0 9 = true then ((gd_call 69 [.ref r0] m11).bind (gd_kV fun m14 => some (.int (gI m11 r0 10), m14))) else none)) else none)) else none)) else ((gd_call 68 [.ref r0, .int 0, .int 1] m).bind (gd_kV fun m16 => if gd_ok (gN m16) r0 9 = true then ((gd_call 71 [.int (gI m16 r0 10), .int x1, .int x2] m16).bind (gd_k0I fun z21 m19 => if gd_ok (gN m19) r0 9 = true then ((gd_call 68 [.ref r0, .int z21, .int 3] m19).bind (gd_kV fun m23 => if gd_ok (gN m23) r0 9 = true then ((gd_call 69 [.ref r0] m23).bind (gd_kV fun m26 => some (.int (gI m23 r0 10), m26))) else none)) else none)) else none))) else none := by
  refine Eq.trans (show gd_call 72 [.ref r0, .int x1, .int x2] m = gd_Den (72, 0, [.ref r0, .int x1, .int x2, .null], [], m) from by unfold gd_call gd_ent; rw [gk_ml72]; rfl) ?_
  refine Eq.trans (D_aload_n (x := r0) gk_f72_0 rfl) ?_
  refine Eq.trans (D_aload_n (x := r0) gk_f72_1 rfl) ?_
  refine Eq.trans (D_gfI gk_f72_2 (by decide) (by decide) (by decide)) ?_
  refine gd_ite (fun h1 => ?_) (fun _ => rfl)
  refine Eq.trans (D_iconst (x := 3) gk_f72_5 gk_c_3) ?_
  refine Eq.trans (D_ic_ne (t := 13) gk_f72_6 (by decide)) ?_
  refine gd_ite (fun h2 => ?_) (fun h3 => ?_)
  · refine Eq.trans (D_iconst (x := 1) gk_f72_9 gk_c_1) ?_
    refine Eq.trans (D_goto (t := 14) gk_f72_10 (by decide)) ?_
    refine Eq.trans (D_iconst (x := 1) gk_f72_14 gk_c_1) ?_
    refine Eq.trans (D_ivV (cl := 9) (args := [.ref r0, .int 1, .int 1]) (rest := []) gk_f72_15 rfl rfl (gd_rmk gk_rm72_68 gk_ln68 gk_ml68 rfl rfl rfl) gk_rk68 (gd_hnd_n gk_nc72) gk_nc68 gk_n11_68 gk_cl68) ?_
    refine Eq.trans (if_pos h1) ?_
    refine gd_bnd (gd_kV_c fun m4 => ?_)
    refine Eq.trans (D_aload_n (x := r0) gk_f72_18 rfl) ?_
    refine Eq.trans (D_aload_n (x := r0) gk_f72_19 rfl) ?_
    refine Eq.trans (D_gfI gk_f72_20 (by decide) (by decide) (by decide)) ?_
    refine gd_ite (fun h6 => ?_) (fun _ => rfl)
    refine Eq.trans (D_iload_n (x := x1) gk_f72_23 rfl) ?_
    refine Eq.trans (D_iload_n (x := x2) gk_f72_24 rfl) ?_
    refine Eq.trans (D_isZ (args := [.int (gI m4 r0 10), .int x1, .int x2]) (rest := [.ref r0]) gk_f72_25 rfl rfl rfl (gd_rmk gk_rm72_71 gk_ln71 gk_ml71 rfl rfl rfl) gk_rk71 (gd_hnd_n gk_nc72)) ?_
    refine gd_bnd (gd_k0I_c fun z9 m7 => ?_)
    refine Eq.trans (D_iconst (x := 3) gk_f72_28 gk_c_3) ?_
    refine Eq.trans (D_ivV (cl := 9) (args := [.ref r0, .int z9, .int 3]) (rest := []) gk_f72_29 rfl rfl (gd_rmk gk_rm72_68 gk_ln68 gk_ml68 rfl rfl rfl) gk_rk68 (gd_hnd_n gk_nc72) gk_nc68 gk_n11_68 gk_cl68) ?_
    refine gd_ite (fun h10 => ?_) (fun _ => rfl)
    refine gd_bnd (gd_kV_c fun m11 => ?_)
    refine Eq.trans (D_aload_n (x := r0) gk_f72_32 rfl) ?_
    refine Eq.trans (D_gfI gk_f72_33 (by decide) (by decide) (by decide)) ?_
    refine gd_ite (fun h13 => ?_) (fun _ => rfl)
    refine Eq.trans (D_istore_n gk_f72_36 gk_st72_3) ?_
    refine Eq.trans (D_aload_n (x := r0) gk_f72_37 rfl) ?_
    refine Eq.trans (D_ivV (cl := 9) (args := [.ref r0]) (rest := []) gk_f72_38 rfl rfl (gd_rmk gk_rm72_69 gk_ln69 gk_ml69 rfl rfl rfl) gk_rk69 (gd_hnd_n gk_nc72) gk_nc69 gk_n11_69 gk_cl69) ?_
    refine Eq.trans (if_pos h13) ?_
    refine gd_bnd (gd_kV_c fun m14 => ?_)
    refine Eq.trans (D_iload_n (x := (gI m11 r0 10)) gk_f72_41 rfl) ?_
    refine Eq.trans (D_ireturn gk_f72_42 gk_rk72) ?_
    rfl
  · refine Eq.trans (D_iconst (x := 0) gk_f72_13 gk_c_0) ?_
    refine Eq.trans (D_iconst (x := 1) gk_f72_14 gk_c_1) ?_
    refine Eq.trans (D_ivV (cl := 9) (args := [.ref r0, .int 0, .int 1]) (rest := []) gk_f72_15 rfl rfl (gd_rmk gk_rm72_68 gk_ln68 gk_ml68 rfl rfl rfl) gk_rk68 (gd_hnd_n gk_nc72) gk_nc68 gk_n11_68 gk_cl68) ?_
    refine Eq.trans (if_pos h1) ?_
    refine gd_bnd (gd_kV_c fun m16 => ?_)
    refine Eq.trans (D_aload_n (x := r0) gk_f72_18 rfl) ?_
    refine Eq.trans (D_aload_n (x := r0) gk_f72_19 rfl) ?_
    refine Eq.trans (D_gfI gk_f72_20 (by decide) (by decide) (by decide)) ?_
    refine gd_ite (fun h18 => ?_) (fun _ => rfl)
    refine Eq.trans (D_iload_n (x := x1) gk_f72_23 rfl) ?_
    refine Eq.trans (D_iload_n (x := x2) gk_f72_24 rfl) ?_
    refine Eq.trans (D_isZ (args := [.int (gI m16 r0 10), .int x1, .int x2]) (rest := [.ref r0]) gk_f72_25 rfl rfl rfl (gd_rmk gk_rm72_71 gk_ln71 gk_ml71 rfl rfl rfl) gk_rk71 (gd_hnd_n gk_nc72)) ?_
    refine gd_bnd (gd_k0I_c fun z21 m19 => ?_)
    refine Eq.trans (D_iconst (x := 3) gk_f72_28 gk_c_3) ?_
    refine Eq.trans (D_ivV (cl := 9) (args := [.ref r0, .int z21, .int 3]) (rest := []) gk_f72_29 rfl rfl (gd_rmk gk_rm72_68 gk_ln68 gk_ml68 rfl rfl rfl) gk_rk68 (gd_hnd_n gk_nc72) gk_nc68 gk_n11_68 gk_cl68) ?_
    refine gd_ite (fun h22 => ?_) (fun _ => rfl)
    refine gd_bnd (gd_kV_c fun m23 => ?_)
    refine Eq.trans (D_aload_n (x := r0) gk_f72_32 rfl) ?_
    refine Eq.trans (D_gfI gk_f72_33 (by decide) (by decide) (by decide)) ?_
    refine gd_ite (fun h25 => ?_) (fun _ => rfl)
    refine Eq.trans (D_istore_n gk_f72_36 gk_st72_3) ?_
    refine Eq.trans (D_aload_n (x := r0) gk_f72_37 rfl) ?_
    refine Eq.trans (D_ivV (cl := 9) (args := [.ref r0]) (rest := []) gk_f72_38 rfl rfl (gd_rmk gk_rm72_69 gk_ln69 gk_ml69 rfl rfl rfl) gk_rk69 (gd_hnd_n gk_nc72) gk_nc69 gk_n11_69 gk_cl69) ?_
    refine Eq.trans (if_pos h25) ?_
    refine gd_bnd (gd_kV_c fun m26 => ?_)
    refine Eq.trans (D_iload_n (x := (gI m23 r0 10)) gk_f72_41 rfl) ?_
    refine Eq.trans (D_ireturn gk_f72_42 gk_rk72) ?_
    rfl
/-! GymDeskModel.isWord (I)Z -/
set_option maxRecDepth 20000 in
theorem gk_f73_0 : gd_fetch 73 0 = some (0, .aload_n 0, 1, 0, 0, 0, 0, 0) := rfl
set_option maxRecDepth 20000 in
theorem gk_f73_1 : gd_fetch 73 1 = some (1, .getfield 145, 3, 1169, 9, 6, 0, 0) := rfl
set_option maxRecDepth 20000 in
theorem gk_f73_4 : gd_fetch 73 4 = some (4, .iconst 2, 1, 0, 0, 0, 0, 0) := rfl
set_option maxRecDepth 20000 in
theorem gk_f73_5 : gd_fetch 73 5 = some (5, .if_icmp .ne 15, 3, 0, 0, 0, 0, 0) := rfl
set_option maxRecDepth 20000 in
theorem gk_f73_8 : gd_fetch 73 8 = some (8, .aload_n 0, 1, 0, 0, 0, 0, 0) := rfl
set_option maxRecDepth 20000 in
theorem gk_f73_9 : gd_fetch 73 9 = some (9, .getfield 159, 3, 1170, 9, 7, 0, 0) := rfl
set_option maxRecDepth 20000 in
theorem gk_f73_12 : gd_fetch 73 12 = some (12, .iload_n 1, 1, 0, 0, 0, 0, 0) := rfl
set_option maxRecDepth 20000 in
theorem gk_f73_13 : gd_fetch 73 13 = some (13, .if_icmp .ne 7, 3, 0, 0, 0, 0, 0) := rfl
set_option maxRecDepth 20000 in
theorem gk_f73_16 : gd_fetch 73 16 = some (16, .iconst 1, 1, 0, 0, 0, 0, 0) := rfl
set_option maxRecDepth 20000 in
theorem gk_f73_17 : gd_fetch 73 17 = some (17, .goto 4, 3, 0, 0, 0, 0, 0) := rfl
set_option maxRecDepth 20000 in
theorem gk_f73_20 : gd_fetch 73 20 = some (20, .iconst 0, 1, 0, 0, 0, 0, 0) := rfl
set_option maxRecDepth 20000 in
theorem gk_f73_21 : gd_fetch 73 21 = some (21, .ireturn, 1, 0, 0, 0, 0, 0) := rfl
set_option maxRecDepth 20000 in
set_option maxHeartbeats 4000000 in
theorem q_Mo_isWord (r0 : Nat) (x1 : Int32) (m : gd_M) : gd_call 73 [.ref r0, .int x1] m = if gd_ok (gN m) r0 9 = true then (if ((gI m r0 6) = 2 : Prop) then (if ((gI m r0 7) = x1 : Prop) then (some (.int 1, m)) else (some (.int 0, m))) else (some (.int 0, m))) else none := by
  refine Eq.trans (show gd_call 73 [.ref r0, .int x1] m = gd_Den (73, 0, [.ref r0, .int x1], [], m) from by unfold gd_call gd_ent; rw [gk_ml73]; rfl) ?_
  refine Eq.trans (D_aload_n (x := r0) gk_f73_0 rfl) ?_
  refine Eq.trans (D_gfI gk_f73_1 (by decide) (by decide) (by decide)) ?_
  refine gd_ite (fun h1 => ?_) (fun _ => rfl)
  refine Eq.trans (D_iconst (x := 2) gk_f73_4 gk_c_2) ?_
  refine Eq.trans (D_ic_ne (t := 20) gk_f73_5 (by decide)) ?_
  refine gd_ite (fun h2 => ?_) (fun h3 => ?_)
  · refine Eq.trans (D_aload_n (x := r0) gk_f73_8 rfl) ?_
    refine Eq.trans (D_gfI gk_f73_9 (by decide) (by decide) (by decide)) ?_
    refine Eq.trans (if_pos h1) ?_
    refine Eq.trans (D_iload_n (x := x1) gk_f73_12 rfl) ?_
    refine Eq.trans (D_ic_ne (t := 20) gk_f73_13 (by decide)) ?_
    refine gd_ite (fun h4 => ?_) (fun h5 => ?_)
    · refine Eq.trans (D_iconst (x := 1) gk_f73_16 gk_c_1) ?_
      refine Eq.trans (D_goto (t := 21) gk_f73_17 (by decide)) ?_
      refine Eq.trans (D_zreturn gk_f73_21 gk_rk73) ?_
      exact if_pos rfl
    · refine Eq.trans (D_iconst (x := 0) gk_f73_20 gk_c_0) ?_
      refine Eq.trans (D_zreturn gk_f73_21 gk_rk73) ?_
      exact if_pos rfl
  · refine Eq.trans (D_iconst (x := 0) gk_f73_20 gk_c_0) ?_
    refine Eq.trans (D_zreturn gk_f73_21 gk_rk73) ?_
    exact if_pos rfl
/-! GymDeskModel.word (I)V -/
set_option maxRecDepth 20000 in
theorem gk_f74_0 : gd_fetch 74 0 = some (0, .aload_n 0, 1, 0, 0, 0, 0, 0) := rfl
set_option maxRecDepth 20000 in
theorem gk_f74_1 : gd_fetch 74 1 = some (1, .aload_n 0, 1, 0, 0, 0, 0, 0) := rfl
set_option maxRecDepth 20000 in
theorem gk_f74_2 : gd_fetch 74 2 = some (2, .iload_n 1, 1, 0, 0, 0, 0, 0) := rfl
set_option maxRecDepth 20000 in
theorem gk_f74_3 : gd_fetch 74 3 = some (3, .invokevirtual 186, 3, 1367, 73, 1, 0, 0) := rfl
set_option maxRecDepth 20000 in
theorem gk_f74_6 : gd_fetch 74 6 = some (6, .iconst 1, 1, 0, 0, 0, 0, 0) := rfl
set_option maxRecDepth 20000 in
theorem gk_f74_7 : gd_fetch 74 7 = some (7, .invokevirtual 179, 3, 1340, 68, 2, 0, 0) := rfl
set_option maxRecDepth 20000 in
theorem gk_f74_10 : gd_fetch 74 10 = some (10, .aload_n 0, 1, 0, 0, 0, 0, 0) := rfl
set_option maxRecDepth 20000 in
theorem gk_f74_11 : gd_fetch 74 11 = some (11, .invokevirtual 189, 3, 1348, 69, 0, 0, 0) := rfl
set_option maxRecDepth 20000 in
theorem gk_f74_14 : gd_fetch 74 14 = some (14, .return_, 1, 0, 0, 0, 0, 0) := rfl
set_option maxRecDepth 20000 in
set_option maxHeartbeats 4000000 in
theorem q_Mo_word (r0 : Nat) (x1 : Int32) (m : gd_M) : gd_call 74 [.ref r0, .int x1] m = if gd_ok (gN m) r0 9 = true then ((gd_call 73 [.ref r0, .int x1] m).bind (gd_kI fun z4 m2 => if gd_ok (gN m2) r0 9 = true then ((gd_call 68 [.ref r0, .int z4, .int 1] m2).bind (gd_kV fun m6 => if gd_ok (gN m6) r0 9 = true then ((gd_call 69 [.ref r0] m6).bind (gd_kV fun m9 => some (.null, m9))) else none)) else none)) else none := by
  refine Eq.trans (show gd_call 74 [.ref r0, .int x1] m = gd_Den (74, 0, [.ref r0, .int x1], [], m) from by unfold gd_call gd_ent; rw [gk_ml74]; rfl) ?_
  refine Eq.trans (D_aload_n (x := r0) gk_f74_0 rfl) ?_
  refine Eq.trans (D_aload_n (x := r0) gk_f74_1 rfl) ?_
  refine Eq.trans (D_iload_n (x := x1) gk_f74_2 rfl) ?_
  refine Eq.trans (D_ivZ (cl := 9) (args := [.ref r0, .int x1]) (rest := [.ref r0]) gk_f74_3 rfl rfl (gd_rmk gk_rm74_73 gk_ln73 gk_ml73 rfl rfl rfl) gk_rk73 (gd_hnd_n gk_nc74) gk_nc73 gk_n11_73 gk_cl73) ?_
  refine gd_ite (fun h1 => ?_) (fun _ => rfl)
  refine gd_bnd (gd_kI_c fun z4 m2 => ?_)
  refine Eq.trans (D_iconst (x := 1) gk_f74_6 gk_c_1) ?_
  refine Eq.trans (D_ivV (cl := 9) (args := [.ref r0, .int z4, .int 1]) (rest := []) gk_f74_7 rfl rfl (gd_rmk gk_rm74_68 gk_ln68 gk_ml68 rfl rfl rfl) gk_rk68 (gd_hnd_n gk_nc74) gk_nc68 gk_n11_68 gk_cl68) ?_
  refine gd_ite (fun h5 => ?_) (fun _ => rfl)
  refine gd_bnd (gd_kV_c fun m6 => ?_)
  refine Eq.trans (D_aload_n (x := r0) gk_f74_10 rfl) ?_
  refine Eq.trans (D_ivV (cl := 9) (args := [.ref r0]) (rest := []) gk_f74_11 rfl rfl (gd_rmk gk_rm74_69 gk_ln69 gk_ml69 rfl rfl rfl) gk_rk69 (gd_hnd_n gk_nc74) gk_nc69 gk_n11_69 gk_cl69) ?_
  refine gd_ite (fun h8 => ?_) (fun _ => rfl)
  refine gd_bnd (gd_kV_c fun m9 => ?_)
  refine Eq.trans (D_vreturn gk_f74_14 gk_rk74) ?_
  rfl
/-! GymDeskModel.partHere ()I -/
set_option maxRecDepth 20000 in
theorem gk_f75_0 : gd_fetch 75 0 = some (0, .aload_n 0, 1, 0, 0, 0, 0, 0) := rfl
set_option maxRecDepth 20000 in
theorem gk_f75_1 : gd_fetch 75 1 = some (1, .aload_n 0, 1, 0, 0, 0, 0, 0) := rfl
set_option maxRecDepth 20000 in
theorem gk_f75_2 : gd_fetch 75 2 = some (2, .getfield 145, 3, 1169, 9, 6, 0, 0) := rfl
set_option maxRecDepth 20000 in
theorem gk_f75_5 : gd_fetch 75 5 = some (5, .iconst 1, 1, 0, 0, 0, 0, 0) := rfl
set_option maxRecDepth 20000 in
theorem gk_f75_6 : gd_fetch 75 6 = some (6, .if_icmp .ne 7, 3, 0, 0, 0, 0, 0) := rfl
set_option maxRecDepth 20000 in
theorem gk_f75_9 : gd_fetch 75 9 = some (9, .iconst 1, 1, 0, 0, 0, 0, 0) := rfl
set_option maxRecDepth 20000 in
theorem gk_f75_10 : gd_fetch 75 10 = some (10, .goto 4, 3, 0, 0, 0, 0, 0) := rfl
set_option maxRecDepth 20000 in
theorem gk_f75_13 : gd_fetch 75 13 = some (13, .iconst 0, 1, 0, 0, 0, 0, 0) := rfl
set_option maxRecDepth 20000 in
theorem gk_f75_14 : gd_fetch 75 14 = some (14, .iconst 1, 1, 0, 0, 0, 0, 0) := rfl
set_option maxRecDepth 20000 in
theorem gk_f75_15 : gd_fetch 75 15 = some (15, .invokevirtual 179, 3, 1340, 68, 2, 0, 0) := rfl
set_option maxRecDepth 20000 in
theorem gk_f75_18 : gd_fetch 75 18 = some (18, .aload_n 0, 1, 0, 0, 0, 0, 0) := rfl
set_option maxRecDepth 20000 in
theorem gk_f75_19 : gd_fetch 75 19 = some (19, .aload_n 0, 1, 0, 0, 0, 0, 0) := rfl
set_option maxRecDepth 20000 in
theorem gk_f75_20 : gd_fetch 75 20 = some (20, .getfield 166, 3, 1175, 9, 12, 3, 0) := rfl
set_option maxRecDepth 20000 in
theorem gk_f75_23 : gd_fetch 75 23 = some (23, .aload_n 0, 1, 0, 0, 0, 0, 0) := rfl
set_option maxRecDepth 20000 in
theorem gk_f75_24 : gd_fetch 75 24 = some (24, .getfield 170, 3, 1176, 9, 13, 3, 0) := rfl
set_option maxRecDepth 20000 in
theorem gk_f75_27 : gd_fetch 75 27 = some (27, .invokevirtual 206, 3, 1352, 70, 2, 0, 0) := rfl
set_option maxRecDepth 20000 in
theorem gk_f75_30 : gd_fetch 75 30 = some (30, .istore_n 1, 1, 0, 0, 0, 0, 0) := rfl
set_option maxRecDepth 20000 in
theorem gk_f75_31 : gd_fetch 75 31 = some (31, .aload_n 0, 1, 0, 0, 0, 0, 0) := rfl
set_option maxRecDepth 20000 in
theorem gk_f75_32 : gd_fetch 75 32 = some (32, .iload_n 1, 1, 0, 0, 0, 0, 0) := rfl
set_option maxRecDepth 20000 in
theorem gk_f75_33 : gd_fetch 75 33 = some (33, .iconst (-1), 1, 0, 0, 0, 0, 0) := rfl
set_option maxRecDepth 20000 in
theorem gk_f75_34 : gd_fetch 75 34 = some (34, .if_icmp .eq 7, 3, 0, 0, 0, 0, 0) := rfl
set_option maxRecDepth 20000 in
theorem gk_f75_37 : gd_fetch 75 37 = some (37, .iconst 1, 1, 0, 0, 0, 0, 0) := rfl
set_option maxRecDepth 20000 in
theorem gk_f75_38 : gd_fetch 75 38 = some (38, .goto 4, 3, 0, 0, 0, 0, 0) := rfl
set_option maxRecDepth 20000 in
theorem gk_f75_41 : gd_fetch 75 41 = some (41, .iconst 0, 1, 0, 0, 0, 0, 0) := rfl
set_option maxRecDepth 20000 in
theorem gk_f75_42 : gd_fetch 75 42 = some (42, .iconst 2, 1, 0, 0, 0, 0, 0) := rfl
set_option maxRecDepth 20000 in
theorem gk_f75_43 : gd_fetch 75 43 = some (43, .invokevirtual 179, 3, 1340, 68, 2, 0, 0) := rfl
set_option maxRecDepth 20000 in
theorem gk_f75_46 : gd_fetch 75 46 = some (46, .iload_n 1, 1, 0, 0, 0, 0, 0) := rfl
set_option maxRecDepth 20000 in
theorem gk_f75_47 : gd_fetch 75 47 = some (47, .ireturn, 1, 0, 0, 0, 0, 0) := rfl
set_option maxRecDepth 20000 in
set_option maxHeartbeats 4000000 in
theorem q_Mo_partHere (r0 : Nat) (m : gd_M) : gd_call 75 [.ref r0] m = if gd_ok (gN m) r0 9 = true then (if ((gI m r0 6) = 1 : Prop) then ((gd_call 68 [.ref r0, .int 1, .int 1] m).bind (gd_kV fun m4 => if gd_ok (gN m4) r0 9 = true then ((gd_call 70 [.ref r0, .long (gJ m4 r0 12), .long (gJ m4 r0 13)] m4).bind (gd_kI fun z9 m7 => if (z9 = (-1) : Prop) then (if gd_ok (gN m7) r0 9 = true then ((gd_call 68 [.ref r0, .int 0, .int 2] m7).bind (gd_kV fun m13 => some (.int z9, m13))) else none) else (if gd_ok (gN m7) r0 9 = true then ((gd_call 68 [.ref r0, .int 1, .int 2] m7).bind (gd_kV fun m16 => some (.int z9, m16))) else none))) else none)) else ((gd_call 68 [.ref r0, .int 0, .int 1] m).bind (gd_kV fun m18 => if gd_ok (gN m18) r0 9 = true then ((gd_call 70 [.ref r0, .long (gJ m18 r0 12), .long (gJ m18 r0 13)] m18).bind (gd_kI fun z23 m21 => if (z23 = (-1) : Prop) then (if gd_ok (gN m21) r0 9 = true then ((gd_call 68 [.ref r0, .int 0, .int 2] m21).bind (gd_kV fun m27 => some (.int z23, m27))) else none) else (if gd_ok (gN m21) r0 9 = true then ((gd_call 68 [.ref r0, .int 1, .int 2] m21).bind (gd_kV fun m30 => some (.int z23, m30))) else none))) else none))) else none := by
  refine Eq.trans (show gd_call 75 [.ref r0] m = gd_Den (75, 0, [.ref r0, .null], [], m) from by unfold gd_call gd_ent; rw [gk_ml75]; rfl) ?_
  refine Eq.trans (D_aload_n (x := r0) gk_f75_0 rfl) ?_
  refine Eq.trans (D_aload_n (x := r0) gk_f75_1 rfl) ?_
  refine Eq.trans (D_gfI gk_f75_2 (by decide) (by decide) (by decide)) ?_
  refine gd_ite (fun h1 => ?_) (fun _ => rfl)
  refine Eq.trans (D_iconst (x := 1) gk_f75_5 gk_c_1) ?_
  refine Eq.trans (D_ic_ne (t := 13) gk_f75_6 (by decide)) ?_
  refine gd_ite (fun h2 => ?_) (fun h3 => ?_)
  · refine Eq.trans (D_iconst (x := 1) gk_f75_9 gk_c_1) ?_
    refine Eq.trans (D_goto (t := 14) gk_f75_10 (by decide)) ?_
    refine Eq.trans (D_iconst (x := 1) gk_f75_14 gk_c_1) ?_
    refine Eq.trans (D_ivV (cl := 9) (args := [.ref r0, .int 1, .int 1]) (rest := []) gk_f75_15 rfl rfl (gd_rmk gk_rm75_68 gk_ln68 gk_ml68 rfl rfl rfl) gk_rk68 (gd_hnd_n gk_nc75) gk_nc68 gk_n11_68 gk_cl68) ?_
    refine Eq.trans (if_pos h1) ?_
    refine gd_bnd (gd_kV_c fun m4 => ?_)
    refine Eq.trans (D_aload_n (x := r0) gk_f75_18 rfl) ?_
    refine Eq.trans (D_aload_n (x := r0) gk_f75_19 rfl) ?_
    refine Eq.trans (D_gfJ gk_f75_20 (by decide)) ?_
    refine gd_ite (fun h6 => ?_) (fun _ => rfl)
    refine Eq.trans (D_aload_n (x := r0) gk_f75_23 rfl) ?_
    refine Eq.trans (D_gfJ gk_f75_24 (by decide)) ?_
    refine Eq.trans (if_pos h6) ?_
    refine Eq.trans (D_ivI (cl := 9) (args := [.ref r0, .long (gJ m4 r0 12), .long (gJ m4 r0 13)]) (rest := []) gk_f75_27 rfl rfl (gd_rmk gk_rm75_70 gk_ln70 gk_ml70 rfl rfl rfl) gk_rk70 (gd_hnd_n gk_nc75) gk_nc70 gk_n11_70 gk_cl70) ?_
    refine Eq.trans (if_pos h6) ?_
    refine gd_bnd (gd_kI_c fun z9 m7 => ?_)
    refine Eq.trans (D_istore_n gk_f75_30 gk_st75_1) ?_
    refine Eq.trans (D_aload_n (x := r0) gk_f75_31 rfl) ?_
    refine Eq.trans (D_iload_n (x := z9) gk_f75_32 rfl) ?_
    refine Eq.trans (D_iconst (x := (-1)) gk_f75_33 gk_c_m1) ?_
    refine Eq.trans (D_ic_eq (t := 41) gk_f75_34 (by decide)) ?_
    refine gd_ite (fun h10 => ?_) (fun h11 => ?_)
    · refine Eq.trans (D_iconst (x := 0) gk_f75_41 gk_c_0) ?_
      refine Eq.trans (D_iconst (x := 2) gk_f75_42 gk_c_2) ?_
      refine Eq.trans (D_ivV (cl := 9) (args := [.ref r0, .int 0, .int 2]) (rest := []) gk_f75_43 rfl rfl (gd_rmk gk_rm75_68 gk_ln68 gk_ml68 rfl rfl rfl) gk_rk68 (gd_hnd_n gk_nc75) gk_nc68 gk_n11_68 gk_cl68) ?_
      refine gd_ite (fun h12 => ?_) (fun _ => rfl)
      refine gd_bnd (gd_kV_c fun m13 => ?_)
      refine Eq.trans (D_iload_n (x := z9) gk_f75_46 rfl) ?_
      refine Eq.trans (D_ireturn gk_f75_47 gk_rk75) ?_
      rfl
    · refine Eq.trans (D_iconst (x := 1) gk_f75_37 gk_c_1) ?_
      refine Eq.trans (D_goto (t := 42) gk_f75_38 (by decide)) ?_
      refine Eq.trans (D_iconst (x := 2) gk_f75_42 gk_c_2) ?_
      refine Eq.trans (D_ivV (cl := 9) (args := [.ref r0, .int 1, .int 2]) (rest := []) gk_f75_43 rfl rfl (gd_rmk gk_rm75_68 gk_ln68 gk_ml68 rfl rfl rfl) gk_rk68 (gd_hnd_n gk_nc75) gk_nc68 gk_n11_68 gk_cl68) ?_
      refine gd_ite (fun h15 => ?_) (fun _ => rfl)
      refine gd_bnd (gd_kV_c fun m16 => ?_)
      refine Eq.trans (D_iload_n (x := z9) gk_f75_46 rfl) ?_
      refine Eq.trans (D_ireturn gk_f75_47 gk_rk75) ?_
      rfl
  · refine Eq.trans (D_iconst (x := 0) gk_f75_13 gk_c_0) ?_
    refine Eq.trans (D_iconst (x := 1) gk_f75_14 gk_c_1) ?_
    refine Eq.trans (D_ivV (cl := 9) (args := [.ref r0, .int 0, .int 1]) (rest := []) gk_f75_15 rfl rfl (gd_rmk gk_rm75_68 gk_ln68 gk_ml68 rfl rfl rfl) gk_rk68 (gd_hnd_n gk_nc75) gk_nc68 gk_n11_68 gk_cl68) ?_
    refine Eq.trans (if_pos h1) ?_
    refine gd_bnd (gd_kV_c fun m18 => ?_)
    refine Eq.trans (D_aload_n (x := r0) gk_f75_18 rfl) ?_
    refine Eq.trans (D_aload_n (x := r0) gk_f75_19 rfl) ?_
    refine Eq.trans (D_gfJ gk_f75_20 (by decide)) ?_
    refine gd_ite (fun h20 => ?_) (fun _ => rfl)
    refine Eq.trans (D_aload_n (x := r0) gk_f75_23 rfl) ?_
    refine Eq.trans (D_gfJ gk_f75_24 (by decide)) ?_
    refine Eq.trans (if_pos h20) ?_
    refine Eq.trans (D_ivI (cl := 9) (args := [.ref r0, .long (gJ m18 r0 12), .long (gJ m18 r0 13)]) (rest := []) gk_f75_27 rfl rfl (gd_rmk gk_rm75_70 gk_ln70 gk_ml70 rfl rfl rfl) gk_rk70 (gd_hnd_n gk_nc75) gk_nc70 gk_n11_70 gk_cl70) ?_
    refine Eq.trans (if_pos h20) ?_
    refine gd_bnd (gd_kI_c fun z23 m21 => ?_)
    refine Eq.trans (D_istore_n gk_f75_30 gk_st75_1) ?_
    refine Eq.trans (D_aload_n (x := r0) gk_f75_31 rfl) ?_
    refine Eq.trans (D_iload_n (x := z23) gk_f75_32 rfl) ?_
    refine Eq.trans (D_iconst (x := (-1)) gk_f75_33 gk_c_m1) ?_
    refine Eq.trans (D_ic_eq (t := 41) gk_f75_34 (by decide)) ?_
    refine gd_ite (fun h24 => ?_) (fun h25 => ?_)
    · refine Eq.trans (D_iconst (x := 0) gk_f75_41 gk_c_0) ?_
      refine Eq.trans (D_iconst (x := 2) gk_f75_42 gk_c_2) ?_
      refine Eq.trans (D_ivV (cl := 9) (args := [.ref r0, .int 0, .int 2]) (rest := []) gk_f75_43 rfl rfl (gd_rmk gk_rm75_68 gk_ln68 gk_ml68 rfl rfl rfl) gk_rk68 (gd_hnd_n gk_nc75) gk_nc68 gk_n11_68 gk_cl68) ?_
      refine gd_ite (fun h26 => ?_) (fun _ => rfl)
      refine gd_bnd (gd_kV_c fun m27 => ?_)
      refine Eq.trans (D_iload_n (x := z23) gk_f75_46 rfl) ?_
      refine Eq.trans (D_ireturn gk_f75_47 gk_rk75) ?_
      rfl
    · refine Eq.trans (D_iconst (x := 1) gk_f75_37 gk_c_1) ?_
      refine Eq.trans (D_goto (t := 42) gk_f75_38 (by decide)) ?_
      refine Eq.trans (D_iconst (x := 2) gk_f75_42 gk_c_2) ?_
      refine Eq.trans (D_ivV (cl := 9) (args := [.ref r0, .int 1, .int 2]) (rest := []) gk_f75_43 rfl rfl (gd_rmk gk_rm75_68 gk_ln68 gk_ml68 rfl rfl rfl) gk_rk68 (gd_hnd_n gk_nc75) gk_nc68 gk_n11_68 gk_cl68) ?_
      refine gd_ite (fun h29 => ?_) (fun _ => rfl)
      refine gd_bnd (gd_kV_c fun m30 => ?_)
      refine Eq.trans (D_iload_n (x := z23) gk_f75_46 rfl) ?_
      refine Eq.trans (D_ireturn gk_f75_47 gk_rk75) ?_
      rfl
