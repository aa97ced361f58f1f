/-! GymDeskModel.standing (I)I -/
set_option maxRecDepth 20000 in
theorem gk_f185_0 : gd_fetch 185 0 = some (0, .iload_n 1, 1, 0, 0, 0, 0, 0) := rfl
set_option maxRecDepth 20000 in
theorem gk_f185_1 : gd_fetch 185 1 = some (1, .iconst 0, 1, 0, 0, 0, 0, 0) := rfl
set_option maxRecDepth 20000 in
theorem gk_f185_2 : gd_fetch 185 2 = some (2, .bipush 9, 2, 0, 0, 0, 0, 0) := rfl
set_option maxRecDepth 20000 in
theorem gk_f185_4 : gd_fetch 185 4 = some (4, .invokestatic 192, 3, 1360, 71, 3, 0, 0) := rfl
set_option maxRecDepth 20000 in
theorem gk_f185_7 : gd_fetch 185 7 = some (7, .ifCond .ne 6, 3, 0, 0, 0, 0, 0) := rfl
set_option maxRecDepth 20000 in
theorem gk_f185_10 : gd_fetch 185 10 = some (10, .bipush (-2), 2, 0, 0, 0, 0, 0) := rfl
set_option maxRecDepth 20000 in
theorem gk_f185_12 : gd_fetch 185 12 = some (12, .ireturn, 1, 0, 0, 0, 0, 0) := rfl
set_option maxRecDepth 20000 in
theorem gk_f185_13 : gd_fetch 185 13 = some (13, .aload_n 0, 1, 0, 0, 0, 0, 0) := rfl
set_option maxRecDepth 20000 in
theorem gk_f185_14 : gd_fetch 185 14 = some (14, .iload_n 1, 1, 0, 0, 0, 0, 0) := rfl
set_option maxRecDepth 20000 in
theorem gk_f185_15 : gd_fetch 185 15 = some (15, .iconst 4, 1, 0, 0, 0, 0, 0) := rfl
set_option maxRecDepth 20000 in
theorem gk_f185_16 : gd_fetch 185 16 = some (16, .invokevirtual 393, 3, 1533, 183, 2, 0, 0) := rfl
set_option maxRecDepth 20000 in
theorem gk_f185_19 : gd_fetch 185 19 = some (19, .istore_n 2, 1, 0, 0, 0, 0, 0) := rfl
set_option maxRecDepth 20000 in
theorem gk_f185_20 : gd_fetch 185 20 = some (20, .iconst 1, 1, 0, 0, 0, 0, 0) := rfl
set_option maxRecDepth 20000 in
theorem gk_f185_21 : gd_fetch 185 21 = some (21, .istore_n 3, 1, 0, 0, 0, 0, 0) := rfl
set_option maxRecDepth 20000 in
theorem gk_f185_22 : gd_fetch 185 22 = some (22, .iconst 0, 1, 0, 0, 0, 0, 0) := rfl
set_option maxRecDepth 20000 in
theorem gk_f185_23 : gd_fetch 185 23 = some (23, .istore 4, 2, 0, 0, 0, 0, 0) := rfl
set_option maxRecDepth 20000 in
theorem gk_f185_25 : gd_fetch 185 25 = some (25, .iload 4, 2, 0, 0, 0, 0, 0) := rfl
set_option maxRecDepth 20000 in
theorem gk_f185_27 : gd_fetch 185 27 = some (27, .bipush 10, 2, 0, 0, 0, 0, 0) := rfl
set_option maxRecDepth 20000 in
theorem gk_f185_29 : gd_fetch 185 29 = some (29, .if_icmp .ge 28, 3, 0, 0, 0, 0, 0) := rfl
set_option maxRecDepth 20000 in
theorem gk_f185_32 : gd_fetch 185 32 = some (32, .iload_n 3, 1, 0, 0, 0, 0, 0) := rfl
set_option maxRecDepth 20000 in
theorem gk_f185_33 : gd_fetch 185 33 = some (33, .aload_n 0, 1, 0, 0, 0, 0, 0) := rfl
set_option maxRecDepth 20000 in
theorem gk_f185_34 : gd_fetch 185 34 = some (34, .iload 4, 2, 0, 0, 0, 0, 0) := rfl
set_option maxRecDepth 20000 in
theorem gk_f185_36 : gd_fetch 185 36 = some (36, .iconst 4, 1, 0, 0, 0, 0, 0) := rfl
set_option maxRecDepth 20000 in
theorem gk_f185_37 : gd_fetch 185 37 = some (37, .invokevirtual 393, 3, 1533, 183, 2, 0, 0) := rfl
set_option maxRecDepth 20000 in
theorem gk_f185_40 : gd_fetch 185 40 = some (40, .iload_n 2, 1, 0, 0, 0, 0, 0) := rfl
set_option maxRecDepth 20000 in
theorem gk_f185_41 : gd_fetch 185 41 = some (41, .if_icmp .le 7, 3, 0, 0, 0, 0, 0) := rfl
set_option maxRecDepth 20000 in
theorem gk_f185_44 : gd_fetch 185 44 = some (44, .iconst 1, 1, 0, 0, 0, 0, 0) := rfl
set_option maxRecDepth 20000 in
theorem gk_f185_45 : gd_fetch 185 45 = some (45, .goto 4, 3, 0, 0, 0, 0, 0) := rfl
set_option maxRecDepth 20000 in
theorem gk_f185_48 : gd_fetch 185 48 = some (48, .iconst 0, 1, 0, 0, 0, 0, 0) := rfl
set_option maxRecDepth 20000 in
theorem gk_f185_49 : gd_fetch 185 49 = some (49, .iadd, 1, 0, 0, 0, 0, 0) := rfl
set_option maxRecDepth 20000 in
theorem gk_f185_50 : gd_fetch 185 50 = some (50, .istore_n 3, 1, 0, 0, 0, 0, 0) := rfl
set_option maxRecDepth 20000 in
theorem gk_f185_51 : gd_fetch 185 51 = some (51, .iinc 4 1, 3, 0, 0, 0, 0, 0) := rfl
set_option maxRecDepth 20000 in
theorem gk_f185_54 : gd_fetch 185 54 = some (54, .goto (-29), 3, 0, 0, 0, 0, 0) := rfl
set_option maxRecDepth 20000 in
theorem gk_f185_57 : gd_fetch 185 57 = some (57, .iload_n 3, 1, 0, 0, 0, 0, 0) := rfl
set_option maxRecDepth 20000 in
theorem gk_f185_58 : gd_fetch 185 58 = some (58, .ireturn, 1, 0, 0, 0, 0, 0) := rfl
set_option maxRecDepth 20000 in
set_option maxHeartbeats 4000000 in
theorem q_Mo_standing (r0 : Nat) (x1 : Int32) (m : gd_M) : gd_call 185 [.ref r0, .int x1] m = (gd_call 71 [.int x1, .int 0, .int 9] m).bind (gd_k0I fun z3 m1 => if (z3 = 0 : Prop) then (some (.int (-2), m1)) else (if gd_ok (gN m1) r0 9 = true then ((gd_call 183 [.ref r0, .int x1, .int 4] m1).bind (gd_kI fun z9 m7 => gd_Den (185, 25, [.ref r0, .int x1, .int z9, .int 1, .int 0], [], m7))) else none)) := by
  refine Eq.trans (show gd_call 185 [.ref r0, .int x1] m = gd_Den (185, 0, [.ref r0, .int x1, .null, .null, .null], [], m) from by unfold gd_call gd_ent; rw [gk_ml185]; rfl) ?_
  refine Eq.trans (D_iload_n (x := x1) gk_f185_0 rfl) ?_
  refine Eq.trans (D_iconst (x := 0) gk_f185_1 gk_c_0) ?_
  refine Eq.trans (D_bipush (x := 9) gk_f185_2 gk_b_9) ?_
  refine Eq.trans (D_isZ (args := [.int x1, .int 0, .int 9]) (rest := []) gk_f185_4 rfl rfl rfl (gd_rmk gk_rm185_71 gk_ln71 gk_ml71 rfl rfl rfl) gk_rk71 (gd_hnd_n gk_nc185)) ?_
  refine gd_bnd (gd_k0I_c fun z3 m1 => ?_)
  refine Eq.trans (D_if_ne (t := 13) gk_f185_7 (by decide)) ?_
  refine gd_ite (fun h4 => ?_) (fun h5 => ?_)
  · refine Eq.trans (D_bipush (x := (-2)) gk_f185_10 gk_b_m2) ?_
    refine Eq.trans (D_ireturn gk_f185_12 gk_rk185) ?_
    rfl
  · refine Eq.trans (D_aload_n (x := r0) gk_f185_13 rfl) ?_
    refine Eq.trans (D_iload_n (x := x1) gk_f185_14 rfl) ?_
    refine Eq.trans (D_iconst (x := 4) gk_f185_15 gk_c_4) ?_
    refine Eq.trans (D_ivI (cl := 9) (args := [.ref r0, .int x1, .int 4]) (rest := []) gk_f185_16 rfl rfl (gd_rmk gk_rm185_183 gk_ln183 gk_ml183 rfl rfl rfl) gk_rk183 (gd_hnd_n gk_nc185) gk_nc183 gk_n11_183 gk_cl183) ?_
    refine gd_ite (fun h6 => ?_) (fun _ => rfl)
    refine gd_bnd (gd_kI_c fun z9 m7 => ?_)
    refine Eq.trans (D_istore_n gk_f185_19 gk_st185_2) ?_
    refine Eq.trans (D_iconst (x := 1) gk_f185_20 gk_c_1) ?_
    refine Eq.trans (D_istore_n gk_f185_21 gk_st185_3) ?_
    refine Eq.trans (D_iconst (x := 0) gk_f185_22 gk_c_0) ?_
    refine Eq.trans (D_istore gk_f185_23 gk_st185_4) ?_
    rfl
set_option maxRecDepth 20000 in
set_option maxHeartbeats 4000000 in
theorem q_Mo_standing_25 (r0 : Nat) (x1 : Int32) (x2 : Int32) (x3 : Int32) (x4 : Int32) (m : gd_M) : gd_Den (185, 25, [.ref r0, .int x1, .int x2, .int x3, .int x4], [], m) = if (x4 < 10 : Prop) then (if gd_ok (gN m) r0 9 = true then ((gd_call 183 [.ref r0, .int x4, .int 4] m).bind (gd_kI fun z6 m4 => if (x2 < z6 : Prop) then (gd_Den (185, 25, [.ref r0, .int x1, .int x2, .int (x3 + 1), .int (x4 + 1)], [], m4)) else (gd_Den (185, 25, [.ref r0, .int x1, .int x2, .int (x3 + 0), .int (x4 + 1)], [], m4)))) else none) else (some (.int x3, m)) := by
  refine Eq.trans (D_iload (x := x4) gk_f185_25 rfl) ?_
  refine Eq.trans (D_bipush (x := 10) gk_f185_27 gk_b_10) ?_
  refine Eq.trans (D_ic_ge (t := 57) gk_f185_29 (by decide)) ?_
  refine gd_ite (fun h1 => ?_) (fun h2 => ?_)
  · refine Eq.trans (D_iload_n (x := x3) gk_f185_32 rfl) ?_
    refine Eq.trans (D_aload_n (x := r0) gk_f185_33 rfl) ?_
    refine Eq.trans (D_iload (x := x4) gk_f185_34 rfl) ?_
    refine Eq.trans (D_iconst (x := 4) gk_f185_36 gk_c_4) ?_
    refine Eq.trans (D_ivI (cl := 9) (args := [.ref r0, .int x4, .int 4]) (rest := [.int x3]) gk_f185_37 rfl rfl (gd_rmk gk_rm185_183 gk_ln183 gk_ml183 rfl rfl rfl) gk_rk183 (gd_hnd_n gk_nc185) gk_nc183 gk_n11_183 gk_cl183) ?_
    refine gd_ite (fun h3 => ?_) (fun _ => rfl)
    refine gd_bnd (gd_kI_c fun z6 m4 => ?_)
    refine Eq.trans (D_iload_n (x := x2) gk_f185_40 rfl) ?_
    refine Eq.trans (D_ic_le (t := 48) gk_f185_41 (by decide)) ?_
    refine gd_ite (fun h7 => ?_) (fun h8 => ?_)
    · refine Eq.trans (D_iconst (x := 1) gk_f185_44 gk_c_1) ?_
      refine Eq.trans (D_goto (t := 49) gk_f185_45 (by decide)) ?_
      refine Eq.trans (D_iadd gk_f185_49) ?_
      refine Eq.trans (D_istore_n gk_f185_50 gk_st185_3) ?_
      refine Eq.trans (D_iinc (x := x4) (y := 1) gk_f185_51 rfl gk_c_1 gk_st185_4) ?_
      refine Eq.trans (D_goto (t := 25) gk_f185_54 (by decide)) ?_
      rfl
    · refine Eq.trans (D_iconst (x := 0) gk_f185_48 gk_c_0) ?_
      refine Eq.trans (D_iadd gk_f185_49) ?_
      refine Eq.trans (D_istore_n gk_f185_50 gk_st185_3) ?_
      refine Eq.trans (D_iinc (x := x4) (y := 1) gk_f185_51 rfl gk_c_1 gk_st185_4) ?_
      refine Eq.trans (D_goto (t := 25) gk_f185_54 (by decide)) ?_
      rfl
  · refine Eq.trans (D_iload_n (x := x3) gk_f185_57 rfl) ?_
    refine Eq.trans (D_ireturn gk_f185_58 gk_rk185) ?_
    rfl
/-! GymDesk.countOfGroup (I)I -/
set_option maxRecDepth 20000 in
theorem gk_f186_0 : gd_fetch 186 0 = some (0, .iload_n 1, 1, 0, 0, 0, 0, 0) := rfl
set_option maxRecDepth 20000 in
theorem gk_f186_1 : gd_fetch 186 1 = some (1, .bipush 10, 2, 0, 0, 0, 0, 0) := rfl
set_option maxRecDepth 20000 in
theorem gk_f186_3 : gd_fetch 186 3 = some (3, .irem, 1, 0, 0, 0, 0, 0) := rfl
set_option maxRecDepth 20000 in
theorem gk_f186_4 : gd_fetch 186 4 = some (4, .istore_n 2, 1, 0, 0, 0, 0, 0) := rfl
set_option maxRecDepth 20000 in
theorem gk_f186_5 : gd_fetch 186 5 = some (5, .iload_n 2, 1, 0, 0, 0, 0, 0) := rfl
set_option maxRecDepth 20000 in
theorem gk_f186_6 : gd_fetch 186 6 = some (6, .iconst 5, 1, 0, 0, 0, 0, 0) := rfl
set_option maxRecDepth 20000 in
theorem gk_f186_7 : gd_fetch 186 7 = some (7, .if_icmp .lt 5, 3, 0, 0, 0, 0, 0) := rfl
set_option maxRecDepth 20000 in
theorem gk_f186_10 : gd_fetch 186 10 = some (10, .iconst (-1), 1, 0, 0, 0, 0, 0) := rfl
set_option maxRecDepth 20000 in
theorem gk_f186_11 : gd_fetch 186 11 = some (11, .ireturn, 1, 0, 0, 0, 0, 0) := rfl
set_option maxRecDepth 20000 in
theorem gk_f186_12 : gd_fetch 186 12 = some (12, .iload_n 1, 1, 0, 0, 0, 0, 0) := rfl
set_option maxRecDepth 20000 in
theorem gk_f186_13 : gd_fetch 186 13 = some (13, .bipush 10, 2, 0, 0, 0, 0, 0) := rfl
set_option maxRecDepth 20000 in
theorem gk_f186_15 : gd_fetch 186 15 = some (15, .idiv, 1, 0, 0, 0, 0, 0) := rfl
set_option maxRecDepth 20000 in
theorem gk_f186_16 : gd_fetch 186 16 = some (16, .tableswitch 58 2 4 #[28, 38, 48], 28, 0, 0, 0, 0, 0) := rfl
set_option maxRecDepth 20000 in
theorem gk_f186_44 : gd_fetch 186 44 = some (44, .aload_n 0, 1, 0, 0, 0, 0, 0) := rfl
set_option maxRecDepth 20000 in
theorem gk_f186_45 : gd_fetch 186 45 = some (45, .getfield 56, 3, 469, 6, 9, 4, 0) := rfl
set_option maxRecDepth 20000 in
theorem gk_f186_48 : gd_fetch 186 48 = some (48, .getfield 311, 3, 338, 1, 8, 4, 1) := rfl
set_option maxRecDepth 20000 in
theorem gk_f186_51 : gd_fetch 186 51 = some (51, .iload_n 2, 1, 0, 0, 0, 0, 0) := rfl
set_option maxRecDepth 20000 in
theorem gk_f186_52 : gd_fetch 186 52 = some (52, .iaload, 1, 0, 0, 0, 0, 0) := rfl
set_option maxRecDepth 20000 in
theorem gk_f186_53 : gd_fetch 186 53 = some (53, .ireturn, 1, 0, 0, 0, 0, 0) := rfl
set_option maxRecDepth 20000 in
theorem gk_f186_54 : gd_fetch 186 54 = some (54, .aload_n 0, 1, 0, 0, 0, 0, 0) := rfl
set_option maxRecDepth 20000 in
theorem gk_f186_55 : gd_fetch 186 55 = some (55, .getfield 56, 3, 469, 6, 9, 4, 0) := rfl
set_option maxRecDepth 20000 in
theorem gk_f186_58 : gd_fetch 186 58 = some (58, .getfield 314, 3, 342, 1, 9, 4, 1) := rfl
set_option maxRecDepth 20000 in
theorem gk_f186_61 : gd_fetch 186 61 = some (61, .iload_n 2, 1, 0, 0, 0, 0, 0) := rfl
set_option maxRecDepth 20000 in
theorem gk_f186_62 : gd_fetch 186 62 = some (62, .iaload, 1, 0, 0, 0, 0, 0) := rfl
set_option maxRecDepth 20000 in
theorem gk_f186_63 : gd_fetch 186 63 = some (63, .ireturn, 1, 0, 0, 0, 0, 0) := rfl
set_option maxRecDepth 20000 in
theorem gk_f186_64 : gd_fetch 186 64 = some (64, .aload_n 0, 1, 0, 0, 0, 0, 0) := rfl
set_option maxRecDepth 20000 in
theorem gk_f186_65 : gd_fetch 186 65 = some (65, .getfield 56, 3, 469, 6, 9, 4, 0) := rfl
set_option maxRecDepth 20000 in
theorem gk_f186_68 : gd_fetch 186 68 = some (68, .getfield 317, 3, 346, 1, 10, 4, 1) := rfl
set_option maxRecDepth 20000 in
theorem gk_f186_71 : gd_fetch 186 71 = some (71, .iload_n 2, 1, 0, 0, 0, 0, 0) := rfl
set_option maxRecDepth 20000 in
theorem gk_f186_72 : gd_fetch 186 72 = some (72, .iaload, 1, 0, 0, 0, 0, 0) := rfl
set_option maxRecDepth 20000 in
theorem gk_f186_73 : gd_fetch 186 73 = some (73, .ireturn, 1, 0, 0, 0, 0, 0) := rfl
set_option maxRecDepth 20000 in
theorem gk_f186_74 : gd_fetch 186 74 = some (74, .iconst (-1), 1, 0, 0, 0, 0, 0) := rfl
set_option maxRecDepth 20000 in
theorem gk_f186_75 : gd_fetch 186 75 = some (75, .ireturn, 1, 0, 0, 0, 0, 0) := rfl
set_option maxRecDepth 20000 in
set_option maxHeartbeats 4000000 in
theorem q_X_countOfGroup (r0 : Nat) (x1 : Int32) (m : gd_M) : gd_call 186 [.ref r0, .int x1] m = if ((x1 - x1 / 10 * 10) < 5 : Prop) then (if (x1 / 10) = 2 then (if gd_ok (gN m) r0 6 = true then (if gd_ok (gN m) (gR m r0 9) 1 = true then (if gd_okA (gN m) (gR m (gR m r0 9) 8) 10 (x1 - x1 / 10 * 10) = true then (some (.int (gI m (gR m (gR m r0 9) 8) ((x1 - x1 / 10 * 10) : Int32).toNatClampNeg), m)) else none) else none) else none) else if (x1 / 10) = 3 then (if gd_ok (gN m) r0 6 = true then (if gd_ok (gN m) (gR m r0 9) 1 = true then (if gd_okA (gN m) (gR m (gR m r0 9) 9) 10 (x1 - x1 / 10 * 10) = true then (some (.int (gI m (gR m (gR m r0 9) 9) ((x1 - x1 / 10 * 10) : Int32).toNatClampNeg), m)) else none) else none) else none) else if (x1 / 10) = 4 then (if gd_ok (gN m) r0 6 = true then (if gd_ok (gN m) (gR m r0 9) 1 = true then (if gd_okA (gN m) (gR m (gR m r0 9) 10) 10 (x1 - x1 / 10 * 10) = true then (some (.int (gI m (gR m (gR m r0 9) 10) ((x1 - x1 / 10 * 10) : Int32).toNatClampNeg), m)) else none) else none) else none) else (some (.int (-1), m))) else (some (.int (-1), m)) := by
  refine Eq.trans (show gd_call 186 [.ref r0, .int x1] m = gd_Den (186, 0, [.ref r0, .int x1, .null], [], m) from by unfold gd_call gd_ent; rw [gk_ml186]; rfl) ?_
  refine Eq.trans (D_iload_n (x := x1) gk_f186_0 rfl) ?_
  refine Eq.trans (D_bipush (x := 10) gk_f186_1 gk_b_10) ?_
  refine Eq.trans (D_irem gk_f186_3) ?_
  refine Eq.trans (if_neg (by decide)) ?_
  refine Eq.trans (D_istore_n gk_f186_4 gk_st186_2) ?_
  refine Eq.trans (D_iload_n (x := (x1 - x1 / 10 * 10)) gk_f186_5 rfl) ?_
  refine Eq.trans (D_iconst (x := 5) gk_f186_6 gk_c_5) ?_
  refine Eq.trans (D_ic_lt (t := 12) gk_f186_7 (by decide)) ?_
  refine gd_ite (fun h1 => ?_) (fun h2 => ?_)
  · refine Eq.trans (D_iload_n (x := x1) gk_f186_12 rfl) ?_
    refine Eq.trans (D_bipush (x := 10) gk_f186_13 gk_b_10) ?_
    refine Eq.trans (D_idiv gk_f186_15) ?_
    refine Eq.trans (if_neg (by decide)) ?_
    refine Eq.trans (D_tsw (vs := [(2, 44), (3, 54), (4, 64)]) (t := 74) gk_f186_16 (by decide) (by decide)) ?_
    refine gd_ite (fun h3 => ?_) (fun h4 => ?_)
    · refine Eq.trans (D_aload_n (x := r0) gk_f186_44 rfl) ?_
      refine Eq.trans (D_gfR gk_f186_45 (by decide)) ?_
      refine gd_ite (fun h5 => ?_) (fun _ => rfl)
      refine Eq.trans (D_gfR gk_f186_48 (by decide)) ?_
      refine gd_ite (fun h6 => ?_) (fun _ => rfl)
      refine Eq.trans (D_iload_n (x := (x1 - x1 / 10 * 10)) gk_f186_51 rfl) ?_
      refine Eq.trans (D_iald gk_f186_52 gk_n10_186) ?_
      refine gd_ite (fun h7 => ?_) (fun _ => rfl)
      refine Eq.trans (D_ireturn gk_f186_53 gk_rk186) ?_
      rfl
    refine gd_ite (fun h8 => ?_) (fun h9 => ?_)
    · refine Eq.trans (D_aload_n (x := r0) gk_f186_54 rfl) ?_
      refine Eq.trans (D_gfR gk_f186_55 (by decide)) ?_
      refine gd_ite (fun h10 => ?_) (fun _ => rfl)
      refine Eq.trans (D_gfR gk_f186_58 (by decide)) ?_
      refine gd_ite (fun h11 => ?_) (fun _ => rfl)
      refine Eq.trans (D_iload_n (x := (x1 - x1 / 10 * 10)) gk_f186_61 rfl) ?_
      refine Eq.trans (D_iald gk_f186_62 gk_n10_186) ?_
      refine gd_ite (fun h12 => ?_) (fun _ => rfl)
      refine Eq.trans (D_ireturn gk_f186_63 gk_rk186) ?_
      rfl
    refine gd_ite (fun h13 => ?_) (fun h14 => ?_)
    · refine Eq.trans (D_aload_n (x := r0) gk_f186_64 rfl) ?_
      refine Eq.trans (D_gfR gk_f186_65 (by decide)) ?_
      refine gd_ite (fun h15 => ?_) (fun _ => rfl)
      refine Eq.trans (D_gfR gk_f186_68 (by decide)) ?_
      refine gd_ite (fun h16 => ?_) (fun _ => rfl)
      refine Eq.trans (D_iload_n (x := (x1 - x1 / 10 * 10)) gk_f186_71 rfl) ?_
      refine Eq.trans (D_iald gk_f186_72 gk_n10_186) ?_
      refine gd_ite (fun h17 => ?_) (fun _ => rfl)
      refine Eq.trans (D_ireturn gk_f186_73 gk_rk186) ?_
      rfl
    refine Eq.trans (D_iconst (x := (-1)) gk_f186_74 gk_c_m1) ?_
    refine Eq.trans (D_ireturn gk_f186_75 gk_rk186) ?_
    rfl
  · refine Eq.trans (D_iconst (x := (-1)) gk_f186_10 gk_c_m1) ?_
    refine Eq.trans (D_ireturn gk_f186_11 gk_rk186) ?_
    rfl
/-! GymDesk.count (I)I -/
set_option maxRecDepth 20000 in
theorem gk_f187_0 : gd_fetch 187 0 = some (0, .iload_n 1, 1, 0, 0, 0, 0, 0) := rfl
set_option maxRecDepth 20000 in
theorem gk_f187_1 : gd_fetch 187 1 = some (1, .iconst 3, 1, 0, 0, 0, 0, 0) := rfl
set_option maxRecDepth 20000 in
theorem gk_f187_2 : gd_fetch 187 2 = some (2, .if_icmp .lt 19, 3, 0, 0, 0, 0, 0) := rfl
set_option maxRecDepth 20000 in
theorem gk_f187_5 : gd_fetch 187 5 = some (5, .iload_n 1, 1, 0, 0, 0, 0, 0) := rfl
set_option maxRecDepth 20000 in
theorem gk_f187_6 : gd_fetch 187 6 = some (6, .bipush 12, 2, 0, 0, 0, 0, 0) := rfl
set_option maxRecDepth 20000 in
theorem gk_f187_8 : gd_fetch 187 8 = some (8, .if_icmp .ge 13, 3, 0, 0, 0, 0, 0) := rfl
set_option maxRecDepth 20000 in
theorem gk_f187_11 : gd_fetch 187 11 = some (11, .aload_n 0, 1, 0, 0, 0, 0, 0) := rfl
set_option maxRecDepth 20000 in
theorem gk_f187_12 : gd_fetch 187 12 = some (12, .getfield 56, 3, 469, 6, 9, 4, 0) := rfl
set_option maxRecDepth 20000 in
theorem gk_f187_15 : gd_fetch 187 15 = some (15, .getfield 132, 3, 350, 1, 11, 4, 1) := rfl
set_option maxRecDepth 20000 in
theorem gk_f187_18 : gd_fetch 187 18 = some (18, .iload_n 1, 1, 0, 0, 0, 0, 0) := rfl
set_option maxRecDepth 20000 in
theorem gk_f187_19 : gd_fetch 187 19 = some (19, .iaload, 1, 0, 0, 0, 0, 0) := rfl
set_option maxRecDepth 20000 in
theorem gk_f187_20 : gd_fetch 187 20 = some (20, .ireturn, 1, 0, 0, 0, 0, 0) := rfl
set_option maxRecDepth 20000 in
theorem gk_f187_21 : gd_fetch 187 21 = some (21, .iload_n 1, 1, 0, 0, 0, 0, 0) := rfl
set_option maxRecDepth 20000 in
theorem gk_f187_22 : gd_fetch 187 22 = some (22, .bipush 20, 2, 0, 0, 0, 0, 0) := rfl
set_option maxRecDepth 20000 in
theorem gk_f187_24 : gd_fetch 187 24 = some (24, .if_icmp .lt 9, 3, 0, 0, 0, 0, 0) := rfl
set_option maxRecDepth 20000 in
theorem gk_f187_27 : gd_fetch 187 27 = some (27, .aload_n 0, 1, 0, 0, 0, 0, 0) := rfl
set_option maxRecDepth 20000 in
theorem gk_f187_28 : gd_fetch 187 28 = some (28, .iload_n 1, 1, 0, 0, 0, 0, 0) := rfl
set_option maxRecDepth 20000 in
theorem gk_f187_29 : gd_fetch 187 29 = some (29, .invokevirtual 305, 3, 946, 186, 1, 0, 0) := rfl
set_option maxRecDepth 20000 in
theorem gk_f187_32 : gd_fetch 187 32 = some (32, .ireturn, 1, 0, 0, 0, 0, 0) := rfl
set_option maxRecDepth 20000 in
theorem gk_f187_33 : gd_fetch 187 33 = some (33, .iload_n 1, 1, 0, 0, 0, 0, 0) := rfl
set_option maxRecDepth 20000 in
theorem gk_f187_34 : gd_fetch 187 34 = some (34, .tableswitch 122 0 15 #[78, 86, 94, 122, 122, 122, 122, 122, 122, 122, 122, 122, 102, 107, 112, 117], 78, 0, 0, 0, 0, 0) := rfl
set_option maxRecDepth 20000 in
theorem gk_f187_112 : gd_fetch 187 112 = some (112, .aload_n 0, 1, 0, 0, 0, 0, 0) := rfl
set_option maxRecDepth 20000 in
theorem gk_f187_113 : gd_fetch 187 113 = some (113, .getfield 56, 3, 469, 6, 9, 4, 0) := rfl
set_option maxRecDepth 20000 in
theorem gk_f187_116 : gd_fetch 187 116 = some (116, .getfield 79, 3, 354, 1, 12, 0, 0) := rfl
set_option maxRecDepth 20000 in
theorem gk_f187_119 : gd_fetch 187 119 = some (119, .ireturn, 1, 0, 0, 0, 0, 0) := rfl
set_option maxRecDepth 20000 in
theorem gk_f187_120 : gd_fetch 187 120 = some (120, .aload_n 0, 1, 0, 0, 0, 0, 0) := rfl
set_option maxRecDepth 20000 in
theorem gk_f187_121 : gd_fetch 187 121 = some (121, .getfield 56, 3, 469, 6, 9, 4, 0) := rfl
set_option maxRecDepth 20000 in
theorem gk_f187_124 : gd_fetch 187 124 = some (124, .getfield 308, 3, 357, 1, 13, 0, 0) := rfl
set_option maxRecDepth 20000 in
theorem gk_f187_127 : gd_fetch 187 127 = some (127, .ireturn, 1, 0, 0, 0, 0, 0) := rfl
set_option maxRecDepth 20000 in
theorem gk_f187_128 : gd_fetch 187 128 = some (128, .aload_n 0, 1, 0, 0, 0, 0, 0) := rfl
set_option maxRecDepth 20000 in
theorem gk_f187_129 : gd_fetch 187 129 = some (129, .getfield 56, 3, 469, 6, 9, 4, 0) := rfl
set_option maxRecDepth 20000 in
theorem gk_f187_132 : gd_fetch 187 132 = some (132, .getfield 164, 3, 361, 1, 14, 0, 0) := rfl
set_option maxRecDepth 20000 in
theorem gk_f187_135 : gd_fetch 187 135 = some (135, .ireturn, 1, 0, 0, 0, 0, 0) := rfl
set_option maxRecDepth 20000 in
theorem gk_f187_136 : gd_fetch 187 136 = some (136, .aload_n 0, 1, 0, 0, 0, 0, 0) := rfl
set_option maxRecDepth 20000 in
theorem gk_f187_137 : gd_fetch 187 137 = some (137, .getfield 86, 3, 472, 6, 12, 0, 0) := rfl
set_option maxRecDepth 20000 in
theorem gk_f187_140 : gd_fetch 187 140 = some (140, .ireturn, 1, 0, 0, 0, 0, 0) := rfl
set_option maxRecDepth 20000 in
theorem gk_f187_141 : gd_fetch 187 141 = some (141, .aload_n 0, 1, 0, 0, 0, 0, 0) := rfl
set_option maxRecDepth 20000 in
theorem gk_f187_142 : gd_fetch 187 142 = some (142, .getfield 64, 3, 471, 6, 11, 0, 0) := rfl
set_option maxRecDepth 20000 in
theorem gk_f187_145 : gd_fetch 187 145 = some (145, .ireturn, 1, 0, 0, 0, 0, 0) := rfl
set_option maxRecDepth 20000 in
theorem gk_f187_146 : gd_fetch 187 146 = some (146, .aload_n 0, 1, 0, 0, 0, 0, 0) := rfl
set_option maxRecDepth 20000 in
theorem gk_f187_147 : gd_fetch 187 147 = some (147, .getfield 89, 3, 473, 6, 13, 0, 0) := rfl
set_option maxRecDepth 20000 in
theorem gk_f187_150 : gd_fetch 187 150 = some (150, .ireturn, 1, 0, 0, 0, 0, 0) := rfl
set_option maxRecDepth 20000 in
theorem gk_f187_151 : gd_fetch 187 151 = some (151, .aload_n 0, 1, 0, 0, 0, 0, 0) := rfl
set_option maxRecDepth 20000 in
theorem gk_f187_152 : gd_fetch 187 152 = some (152, .getfield 92, 3, 474, 6, 14, 0, 0) := rfl
set_option maxRecDepth 20000 in
theorem gk_f187_155 : gd_fetch 187 155 = some (155, .ireturn, 1, 0, 0, 0, 0, 0) := rfl
set_option maxRecDepth 20000 in
theorem gk_f187_156 : gd_fetch 187 156 = some (156, .iconst (-1), 1, 0, 0, 0, 0, 0) := rfl
set_option maxRecDepth 20000 in
theorem gk_f187_157 : gd_fetch 187 157 = some (157, .ireturn, 1, 0, 0, 0, 0, 0) := rfl
set_option maxRecDepth 20000 in
set_option maxHeartbeats 4000000 in
theorem q_X_count (r0 : Nat) (x1 : Int32) (m : gd_M) : gd_call 187 [.ref r0, .int x1] m = if (x1 < 3 : Prop) then (if (x1 < 20 : Prop) then (if x1 = 0 then (if gd_ok (gN m) r0 6 = true then (if gd_ok (gN m) (gR m r0 9) 1 = true then (some (.int (gI m (gR m r0 9) 12), m)) else none) else none) else if x1 = 1 then (if gd_ok (gN m) r0 6 = true then (if gd_ok (gN m) (gR m r0 9) 1 = true then (some (.int (gI m (gR m r0 9) 13), m)) else none) else none) else if x1 = 2 then (if gd_ok (gN m) r0 6 = true then (if gd_ok (gN m) (gR m r0 9) 1 = true then (some (.int (gI m (gR m r0 9) 14), m)) else none) else none) else if x1 = 3 then (some (.int (-1), m)) else if x1 = 4 then (some (.int (-1), m)) else if x1 = 5 then (some (.int (-1), m)) else if x1 = 6 then (some (.int (-1), m)) else if x1 = 7 then (some (.int (-1), m)) else if x1 = 8 then (some (.int (-1), m)) else if x1 = 9 then (some (.int (-1), m)) else if x1 = 10 then (some (.int (-1), m)) else if x1 = 11 then (some (.int (-1), m)) else if x1 = 12 then (if gd_ok (gN m) r0 6 = true then (some (.int (gI m r0 12), m)) else none) else if x1 = 13 then (if gd_ok (gN m) r0 6 = true then (some (.int (gI m r0 11), m)) else none) else if x1 = 14 then (if gd_ok (gN m) r0 6 = true then (some (.int (gI m r0 13), m)) else none) else if x1 = 15 then (if gd_ok (gN m) r0 6 = true then (some (.int (gI m r0 14), m)) else none) else (some (.int (-1), m))) else (if gd_ok (gN m) r0 6 = true then ((gd_call 186 [.ref r0, .int x1] m).bind (gd_kI fun z50 m48 => some (.int z50, m48))) else none)) else (if (x1 < 12 : Prop) then (if gd_ok (gN m) r0 6 = true then (if gd_ok (gN m) (gR m r0 9) 1 = true then (if gd_okA (gN m) (gR m (gR m r0 9) 11) 10 x1 = true then (some (.int (gI m (gR m (gR m r0 9) 11) (x1 : Int32).toNatClampNeg), m)) else none) else none) else none) else (if (x1 < 20 : Prop) then (if x1 = 0 then (if gd_ok (gN m) r0 6 = true then (if gd_ok (gN m) (gR m r0 9) 1 = true then (some (.int (gI m (gR m r0 9) 12), m)) else none) else none) else if x1 = 1 then (if gd_ok (gN m) r0 6 = true then (if gd_ok (gN m) (gR m r0 9) 1 = true then (some (.int (gI m (gR m r0 9) 13), m)) else none) else none) else if x1 = 2 then (if gd_ok (gN m) r0 6 = true then (if gd_ok (gN m) (gR m r0 9) 1 = true then (some (.int (gI m (gR m r0 9) 14), m)) else none) else none) else if x1 = 3 then (some (.int (-1), m)) else if x1 = 4 then (some (.int (-1), m)) else if x1 = 5 then (some (.int (-1), m)) else if x1 = 6 then (some (.int (-1), m)) else if x1 = 7 then (some (.int (-1), m)) else if x1 = 8 then (some (.int (-1), m)) else if x1 = 9 then (some (.int (-1), m)) else if x1 = 10 then (some (.int (-1), m)) else if x1 = 11 then (some (.int (-1), m)) else if x1 = 12 then (if gd_ok (gN m) r0 6 = true then (some (.int (gI m r0 12), m)) else none) else if x1 = 13 then (if gd_ok (gN m) r0 6 = true then (some (.int (gI m r0 11), m)) else none) else if x1 = 14 then (if gd_ok (gN m) r0 6 = true then (some (.int (gI m r0 13), m)) else none) else if x1 = 15 then (if gd_ok (gN m) r0 6 = true then (some (.int (gI m r0 14), m)) else none) else (some (.int (-1), m))) else (if gd_ok (gN m) r0 6 = true then ((gd_call 186 [.ref r0, .int x1] m).bind (gd_kI fun z103 m101 => some (.int z103, m101))) else none))) := by
  refine Eq.trans (show gd_call 187 [.ref r0, .int x1] m = gd_Den (187, 0, [.ref r0, .int x1], [], m) from by unfold gd_call gd_ent; rw [gk_ml187]; rfl) ?_
  refine Eq.trans (D_iload_n (x := x1) gk_f187_0 rfl) ?_
  refine Eq.trans (D_iconst (x := 3) gk_f187_1 gk_c_3) ?_
  refine Eq.trans (D_ic_lt (t := 21) gk_f187_2 (by decide)) ?_
  refine gd_ite (fun h1 => ?_) (fun h2 => ?_)
  · refine Eq.trans (D_iload_n (x := x1) gk_f187_21 rfl) ?_
    refine Eq.trans (D_bipush (x := 20) gk_f187_22 gk_b_20) ?_
    refine Eq.trans (D_ic_lt (t := 33) gk_f187_24 (by decide)) ?_
    refine gd_ite (fun h3 => ?_) (fun h4 => ?_)
    · refine Eq.trans (D_iload_n (x := x1) gk_f187_33 rfl) ?_
      refine Eq.trans (D_tsw (vs := [(0, 112), (1, 120), (2, 128), (3, 156), (4, 156), (5, 156), (6, 156), (7, 156), (8, 156), (9, 156), (10, 156), (11, 156), (12, 136), (13, 141), (14, 146), (15, 151)]) (t := 156) gk_f187_34 (by decide) (by decide)) ?_
      refine gd_ite (fun h5 => ?_) (fun h6 => ?_)
      · refine Eq.trans (D_aload_n (x := r0) gk_f187_112 rfl) ?_
        refine Eq.trans (D_gfR gk_f187_113 (by decide)) ?_
        refine gd_ite (fun h7 => ?_) (fun _ => rfl)
        refine Eq.trans (D_gfI gk_f187_116 (by decide) (by decide) (by decide)) ?_
        refine gd_ite (fun h8 => ?_) (fun _ => rfl)
        refine Eq.trans (D_ireturn gk_f187_119 gk_rk187) ?_
        rfl
      refine gd_ite (fun h9 => ?_) (fun h10 => ?_)
      · refine Eq.trans (D_aload_n (x := r0) gk_f187_120 rfl) ?_
        refine Eq.trans (D_gfR gk_f187_121 (by decide)) ?_
        refine gd_ite (fun h11 => ?_) (fun _ => rfl)
        refine Eq.trans (D_gfI gk_f187_124 (by decide) (by decide) (by decide)) ?_
        refine gd_ite (fun h12 => ?_) (fun _ => rfl)
        refine Eq.trans (D_ireturn gk_f187_127 gk_rk187) ?_
        rfl
      refine gd_ite (fun h13 => ?_) (fun h14 => ?_)
      · refine Eq.trans (D_aload_n (x := r0) gk_f187_128 rfl) ?_
        refine Eq.trans (D_gfR gk_f187_129 (by decide)) ?_
        refine gd_ite (fun h15 => ?_) (fun _ => rfl)
        refine Eq.trans (D_gfI gk_f187_132 (by decide) (by decide) (by decide)) ?_
        refine gd_ite (fun h16 => ?_) (fun _ => rfl)
        refine Eq.trans (D_ireturn gk_f187_135 gk_rk187) ?_
        rfl
      refine gd_ite (fun h17 => ?_) (fun h18 => ?_)
      · refine Eq.trans (D_iconst (x := (-1)) gk_f187_156 gk_c_m1) ?_
        refine Eq.trans (D_ireturn gk_f187_157 gk_rk187) ?_
        rfl
      refine gd_ite (fun h19 => ?_) (fun h20 => ?_)
      · refine Eq.trans (D_iconst (x := (-1)) gk_f187_156 gk_c_m1) ?_
        refine Eq.trans (D_ireturn gk_f187_157 gk_rk187) ?_
        rfl
      refine gd_ite (fun h21 => ?_) (fun h22 => ?_)
      · refine Eq.trans (D_iconst (x := (-1)) gk_f187_156 gk_c_m1) ?_
        refine Eq.trans (D_ireturn gk_f187_157 gk_rk187) ?_
        rfl
      refine gd_ite (fun h23 => ?_) (fun h24 => ?_)
      · refine Eq.trans (D_iconst (x := (-1)) gk_f187_156 gk_c_m1) ?_
        refine Eq.trans (D_ireturn gk_f187_157 gk_rk187) ?_
        rfl
      refine gd_ite (fun h25 => ?_) (fun h26 => ?_)
      · refine Eq.trans (D_iconst (x := (-1)) gk_f187_156 gk_c_m1) ?_
        refine Eq.trans (D_ireturn gk_f187_157 gk_rk187) ?_
        rfl
      refine gd_ite (fun h27 => ?_) (fun h28 => ?_)
      · refine Eq.trans (D_iconst (x := (-1)) gk_f187_156 gk_c_m1) ?_
        refine Eq.trans (D_ireturn gk_f187_157 gk_rk187) ?_
        rfl
      refine gd_ite (fun h29 => ?_) (fun h30 => ?_)
      · refine Eq.trans (D_iconst (x := (-1)) gk_f187_156 gk_c_m1) ?_
        refine Eq.trans (D_ireturn gk_f187_157 gk_rk187) ?_
        rfl
      refine gd_ite (fun h31 => ?_) (fun h32 => ?_)
      · refine Eq.trans (D_iconst (x := (-1)) gk_f187_156 gk_c_m1) ?_
        refine Eq.trans (D_ireturn gk_f187_157 gk_rk187) ?_
        rfl
      refine gd_ite (fun h33 => ?_) (fun h34 => ?_)
      · refine Eq.trans (D_iconst (x := (-1)) gk_f187_156 gk_c_m1) ?_
        refine Eq.trans (D_ireturn gk_f187_157 gk_rk187) ?_
        rfl
      refine gd_ite (fun h35 => ?_) (fun h36 => ?_)
      · refine Eq.trans (D_aload_n (x := r0) gk_f187_136 rfl) ?_
        refine Eq.trans (D_gfI gk_f187_137 (by decide) (by decide) (by decide)) ?_
        refine gd_ite (fun h37 => ?_) (fun _ => rfl)
        refine Eq.trans (D_ireturn gk_f187_140 gk_rk187) ?_
        rfl
      refine gd_ite (fun h38 => ?_) (fun h39 => ?_)
      · refine Eq.trans (D_aload_n (x := r0) gk_f187_141 rfl) ?_
        refine Eq.trans (D_gfI gk_f187_142 (by decide) (by decide) (by decide)) ?_
        refine gd_ite (fun h40 => ?_) (fun _ => rfl)
        refine Eq.trans (D_ireturn gk_f187_145 gk_rk187) ?_
        rfl
      refine gd_ite (fun h41 => ?_) (fun h42 => ?_)
      · refine Eq.trans (D_aload_n (x := r0) gk_f187_146 rfl) ?_
        refine Eq.trans (D_gfI gk_f187_147 (by decide) (by decide) (by decide)) ?_
        refine gd_ite (fun h43 => ?_) (fun _ => rfl)
        refine Eq.trans (D_ireturn gk_f187_150 gk_rk187) ?_
        rfl
      refine gd_ite (fun h44 => ?_) (fun h45 => ?_)
      · refine Eq.trans (D_aload_n (x := r0) gk_f187_151 rfl) ?_
        refine Eq.trans (D_gfI gk_f187_152 (by decide) (by decide) (by decide)) ?_
        refine gd_ite (fun h46 => ?_) (fun _ => rfl)
        refine Eq.trans (D_ireturn gk_f187_155 gk_rk187) ?_
        rfl
      refine Eq.trans (D_iconst (x := (-1)) gk_f187_156 gk_c_m1) ?_
      refine Eq.trans (D_ireturn gk_f187_157 gk_rk187) ?_
      rfl
    · refine Eq.trans (D_aload_n (x := r0) gk_f187_27 rfl) ?_
      refine Eq.trans (D_iload_n (x := x1) gk_f187_28 rfl) ?_
      refine Eq.trans (D_ivI (cl := 6) (args := [.ref r0, .int x1]) (rest := []) gk_f187_29 rfl rfl (gd_rmk gk_rm187_186 gk_ln186 gk_ml186 rfl rfl rfl) gk_rk186 (gd_hnd_n gk_nc187) gk_nc186 gk_n11_186 gk_cl186) ?_
      refine gd_ite (fun h47 => ?_) (fun _ => rfl)
      refine gd_bnd (gd_kI_c fun z50 m48 => ?_)
      refine Eq.trans (D_ireturn gk_f187_32 gk_rk187) ?_
      rfl
  · refine Eq.trans (D_iload_n (x := x1) gk_f187_5 rfl) ?_
    refine Eq.trans (D_bipush (x := 12) gk_f187_6 gk_b_12) ?_
    refine Eq.trans (D_ic_ge (t := 21) gk_f187_8 (by decide)) ?_
    refine gd_ite (fun h51 => ?_) (fun h52 => ?_)
    · refine Eq.trans (D_aload_n (x := r0) gk_f187_11 rfl) ?_
      refine Eq.trans (D_gfR gk_f187_12 (by decide)) ?_
      refine gd_ite (fun h53 => ?_) (fun _ => rfl)
      refine Eq.trans (D_gfR gk_f187_15 (by decide)) ?_
      refine gd_ite (fun h54 => ?_) (fun _ => rfl)
      refine Eq.trans (D_iload_n (x := x1) gk_f187_18 rfl) ?_
      refine Eq.trans (D_iald gk_f187_19 gk_n10_187) ?_
      refine gd_ite (fun h55 => ?_) (fun _ => rfl)
      refine Eq.trans (D_ireturn gk_f187_20 gk_rk187) ?_
      rfl
    · refine Eq.trans (D_iload_n (x := x1) gk_f187_21 rfl) ?_
      refine Eq.trans (D_bipush (x := 20) gk_f187_22 gk_b_20) ?_
      refine Eq.trans (D_ic_lt (t := 33) gk_f187_24 (by decide)) ?_
      refine gd_ite (fun h56 => ?_) (fun h57 => ?_)
      · refine Eq.trans (D_iload_n (x := x1) gk_f187_33 rfl) ?_
        refine Eq.trans (D_tsw (vs := [(0, 112), (1, 120), (2, 128), (3, 156), (4, 156), (5, 156), (6, 156), (7, 156), (8, 156), (9, 156), (10, 156), (11, 156), (12, 136), (13, 141), (14, 146), (15, 151)]) (t := 156) gk_f187_34 (by decide) (by decide)) ?_
        refine gd_ite (fun h58 => ?_) (fun h59 => ?_)
        · refine Eq.trans (D_aload_n (x := r0) gk_f187_112 rfl) ?_
          refine Eq.trans (D_gfR gk_f187_113 (by decide)) ?_
          refine gd_ite (fun h60 => ?_) (fun _ => rfl)
          refine Eq.trans (D_gfI gk_f187_116 (by decide) (by decide) (by decide)) ?_
          refine gd_ite (fun h61 => ?_) (fun _ => rfl)
          refine Eq.trans (D_ireturn gk_f187_119 gk_rk187) ?_
          rfl
        refine gd_ite (fun h62 => ?_) (fun h63 => ?_)
        · refine Eq.trans (D_aload_n (x := r0) gk_f187_120 rfl) ?_
          refine Eq.trans (D_gfR gk_f187_121 (by decide)) ?_
          refine gd_ite (fun h64 => ?_) (fun _ => rfl)
          refine Eq.trans (D_gfI gk_f187_124 (by decide) (by decide) (by decide)) ?_
          refine gd_ite (fun h65 => ?_) (fun _ => rfl)
          refine Eq.trans (D_ireturn gk_f187_127 gk_rk187) ?_
          rfl
        refine gd_ite (fun h66 => ?_) (fun h67 => ?_)
        · refine Eq.trans (D_aload_n (x := r0) gk_f187_128 rfl) ?_
          refine Eq.trans (D_gfR gk_f187_129 (by decide)) ?_
          refine gd_ite (fun h68 => ?_) (fun _ => rfl)
          refine Eq.trans (D_gfI gk_f187_132 (by decide) (by decide) (by decide)) ?_
          refine gd_ite (fun h69 => ?_) (fun _ => rfl)
          refine Eq.trans (D_ireturn gk_f187_135 gk_rk187) ?_
          rfl
        refine gd_ite (fun h70 => ?_) (fun h71 => ?_)
        · refine Eq.trans (D_iconst (x := (-1)) gk_f187_156 gk_c_m1) ?_
          refine Eq.trans (D_ireturn gk_f187_157 gk_rk187) ?_
          rfl
        refine gd_ite (fun h72 => ?_) (fun h73 => ?_)
        · refine Eq.trans (D_iconst (x := (-1)) gk_f187_156 gk_c_m1) ?_
          refine Eq.trans (D_ireturn gk_f187_157 gk_rk187) ?_
          rfl
        refine gd_ite (fun h74 => ?_) (fun h75 => ?_)
        · refine Eq.trans (D_iconst (x := (-1)) gk_f187_156 gk_c_m1) ?_
          refine Eq.trans (D_ireturn gk_f187_157 gk_rk187) ?_
          rfl
        refine gd_ite (fun h76 => ?_) (fun h77 => ?_)
        · refine Eq.trans (D_iconst (x := (-1)) gk_f187_156 gk_c_m1) ?_
          refine Eq.trans (D_ireturn gk_f187_157 gk_rk187) ?_
          rfl
        refine gd_ite (fun h78 => ?_) (fun h79 => ?_)
        · refine Eq.trans (D_iconst (x := (-1)) gk_f187_156 gk_c_m1) ?_
          refine Eq.trans (D_ireturn gk_f187_157 gk_rk187) ?_
          rfl
        refine gd_ite (fun h80 => ?_) (fun h81 => ?_)
        · refine Eq.trans (D_iconst (x := (-1)) gk_f187_156 gk_c_m1) ?_
          refine Eq.trans (D_ireturn gk_f187_157 gk_rk187) ?_
          rfl
        refine gd_ite (fun h82 => ?_) (fun h83 => ?_)
        · refine Eq.trans (D_iconst (x := (-1)) gk_f187_156 gk_c_m1) ?_
          refine Eq.trans (D_ireturn gk_f187_157 gk_rk187) ?_
          rfl
        refine gd_ite (fun h84 => ?_) (fun h85 => ?_)
        · refine Eq.trans (D_iconst (x := (-1)) gk_f187_156 gk_c_m1) ?_
          refine Eq.trans (D_ireturn gk_f187_157 gk_rk187) ?_
          rfl
        refine gd_ite (fun h86 => ?_) (fun h87 => ?_)
        · refine Eq.trans (D_iconst (x := (-1)) gk_f187_156 gk_c_m1) ?_
          refine Eq.trans (D_ireturn gk_f187_157 gk_rk187) ?_
          rfl
        refine gd_ite (fun h88 => ?_) (fun h89 => ?_)
        · refine Eq.trans (D_aload_n (x := r0) gk_f187_136 rfl) ?_
          refine Eq.trans (D_gfI gk_f187_137 (by decide) (by decide) (by decide)) ?_
          refine gd_ite (fun h90 => ?_) (fun _ => rfl)
          refine Eq.trans (D_ireturn gk_f187_140 gk_rk187) ?_
          rfl
        refine gd_ite (fun h91 => ?_) (fun h92 => ?_)
        · refine Eq.trans (D_aload_n (x := r0) gk_f187_141 rfl) ?_
          refine Eq.trans (D_gfI gk_f187_142 (by decide) (by decide) (by decide)) ?_
          refine gd_ite (fun h93 => ?_) (fun _ => rfl)
          refine Eq.trans (D_ireturn gk_f187_145 gk_rk187) ?_
          rfl
        refine gd_ite (fun h94 => ?_) (fun h95 => ?_)
        · refine Eq.trans (D_aload_n (x := r0) gk_f187_146 rfl) ?_
          refine Eq.trans (D_gfI gk_f187_147 (by decide) (by decide) (by decide)) ?_
          refine gd_ite (fun h96 => ?_) (fun _ => rfl)
          refine Eq.trans (D_ireturn gk_f187_150 gk_rk187) ?_
          rfl
        refine gd_ite (fun h97 => ?_) (fun h98 => ?_)
        · refine Eq.trans (D_aload_n (x := r0) gk_f187_151 rfl) ?_
          refine Eq.trans (D_gfI gk_f187_152 (by decide) (by decide) (by decide)) ?_
          refine gd_ite (fun h99 => ?_) (fun _ => rfl)
          refine Eq.trans (D_ireturn gk_f187_155 gk_rk187) ?_
          rfl
        refine Eq.trans (D_iconst (x := (-1)) gk_f187_156 gk_c_m1) ?_
        refine Eq.trans (D_ireturn gk_f187_157 gk_rk187) ?_
        rfl
      · refine Eq.trans (D_aload_n (x := r0) gk_f187_27 rfl) ?_
        refine Eq.trans (D_iload_n (x := x1) gk_f187_28 rfl) ?_
        refine Eq.trans (D_ivI (cl := 6) (args := [.ref r0, .int x1]) (rest := []) gk_f187_29 rfl rfl (gd_rmk gk_rm187_186 gk_ln186 gk_ml186 rfl rfl rfl) gk_rk186 (gd_hnd_n gk_nc187) gk_nc186 gk_n11_186 gk_cl186) ?_
        refine gd_ite (fun h100 => ?_) (fun _ => rfl)
        refine gd_bnd (gd_kI_c fun z103 m101 => ?_)
        refine Eq.trans (D_ireturn gk_f187_32 gk_rk187) ?_
        rfl
/-! GymDeskModel.count (I)I -/
set_option maxRecDepth 20000 in
theorem gk_f188_0 : gd_fetch 188 0 = some (0, .iconst 0, 1, 0, 0, 0, 0, 0) := rfl
set_option maxRecDepth 20000 in
theorem gk_f188_1 : gd_fetch 188 1 = some (1, .istore_n 2, 1, 0, 0, 0, 0, 0) := rfl
set_option maxRecDepth 20000 in
theorem gk_f188_2 : gd_fetch 188 2 = some (2, .iload_n 1, 1, 0, 0, 0, 0, 0) := rfl
set_option maxRecDepth 20000 in
theorem gk_f188_3 : gd_fetch 188 3 = some (3, .tableswitch 224 0 15 #[77, 85, 93, 101, 109, 117, 125, 133, 141, 149, 157, 165, 173, 178, 183, 188], 77, 0, 0, 0, 0, 0) := rfl
set_option maxRecDepth 20000 in
theorem gk_f188_80 : gd_fetch 188 80 = some (80, .aload_n 0, 1, 0, 0, 0, 0, 0) := rfl
set_option maxRecDepth 20000 in
theorem gk_f188_81 : gd_fetch 188 81 = some (81, .getfield 19, 3, 1164, 9, 1, 4, 0) := rfl
set_option maxRecDepth 20000 in
theorem gk_f188_84 : gd_fetch 188 84 = some (84, .getfield 196, 3, 1031, 7, 0, 0, 0) := rfl
set_option maxRecDepth 20000 in
theorem gk_f188_87 : gd_fetch 188 87 = some (87, .ireturn, 1, 0, 0, 0, 0, 0) := rfl
set_option maxRecDepth 20000 in
theorem gk_f188_88 : gd_fetch 188 88 = some (88, .aload_n 0, 1, 0, 0, 0, 0, 0) := rfl
set_option maxRecDepth 20000 in
theorem gk_f188_89 : gd_fetch 188 89 = some (89, .getfield 19, 3, 1164, 9, 1, 4, 0) := rfl
set_option maxRecDepth 20000 in
theorem gk_f188_92 : gd_fetch 188 92 = some (92, .getfield 229, 3, 1033, 7, 1, 0, 0) := rfl
set_option maxRecDepth 20000 in
theorem gk_f188_95 : gd_fetch 188 95 = some (95, .ireturn, 1, 0, 0, 0, 0, 0) := rfl
set_option maxRecDepth 20000 in
theorem gk_f188_96 : gd_fetch 188 96 = some (96, .aload_n 0, 1, 0, 0, 0, 0, 0) := rfl
set_option maxRecDepth 20000 in
theorem gk_f188_97 : gd_fetch 188 97 = some (97, .getfield 19, 3, 1164, 9, 1, 4, 0) := rfl
set_option maxRecDepth 20000 in
theorem gk_f188_100 : gd_fetch 188 100 = some (100, .getfield 241, 3, 1035, 7, 2, 0, 0) := rfl
set_option maxRecDepth 20000 in
theorem gk_f188_103 : gd_fetch 188 103 = some (103, .ireturn, 1, 0, 0, 0, 0, 0) := rfl
set_option maxRecDepth 20000 in
theorem gk_f188_104 : gd_fetch 188 104 = some (104, .aload_n 0, 1, 0, 0, 0, 0, 0) := rfl
set_option maxRecDepth 20000 in
theorem gk_f188_105 : gd_fetch 188 105 = some (105, .getfield 19, 3, 1164, 9, 1, 4, 0) := rfl
set_option maxRecDepth 20000 in
theorem gk_f188_108 : gd_fetch 188 108 = some (108, .getfield 300, 3, 1073, 7, 21, 0, 0) := rfl
set_option maxRecDepth 20000 in
theorem gk_f188_111 : gd_fetch 188 111 = some (111, .ireturn, 1, 0, 0, 0, 0, 0) := rfl
set_option maxRecDepth 20000 in
theorem gk_f188_112 : gd_fetch 188 112 = some (112, .aload_n 0, 1, 0, 0, 0, 0, 0) := rfl
set_option maxRecDepth 20000 in
theorem gk_f188_113 : gd_fetch 188 113 = some (113, .getfield 19, 3, 1164, 9, 1, 4, 0) := rfl
set_option maxRecDepth 20000 in
theorem gk_f188_116 : gd_fetch 188 116 = some (116, .getfield 303, 3, 1075, 7, 22, 0, 0) := rfl
set_option maxRecDepth 20000 in
theorem gk_f188_119 : gd_fetch 188 119 = some (119, .ireturn, 1, 0, 0, 0, 0, 0) := rfl
set_option maxRecDepth 20000 in
theorem gk_f188_120 : gd_fetch 188 120 = some (120, .aload_n 0, 1, 0, 0, 0, 0, 0) := rfl
set_option maxRecDepth 20000 in
theorem gk_f188_121 : gd_fetch 188 121 = some (121, .getfield 19, 3, 1164, 9, 1, 4, 0) := rfl
set_option maxRecDepth 20000 in
theorem gk_f188_124 : gd_fetch 188 124 = some (124, .getfield 285, 3, 1067, 7, 18, 0, 0) := rfl
set_option maxRecDepth 20000 in
theorem gk_f188_127 : gd_fetch 188 127 = some (127, .ireturn, 1, 0, 0, 0, 0, 0) := rfl
set_option maxRecDepth 20000 in
theorem gk_f188_128 : gd_fetch 188 128 = some (128, .aload_n 0, 1, 0, 0, 0, 0, 0) := rfl
set_option maxRecDepth 20000 in
theorem gk_f188_129 : gd_fetch 188 129 = some (129, .getfield 19, 3, 1164, 9, 1, 4, 0) := rfl
set_option maxRecDepth 20000 in
theorem gk_f188_132 : gd_fetch 188 132 = some (132, .getfield 291, 3, 1069, 7, 19, 0, 0) := rfl
set_option maxRecDepth 20000 in
theorem gk_f188_135 : gd_fetch 188 135 = some (135, .ireturn, 1, 0, 0, 0, 0, 0) := rfl
set_option maxRecDepth 20000 in
theorem gk_f188_136 : gd_fetch 188 136 = some (136, .aload_n 0, 1, 0, 0, 0, 0, 0) := rfl
set_option maxRecDepth 20000 in
theorem gk_f188_137 : gd_fetch 188 137 = some (137, .getfield 19, 3, 1164, 9, 1, 4, 0) := rfl
set_option maxRecDepth 20000 in
theorem gk_f188_140 : gd_fetch 188 140 = some (140, .getfield 294, 3, 1071, 7, 20, 0, 0) := rfl
set_option maxRecDepth 20000 in
theorem gk_f188_143 : gd_fetch 188 143 = some (143, .ireturn, 1, 0, 0, 0, 0, 0) := rfl
set_option maxRecDepth 20000 in
theorem gk_f188_144 : gd_fetch 188 144 = some (144, .aload_n 0, 1, 0, 0, 0, 0, 0) := rfl
set_option maxRecDepth 20000 in
theorem gk_f188_145 : gd_fetch 188 145 = some (145, .getfield 19, 3, 1164, 9, 1, 4, 0) := rfl
set_option maxRecDepth 20000 in
theorem gk_f188_148 : gd_fetch 188 148 = some (148, .getfield 309, 3, 1077, 7, 23, 0, 0) := rfl
set_option maxRecDepth 20000 in
theorem gk_f188_151 : gd_fetch 188 151 = some (151, .ireturn, 1, 0, 0, 0, 0, 0) := rfl
set_option maxRecDepth 20000 in
theorem gk_f188_152 : gd_fetch 188 152 = some (152, .aload_n 0, 1, 0, 0, 0, 0, 0) := rfl
set_option maxRecDepth 20000 in
theorem gk_f188_153 : gd_fetch 188 153 = some (153, .getfield 19, 3, 1164, 9, 1, 4, 0) := rfl
set_option maxRecDepth 20000 in
theorem gk_f188_156 : gd_fetch 188 156 = some (156, .getfield 312, 3, 1079, 7, 24, 0, 0) := rfl
set_option maxRecDepth 20000 in
theorem gk_f188_159 : gd_fetch 188 159 = some (159, .ireturn, 1, 0, 0, 0, 0, 0) := rfl
set_option maxRecDepth 20000 in
theorem gk_f188_160 : gd_fetch 188 160 = some (160, .aload_n 0, 1, 0, 0, 0, 0, 0) := rfl
set_option maxRecDepth 20000 in
theorem gk_f188_161 : gd_fetch 188 161 = some (161, .getfield 19, 3, 1164, 9, 1, 4, 0) := rfl
set_option maxRecDepth 20000 in
theorem gk_f188_164 : gd_fetch 188 164 = some (164, .getfield 317, 3, 1081, 7, 25, 0, 0) := rfl
set_option maxRecDepth 20000 in
theorem gk_f188_167 : gd_fetch 188 167 = some (167, .ireturn, 1, 0, 0, 0, 0, 0) := rfl
set_option maxRecDepth 20000 in
theorem gk_f188_168 : gd_fetch 188 168 = some (168, .aload_n 0, 1, 0, 0, 0, 0, 0) := rfl
set_option maxRecDepth 20000 in
theorem gk_f188_169 : gd_fetch 188 169 = some (169, .getfield 19, 3, 1164, 9, 1, 4, 0) := rfl
set_option maxRecDepth 20000 in
theorem gk_f188_172 : gd_fetch 188 172 = some (172, .getfield 320, 3, 1083, 7, 26, 0, 0) := rfl
set_option maxRecDepth 20000 in
theorem gk_f188_175 : gd_fetch 188 175 = some (175, .ireturn, 1, 0, 0, 0, 0, 0) := rfl
set_option maxRecDepth 20000 in
theorem gk_f188_176 : gd_fetch 188 176 = some (176, .aload_n 0, 1, 0, 0, 0, 0, 0) := rfl
set_option maxRecDepth 20000 in
theorem gk_f188_177 : gd_fetch 188 177 = some (177, .getfield 326, 3, 1181, 9, 18, 0, 0) := rfl
set_option maxRecDepth 20000 in
theorem gk_f188_180 : gd_fetch 188 180 = some (180, .ireturn, 1, 0, 0, 0, 0, 0) := rfl
set_option maxRecDepth 20000 in
theorem gk_f188_181 : gd_fetch 188 181 = some (181, .aload_n 0, 1, 0, 0, 0, 0, 0) := rfl
set_option maxRecDepth 20000 in
theorem gk_f188_182 : gd_fetch 188 182 = some (182, .getfield 114, 3, 1167, 9, 4, 0, 0) := rfl
set_option maxRecDepth 20000 in
theorem gk_f188_185 : gd_fetch 188 185 = some (185, .ireturn, 1, 0, 0, 0, 0, 0) := rfl
set_option maxRecDepth 20000 in
theorem gk_f188_186 : gd_fetch 188 186 = some (186, .aload_n 0, 1, 0, 0, 0, 0, 0) := rfl
set_option maxRecDepth 20000 in
theorem gk_f188_187 : gd_fetch 188 187 = some (187, .getfield 329, 3, 1182, 9, 19, 0, 0) := rfl
set_option maxRecDepth 20000 in
theorem gk_f188_190 : gd_fetch 188 190 = some (190, .ireturn, 1, 0, 0, 0, 0, 0) := rfl
set_option maxRecDepth 20000 in
theorem gk_f188_191 : gd_fetch 188 191 = some (191, .iconst 0, 1, 0, 0, 0, 0, 0) := rfl
set_option maxRecDepth 20000 in
theorem gk_f188_192 : gd_fetch 188 192 = some (192, .istore_n 3, 1, 0, 0, 0, 0, 0) := rfl
set_option maxRecDepth 20000 in
theorem gk_f188_193 : gd_fetch 188 193 = some (193, .iload_n 3, 1, 0, 0, 0, 0, 0) := rfl
set_option maxRecDepth 20000 in
theorem gk_f188_194 : gd_fetch 188 194 = some (194, .iconst 4, 1, 0, 0, 0, 0, 0) := rfl
set_option maxRecDepth 20000 in
theorem gk_f188_195 : gd_fetch 188 195 = some (195, .aload_n 0, 1, 0, 0, 0, 0, 0) := rfl
set_option maxRecDepth 20000 in
theorem gk_f188_196 : gd_fetch 188 196 = some (196, .getfield 326, 3, 1181, 9, 18, 0, 0) := rfl
set_option maxRecDepth 20000 in
theorem gk_f188_199 : gd_fetch 188 199 = some (199, .imul, 1, 0, 0, 0, 0, 0) := rfl
set_option maxRecDepth 20000 in
theorem gk_f188_200 : gd_fetch 188 200 = some (200, .if_icmp .ge 25, 3, 0, 0, 0, 0, 0) := rfl
set_option maxRecDepth 20000 in
theorem gk_f188_203 : gd_fetch 188 203 = some (203, .iload_n 2, 1, 0, 0, 0, 0, 0) := rfl
set_option maxRecDepth 20000 in
theorem gk_f188_204 : gd_fetch 188 204 = some (204, .aload_n 0, 1, 0, 0, 0, 0, 0) := rfl
set_option maxRecDepth 20000 in
theorem gk_f188_205 : gd_fetch 188 205 = some (205, .iload_n 3, 1, 0, 0, 0, 0, 0) := rfl
set_option maxRecDepth 20000 in
theorem gk_f188_206 : gd_fetch 188 206 = some (206, .invokevirtual 372, 3, 1480, 149, 1, 0, 0) := rfl
set_option maxRecDepth 20000 in
theorem gk_f188_209 : gd_fetch 188 209 = some (209, .ifCond .eq 7, 3, 0, 0, 0, 0, 0) := rfl
set_option maxRecDepth 20000 in
theorem gk_f188_212 : gd_fetch 188 212 = some (212, .iconst 1, 1, 0, 0, 0, 0, 0) := rfl
set_option maxRecDepth 20000 in
theorem gk_f188_213 : gd_fetch 188 213 = some (213, .goto 4, 3, 0, 0, 0, 0, 0) := rfl
set_option maxRecDepth 20000 in
theorem gk_f188_216 : gd_fetch 188 216 = some (216, .iconst 0, 1, 0, 0, 0, 0, 0) := rfl
set_option maxRecDepth 20000 in
theorem gk_f188_217 : gd_fetch 188 217 = some (217, .iadd, 1, 0, 0, 0, 0, 0) := rfl
set_option maxRecDepth 20000 in
theorem gk_f188_218 : gd_fetch 188 218 = some (218, .istore_n 2, 1, 0, 0, 0, 0, 0) := rfl
set_option maxRecDepth 20000 in
theorem gk_f188_219 : gd_fetch 188 219 = some (219, .iinc 3 1, 3, 0, 0, 0, 0, 0) := rfl
set_option maxRecDepth 20000 in
theorem gk_f188_222 : gd_fetch 188 222 = some (222, .goto (-29), 3, 0, 0, 0, 0, 0) := rfl
set_option maxRecDepth 20000 in
theorem gk_f188_225 : gd_fetch 188 225 = some (225, .iload_n 2, 1, 0, 0, 0, 0, 0) := rfl
set_option maxRecDepth 20000 in
theorem gk_f188_226 : gd_fetch 188 226 = some (226, .ireturn, 1, 0, 0, 0, 0, 0) := rfl
set_option maxRecDepth 20000 in
theorem gk_f188_227 : gd_fetch 188 227 = some (227, .iload_n 1, 1, 0, 0, 0, 0, 0) := rfl
set_option maxRecDepth 20000 in
theorem gk_f188_228 : gd_fetch 188 228 = some (228, .bipush 20, 2, 0, 0, 0, 0, 0) := rfl
set_option maxRecDepth 20000 in
theorem gk_f188_230 : gd_fetch 188 230 = some (230, .bipush 24, 2, 0, 0, 0, 0, 0) := rfl
set_option maxRecDepth 20000 in
theorem gk_f188_232 : gd_fetch 188 232 = some (232, .invokestatic 192, 3, 1360, 71, 3, 0, 0) := rfl
set_option maxRecDepth 20000 in
theorem gk_f188_235 : gd_fetch 188 235 = some (235, .ifCond .eq 16, 3, 0, 0, 0, 0, 0) := rfl
set_option maxRecDepth 20000 in
theorem gk_f188_238 : gd_fetch 188 238 = some (238, .aload_n 0, 1, 0, 0, 0, 0, 0) := rfl
set_option maxRecDepth 20000 in
theorem gk_f188_239 : gd_fetch 188 239 = some (239, .getfield 19, 3, 1164, 9, 1, 4, 0) := rfl
set_option maxRecDepth 20000 in
theorem gk_f188_242 : gd_fetch 188 242 = some (242, .getfield 269, 3, 1061, 7, 15, 4, 1) := rfl
set_option maxRecDepth 20000 in
theorem gk_f188_245 : gd_fetch 188 245 = some (245, .iload_n 1, 1, 0, 0, 0, 0, 0) := rfl
set_option maxRecDepth 20000 in
theorem gk_f188_246 : gd_fetch 188 246 = some (246, .bipush 20, 2, 0, 0, 0, 0, 0) := rfl
set_option maxRecDepth 20000 in
theorem gk_f188_248 : gd_fetch 188 248 = some (248, .isub, 1, 0, 0, 0, 0, 0) := rfl
set_option maxRecDepth 20000 in
theorem gk_f188_249 : gd_fetch 188 249 = some (249, .iaload, 1, 0, 0, 0, 0, 0) := rfl
set_option maxRecDepth 20000 in
theorem gk_f188_250 : gd_fetch 188 250 = some (250, .ireturn, 1, 0, 0, 0, 0, 0) := rfl
set_option maxRecDepth 20000 in
theorem gk_f188_251 : gd_fetch 188 251 = some (251, .iload_n 1, 1, 0, 0, 0, 0, 0) := rfl
set_option maxRecDepth 20000 in
theorem gk_f188_252 : gd_fetch 188 252 = some (252, .bipush 30, 2, 0, 0, 0, 0, 0) := rfl
set_option maxRecDepth 20000 in
theorem gk_f188_254 : gd_fetch 188 254 = some (254, .bipush 34, 2, 0, 0, 0, 0, 0) := rfl
set_option maxRecDepth 20000 in
theorem gk_f188_256 : gd_fetch 188 256 = some (256, .invokestatic 192, 3, 1360, 71, 3, 0, 0) := rfl
set_option maxRecDepth 20000 in
theorem gk_f188_259 : gd_fetch 188 259 = some (259, .ifCond .eq 16, 3, 0, 0, 0, 0, 0) := rfl
set_option maxRecDepth 20000 in
theorem gk_f188_262 : gd_fetch 188 262 = some (262, .aload_n 0, 1, 0, 0, 0, 0, 0) := rfl
set_option maxRecDepth 20000 in
theorem gk_f188_263 : gd_fetch 188 263 = some (263, .getfield 19, 3, 1164, 9, 1, 4, 0) := rfl
set_option maxRecDepth 20000 in
theorem gk_f188_266 : gd_fetch 188 266 = some (266, .getfield 272, 3, 1063, 7, 16, 4, 1) := rfl
set_option maxRecDepth 20000 in
theorem gk_f188_269 : gd_fetch 188 269 = some (269, .iload_n 1, 1, 0, 0, 0, 0, 0) := rfl
set_option maxRecDepth 20000 in
theorem gk_f188_270 : gd_fetch 188 270 = some (270, .bipush 30, 2, 0, 0, 0, 0, 0) := rfl
set_option maxRecDepth 20000 in
theorem gk_f188_272 : gd_fetch 188 272 = some (272, .isub, 1, 0, 0, 0, 0, 0) := rfl
set_option maxRecDepth 20000 in
theorem gk_f188_273 : gd_fetch 188 273 = some (273, .iaload, 1, 0, 0, 0, 0, 0) := rfl
set_option maxRecDepth 20000 in
theorem gk_f188_274 : gd_fetch 188 274 = some (274, .ireturn, 1, 0, 0, 0, 0, 0) := rfl
set_option maxRecDepth 20000 in
theorem gk_f188_275 : gd_fetch 188 275 = some (275, .iload_n 1, 1, 0, 0, 0, 0, 0) := rfl
set_option maxRecDepth 20000 in
theorem gk_f188_276 : gd_fetch 188 276 = some (276, .bipush 40, 2, 0, 0, 0, 0, 0) := rfl
set_option maxRecDepth 20000 in
theorem gk_f188_278 : gd_fetch 188 278 = some (278, .bipush 44, 2, 0, 0, 0, 0, 0) := rfl
set_option maxRecDepth 20000 in
theorem gk_f188_280 : gd_fetch 188 280 = some (280, .invokestatic 192, 3, 1360, 71, 3, 0, 0) := rfl
set_option maxRecDepth 20000 in
theorem gk_f188_283 : gd_fetch 188 283 = some (283, .ifCond .eq 18, 3, 0, 0, 0, 0, 0) := rfl
set_option maxRecDepth 20000 in
theorem gk_f188_286 : gd_fetch 188 286 = some (286, .aload_n 0, 1, 0, 0, 0, 0, 0) := rfl
set_option maxRecDepth 20000 in
theorem gk_f188_287 : gd_fetch 188 287 = some (287, .getfield 19, 3, 1164, 9, 1, 4, 0) := rfl
set_option maxRecDepth 20000 in
theorem gk_f188_290 : gd_fetch 188 290 = some (290, .getfield 274, 3, 1065, 7, 17, 4, 1) := rfl
set_option maxRecDepth 20000 in
theorem gk_f188_293 : gd_fetch 188 293 = some (293, .iload_n 1, 1, 0, 0, 0, 0, 0) := rfl
set_option maxRecDepth 20000 in
theorem gk_f188_294 : gd_fetch 188 294 = some (294, .bipush 40, 2, 0, 0, 0, 0, 0) := rfl
set_option maxRecDepth 20000 in
theorem gk_f188_296 : gd_fetch 188 296 = some (296, .isub, 1, 0, 0, 0, 0, 0) := rfl
set_option maxRecDepth 20000 in
theorem gk_f188_297 : gd_fetch 188 297 = some (297, .iaload, 1, 0, 0, 0, 0, 0) := rfl
set_option maxRecDepth 20000 in
theorem gk_f188_298 : gd_fetch 188 298 = some (298, .goto 4, 3, 0, 0, 0, 0, 0) := rfl
set_option maxRecDepth 20000 in
theorem gk_f188_301 : gd_fetch 188 301 = some (301, .iconst (-1), 1, 0, 0, 0, 0, 0) := rfl
set_option maxRecDepth 20000 in
theorem gk_f188_302 : gd_fetch 188 302 = some (302, .ireturn, 1, 0, 0, 0, 0, 0) := rfl
set_option maxRecDepth 20000 in
set_option maxHeartbeats 4000000 in
theorem q_Mo_count (r0 : Nat) (x1 : Int32) (m : gd_M) : gd_call 188 [.ref r0, .int x1] m = if x1 = 0 then (if gd_ok (gN m) r0 9 = true then (if gd_ok (gN m) (gR m r0 1) 7 = true then (some (.int (gI m (gR m r0 1) 0), m)) else none) else none) else if x1 = 1 then (if gd_ok (gN m) r0 9 = true then (if gd_ok (gN m) (gR m r0 1) 7 = true then (some (.int (gI m (gR m r0 1) 1), m)) else none) else none) else if x1 = 2 then (if gd_ok (gN m) r0 9 = true then (if gd_ok (gN m) (gR m r0 1) 7 = true then (some (.int (gI m (gR m r0 1) 2), m)) else none) else none) else if x1 = 3 then (if gd_ok (gN m) r0 9 = true then (if gd_ok (gN m) (gR m r0 1) 7 = true then (some (.int (gI m (gR m r0 1) 21), m)) else none) else none) else if x1 = 4 then (if gd_ok (gN m) r0 9 = true then (if gd_ok (gN m) (gR m r0 1) 7 = true then (some (.int (gI m (gR m r0 1) 22), m)) else none) else none) else if x1 = 5 then (if gd_ok (gN m) r0 9 = true then (if gd_ok (gN m) (gR m r0 1) 7 = true then (some (.int (gI m (gR m r0 1) 18), m)) else none) else none) else if x1 = 6 then (if gd_ok (gN m) r0 9 = true then (if gd_ok (gN m) (gR m r0 1) 7 = true then (some (.int (gI m (gR m r0 1) 19), m)) else none) else none) else if x1 = 7 then (if gd_ok (gN m) r0 9 = true then (if gd_ok (gN m) (gR m r0 1) 7 = true then (some (.int (gI m (gR m r0 1) 20), m)) else none) else none) else if x1 = 8 then (if gd_ok (gN m) r0 9 = true then (if gd_ok (gN m) (gR m r0 1) 7 = true then (some (.int (gI m (gR m r0 1) 23), m)) else none) else none) else if x1 = 9 then (if gd_ok (gN m) r0 9 = true then (if gd_ok (gN m) (gR m r0 1) 7 = true then (some (.int (gI m (gR m r0 1) 24), m)) else none) else none) else if x1 = 10 then (if gd_ok (gN m) r0 9 = true then (if gd_ok (gN m) (gR m r0 1) 7 = true then (some (.int (gI m (gR m r0 1) 25), m)) else none) else none) else if x1 = 11 then (if gd_ok (gN m) r0 9 = true then (if gd_ok (gN m) (gR m r0 1) 7 = true then (some (.int (gI m (gR m r0 1) 26), m)) else none) else none) else if x1 = 12 then (if gd_ok (gN m) r0 9 = true then (some (.int (gI m r0 18), m)) else none) else if x1 = 13 then (if gd_ok (gN m) r0 9 = true then (some (.int (gI m r0 4), m)) else none) else if x1 = 14 then (if gd_ok (gN m) r0 9 = true then (some (.int (gI m r0 19), m)) else none) else if x1 = 15 then (gd_Den (188, 193, [.ref r0, .int x1, .int 0, .int 0], [], m)) else ((gd_call 71 [.int x1, .int 20, .int 24] m).bind (gd_k0I fun z62 m60 => if (z62 = 0 : Prop) then ((gd_call 71 [.int x1, .int 30, .int 34] m60).bind (gd_k0I fun z67 m65 => if (z67 = 0 : Prop) then ((gd_call 71 [.int x1, .int 40, .int 44] m65).bind (gd_k0I fun z72 m70 => if (z72 = 0 : Prop) then (some (.int (-1), m70)) else (if gd_ok (gN m70) r0 9 = true then (if gd_ok (gN m70) (gR m70 r0 1) 7 = true then (if gd_okA (gN m70) (gR m70 (gR m70 r0 1) 17) 10 (x1 - 40) = true then (some (.int (gI m70 (gR m70 (gR m70 r0 1) 17) ((x1 - 40) : Int32).toNatClampNeg), m70)) else none) else none) else none))) else (if gd_ok (gN m65) r0 9 = true then (if gd_ok (gN m65) (gR m65 r0 1) 7 = true then (if gd_okA (gN m65) (gR m65 (gR m65 r0 1) 16) 10 (x1 - 30) = true then (some (.int (gI m65 (gR m65 (gR m65 r0 1) 16) ((x1 - 30) : Int32).toNatClampNeg), m65)) else none) else none) else none))) else (if gd_ok (gN m60) r0 9 = true then (if gd_ok (gN m60) (gR m60 r0 1) 7 = true then (if gd_okA (gN m60) (gR m60 (gR m60 r0 1) 15) 10 (x1 - 20) = true then (some (.int (gI m60 (gR m60 (gR m60 r0 1) 15) ((x1 - 20) : Int32).toNatClampNeg), m60)) else none) else none) else none))) := by
  refine Eq.trans (show gd_call 188 [.ref r0, .int x1] m = gd_Den (188, 0, [.ref r0, .int x1, .null, .null], [], m) from by unfold gd_call gd_ent; rw [gk_ml188]; rfl) ?_
  refine Eq.trans (D_iconst (x := 0) gk_f188_0 gk_c_0) ?_
  refine Eq.trans (D_istore_n gk_f188_1 gk_st188_2) ?_
  refine Eq.trans (D_iload_n (x := x1) gk_f188_2 rfl) ?_
  refine Eq.trans (D_tsw (vs := [(0, 80), (1, 88), (2, 96), (3, 104), (4, 112), (5, 120), (6, 128), (7, 136), (8, 144), (9, 152), (10, 160), (11, 168), (12, 176), (13, 181), (14, 186), (15, 191)]) (t := 227) gk_f188_3 (by decide) (by decide)) ?_
  refine gd_ite (fun h1 => ?_) (fun h2 => ?_)
  · refine Eq.trans (D_aload_n (x := r0) gk_f188_80 rfl) ?_
    refine Eq.trans (D_gfR gk_f188_81 (by decide)) ?_
    refine gd_ite (fun h3 => ?_) (fun _ => rfl)
    refine Eq.trans (D_gfI gk_f188_84 (by decide) (by decide) (by decide)) ?_
    refine gd_ite (fun h4 => ?_) (fun _ => rfl)
    refine Eq.trans (D_ireturn gk_f188_87 gk_rk188) ?_
    rfl
  refine gd_ite (fun h5 => ?_) (fun h6 => ?_)
  · refine Eq.trans (D_aload_n (x := r0) gk_f188_88 rfl) ?_
    refine Eq.trans (D_gfR gk_f188_89 (by decide)) ?_
    refine gd_ite (fun h7 => ?_) (fun _ => rfl)
    refine Eq.trans (D_gfI gk_f188_92 (by decide) (by decide) (by decide)) ?_
    refine gd_ite (fun h8 => ?_) (fun _ => rfl)
    refine Eq.trans (D_ireturn gk_f188_95 gk_rk188) ?_
    rfl
  refine gd_ite (fun h9 => ?_) (fun h10 => ?_)
  · refine Eq.trans (D_aload_n (x := r0) gk_f188_96 rfl) ?_
    refine Eq.trans (D_gfR gk_f188_97 (by decide)) ?_
    refine gd_ite (fun h11 => ?_) (fun _ => rfl)
    refine Eq.trans (D_gfI gk_f188_100 (by decide) (by decide) (by decide)) ?_
    refine gd_ite (fun h12 => ?_) (fun _ => rfl)
    refine Eq.trans (D_ireturn gk_f188_103 gk_rk188) ?_
    rfl
  refine gd_ite (fun h13 => ?_) (fun h14 => ?_)
  · refine Eq.trans (D_aload_n (x := r0) gk_f188_104 rfl) ?_
    refine Eq.trans (D_gfR gk_f188_105 (by decide)) ?_
    refine gd_ite (fun h15 => ?_) (fun _ => rfl)
    refine Eq.trans (D_gfI gk_f188_108 (by decide) (by decide) (by decide)) ?_
    refine gd_ite (fun h16 => ?_) (fun _ => rfl)
    refine Eq.trans (D_ireturn gk_f188_111 gk_rk188) ?_
    rfl
  refine gd_ite (fun h17 => ?_) (fun h18 => ?_)
  · refine Eq.trans (D_aload_n (x := r0) gk_f188_112 rfl) ?_
    refine Eq.trans (D_gfR gk_f188_113 (by decide)) ?_
    refine gd_ite (fun h19 => ?_) (fun _ => rfl)
    refine Eq.trans (D_gfI gk_f188_116 (by decide) (by decide) (by decide)) ?_
    refine gd_ite (fun h20 => ?_) (fun _ => rfl)
    refine Eq.trans (D_ireturn gk_f188_119 gk_rk188) ?_
    rfl
  refine gd_ite (fun h21 => ?_) (fun h22 => ?_)
  · refine Eq.trans (D_aload_n (x := r0) gk_f188_120 rfl) ?_
    refine Eq.trans (D_gfR gk_f188_121 (by decide)) ?_
    refine gd_ite (fun h23 => ?_) (fun _ => rfl)
    refine Eq.trans (D_gfI gk_f188_124 (by decide) (by decide) (by decide)) ?_
    refine gd_ite (fun h24 => ?_) (fun _ => rfl)
    refine Eq.trans (D_ireturn gk_f188_127 gk_rk188) ?_
    rfl
  refine gd_ite (fun h25 => ?_) (fun h26 => ?_)
  · refine Eq.trans (D_aload_n (x := r0) gk_f188_128 rfl) ?_
    refine Eq.trans (D_gfR gk_f188_129 (by decide)) ?_
    refine gd_ite (fun h27 => ?_) (fun _ => rfl)
    refine Eq.trans (D_gfI gk_f188_132 (by decide) (by decide) (by decide)) ?_
    refine gd_ite (fun h28 => ?_) (fun _ => rfl)
    refine Eq.trans (D_ireturn gk_f188_135 gk_rk188) ?_
    rfl
  refine gd_ite (fun h29 => ?_) (fun h30 => ?_)
  · refine Eq.trans (D_aload_n (x := r0) gk_f188_136 rfl) ?_
    refine Eq.trans (D_gfR gk_f188_137 (by decide)) ?_
    refine gd_ite (fun h31 => ?_) (fun _ => rfl)
    refine Eq.trans (D_gfI gk_f188_140 (by decide) (by decide) (by decide)) ?_
    refine gd_ite (fun h32 => ?_) (fun _ => rfl)
    refine Eq.trans (D_ireturn gk_f188_143 gk_rk188) ?_
    rfl
  refine gd_ite (fun h33 => ?_) (fun h34 => ?_)
  · refine Eq.trans (D_aload_n (x := r0) gk_f188_144 rfl) ?_
    refine Eq.trans (D_gfR gk_f188_145 (by decide)) ?_
    refine gd_ite (fun h35 => ?_) (fun _ => rfl)
    refine Eq.trans (D_gfI gk_f188_148 (by decide) (by decide) (by decide)) ?_
    refine gd_ite (fun h36 => ?_) (fun _ => rfl)
    refine Eq.trans (D_ireturn gk_f188_151 gk_rk188) ?_
    rfl
  refine gd_ite (fun h37 => ?_) (fun h38 => ?_)
  · refine Eq.trans (D_aload_n (x := r0) gk_f188_152 rfl) ?_
    refine Eq.trans (D_gfR gk_f188_153 (by decide)) ?_
    refine gd_ite (fun h39 => ?_) (fun _ => rfl)
    refine Eq.trans (D_gfI gk_f188_156 (by decide) (by decide) (by decide)) ?_
    refine gd_ite (fun h40 => ?_) (fun _ => rfl)
    refine Eq.trans (D_ireturn gk_f188_159 gk_rk188) ?_
    rfl
  refine gd_ite (fun h41 => ?_) (fun h42 => ?_)
  · refine Eq.trans (D_aload_n (x := r0) gk_f188_160 rfl) ?_
    refine Eq.trans (D_gfR gk_f188_161 (by decide)) ?_
    refine gd_ite (fun h43 => ?_) (fun _ => rfl)
    refine Eq.trans (D_gfI gk_f188_164 (by decide) (by decide) (by decide)) ?_
    refine gd_ite (fun h44 => ?_) (fun _ => rfl)
    refine Eq.trans (D_ireturn gk_f188_167 gk_rk188) ?_
    rfl
  refine gd_ite (fun h45 => ?_) (fun h46 => ?_)
  · refine Eq.trans (D_aload_n (x := r0) gk_f188_168 rfl) ?_
    refine Eq.trans (D_gfR gk_f188_169 (by decide)) ?_
    refine gd_ite (fun h47 => ?_) (fun _ => rfl)
    refine Eq.trans (D_gfI gk_f188_172 (by decide) (by decide) (by decide)) ?_
    refine gd_ite (fun h48 => ?_) (fun _ => rfl)
    refine Eq.trans (D_ireturn gk_f188_175 gk_rk188) ?_
    rfl
  refine gd_ite (fun h49 => ?_) (fun h50 => ?_)
  · refine Eq.trans (D_aload_n (x := r0) gk_f188_176 rfl) ?_
    refine Eq.trans (D_gfI gk_f188_177 (by decide) (by decide) (by decide)) ?_
    refine gd_ite (fun h51 => ?_) (fun _ => rfl)
    refine Eq.trans (D_ireturn gk_f188_180 gk_rk188) ?_
    rfl
  refine gd_ite (fun h52 => ?_) (fun h53 => ?_)
  · refine Eq.trans (D_aload_n (x := r0) gk_f188_181 rfl) ?_
    refine Eq.trans (D_gfI gk_f188_182 (by decide) (by decide) (by decide)) ?_
    refine gd_ite (fun h54 => ?_) (fun _ => rfl)
    refine Eq.trans (D_ireturn gk_f188_185 gk_rk188) ?_
    rfl
  refine gd_ite (fun h55 => ?_) (fun h56 => ?_)
  · refine Eq.trans (D_aload_n (x := r0) gk_f188_186 rfl) ?_
    refine Eq.trans (D_gfI gk_f188_187 (by decide) (by decide) (by decide)) ?_
    refine gd_ite (fun h57 => ?_) (fun _ => rfl)
    refine Eq.trans (D_ireturn gk_f188_190 gk_rk188) ?_
    rfl
  refine gd_ite (fun h58 => ?_) (fun h59 => ?_)
  · refine Eq.trans (D_iconst (x := 0) gk_f188_191 gk_c_0) ?_
    refine Eq.trans (D_istore_n gk_f188_192 gk_st188_3) ?_
    rfl
  refine Eq.trans (D_iload_n (x := x1) gk_f188_227 rfl) ?_
  refine Eq.trans (D_bipush (x := 20) gk_f188_228 gk_b_20) ?_
  refine Eq.trans (D_bipush (x := 24) gk_f188_230 gk_b_24) ?_
  refine Eq.trans (D_isZ (args := [.int x1, .int 20, .int 24]) (rest := []) gk_f188_232 rfl rfl rfl (gd_rmk gk_rm188_71 gk_ln71 gk_ml71 rfl rfl rfl) gk_rk71 (gd_hnd_n gk_nc188)) ?_
  refine gd_bnd (gd_k0I_c fun z62 m60 => ?_)
  refine Eq.trans (D_if_eq (t := 251) gk_f188_235 (by decide)) ?_
  refine gd_ite (fun h63 => ?_) (fun h64 => ?_)
  · refine Eq.trans (D_iload_n (x := x1) gk_f188_251 rfl) ?_
    refine Eq.trans (D_bipush (x := 30) gk_f188_252 gk_b_30) ?_
    refine Eq.trans (D_bipush (x := 34) gk_f188_254 gk_b_34) ?_
    refine Eq.trans (D_isZ (args := [.int x1, .int 30, .int 34]) (rest := []) gk_f188_256 rfl rfl rfl (gd_rmk gk_rm188_71 gk_ln71 gk_ml71 rfl rfl rfl) gk_rk71 (gd_hnd_n gk_nc188)) ?_
    refine gd_bnd (gd_k0I_c fun z67 m65 => ?_)
    refine Eq.trans (D_if_eq (t := 275) gk_f188_259 (by decide)) ?_
    refine gd_ite (fun h68 => ?_) (fun h69 => ?_)
    · refine Eq.trans (D_iload_n (x := x1) gk_f188_275 rfl) ?_
      refine Eq.trans (D_bipush (x := 40) gk_f188_276 gk_b_40) ?_
      refine Eq.trans (D_bipush (x := 44) gk_f188_278 gk_b_44) ?_
      refine Eq.trans (D_isZ (args := [.int x1, .int 40, .int 44]) (rest := []) gk_f188_280 rfl rfl rfl (gd_rmk gk_rm188_71 gk_ln71 gk_ml71 rfl rfl rfl) gk_rk71 (gd_hnd_n gk_nc188)) ?_
      refine gd_bnd (gd_k0I_c fun z72 m70 => ?_)
      refine Eq.trans (D_if_eq (t := 301) gk_f188_283 (by decide)) ?_
      refine gd_ite (fun h73 => ?_) (fun h74 => ?_)
      · refine Eq.trans (D_iconst (x := (-1)) gk_f188_301 gk_c_m1) ?_
        refine Eq.trans (D_ireturn gk_f188_302 gk_rk188) ?_
        rfl
      · refine Eq.trans (D_aload_n (x := r0) gk_f188_286 rfl) ?_
        refine Eq.trans (D_gfR gk_f188_287 (by decide)) ?_
        refine gd_ite (fun h75 => ?_) (fun _ => rfl)
        refine Eq.trans (D_gfR gk_f188_290 (by decide)) ?_
        refine gd_ite (fun h76 => ?_) (fun _ => rfl)
        refine Eq.trans (D_iload_n (x := x1) gk_f188_293 rfl) ?_
        refine Eq.trans (D_bipush (x := 40) gk_f188_294 gk_b_40) ?_
        refine Eq.trans (D_isub gk_f188_296) ?_
        refine Eq.trans (D_iald gk_f188_297 gk_n10_188) ?_
        refine gd_ite (fun h77 => ?_) (fun _ => rfl)
        refine Eq.trans (D_goto (t := 302) gk_f188_298 (by decide)) ?_
        refine Eq.trans (D_ireturn gk_f188_302 gk_rk188) ?_
        rfl
    · refine Eq.trans (D_aload_n (x := r0) gk_f188_262 rfl) ?_
      refine Eq.trans (D_gfR gk_f188_263 (by decide)) ?_
      refine gd_ite (fun h78 => ?_) (fun _ => rfl)
      refine Eq.trans (D_gfR gk_f188_266 (by decide)) ?_
      refine gd_ite (fun h79 => ?_) (fun _ => rfl)
      refine Eq.trans (D_iload_n (x := x1) gk_f188_269 rfl) ?_
      refine Eq.trans (D_bipush (x := 30) gk_f188_270 gk_b_30) ?_
      refine Eq.trans (D_isub gk_f188_272) ?_
      refine Eq.trans (D_iald gk_f188_273 gk_n10_188) ?_
      refine gd_ite (fun h80 => ?_) (fun _ => rfl)
      refine Eq.trans (D_ireturn gk_f188_274 gk_rk188) ?_
      rfl
  · refine Eq.trans (D_aload_n (x := r0) gk_f188_238 rfl) ?_
    refine Eq.trans (D_gfR gk_f188_239 (by decide)) ?_
    refine gd_ite (fun h81 => ?_) (fun _ => rfl)
    refine Eq.trans (D_gfR gk_f188_242 (by decide)) ?_
    refine gd_ite (fun h82 => ?_) (fun _ => rfl)
    refine Eq.trans (D_iload_n (x := x1) gk_f188_245 rfl) ?_
    refine Eq.trans (D_bipush (x := 20) gk_f188_246 gk_b_20) ?_
    refine Eq.trans (D_isub gk_f188_248) ?_
    refine Eq.trans (D_iald gk_f188_249 gk_n10_188) ?_
    refine gd_ite (fun h83 => ?_) (fun _ => rfl)
    refine Eq.trans (D_ireturn gk_f188_250 gk_rk188) ?_
    rfl
set_option maxRecDepth 20000 in
set_option maxHeartbeats 4000000 in
theorem q_Mo_count_193 (r0 : Nat) (x1 : Int32) (x2 : Int32) (x3 : Int32) (m : gd_M) : gd_Den (188, 193, [.ref r0, .int x1, .int x2, .int x3], [], m) = if gd_ok (gN m) r0 9 = true then (if (x3 < (4 * (gI m r0 18)) : Prop) then ((gd_call 149 [.ref r0, .int x3] m).bind (gd_kI fun z6 m4 => if (z6 = 0 : Prop) then (gd_Den (188, 193, [.ref r0, .int x1, .int (x2 + 0), .int (x3 + 1)], [], m4)) else (gd_Den (188, 193, [.ref r0, .int x1, .int (x2 + 1), .int (x3 + 1)], [], m4)))) else (some (.int x2, m))) else none := by
  refine Eq.trans (D_iload_n (x := x3) gk_f188_193 rfl) ?_
  refine Eq.trans (D_iconst (x := 4) gk_f188_194 gk_c_4) ?_
  refine Eq.trans (D_aload_n (x := r0) gk_f188_195 rfl) ?_
  refine Eq.trans (D_gfI gk_f188_196 (by decide) (by decide) (by decide)) ?_
  refine gd_ite (fun h1 => ?_) (fun _ => rfl)
  refine Eq.trans (D_imul gk_f188_199) ?_
  refine Eq.trans (D_ic_ge (t := 225) gk_f188_200 (by decide)) ?_
  refine gd_ite (fun h2 => ?_) (fun h3 => ?_)
  · refine Eq.trans (D_iload_n (x := x2) gk_f188_203 rfl) ?_
    refine Eq.trans (D_aload_n (x := r0) gk_f188_204 rfl) ?_
    refine Eq.trans (D_iload_n (x := x3) gk_f188_205 rfl) ?_
    refine Eq.trans (D_ivZ (cl := 9) (args := [.ref r0, .int x3]) (rest := [.int x2]) gk_f188_206 rfl rfl (gd_rmk gk_rm188_149 gk_ln149 gk_ml149 rfl rfl rfl) gk_rk149 (gd_hnd_n gk_nc188) gk_nc149 gk_n11_149 gk_cl149) ?_
    refine Eq.trans (if_pos h1) ?_
    refine gd_bnd (gd_kI_c fun z6 m4 => ?_)
    refine Eq.trans (D_if_eq (t := 216) gk_f188_209 (by decide)) ?_
    refine gd_ite (fun h7 => ?_) (fun h8 => ?_)
    · refine Eq.trans (D_iconst (x := 0) gk_f188_216 gk_c_0) ?_
      refine Eq.trans (D_iadd gk_f188_217) ?_
      refine Eq.trans (D_istore_n gk_f188_218 gk_st188_2) ?_
      refine Eq.trans (D_iinc (x := x3) (y := 1) gk_f188_219 rfl gk_c_1 gk_st188_3) ?_
      refine Eq.trans (D_goto (t := 193) gk_f188_222 (by decide)) ?_
      rfl
    · refine Eq.trans (D_iconst (x := 1) gk_f188_212 gk_c_1) ?_
      refine Eq.trans (D_goto (t := 217) gk_f188_213 (by decide)) ?_
      refine Eq.trans (D_iadd gk_f188_217) ?_
      refine Eq.trans (D_istore_n gk_f188_218 gk_st188_2) ?_
      refine Eq.trans (D_iinc (x := x3) (y := 1) gk_f188_219 rfl gk_c_1 gk_st188_3) ?_
      refine Eq.trans (D_goto (t := 193) gk_f188_222 (by decide)) ?_
      rfl
  · refine Eq.trans (D_iload_n (x := x2) gk_f188_225 rfl) ?_
    refine Eq.trans (D_ireturn gk_f188_226 gk_rk188) ?_
    rfl
/-! GymDesk.fees (I)I -/
set_option maxRecDepth 20000 in
theorem gk_f189_0 : gd_fetch 189 0 = some (0, .iload_n 1, 1, 0, 0, 0, 0, 0) := rfl
set_option maxRecDepth 20000 in
theorem gk_f189_1 : gd_fetch 189 1 = some (1, .invokestatic 118, 3, 678, 89, 1, 0, 0) := rfl
set_option maxRecDepth 20000 in
theorem gk_f189_4 : gd_fetch 189 4 = some (4, .ifCond .eq 12, 3, 0, 0, 0, 0, 0) := rfl
set_option maxRecDepth 20000 in
theorem gk_f189_7 : gd_fetch 189 7 = some (7, .aload_n 0, 1, 0, 0, 0, 0, 0) := rfl
set_option maxRecDepth 20000 in
theorem gk_f189_8 : gd_fetch 189 8 = some (8, .getfield 47, 3, 467, 6, 7, 4, 1) := rfl
set_option maxRecDepth 20000 in
theorem gk_f189_11 : gd_fetch 189 11 = some (11, .iload_n 1, 1, 0, 0, 0, 0, 0) := rfl
set_option maxRecDepth 20000 in
theorem gk_f189_12 : gd_fetch 189 12 = some (12, .iaload, 1, 0, 0, 0, 0, 0) := rfl
set_option maxRecDepth 20000 in
theorem gk_f189_13 : gd_fetch 189 13 = some (13, .goto 5, 3, 0, 0, 0, 0, 0) := rfl
set_option maxRecDepth 20000 in
theorem gk_f189_16 : gd_fetch 189 16 = some (16, .bipush (-2), 2, 0, 0, 0, 0, 0) := rfl
set_option maxRecDepth 20000 in
theorem gk_f189_18 : gd_fetch 189 18 = some (18, .ireturn, 1, 0, 0, 0, 0, 0) := rfl
set_option maxRecDepth 20000 in
set_option maxHeartbeats 4000000 in
theorem q_X_fees (r0 : Nat) (x1 : Int32) (m : gd_M) : gd_call 189 [.ref r0, .int x1] m = (gd_call 89 [.int x1] m).bind (gd_k0I fun z3 m1 => if (z3 = 0 : Prop) then (some (.int (-2), m1)) else (if gd_ok (gN m1) r0 6 = true then (if gd_okA (gN m1) (gR m1 r0 7) 10 x1 = true then (some (.int (gI m1 (gR m1 r0 7) (x1 : Int32).toNatClampNeg), m1)) else none) else none)) := by
  refine Eq.trans (show gd_call 189 [.ref r0, .int x1] m = gd_Den (189, 0, [.ref r0, .int x1], [], m) from by unfold gd_call gd_ent; rw [gk_ml189]; rfl) ?_
  refine Eq.trans (D_iload_n (x := x1) gk_f189_0 rfl) ?_
  refine Eq.trans (D_isZ (args := [.int x1]) (rest := []) gk_f189_1 rfl rfl rfl (gd_rmk gk_rm189_89 gk_ln89 gk_ml89 rfl rfl rfl) gk_rk89 (gd_hnd_n gk_nc189)) ?_
  refine gd_bnd (gd_k0I_c fun z3 m1 => ?_)
  refine Eq.trans (D_if_eq (t := 16) gk_f189_4 (by decide)) ?_
  refine gd_ite (fun h4 => ?_) (fun h5 => ?_)
  · refine Eq.trans (D_bipush (x := (-2)) gk_f189_16 gk_b_m2) ?_
    refine Eq.trans (D_ireturn gk_f189_18 gk_rk189) ?_
    rfl
  · refine Eq.trans (D_aload_n (x := r0) gk_f189_7 rfl) ?_
    refine Eq.trans (D_gfR gk_f189_8 (by decide)) ?_
    refine gd_ite (fun h6 => ?_) (fun _ => rfl)
    refine Eq.trans (D_iload_n (x := x1) gk_f189_11 rfl) ?_
    refine Eq.trans (D_iald gk_f189_12 gk_n10_189) ?_
    refine gd_ite (fun h7 => ?_) (fun _ => rfl)
    refine Eq.trans (D_goto (t := 18) gk_f189_13 (by decide)) ?_
    refine Eq.trans (D_ireturn gk_f189_18 gk_rk189) ?_
    rfl
/-! GymDeskModel.fees (I)I -/
set_option maxRecDepth 20000 in
theorem gk_f190_0 : gd_fetch 190 0 = some (0, .iload_n 1, 1, 0, 0, 0, 0, 0) := rfl
set_option maxRecDepth 20000 in
theorem gk_f190_1 : gd_fetch 190 1 = some (1, .iconst 0, 1, 0, 0, 0, 0, 0) := rfl
set_option maxRecDepth 20000 in
theorem gk_f190_2 : gd_fetch 190 2 = some (2, .bipush 9, 2, 0, 0, 0, 0, 0) := rfl
set_option maxRecDepth 20000 in
theorem gk_f190_4 : gd_fetch 190 4 = some (4, .invokestatic 192, 3, 1360, 71, 3, 0, 0) := rfl
set_option maxRecDepth 20000 in
theorem gk_f190_7 : gd_fetch 190 7 = some (7, .ifCond .eq 12, 3, 0, 0, 0, 0, 0) := rfl
set_option maxRecDepth 20000 in
theorem gk_f190_10 : gd_fetch 190 10 = some (10, .aload_n 0, 1, 0, 0, 0, 0, 0) := rfl
set_option maxRecDepth 20000 in
theorem gk_f190_11 : gd_fetch 190 11 = some (11, .getfield 45, 3, 1184, 9, 21, 4, 1) := rfl
set_option maxRecDepth 20000 in
theorem gk_f190_14 : gd_fetch 190 14 = some (14, .iload_n 1, 1, 0, 0, 0, 0, 0) := rfl
set_option maxRecDepth 20000 in
theorem gk_f190_15 : gd_fetch 190 15 = some (15, .iaload, 1, 0, 0, 0, 0, 0) := rfl
set_option maxRecDepth 20000 in
theorem gk_f190_16 : gd_fetch 190 16 = some (16, .goto 5, 3, 0, 0, 0, 0, 0) := rfl
set_option maxRecDepth 20000 in
theorem gk_f190_19 : gd_fetch 190 19 = some (19, .bipush (-2), 2, 0, 0, 0, 0, 0) := rfl
set_option maxRecDepth 20000 in
theorem gk_f190_21 : gd_fetch 190 21 = some (21, .ireturn, 1, 0, 0, 0, 0, 0) := rfl
set_option maxRecDepth 20000 in
set_option maxHeartbeats 4000000 in
theorem q_Mo_fees (r0 : Nat) (x1 : Int32) (m : gd_M) : gd_call 190 [.ref r0, .int x1] m = (gd_call 71 [.int x1, .int 0, .int 9] m).bind (gd_k0I fun z3 m1 => if (z3 = 0 : Prop) then (some (.int (-2), m1)) else (if gd_ok (gN m1) r0 9 = true then (if gd_okA (gN m1) (gR m1 r0 21) 10 x1 = true then (some (.int (gI m1 (gR m1 r0 21) (x1 : Int32).toNatClampNeg), m1)) else none) else none)) := by
  refine Eq.trans (show gd_call 190 [.ref r0, .int x1] m = gd_Den (190, 0, [.ref r0, .int x1], [], m) from by unfold gd_call gd_ent; rw [gk_ml190]; rfl) ?_
  refine Eq.trans (D_iload_n (x := x1) gk_f190_0 rfl) ?_
  refine Eq.trans (D_iconst (x := 0) gk_f190_1 gk_c_0) ?_
  refine Eq.trans (D_bipush (x := 9) gk_f190_2 gk_b_9) ?_
  refine Eq.trans (D_isZ (args := [.int x1, .int 0, .int 9]) (rest := []) gk_f190_4 rfl rfl rfl (gd_rmk gk_rm190_71 gk_ln71 gk_ml71 rfl rfl rfl) gk_rk71 (gd_hnd_n gk_nc190)) ?_
  refine gd_bnd (gd_k0I_c fun z3 m1 => ?_)
  refine Eq.trans (D_if_eq (t := 19) gk_f190_7 (by decide)) ?_
  refine gd_ite (fun h4 => ?_) (fun h5 => ?_)
  · refine Eq.trans (D_bipush (x := (-2)) gk_f190_19 gk_b_m2) ?_
    refine Eq.trans (D_ireturn gk_f190_21 gk_rk190) ?_
    rfl
  · refine Eq.trans (D_aload_n (x := r0) gk_f190_10 rfl) ?_
    refine Eq.trans (D_gfR gk_f190_11 (by decide)) ?_
    refine gd_ite (fun h6 => ?_) (fun _ => rfl)
    refine Eq.trans (D_iload_n (x := x1) gk_f190_14 rfl) ?_
    refine Eq.trans (D_iald gk_f190_15 gk_n10_190) ?_
    refine gd_ite (fun h7 => ?_) (fun _ => rfl)
    refine Eq.trans (D_goto (t := 21) gk_f190_16 (by decide)) ?_
    refine Eq.trans (D_ireturn gk_f190_21 gk_rk190) ?_
    rfl
/-! GymDeskLaw.law ([I)Z -/
set_option maxRecDepth 20000 in
theorem gk_f191_0 : gd_fetch 191 0 = some (0, .new 7, 3, 104, 6, 15, 105, 0) := rfl
set_option maxRecDepth 20000 in
theorem gk_f191_3 : gd_fetch 191 3 = some (3, .dup, 1, 0, 0, 0, 0, 0) := rfl
set_option maxRecDepth 20000 in
theorem gk_f191_4 : gd_fetch 191 4 = some (4, .invokespecial 9, 3, 106, 14, 0, 0, 0) := rfl
set_option maxRecDepth 20000 in
theorem gk_f191_7 : gd_fetch 191 7 = some (7, .astore_n 1, 1, 0, 0, 0, 0, 0) := rfl
set_option maxRecDepth 20000 in
theorem gk_f191_8 : gd_fetch 191 8 = some (8, .new 10, 3, 954, 9, 45, 955, 0) := rfl
set_option maxRecDepth 20000 in
theorem gk_f191_11 : gd_fetch 191 11 = some (11, .dup, 1, 0, 0, 0, 0, 0) := rfl
set_option maxRecDepth 20000 in
theorem gk_f191_12 : gd_fetch 191 12 = some (12, .invokespecial 12, 3, 956, 21, 0, 0, 0) := rfl
set_option maxRecDepth 20000 in
theorem gk_f191_15 : gd_fetch 191 15 = some (15, .astore_n 2, 1, 0, 0, 0, 0, 0) := rfl
set_option maxRecDepth 20000 in
theorem gk_f191_16 : gd_fetch 191 16 = some (16, .iconst 0, 1, 0, 0, 0, 0, 0) := rfl
set_option maxRecDepth 20000 in
theorem gk_f191_17 : gd_fetch 191 17 = some (17, .istore_n 3, 1, 0, 0, 0, 0, 0) := rfl
set_option maxRecDepth 20000 in
theorem gk_f191_18 : gd_fetch 191 18 = some (18, .iload_n 3, 1, 0, 0, 0, 0, 0) := rfl
set_option maxRecDepth 20000 in
theorem gk_f191_19 : gd_fetch 191 19 = some (19, .aload_n 0, 1, 0, 0, 0, 0, 0) := rfl
set_option maxRecDepth 20000 in
theorem gk_f191_20 : gd_fetch 191 20 = some (20, .arraylength, 1, 0, 0, 0, 0, 0) := rfl
set_option maxRecDepth 20000 in
theorem gk_f191_21 : gd_fetch 191 21 = some (21, .bipush 6, 2, 0, 0, 0, 0, 0) := rfl
set_option maxRecDepth 20000 in
theorem gk_f191_23 : gd_fetch 191 23 = some (23, .isub, 1, 0, 0, 0, 0, 0) := rfl
set_option maxRecDepth 20000 in
theorem gk_f191_24 : gd_fetch 191 24 = some (24, .if_icmp .gt 941, 3, 0, 0, 0, 0, 0) := rfl
set_option maxRecDepth 20000 in
theorem gk_f191_27 : gd_fetch 191 27 = some (27, .aload_n 0, 1, 0, 0, 0, 0, 0) := rfl
set_option maxRecDepth 20000 in
theorem gk_f191_28 : gd_fetch 191 28 = some (28, .iload_n 3, 1, 0, 0, 0, 0, 0) := rfl
set_option maxRecDepth 20000 in
theorem gk_f191_29 : gd_fetch 191 29 = some (29, .iaload, 1, 0, 0, 0, 0, 0) := rfl
set_option maxRecDepth 20000 in
theorem gk_f191_30 : gd_fetch 191 30 = some (30, .bipush 31, 2, 0, 0, 0, 0, 0) := rfl
set_option maxRecDepth 20000 in
theorem gk_f191_32 : gd_fetch 191 32 = some (32, .iand, 1, 0, 0, 0, 0, 0) := rfl
set_option maxRecDepth 20000 in
theorem gk_f191_33 : gd_fetch 191 33 = some (33, .tableswitch 926 0 22 #[107, 170, 193, 206, 229, 262, 285, 318, 361, 414, 447, 510, 553, 596, 639, 692, 725, 748, 791, 824, 857, 880, 903], 107, 0, 0, 0, 0, 0) := rfl
set_option maxRecDepth 20000 in
theorem gk_f191_140 : gd_fetch 191 140 = some (140, .aload_n 1, 1, 0, 0, 0, 0, 0) := rfl
set_option maxRecDepth 20000 in
theorem gk_f191_141 : gd_fetch 191 141 = some (141, .aload_n 0, 1, 0, 0, 0, 0, 0) := rfl
set_option maxRecDepth 20000 in
theorem gk_f191_142 : gd_fetch 191 142 = some (142, .iload_n 3, 1, 0, 0, 0, 0, 0) := rfl
set_option maxRecDepth 20000 in
theorem gk_f191_143 : gd_fetch 191 143 = some (143, .iconst 1, 1, 0, 0, 0, 0, 0) := rfl
set_option maxRecDepth 20000 in
theorem gk_f191_144 : gd_fetch 191 144 = some (144, .iadd, 1, 0, 0, 0, 0, 0) := rfl
set_option maxRecDepth 20000 in
theorem gk_f191_145 : gd_fetch 191 145 = some (145, .iaload, 1, 0, 0, 0, 0, 0) := rfl
set_option maxRecDepth 20000 in
theorem gk_f191_146 : gd_fetch 191 146 = some (146, .aload_n 0, 1, 0, 0, 0, 0, 0) := rfl
set_option maxRecDepth 20000 in
theorem gk_f191_147 : gd_fetch 191 147 = some (147, .iload_n 3, 1, 0, 0, 0, 0, 0) := rfl
set_option maxRecDepth 20000 in
theorem gk_f191_148 : gd_fetch 191 148 = some (148, .iconst 2, 1, 0, 0, 0, 0, 0) := rfl
set_option maxRecDepth 20000 in
theorem gk_f191_149 : gd_fetch 191 149 = some (149, .iadd, 1, 0, 0, 0, 0, 0) := rfl
set_option maxRecDepth 20000 in
theorem gk_f191_150 : gd_fetch 191 150 = some (150, .iaload, 1, 0, 0, 0, 0, 0) := rfl
set_option maxRecDepth 20000 in
theorem gk_f191_151 : gd_fetch 191 151 = some (151, .aload_n 0, 1, 0, 0, 0, 0, 0) := rfl
set_option maxRecDepth 20000 in
theorem gk_f191_152 : gd_fetch 191 152 = some (152, .iload_n 3, 1, 0, 0, 0, 0, 0) := rfl
set_option maxRecDepth 20000 in
theorem gk_f191_153 : gd_fetch 191 153 = some (153, .iconst 3, 1, 0, 0, 0, 0, 0) := rfl
set_option maxRecDepth 20000 in
theorem gk_f191_154 : gd_fetch 191 154 = some (154, .iadd, 1, 0, 0, 0, 0, 0) := rfl
set_option maxRecDepth 20000 in
theorem gk_f191_155 : gd_fetch 191 155 = some (155, .iaload, 1, 0, 0, 0, 0, 0) := rfl
set_option maxRecDepth 20000 in
theorem gk_f191_156 : gd_fetch 191 156 = some (156, .aload_n 0, 1, 0, 0, 0, 0, 0) := rfl
set_option maxRecDepth 20000 in
theorem gk_f191_157 : gd_fetch 191 157 = some (157, .iload_n 3, 1, 0, 0, 0, 0, 0) := rfl
set_option maxRecDepth 20000 in
theorem gk_f191_158 : gd_fetch 191 158 = some (158, .iconst 4, 1, 0, 0, 0, 0, 0) := rfl
set_option maxRecDepth 20000 in
theorem gk_f191_159 : gd_fetch 191 159 = some (159, .iadd, 1, 0, 0, 0, 0, 0) := rfl
set_option maxRecDepth 20000 in
theorem gk_f191_160 : gd_fetch 191 160 = some (160, .iaload, 1, 0, 0, 0, 0, 0) := rfl
set_option maxRecDepth 20000 in
theorem gk_f191_161 : gd_fetch 191 161 = some (161, .aload_n 0, 1, 0, 0, 0, 0, 0) := rfl
set_option maxRecDepth 20000 in
theorem gk_f191_162 : gd_fetch 191 162 = some (162, .iload_n 3, 1, 0, 0, 0, 0, 0) := rfl
set_option maxRecDepth 20000 in
theorem gk_f191_163 : gd_fetch 191 163 = some (163, .iconst 5, 1, 0, 0, 0, 0, 0) := rfl
set_option maxRecDepth 20000 in
theorem gk_f191_164 : gd_fetch 191 164 = some (164, .iadd, 1, 0, 0, 0, 0, 0) := rfl
set_option maxRecDepth 20000 in
theorem gk_f191_165 : gd_fetch 191 165 = some (165, .iaload, 1, 0, 0, 0, 0, 0) := rfl
set_option maxRecDepth 20000 in
theorem gk_f191_166 : gd_fetch 191 166 = some (166, .invokevirtual 13, 3, 506, 23, 5, 0, 0) := rfl
set_option maxRecDepth 20000 in
theorem gk_f191_169 : gd_fetch 191 169 = some (169, .aload_n 2, 1, 0, 0, 0, 0, 0) := rfl
set_option maxRecDepth 20000 in
theorem gk_f191_170 : gd_fetch 191 170 = some (170, .aload_n 0, 1, 0, 0, 0, 0, 0) := rfl
set_option maxRecDepth 20000 in
theorem gk_f191_171 : gd_fetch 191 171 = some (171, .iload_n 3, 1, 0, 0, 0, 0, 0) := rfl
set_option maxRecDepth 20000 in
theorem gk_f191_172 : gd_fetch 191 172 = some (172, .iconst 1, 1, 0, 0, 0, 0, 0) := rfl
set_option maxRecDepth 20000 in
theorem gk_f191_173 : gd_fetch 191 173 = some (173, .iadd, 1, 0, 0, 0, 0, 0) := rfl
set_option maxRecDepth 20000 in
theorem gk_f191_174 : gd_fetch 191 174 = some (174, .iaload, 1, 0, 0, 0, 0, 0) := rfl
set_option maxRecDepth 20000 in
theorem gk_f191_175 : gd_fetch 191 175 = some (175, .aload_n 0, 1, 0, 0, 0, 0, 0) := rfl
set_option maxRecDepth 20000 in
theorem gk_f191_176 : gd_fetch 191 176 = some (176, .iload_n 3, 1, 0, 0, 0, 0, 0) := rfl
set_option maxRecDepth 20000 in
theorem gk_f191_177 : gd_fetch 191 177 = some (177, .iconst 2, 1, 0, 0, 0, 0, 0) := rfl
set_option maxRecDepth 20000 in
theorem gk_f191_178 : gd_fetch 191 178 = some (178, .iadd, 1, 0, 0, 0, 0, 0) := rfl
set_option maxRecDepth 20000 in
theorem gk_f191_179 : gd_fetch 191 179 = some (179, .iaload, 1, 0, 0, 0, 0, 0) := rfl
set_option maxRecDepth 20000 in
theorem gk_f191_180 : gd_fetch 191 180 = some (180, .aload_n 0, 1, 0, 0, 0, 0, 0) := rfl
set_option maxRecDepth 20000 in
theorem gk_f191_181 : gd_fetch 191 181 = some (181, .iload_n 3, 1, 0, 0, 0, 0, 0) := rfl
set_option maxRecDepth 20000 in
theorem gk_f191_182 : gd_fetch 191 182 = some (182, .iconst 3, 1, 0, 0, 0, 0, 0) := rfl
set_option maxRecDepth 20000 in
theorem gk_f191_183 : gd_fetch 191 183 = some (183, .iadd, 1, 0, 0, 0, 0, 0) := rfl
set_option maxRecDepth 20000 in
theorem gk_f191_184 : gd_fetch 191 184 = some (184, .iaload, 1, 0, 0, 0, 0, 0) := rfl
set_option maxRecDepth 20000 in
theorem gk_f191_185 : gd_fetch 191 185 = some (185, .aload_n 0, 1, 0, 0, 0, 0, 0) := rfl
set_option maxRecDepth 20000 in
theorem gk_f191_186 : gd_fetch 191 186 = some (186, .iload_n 3, 1, 0, 0, 0, 0, 0) := rfl
set_option maxRecDepth 20000 in
theorem gk_f191_187 : gd_fetch 191 187 = some (187, .iconst 4, 1, 0, 0, 0, 0, 0) := rfl
set_option maxRecDepth 20000 in
theorem gk_f191_188 : gd_fetch 191 188 = some (188, .iadd, 1, 0, 0, 0, 0, 0) := rfl
set_option maxRecDepth 20000 in
theorem gk_f191_189 : gd_fetch 191 189 = some (189, .iaload, 1, 0, 0, 0, 0, 0) := rfl
set_option maxRecDepth 20000 in
theorem gk_f191_190 : gd_fetch 191 190 = some (190, .aload_n 0, 1, 0, 0, 0, 0, 0) := rfl
set_option maxRecDepth 20000 in
theorem gk_f191_191 : gd_fetch 191 191 = some (191, .iload_n 3, 1, 0, 0, 0, 0, 0) := rfl
set_option maxRecDepth 20000 in
theorem gk_f191_192 : gd_fetch 191 192 = some (192, .iconst 5, 1, 0, 0, 0, 0, 0) := rfl
set_option maxRecDepth 20000 in
theorem gk_f191_193 : gd_fetch 191 193 = some (193, .iadd, 1, 0, 0, 0, 0, 0) := rfl
set_option maxRecDepth 20000 in
theorem gk_f191_194 : gd_fetch 191 194 = some (194, .iaload, 1, 0, 0, 0, 0, 0) := rfl
set_option maxRecDepth 20000 in
theorem gk_f191_195 : gd_fetch 191 195 = some (195, .invokevirtual 17, 3, 1299, 24, 5, 0, 0) := rfl
set_option maxRecDepth 20000 in
theorem gk_f191_198 : gd_fetch 191 198 = some (198, .if_icmp .eq 761, 3, 0, 0, 0, 0, 0) := rfl
set_option maxRecDepth 20000 in
theorem gk_f191_201 : gd_fetch 191 201 = some (201, .iconst 0, 1, 0, 0, 0, 0, 0) := rfl
set_option maxRecDepth 20000 in
theorem gk_f191_202 : gd_fetch 191 202 = some (202, .ireturn, 1, 0, 0, 0, 0, 0) := rfl
set_option maxRecDepth 20000 in
theorem gk_f191_203 : gd_fetch 191 203 = some (203, .aload_n 1, 1, 0, 0, 0, 0, 0) := rfl
set_option maxRecDepth 20000 in
theorem gk_f191_204 : gd_fetch 191 204 = some (204, .aload_n 0, 1, 0, 0, 0, 0, 0) := rfl
set_option maxRecDepth 20000 in
theorem gk_f191_205 : gd_fetch 191 205 = some (205, .iload_n 3, 1, 0, 0, 0, 0, 0) := rfl
set_option maxRecDepth 20000 in
theorem gk_f191_206 : gd_fetch 191 206 = some (206, .iconst 1, 1, 0, 0, 0, 0, 0) := rfl
set_option maxRecDepth 20000 in
theorem gk_f191_207 : gd_fetch 191 207 = some (207, .iadd, 1, 0, 0, 0, 0, 0) := rfl
set_option maxRecDepth 20000 in
theorem gk_f191_208 : gd_fetch 191 208 = some (208, .iaload, 1, 0, 0, 0, 0, 0) := rfl
set_option maxRecDepth 20000 in
theorem gk_f191_209 : gd_fetch 191 209 = some (209, .invokevirtual 18, 3, 514, 25, 1, 0, 0) := rfl
set_option maxRecDepth 20000 in
theorem gk_f191_212 : gd_fetch 191 212 = some (212, .aload_n 2, 1, 0, 0, 0, 0, 0) := rfl
set_option maxRecDepth 20000 in
theorem gk_f191_213 : gd_fetch 191 213 = some (213, .aload_n 0, 1, 0, 0, 0, 0, 0) := rfl
set_option maxRecDepth 20000 in
theorem gk_f191_214 : gd_fetch 191 214 = some (214, .iload_n 3, 1, 0, 0, 0, 0, 0) := rfl
set_option maxRecDepth 20000 in
theorem gk_f191_215 : gd_fetch 191 215 = some (215, .iconst 1, 1, 0, 0, 0, 0, 0) := rfl
set_option maxRecDepth 20000 in
theorem gk_f191_216 : gd_fetch 191 216 = some (216, .iadd, 1, 0, 0, 0, 0, 0) := rfl
set_option maxRecDepth 20000 in
theorem gk_f191_217 : gd_fetch 191 217 = some (217, .iaload, 1, 0, 0, 0, 0, 0) := rfl
set_option maxRecDepth 20000 in
theorem gk_f191_218 : gd_fetch 191 218 = some (218, .invokevirtual 22, 3, 1303, 26, 1, 0, 0) := rfl
set_option maxRecDepth 20000 in
theorem gk_f191_221 : gd_fetch 191 221 = some (221, .if_icmp .eq 738, 3, 0, 0, 0, 0, 0) := rfl
set_option maxRecDepth 20000 in
theorem gk_f191_224 : gd_fetch 191 224 = some (224, .iconst 0, 1, 0, 0, 0, 0, 0) := rfl
set_option maxRecDepth 20000 in
theorem gk_f191_225 : gd_fetch 191 225 = some (225, .ireturn, 1, 0, 0, 0, 0, 0) := rfl
set_option maxRecDepth 20000 in
theorem gk_f191_226 : gd_fetch 191 226 = some (226, .aload_n 1, 1, 0, 0, 0, 0, 0) := rfl
set_option maxRecDepth 20000 in
theorem gk_f191_227 : gd_fetch 191 227 = some (227, .invokevirtual 23, 3, 518, 61, 0, 0, 0) := rfl
set_option maxRecDepth 20000 in
theorem gk_f191_230 : gd_fetch 191 230 = some (230, .aload_n 2, 1, 0, 0, 0, 0, 0) := rfl
set_option maxRecDepth 20000 in
theorem gk_f191_231 : gd_fetch 191 231 = some (231, .invokevirtual 27, 3, 1307, 82, 0, 0, 0) := rfl
set_option maxRecDepth 20000 in
theorem gk_f191_234 : gd_fetch 191 234 = some (234, .if_icmp .eq 725, 3, 0, 0, 0, 0, 0) := rfl
set_option maxRecDepth 20000 in
theorem gk_f191_237 : gd_fetch 191 237 = some (237, .iconst 0, 1, 0, 0, 0, 0, 0) := rfl
set_option maxRecDepth 20000 in
theorem gk_f191_238 : gd_fetch 191 238 = some (238, .ireturn, 1, 0, 0, 0, 0, 0) := rfl
set_option maxRecDepth 20000 in
theorem gk_f191_239 : gd_fetch 191 239 = some (239, .aload_n 1, 1, 0, 0, 0, 0, 0) := rfl
set_option maxRecDepth 20000 in
theorem gk_f191_240 : gd_fetch 191 240 = some (240, .aload_n 0, 1, 0, 0, 0, 0, 0) := rfl
set_option maxRecDepth 20000 in
theorem gk_f191_241 : gd_fetch 191 241 = some (241, .iload_n 3, 1, 0, 0, 0, 0, 0) := rfl
set_option maxRecDepth 20000 in
theorem gk_f191_242 : gd_fetch 191 242 = some (242, .iconst 1, 1, 0, 0, 0, 0, 0) := rfl
set_option maxRecDepth 20000 in
theorem gk_f191_243 : gd_fetch 191 243 = some (243, .iadd, 1, 0, 0, 0, 0, 0) := rfl
set_option maxRecDepth 20000 in
theorem gk_f191_244 : gd_fetch 191 244 = some (244, .iaload, 1, 0, 0, 0, 0, 0) := rfl
set_option maxRecDepth 20000 in
theorem gk_f191_245 : gd_fetch 191 245 = some (245, .invokevirtual 28, 3, 658, 83, 1, 0, 0) := rfl
set_option maxRecDepth 20000 in
theorem gk_f191_248 : gd_fetch 191 248 = some (248, .aload_n 2, 1, 0, 0, 0, 0, 0) := rfl
set_option maxRecDepth 20000 in
theorem gk_f191_249 : gd_fetch 191 249 = some (249, .aload_n 0, 1, 0, 0, 0, 0, 0) := rfl
set_option maxRecDepth 20000 in
theorem gk_f191_250 : gd_fetch 191 250 = some (250, .iload_n 3, 1, 0, 0, 0, 0, 0) := rfl
set_option maxRecDepth 20000 in
theorem gk_f191_251 : gd_fetch 191 251 = some (251, .iconst 1, 1, 0, 0, 0, 0, 0) := rfl
set_option maxRecDepth 20000 in
theorem gk_f191_252 : gd_fetch 191 252 = some (252, .iadd, 1, 0, 0, 0, 0, 0) := rfl
set_option maxRecDepth 20000 in
theorem gk_f191_253 : gd_fetch 191 253 = some (253, .iaload, 1, 0, 0, 0, 0, 0) := rfl
set_option maxRecDepth 20000 in
theorem gk_f191_254 : gd_fetch 191 254 = some (254, .invokevirtual 31, 3, 1391, 84, 1, 0, 0) := rfl
set_option maxRecDepth 20000 in
theorem gk_f191_257 : gd_fetch 191 257 = some (257, .if_icmp .eq 702, 3, 0, 0, 0, 0, 0) := rfl
set_option maxRecDepth 20000 in
theorem gk_f191_260 : gd_fetch 191 260 = some (260, .iconst 0, 1, 0, 0, 0, 0, 0) := rfl
set_option maxRecDepth 20000 in
theorem gk_f191_261 : gd_fetch 191 261 = some (261, .ireturn, 1, 0, 0, 0, 0, 0) := rfl
set_option maxRecDepth 20000 in
theorem gk_f191_262 : gd_fetch 191 262 = some (262, .aload_n 1, 1, 0, 0, 0, 0, 0) := rfl
set_option maxRecDepth 20000 in
theorem gk_f191_263 : gd_fetch 191 263 = some (263, .aload_n 0, 1, 0, 0, 0, 0, 0) := rfl
set_option maxRecDepth 20000 in
theorem gk_f191_264 : gd_fetch 191 264 = some (264, .iload_n 3, 1, 0, 0, 0, 0, 0) := rfl
set_option maxRecDepth 20000 in
theorem gk_f191_265 : gd_fetch 191 265 = some (265, .iconst 1, 1, 0, 0, 0, 0, 0) := rfl
set_option maxRecDepth 20000 in
theorem gk_f191_266 : gd_fetch 191 266 = some (266, .iadd, 1, 0, 0, 0, 0, 0) := rfl
set_option maxRecDepth 20000 in
theorem gk_f191_267 : gd_fetch 191 267 = some (267, .iaload, 1, 0, 0, 0, 0, 0) := rfl
set_option maxRecDepth 20000 in
theorem gk_f191_268 : gd_fetch 191 268 = some (268, .aload_n 0, 1, 0, 0, 0, 0, 0) := rfl
set_option maxRecDepth 20000 in
theorem gk_f191_269 : gd_fetch 191 269 = some (269, .iload_n 3, 1, 0, 0, 0, 0, 0) := rfl
set_option maxRecDepth 20000 in
theorem gk_f191_270 : gd_fetch 191 270 = some (270, .iconst 2, 1, 0, 0, 0, 0, 0) := rfl
set_option maxRecDepth 20000 in
theorem gk_f191_271 : gd_fetch 191 271 = some (271, .iadd, 1, 0, 0, 0, 0, 0) := rfl
set_option maxRecDepth 20000 in
theorem gk_f191_272 : gd_fetch 191 272 = some (272, .iaload, 1, 0, 0, 0, 0, 0) := rfl
set_option maxRecDepth 20000 in
theorem gk_f191_273 : gd_fetch 191 273 = some (273, .invokevirtual 32, 3, 662, 87, 2, 0, 0) := rfl
set_option maxRecDepth 20000 in
theorem gk_f191_276 : gd_fetch 191 276 = some (276, .aload_n 2, 1, 0, 0, 0, 0, 0) := rfl
set_option maxRecDepth 20000 in
theorem gk_f191_277 : gd_fetch 191 277 = some (277, .aload_n 0, 1, 0, 0, 0, 0, 0) := rfl
set_option maxRecDepth 20000 in
theorem gk_f191_278 : gd_fetch 191 278 = some (278, .iload_n 3, 1, 0, 0, 0, 0, 0) := rfl
set_option maxRecDepth 20000 in
theorem gk_f191_279 : gd_fetch 191 279 = some (279, .iconst 1, 1, 0, 0, 0, 0, 0) := rfl
set_option maxRecDepth 20000 in
theorem gk_f191_280 : gd_fetch 191 280 = some (280, .iadd, 1, 0, 0, 0, 0, 0) := rfl
set_option maxRecDepth 20000 in
theorem gk_f191_281 : gd_fetch 191 281 = some (281, .iaload, 1, 0, 0, 0, 0, 0) := rfl
set_option maxRecDepth 20000 in
theorem gk_f191_282 : gd_fetch 191 282 = some (282, .aload_n 0, 1, 0, 0, 0, 0, 0) := rfl
set_option maxRecDepth 20000 in
theorem gk_f191_283 : gd_fetch 191 283 = some (283, .iload_n 3, 1, 0, 0, 0, 0, 0) := rfl
set_option maxRecDepth 20000 in
theorem gk_f191_284 : gd_fetch 191 284 = some (284, .iconst 2, 1, 0, 0, 0, 0, 0) := rfl
set_option maxRecDepth 20000 in
theorem gk_f191_285 : gd_fetch 191 285 = some (285, .iadd, 1, 0, 0, 0, 0, 0) := rfl
set_option maxRecDepth 20000 in
theorem gk_f191_286 : gd_fetch 191 286 = some (286, .iaload, 1, 0, 0, 0, 0, 0) := rfl
set_option maxRecDepth 20000 in
theorem gk_f191_287 : gd_fetch 191 287 = some (287, .invokevirtual 36, 3, 1395, 88, 2, 0, 0) := rfl
set_option maxRecDepth 20000 in
theorem gk_f191_290 : gd_fetch 191 290 = some (290, .if_icmp .eq 669, 3, 0, 0, 0, 0, 0) := rfl
set_option maxRecDepth 20000 in
theorem gk_f191_293 : gd_fetch 191 293 = some (293, .iconst 0, 1, 0, 0, 0, 0, 0) := rfl
set_option maxRecDepth 20000 in
theorem gk_f191_294 : gd_fetch 191 294 = some (294, .ireturn, 1, 0, 0, 0, 0, 0) := rfl
set_option maxRecDepth 20000 in
theorem gk_f191_295 : gd_fetch 191 295 = some (295, .aload_n 1, 1, 0, 0, 0, 0, 0) := rfl
set_option maxRecDepth 20000 in
theorem gk_f191_296 : gd_fetch 191 296 = some (296, .aload_n 0, 1, 0, 0, 0, 0, 0) := rfl
set_option maxRecDepth 20000 in
theorem gk_f191_297 : gd_fetch 191 297 = some (297, .iload_n 3, 1, 0, 0, 0, 0, 0) := rfl
set_option maxRecDepth 20000 in
theorem gk_f191_298 : gd_fetch 191 298 = some (298, .iconst 1, 1, 0, 0, 0, 0, 0) := rfl
set_option maxRecDepth 20000 in
theorem gk_f191_299 : gd_fetch 191 299 = some (299, .iadd, 1, 0, 0, 0, 0, 0) := rfl
set_option maxRecDepth 20000 in
theorem gk_f191_300 : gd_fetch 191 300 = some (300, .iaload, 1, 0, 0, 0, 0, 0) := rfl
set_option maxRecDepth 20000 in
theorem gk_f191_301 : gd_fetch 191 301 = some (301, .invokevirtual 37, 3, 674, 90, 1, 0, 0) := rfl
set_option maxRecDepth 20000 in
theorem gk_f191_304 : gd_fetch 191 304 = some (304, .aload_n 2, 1, 0, 0, 0, 0, 0) := rfl
set_option maxRecDepth 20000 in
theorem gk_f191_305 : gd_fetch 191 305 = some (305, .aload_n 0, 1, 0, 0, 0, 0, 0) := rfl
set_option maxRecDepth 20000 in
theorem gk_f191_306 : gd_fetch 191 306 = some (306, .iload_n 3, 1, 0, 0, 0, 0, 0) := rfl
set_option maxRecDepth 20000 in
theorem gk_f191_307 : gd_fetch 191 307 = some (307, .iconst 1, 1, 0, 0, 0, 0, 0) := rfl
set_option maxRecDepth 20000 in
theorem gk_f191_308 : gd_fetch 191 308 = some (308, .iadd, 1, 0, 0, 0, 0, 0) := rfl
set_option maxRecDepth 20000 in
theorem gk_f191_309 : gd_fetch 191 309 = some (309, .iaload, 1, 0, 0, 0, 0, 0) := rfl
set_option maxRecDepth 20000 in
theorem gk_f191_310 : gd_fetch 191 310 = some (310, .invokevirtual 40, 3, 1399, 91, 1, 0, 0) := rfl
set_option maxRecDepth 20000 in
theorem gk_f191_313 : gd_fetch 191 313 = some (313, .if_icmp .eq 646, 3, 0, 0, 0, 0, 0) := rfl
set_option maxRecDepth 20000 in
theorem gk_f191_316 : gd_fetch 191 316 = some (316, .iconst 0, 1, 0, 0, 0, 0, 0) := rfl
set_option maxRecDepth 20000 in
theorem gk_f191_317 : gd_fetch 191 317 = some (317, .ireturn, 1, 0, 0, 0, 0, 0) := rfl
set_option maxRecDepth 20000 in
theorem gk_f191_318 : gd_fetch 191 318 = some (318, .aload_n 1, 1, 0, 0, 0, 0, 0) := rfl
set_option maxRecDepth 20000 in
theorem gk_f191_319 : gd_fetch 191 319 = some (319, .aload_n 0, 1, 0, 0, 0, 0, 0) := rfl
set_option maxRecDepth 20000 in
theorem gk_f191_320 : gd_fetch 191 320 = some (320, .iload_n 3, 1, 0, 0, 0, 0, 0) := rfl
set_option maxRecDepth 20000 in
theorem gk_f191_321 : gd_fetch 191 321 = some (321, .iconst 1, 1, 0, 0, 0, 0, 0) := rfl
set_option maxRecDepth 20000 in
theorem gk_f191_322 : gd_fetch 191 322 = some (322, .iadd, 1, 0, 0, 0, 0, 0) := rfl
set_option maxRecDepth 20000 in
theorem gk_f191_323 : gd_fetch 191 323 = some (323, .iaload, 1, 0, 0, 0, 0, 0) := rfl
set_option maxRecDepth 20000 in
theorem gk_f191_324 : gd_fetch 191 324 = some (324, .aload_n 0, 1, 0, 0, 0, 0, 0) := rfl
set_option maxRecDepth 20000 in
theorem gk_f191_325 : gd_fetch 191 325 = some (325, .iload_n 3, 1, 0, 0, 0, 0, 0) := rfl
set_option maxRecDepth 20000 in
theorem gk_f191_326 : gd_fetch 191 326 = some (326, .iconst 2, 1, 0, 0, 0, 0, 0) := rfl
set_option maxRecDepth 20000 in
theorem gk_f191_327 : gd_fetch 191 327 = some (327, .iadd, 1, 0, 0, 0, 0, 0) := rfl
set_option maxRecDepth 20000 in
theorem gk_f191_328 : gd_fetch 191 328 = some (328, .iaload, 1, 0, 0, 0, 0, 0) := rfl
set_option maxRecDepth 20000 in
theorem gk_f191_329 : gd_fetch 191 329 = some (329, .invokevirtual 41, 3, 681, 96, 2, 0, 0) := rfl
set_option maxRecDepth 20000 in
theorem gk_f191_332 : gd_fetch 191 332 = some (332, .aload_n 2, 1, 0, 0, 0, 0, 0) := rfl
set_option maxRecDepth 20000 in
theorem gk_f191_333 : gd_fetch 191 333 = some (333, .aload_n 0, 1, 0, 0, 0, 0, 0) := rfl
set_option maxRecDepth 20000 in
theorem gk_f191_334 : gd_fetch 191 334 = some (334, .iload_n 3, 1, 0, 0, 0, 0, 0) := rfl
set_option maxRecDepth 20000 in
theorem gk_f191_335 : gd_fetch 191 335 = some (335, .iconst 1, 1, 0, 0, 0, 0, 0) := rfl
set_option maxRecDepth 20000 in
theorem gk_f191_336 : gd_fetch 191 336 = some (336, .iadd, 1, 0, 0, 0, 0, 0) := rfl
set_option maxRecDepth 20000 in
theorem gk_f191_337 : gd_fetch 191 337 = some (337, .iaload, 1, 0, 0, 0, 0, 0) := rfl
set_option maxRecDepth 20000 in
theorem gk_f191_338 : gd_fetch 191 338 = some (338, .aload_n 0, 1, 0, 0, 0, 0, 0) := rfl
set_option maxRecDepth 20000 in
theorem gk_f191_339 : gd_fetch 191 339 = some (339, .iload_n 3, 1, 0, 0, 0, 0, 0) := rfl
set_option maxRecDepth 20000 in
theorem gk_f191_340 : gd_fetch 191 340 = some (340, .iconst 2, 1, 0, 0, 0, 0, 0) := rfl
set_option maxRecDepth 20000 in
theorem gk_f191_341 : gd_fetch 191 341 = some (341, .iadd, 1, 0, 0, 0, 0, 0) := rfl
set_option maxRecDepth 20000 in
theorem gk_f191_342 : gd_fetch 191 342 = some (342, .iaload, 1, 0, 0, 0, 0, 0) := rfl
set_option maxRecDepth 20000 in
theorem gk_f191_343 : gd_fetch 191 343 = some (343, .invokevirtual 44, 3, 1403, 99, 2, 0, 0) := rfl
set_option maxRecDepth 20000 in
theorem gk_f191_346 : gd_fetch 191 346 = some (346, .if_icmp .eq 613, 3, 0, 0, 0, 0, 0) := rfl
set_option maxRecDepth 20000 in
theorem gk_f191_349 : gd_fetch 191 349 = some (349, .iconst 0, 1, 0, 0, 0, 0, 0) := rfl
set_option maxRecDepth 20000 in
theorem gk_f191_350 : gd_fetch 191 350 = some (350, .ireturn, 1, 0, 0, 0, 0, 0) := rfl
set_option maxRecDepth 20000 in
theorem gk_f191_351 : gd_fetch 191 351 = some (351, .aload_n 1, 1, 0, 0, 0, 0, 0) := rfl
set_option maxRecDepth 20000 in
theorem gk_f191_352 : gd_fetch 191 352 = some (352, .aload_n 0, 1, 0, 0, 0, 0, 0) := rfl
set_option maxRecDepth 20000 in
theorem gk_f191_353 : gd_fetch 191 353 = some (353, .iload_n 3, 1, 0, 0, 0, 0, 0) := rfl
set_option maxRecDepth 20000 in
theorem gk_f191_354 : gd_fetch 191 354 = some (354, .iconst 1, 1, 0, 0, 0, 0, 0) := rfl
set_option maxRecDepth 20000 in
theorem gk_f191_355 : gd_fetch 191 355 = some (355, .iadd, 1, 0, 0, 0, 0, 0) := rfl
set_option maxRecDepth 20000 in
theorem gk_f191_356 : gd_fetch 191 356 = some (356, .iaload, 1, 0, 0, 0, 0, 0) := rfl
set_option maxRecDepth 20000 in
theorem gk_f191_357 : gd_fetch 191 357 = some (357, .aload_n 0, 1, 0, 0, 0, 0, 0) := rfl
set_option maxRecDepth 20000 in
theorem gk_f191_358 : gd_fetch 191 358 = some (358, .iload_n 3, 1, 0, 0, 0, 0, 0) := rfl
set_option maxRecDepth 20000 in
theorem gk_f191_359 : gd_fetch 191 359 = some (359, .iconst 2, 1, 0, 0, 0, 0, 0) := rfl
set_option maxRecDepth 20000 in
theorem gk_f191_360 : gd_fetch 191 360 = some (360, .iadd, 1, 0, 0, 0, 0, 0) := rfl
set_option maxRecDepth 20000 in
theorem gk_f191_361 : gd_fetch 191 361 = some (361, .iaload, 1, 0, 0, 0, 0, 0) := rfl
set_option maxRecDepth 20000 in
theorem gk_f191_362 : gd_fetch 191 362 = some (362, .aload_n 0, 1, 0, 0, 0, 0, 0) := rfl
set_option maxRecDepth 20000 in
theorem gk_f191_363 : gd_fetch 191 363 = some (363, .iload_n 3, 1, 0, 0, 0, 0, 0) := rfl
set_option maxRecDepth 20000 in
theorem gk_f191_364 : gd_fetch 191 364 = some (364, .iconst 3, 1, 0, 0, 0, 0, 0) := rfl
set_option maxRecDepth 20000 in
theorem gk_f191_365 : gd_fetch 191 365 = some (365, .iadd, 1, 0, 0, 0, 0, 0) := rfl
set_option maxRecDepth 20000 in
theorem gk_f191_366 : gd_fetch 191 366 = some (366, .iaload, 1, 0, 0, 0, 0, 0) := rfl
set_option maxRecDepth 20000 in
theorem gk_f191_367 : gd_fetch 191 367 = some (367, .invokevirtual 45, 3, 701, 102, 3, 0, 0) := rfl
set_option maxRecDepth 20000 in
theorem gk_f191_370 : gd_fetch 191 370 = some (370, .aload_n 2, 1, 0, 0, 0, 0, 0) := rfl
set_option maxRecDepth 20000 in
theorem gk_f191_371 : gd_fetch 191 371 = some (371, .aload_n 0, 1, 0, 0, 0, 0, 0) := rfl
set_option maxRecDepth 20000 in
theorem gk_f191_372 : gd_fetch 191 372 = some (372, .iload_n 3, 1, 0, 0, 0, 0, 0) := rfl
set_option maxRecDepth 20000 in
theorem gk_f191_373 : gd_fetch 191 373 = some (373, .iconst 1, 1, 0, 0, 0, 0, 0) := rfl
set_option maxRecDepth 20000 in
theorem gk_f191_374 : gd_fetch 191 374 = some (374, .iadd, 1, 0, 0, 0, 0, 0) := rfl
set_option maxRecDepth 20000 in
theorem gk_f191_375 : gd_fetch 191 375 = some (375, .iaload, 1, 0, 0, 0, 0, 0) := rfl
set_option maxRecDepth 20000 in
theorem gk_f191_376 : gd_fetch 191 376 = some (376, .aload_n 0, 1, 0, 0, 0, 0, 0) := rfl
set_option maxRecDepth 20000 in
theorem gk_f191_377 : gd_fetch 191 377 = some (377, .iload_n 3, 1, 0, 0, 0, 0, 0) := rfl
set_option maxRecDepth 20000 in
theorem gk_f191_378 : gd_fetch 191 378 = some (378, .iconst 2, 1, 0, 0, 0, 0, 0) := rfl
set_option maxRecDepth 20000 in
theorem gk_f191_379 : gd_fetch 191 379 = some (379, .iadd, 1, 0, 0, 0, 0, 0) := rfl
set_option maxRecDepth 20000 in
theorem gk_f191_380 : gd_fetch 191 380 = some (380, .iaload, 1, 0, 0, 0, 0, 0) := rfl
set_option maxRecDepth 20000 in
theorem gk_f191_381 : gd_fetch 191 381 = some (381, .aload_n 0, 1, 0, 0, 0, 0, 0) := rfl
set_option maxRecDepth 20000 in
theorem gk_f191_382 : gd_fetch 191 382 = some (382, .iload_n 3, 1, 0, 0, 0, 0, 0) := rfl
set_option maxRecDepth 20000 in
theorem gk_f191_383 : gd_fetch 191 383 = some (383, .iconst 3, 1, 0, 0, 0, 0, 0) := rfl
set_option maxRecDepth 20000 in
theorem gk_f191_384 : gd_fetch 191 384 = some (384, .iadd, 1, 0, 0, 0, 0, 0) := rfl
set_option maxRecDepth 20000 in
theorem gk_f191_385 : gd_fetch 191 385 = some (385, .iaload, 1, 0, 0, 0, 0, 0) := rfl
set_option maxRecDepth 20000 in
theorem gk_f191_386 : gd_fetch 191 386 = some (386, .invokevirtual 49, 3, 1415, 104, 3, 0, 0) := rfl
set_option maxRecDepth 20000 in
theorem gk_f191_389 : gd_fetch 191 389 = some (389, .if_icmp .eq 570, 3, 0, 0, 0, 0, 0) := rfl
set_option maxRecDepth 20000 in
theorem gk_f191_392 : gd_fetch 191 392 = some (392, .iconst 0, 1, 0, 0, 0, 0, 0) := rfl
set_option maxRecDepth 20000 in
theorem gk_f191_393 : gd_fetch 191 393 = some (393, .ireturn, 1, 0, 0, 0, 0, 0) := rfl
set_option maxRecDepth 20000 in
theorem gk_f191_394 : gd_fetch 191 394 = some (394, .aload_n 1, 1, 0, 0, 0, 0, 0) := rfl
set_option maxRecDepth 20000 in
theorem gk_f191_395 : gd_fetch 191 395 = some (395, .aload_n 0, 1, 0, 0, 0, 0, 0) := rfl
set_option maxRecDepth 20000 in
theorem gk_f191_396 : gd_fetch 191 396 = some (396, .iload_n 3, 1, 0, 0, 0, 0, 0) := rfl
set_option maxRecDepth 20000 in
theorem gk_f191_397 : gd_fetch 191 397 = some (397, .iconst 1, 1, 0, 0, 0, 0, 0) := rfl
set_option maxRecDepth 20000 in
theorem gk_f191_398 : gd_fetch 191 398 = some (398, .iadd, 1, 0, 0, 0, 0, 0) := rfl
set_option maxRecDepth 20000 in
theorem gk_f191_399 : gd_fetch 191 399 = some (399, .iaload, 1, 0, 0, 0, 0, 0) := rfl
set_option maxRecDepth 20000 in
theorem gk_f191_400 : gd_fetch 191 400 = some (400, .aload_n 0, 1, 0, 0, 0, 0, 0) := rfl
set_option maxRecDepth 20000 in
theorem gk_f191_401 : gd_fetch 191 401 = some (401, .iload_n 3, 1, 0, 0, 0, 0, 0) := rfl
set_option maxRecDepth 20000 in
theorem gk_f191_402 : gd_fetch 191 402 = some (402, .iconst 2, 1, 0, 0, 0, 0, 0) := rfl
set_option maxRecDepth 20000 in
theorem gk_f191_403 : gd_fetch 191 403 = some (403, .iadd, 1, 0, 0, 0, 0, 0) := rfl
set_option maxRecDepth 20000 in
theorem gk_f191_404 : gd_fetch 191 404 = some (404, .iaload, 1, 0, 0, 0, 0, 0) := rfl
set_option maxRecDepth 20000 in
theorem gk_f191_405 : gd_fetch 191 405 = some (405, .aload_n 0, 1, 0, 0, 0, 0, 0) := rfl
set_option maxRecDepth 20000 in
theorem gk_f191_406 : gd_fetch 191 406 = some (406, .iload_n 3, 1, 0, 0, 0, 0, 0) := rfl
set_option maxRecDepth 20000 in
theorem gk_f191_407 : gd_fetch 191 407 = some (407, .iconst 3, 1, 0, 0, 0, 0, 0) := rfl
set_option maxRecDepth 20000 in
theorem gk_f191_408 : gd_fetch 191 408 = some (408, .iadd, 1, 0, 0, 0, 0, 0) := rfl
set_option maxRecDepth 20000 in
theorem gk_f191_409 : gd_fetch 191 409 = some (409, .iaload, 1, 0, 0, 0, 0, 0) := rfl
set_option maxRecDepth 20000 in
theorem gk_f191_410 : gd_fetch 191 410 = some (410, .aload_n 0, 1, 0, 0, 0, 0, 0) := rfl
set_option maxRecDepth 20000 in
theorem gk_f191_411 : gd_fetch 191 411 = some (411, .iload_n 3, 1, 0, 0, 0, 0, 0) := rfl
set_option maxRecDepth 20000 in
theorem gk_f191_412 : gd_fetch 191 412 = some (412, .iconst 4, 1, 0, 0, 0, 0, 0) := rfl
set_option maxRecDepth 20000 in
theorem gk_f191_413 : gd_fetch 191 413 = some (413, .iadd, 1, 0, 0, 0, 0, 0) := rfl
set_option maxRecDepth 20000 in
theorem gk_f191_414 : gd_fetch 191 414 = some (414, .iaload, 1, 0, 0, 0, 0, 0) := rfl
set_option maxRecDepth 20000 in
theorem gk_f191_415 : gd_fetch 191 415 = some (415, .invokevirtual 50, 3, 713, 111, 4, 0, 0) := rfl
set_option maxRecDepth 20000 in
theorem gk_f191_418 : gd_fetch 191 418 = some (418, .aload_n 2, 1, 0, 0, 0, 0, 0) := rfl
set_option maxRecDepth 20000 in
theorem gk_f191_419 : gd_fetch 191 419 = some (419, .aload_n 0, 1, 0, 0, 0, 0, 0) := rfl
set_option maxRecDepth 20000 in
theorem gk_f191_420 : gd_fetch 191 420 = some (420, .iload_n 3, 1, 0, 0, 0, 0, 0) := rfl
set_option maxRecDepth 20000 in
theorem gk_f191_421 : gd_fetch 191 421 = some (421, .iconst 1, 1, 0, 0, 0, 0, 0) := rfl
set_option maxRecDepth 20000 in
theorem gk_f191_422 : gd_fetch 191 422 = some (422, .iadd, 1, 0, 0, 0, 0, 0) := rfl
set_option maxRecDepth 20000 in
theorem gk_f191_423 : gd_fetch 191 423 = some (423, .iaload, 1, 0, 0, 0, 0, 0) := rfl
set_option maxRecDepth 20000 in
theorem gk_f191_424 : gd_fetch 191 424 = some (424, .aload_n 0, 1, 0, 0, 0, 0, 0) := rfl
set_option maxRecDepth 20000 in
theorem gk_f191_425 : gd_fetch 191 425 = some (425, .iload_n 3, 1, 0, 0, 0, 0, 0) := rfl
set_option maxRecDepth 20000 in
theorem gk_f191_426 : gd_fetch 191 426 = some (426, .iconst 2, 1, 0, 0, 0, 0, 0) := rfl
set_option maxRecDepth 20000 in
theorem gk_f191_427 : gd_fetch 191 427 = some (427, .iadd, 1, 0, 0, 0, 0, 0) := rfl
set_option maxRecDepth 20000 in
theorem gk_f191_428 : gd_fetch 191 428 = some (428, .iaload, 1, 0, 0, 0, 0, 0) := rfl
set_option maxRecDepth 20000 in
theorem gk_f191_429 : gd_fetch 191 429 = some (429, .aload_n 0, 1, 0, 0, 0, 0, 0) := rfl
set_option maxRecDepth 20000 in
theorem gk_f191_430 : gd_fetch 191 430 = some (430, .iload_n 3, 1, 0, 0, 0, 0, 0) := rfl
set_option maxRecDepth 20000 in
theorem gk_f191_431 : gd_fetch 191 431 = some (431, .iconst 3, 1, 0, 0, 0, 0, 0) := rfl
set_option maxRecDepth 20000 in
theorem gk_f191_432 : gd_fetch 191 432 = some (432, .iadd, 1, 0, 0, 0, 0, 0) := rfl
set_option maxRecDepth 20000 in
theorem gk_f191_433 : gd_fetch 191 433 = some (433, .iaload, 1, 0, 0, 0, 0, 0) := rfl
set_option maxRecDepth 20000 in
theorem gk_f191_434 : gd_fetch 191 434 = some (434, .aload_n 0, 1, 0, 0, 0, 0, 0) := rfl
set_option maxRecDepth 20000 in
theorem gk_f191_435 : gd_fetch 191 435 = some (435, .iload_n 3, 1, 0, 0, 0, 0, 0) := rfl
set_option maxRecDepth 20000 in
theorem gk_f191_436 : gd_fetch 191 436 = some (436, .iconst 4, 1, 0, 0, 0, 0, 0) := rfl
set_option maxRecDepth 20000 in
theorem gk_f191_437 : gd_fetch 191 437 = some (437, .iadd, 1, 0, 0, 0, 0, 0) := rfl
set_option maxRecDepth 20000 in
theorem gk_f191_438 : gd_fetch 191 438 = some (438, .iaload, 1, 0, 0, 0, 0, 0) := rfl
set_option maxRecDepth 20000 in
theorem gk_f191_439 : gd_fetch 191 439 = some (439, .invokevirtual 54, 3, 1423, 113, 4, 0, 0) := rfl
set_option maxRecDepth 20000 in
theorem gk_f191_442 : gd_fetch 191 442 = some (442, .if_icmp .eq 517, 3, 0, 0, 0, 0, 0) := rfl
set_option maxRecDepth 20000 in
theorem gk_f191_445 : gd_fetch 191 445 = some (445, .iconst 0, 1, 0, 0, 0, 0, 0) := rfl
set_option maxRecDepth 20000 in
theorem gk_f191_446 : gd_fetch 191 446 = some (446, .ireturn, 1, 0, 0, 0, 0, 0) := rfl
set_option maxRecDepth 20000 in
theorem gk_f191_447 : gd_fetch 191 447 = some (447, .aload_n 1, 1, 0, 0, 0, 0, 0) := rfl
set_option maxRecDepth 20000 in
theorem gk_f191_448 : gd_fetch 191 448 = some (448, .aload_n 0, 1, 0, 0, 0, 0, 0) := rfl
set_option maxRecDepth 20000 in
theorem gk_f191_449 : gd_fetch 191 449 = some (449, .iload_n 3, 1, 0, 0, 0, 0, 0) := rfl
set_option maxRecDepth 20000 in
theorem gk_f191_450 : gd_fetch 191 450 = some (450, .iconst 1, 1, 0, 0, 0, 0, 0) := rfl
set_option maxRecDepth 20000 in
theorem gk_f191_451 : gd_fetch 191 451 = some (451, .iadd, 1, 0, 0, 0, 0, 0) := rfl
set_option maxRecDepth 20000 in
theorem gk_f191_452 : gd_fetch 191 452 = some (452, .iaload, 1, 0, 0, 0, 0, 0) := rfl
set_option maxRecDepth 20000 in
theorem gk_f191_453 : gd_fetch 191 453 = some (453, .aload_n 0, 1, 0, 0, 0, 0, 0) := rfl
set_option maxRecDepth 20000 in
theorem gk_f191_454 : gd_fetch 191 454 = some (454, .iload_n 3, 1, 0, 0, 0, 0, 0) := rfl
set_option maxRecDepth 20000 in
theorem gk_f191_455 : gd_fetch 191 455 = some (455, .iconst 2, 1, 0, 0, 0, 0, 0) := rfl
set_option maxRecDepth 20000 in
theorem gk_f191_456 : gd_fetch 191 456 = some (456, .iadd, 1, 0, 0, 0, 0, 0) := rfl
set_option maxRecDepth 20000 in
theorem gk_f191_457 : gd_fetch 191 457 = some (457, .iaload, 1, 0, 0, 0, 0, 0) := rfl
set_option maxRecDepth 20000 in
theorem gk_f191_458 : gd_fetch 191 458 = some (458, .invokevirtual 55, 3, 740, 114, 2, 0, 0) := rfl
set_option maxRecDepth 20000 in
theorem gk_f191_461 : gd_fetch 191 461 = some (461, .aload_n 2, 1, 0, 0, 0, 0, 0) := rfl
set_option maxRecDepth 20000 in
theorem gk_f191_462 : gd_fetch 191 462 = some (462, .aload_n 0, 1, 0, 0, 0, 0, 0) := rfl
set_option maxRecDepth 20000 in
theorem gk_f191_463 : gd_fetch 191 463 = some (463, .iload_n 3, 1, 0, 0, 0, 0, 0) := rfl
set_option maxRecDepth 20000 in
theorem gk_f191_464 : gd_fetch 191 464 = some (464, .iconst 1, 1, 0, 0, 0, 0, 0) := rfl
set_option maxRecDepth 20000 in
theorem gk_f191_465 : gd_fetch 191 465 = some (465, .iadd, 1, 0, 0, 0, 0, 0) := rfl
set_option maxRecDepth 20000 in
theorem gk_f191_466 : gd_fetch 191 466 = some (466, .iaload, 1, 0, 0, 0, 0, 0) := rfl
set_option maxRecDepth 20000 in
theorem gk_f191_467 : gd_fetch 191 467 = some (467, .aload_n 0, 1, 0, 0, 0, 0, 0) := rfl
set_option maxRecDepth 20000 in
theorem gk_f191_468 : gd_fetch 191 468 = some (468, .iload_n 3, 1, 0, 0, 0, 0, 0) := rfl
set_option maxRecDepth 20000 in
theorem gk_f191_469 : gd_fetch 191 469 = some (469, .iconst 2, 1, 0, 0, 0, 0, 0) := rfl
set_option maxRecDepth 20000 in
theorem gk_f191_470 : gd_fetch 191 470 = some (470, .iadd, 1, 0, 0, 0, 0, 0) := rfl
set_option maxRecDepth 20000 in
theorem gk_f191_471 : gd_fetch 191 471 = some (471, .iaload, 1, 0, 0, 0, 0, 0) := rfl
set_option maxRecDepth 20000 in
theorem gk_f191_472 : gd_fetch 191 472 = some (472, .invokevirtual 58, 3, 1431, 115, 2, 0, 0) := rfl
set_option maxRecDepth 20000 in
theorem gk_f191_475 : gd_fetch 191 475 = some (475, .if_icmp .eq 484, 3, 0, 0, 0, 0, 0) := rfl
set_option maxRecDepth 20000 in
theorem gk_f191_478 : gd_fetch 191 478 = some (478, .iconst 0, 1, 0, 0, 0, 0, 0) := rfl
set_option maxRecDepth 20000 in
theorem gk_f191_479 : gd_fetch 191 479 = some (479, .ireturn, 1, 0, 0, 0, 0, 0) := rfl
set_option maxRecDepth 20000 in
theorem gk_f191_480 : gd_fetch 191 480 = some (480, .aload_n 1, 1, 0, 0, 0, 0, 0) := rfl
set_option maxRecDepth 20000 in
theorem gk_f191_481 : gd_fetch 191 481 = some (481, .aload_n 0, 1, 0, 0, 0, 0, 0) := rfl
set_option maxRecDepth 20000 in
theorem gk_f191_482 : gd_fetch 191 482 = some (482, .iload_n 3, 1, 0, 0, 0, 0, 0) := rfl
set_option maxRecDepth 20000 in
theorem gk_f191_483 : gd_fetch 191 483 = some (483, .iconst 1, 1, 0, 0, 0, 0, 0) := rfl
set_option maxRecDepth 20000 in
theorem gk_f191_484 : gd_fetch 191 484 = some (484, .iadd, 1, 0, 0, 0, 0, 0) := rfl
set_option maxRecDepth 20000 in
theorem gk_f191_485 : gd_fetch 191 485 = some (485, .iaload, 1, 0, 0, 0, 0, 0) := rfl
set_option maxRecDepth 20000 in
theorem gk_f191_486 : gd_fetch 191 486 = some (486, .aload_n 0, 1, 0, 0, 0, 0, 0) := rfl
set_option maxRecDepth 20000 in
theorem gk_f191_487 : gd_fetch 191 487 = some (487, .iload_n 3, 1, 0, 0, 0, 0, 0) := rfl
set_option maxRecDepth 20000 in
theorem gk_f191_488 : gd_fetch 191 488 = some (488, .iconst 2, 1, 0, 0, 0, 0, 0) := rfl
set_option maxRecDepth 20000 in
theorem gk_f191_489 : gd_fetch 191 489 = some (489, .iadd, 1, 0, 0, 0, 0, 0) := rfl
set_option maxRecDepth 20000 in
theorem gk_f191_490 : gd_fetch 191 490 = some (490, .iaload, 1, 0, 0, 0, 0, 0) := rfl
set_option maxRecDepth 20000 in
theorem gk_f191_491 : gd_fetch 191 491 = some (491, .aload_n 0, 1, 0, 0, 0, 0, 0) := rfl
set_option maxRecDepth 20000 in
theorem gk_f191_492 : gd_fetch 191 492 = some (492, .iload_n 3, 1, 0, 0, 0, 0, 0) := rfl
set_option maxRecDepth 20000 in
theorem gk_f191_493 : gd_fetch 191 493 = some (493, .iconst 3, 1, 0, 0, 0, 0, 0) := rfl
set_option maxRecDepth 20000 in
theorem gk_f191_494 : gd_fetch 191 494 = some (494, .iadd, 1, 0, 0, 0, 0, 0) := rfl
set_option maxRecDepth 20000 in
theorem gk_f191_495 : gd_fetch 191 495 = some (495, .iaload, 1, 0, 0, 0, 0, 0) := rfl
set_option maxRecDepth 20000 in
theorem gk_f191_496 : gd_fetch 191 496 = some (496, .aload_n 0, 1, 0, 0, 0, 0, 0) := rfl
set_option maxRecDepth 20000 in
theorem gk_f191_497 : gd_fetch 191 497 = some (497, .iload_n 3, 1, 0, 0, 0, 0, 0) := rfl
set_option maxRecDepth 20000 in
theorem gk_f191_498 : gd_fetch 191 498 = some (498, .iconst 4, 1, 0, 0, 0, 0, 0) := rfl
set_option maxRecDepth 20000 in
theorem gk_f191_499 : gd_fetch 191 499 = some (499, .iadd, 1, 0, 0, 0, 0, 0) := rfl
set_option maxRecDepth 20000 in
theorem gk_f191_500 : gd_fetch 191 500 = some (500, .iaload, 1, 0, 0, 0, 0, 0) := rfl
set_option maxRecDepth 20000 in
theorem gk_f191_501 : gd_fetch 191 501 = some (501, .aload_n 0, 1, 0, 0, 0, 0, 0) := rfl
set_option maxRecDepth 20000 in
theorem gk_f191_502 : gd_fetch 191 502 = some (502, .iload_n 3, 1, 0, 0, 0, 0, 0) := rfl
set_option maxRecDepth 20000 in
theorem gk_f191_503 : gd_fetch 191 503 = some (503, .iconst 5, 1, 0, 0, 0, 0, 0) := rfl
set_option maxRecDepth 20000 in
theorem gk_f191_504 : gd_fetch 191 504 = some (504, .iadd, 1, 0, 0, 0, 0, 0) := rfl
set_option maxRecDepth 20000 in
theorem gk_f191_505 : gd_fetch 191 505 = some (505, .iaload, 1, 0, 0, 0, 0, 0) := rfl
set_option maxRecDepth 20000 in
theorem gk_f191_506 : gd_fetch 191 506 = some (506, .invokevirtual 59, 3, 744, 119, 5, 0, 0) := rfl
set_option maxRecDepth 20000 in
theorem gk_f191_509 : gd_fetch 191 509 = some (509, .aload_n 2, 1, 0, 0, 0, 0, 0) := rfl
set_option maxRecDepth 20000 in
theorem gk_f191_510 : gd_fetch 191 510 = some (510, .aload_n 0, 1, 0, 0, 0, 0, 0) := rfl
set_option maxRecDepth 20000 in
theorem gk_f191_511 : gd_fetch 191 511 = some (511, .iload_n 3, 1, 0, 0, 0, 0, 0) := rfl
set_option maxRecDepth 20000 in
theorem gk_f191_512 : gd_fetch 191 512 = some (512, .iconst 1, 1, 0, 0, 0, 0, 0) := rfl
set_option maxRecDepth 20000 in
theorem gk_f191_513 : gd_fetch 191 513 = some (513, .iadd, 1, 0, 0, 0, 0, 0) := rfl
set_option maxRecDepth 20000 in
theorem gk_f191_514 : gd_fetch 191 514 = some (514, .iaload, 1, 0, 0, 0, 0, 0) := rfl
set_option maxRecDepth 20000 in
theorem gk_f191_515 : gd_fetch 191 515 = some (515, .aload_n 0, 1, 0, 0, 0, 0, 0) := rfl
set_option maxRecDepth 20000 in
theorem gk_f191_516 : gd_fetch 191 516 = some (516, .iload_n 3, 1, 0, 0, 0, 0, 0) := rfl
set_option maxRecDepth 20000 in
theorem gk_f191_517 : gd_fetch 191 517 = some (517, .iconst 2, 1, 0, 0, 0, 0, 0) := rfl
set_option maxRecDepth 20000 in
theorem gk_f191_518 : gd_fetch 191 518 = some (518, .iadd, 1, 0, 0, 0, 0, 0) := rfl
set_option maxRecDepth 20000 in
theorem gk_f191_519 : gd_fetch 191 519 = some (519, .iaload, 1, 0, 0, 0, 0, 0) := rfl
set_option maxRecDepth 20000 in
theorem gk_f191_520 : gd_fetch 191 520 = some (520, .aload_n 0, 1, 0, 0, 0, 0, 0) := rfl
set_option maxRecDepth 20000 in
theorem gk_f191_521 : gd_fetch 191 521 = some (521, .iload_n 3, 1, 0, 0, 0, 0, 0) := rfl
set_option maxRecDepth 20000 in
theorem gk_f191_522 : gd_fetch 191 522 = some (522, .iconst 3, 1, 0, 0, 0, 0, 0) := rfl
set_option maxRecDepth 20000 in
theorem gk_f191_523 : gd_fetch 191 523 = some (523, .iadd, 1, 0, 0, 0, 0, 0) := rfl
set_option maxRecDepth 20000 in
theorem gk_f191_524 : gd_fetch 191 524 = some (524, .iaload, 1, 0, 0, 0, 0, 0) := rfl
set_option maxRecDepth 20000 in
theorem gk_f191_525 : gd_fetch 191 525 = some (525, .aload_n 0, 1, 0, 0, 0, 0, 0) := rfl
set_option maxRecDepth 20000 in
theorem gk_f191_526 : gd_fetch 191 526 = some (526, .iload_n 3, 1, 0, 0, 0, 0, 0) := rfl
set_option maxRecDepth 20000 in
theorem gk_f191_527 : gd_fetch 191 527 = some (527, .iconst 4, 1, 0, 0, 0, 0, 0) := rfl
set_option maxRecDepth 20000 in
theorem gk_f191_528 : gd_fetch 191 528 = some (528, .iadd, 1, 0, 0, 0, 0, 0) := rfl
set_option maxRecDepth 20000 in
theorem gk_f191_529 : gd_fetch 191 529 = some (529, .iaload, 1, 0, 0, 0, 0, 0) := rfl
set_option maxRecDepth 20000 in
theorem gk_f191_530 : gd_fetch 191 530 = some (530, .aload_n 0, 1, 0, 0, 0, 0, 0) := rfl
set_option maxRecDepth 20000 in
theorem gk_f191_531 : gd_fetch 191 531 = some (531, .iload_n 3, 1, 0, 0, 0, 0, 0) := rfl
set_option maxRecDepth 20000 in
theorem gk_f191_532 : gd_fetch 191 532 = some (532, .iconst 5, 1, 0, 0, 0, 0, 0) := rfl
set_option maxRecDepth 20000 in
theorem gk_f191_533 : gd_fetch 191 533 = some (533, .iadd, 1, 0, 0, 0, 0, 0) := rfl
set_option maxRecDepth 20000 in
theorem gk_f191_534 : gd_fetch 191 534 = some (534, .iaload, 1, 0, 0, 0, 0, 0) := rfl
set_option maxRecDepth 20000 in
theorem gk_f191_535 : gd_fetch 191 535 = some (535, .invokevirtual 62, 3, 1435, 121, 5, 0, 0) := rfl
set_option maxRecDepth 20000 in
theorem gk_f191_538 : gd_fetch 191 538 = some (538, .if_icmp .eq 421, 3, 0, 0, 0, 0, 0) := rfl
set_option maxRecDepth 20000 in
theorem gk_f191_541 : gd_fetch 191 541 = some (541, .iconst 0, 1, 0, 0, 0, 0, 0) := rfl
set_option maxRecDepth 20000 in
theorem gk_f191_542 : gd_fetch 191 542 = some (542, .ireturn, 1, 0, 0, 0, 0, 0) := rfl
set_option maxRecDepth 20000 in
theorem gk_f191_543 : gd_fetch 191 543 = some (543, .aload_n 1, 1, 0, 0, 0, 0, 0) := rfl
set_option maxRecDepth 20000 in
theorem gk_f191_544 : gd_fetch 191 544 = some (544, .aload_n 0, 1, 0, 0, 0, 0, 0) := rfl
set_option maxRecDepth 20000 in
theorem gk_f191_545 : gd_fetch 191 545 = some (545, .iload_n 3, 1, 0, 0, 0, 0, 0) := rfl
set_option maxRecDepth 20000 in
theorem gk_f191_546 : gd_fetch 191 546 = some (546, .iconst 1, 1, 0, 0, 0, 0, 0) := rfl
set_option maxRecDepth 20000 in
theorem gk_f191_547 : gd_fetch 191 547 = some (547, .iadd, 1, 0, 0, 0, 0, 0) := rfl
set_option maxRecDepth 20000 in
theorem gk_f191_548 : gd_fetch 191 548 = some (548, .iaload, 1, 0, 0, 0, 0, 0) := rfl
set_option maxRecDepth 20000 in
theorem gk_f191_549 : gd_fetch 191 549 = some (549, .aload_n 0, 1, 0, 0, 0, 0, 0) := rfl
set_option maxRecDepth 20000 in
theorem gk_f191_550 : gd_fetch 191 550 = some (550, .iload_n 3, 1, 0, 0, 0, 0, 0) := rfl
set_option maxRecDepth 20000 in
theorem gk_f191_551 : gd_fetch 191 551 = some (551, .iconst 2, 1, 0, 0, 0, 0, 0) := rfl
set_option maxRecDepth 20000 in
theorem gk_f191_552 : gd_fetch 191 552 = some (552, .iadd, 1, 0, 0, 0, 0, 0) := rfl
set_option maxRecDepth 20000 in
theorem gk_f191_553 : gd_fetch 191 553 = some (553, .iaload, 1, 0, 0, 0, 0, 0) := rfl
set_option maxRecDepth 20000 in
theorem gk_f191_554 : gd_fetch 191 554 = some (554, .aload_n 0, 1, 0, 0, 0, 0, 0) := rfl
set_option maxRecDepth 20000 in
theorem gk_f191_555 : gd_fetch 191 555 = some (555, .iload_n 3, 1, 0, 0, 0, 0, 0) := rfl
set_option maxRecDepth 20000 in
theorem gk_f191_556 : gd_fetch 191 556 = some (556, .iconst 3, 1, 0, 0, 0, 0, 0) := rfl
set_option maxRecDepth 20000 in
theorem gk_f191_557 : gd_fetch 191 557 = some (557, .iadd, 1, 0, 0, 0, 0, 0) := rfl
set_option maxRecDepth 20000 in
theorem gk_f191_558 : gd_fetch 191 558 = some (558, .iaload, 1, 0, 0, 0, 0, 0) := rfl
set_option maxRecDepth 20000 in
theorem gk_f191_559 : gd_fetch 191 559 = some (559, .invokevirtual 63, 3, 763, 137, 3, 0, 0) := rfl
set_option maxRecDepth 20000 in
theorem gk_f191_562 : gd_fetch 191 562 = some (562, .aload_n 2, 1, 0, 0, 0, 0, 0) := rfl
set_option maxRecDepth 20000 in
theorem gk_f191_563 : gd_fetch 191 563 = some (563, .aload_n 0, 1, 0, 0, 0, 0, 0) := rfl
set_option maxRecDepth 20000 in
theorem gk_f191_564 : gd_fetch 191 564 = some (564, .iload_n 3, 1, 0, 0, 0, 0, 0) := rfl
set_option maxRecDepth 20000 in
theorem gk_f191_565 : gd_fetch 191 565 = some (565, .iconst 1, 1, 0, 0, 0, 0, 0) := rfl
set_option maxRecDepth 20000 in
theorem gk_f191_566 : gd_fetch 191 566 = some (566, .iadd, 1, 0, 0, 0, 0, 0) := rfl
set_option maxRecDepth 20000 in
theorem gk_f191_567 : gd_fetch 191 567 = some (567, .iaload, 1, 0, 0, 0, 0, 0) := rfl
set_option maxRecDepth 20000 in
theorem gk_f191_568 : gd_fetch 191 568 = some (568, .aload_n 0, 1, 0, 0, 0, 0, 0) := rfl
set_option maxRecDepth 20000 in
theorem gk_f191_569 : gd_fetch 191 569 = some (569, .iload_n 3, 1, 0, 0, 0, 0, 0) := rfl
set_option maxRecDepth 20000 in
theorem gk_f191_570 : gd_fetch 191 570 = some (570, .iconst 2, 1, 0, 0, 0, 0, 0) := rfl
set_option maxRecDepth 20000 in
theorem gk_f191_571 : gd_fetch 191 571 = some (571, .iadd, 1, 0, 0, 0, 0, 0) := rfl
set_option maxRecDepth 20000 in
theorem gk_f191_572 : gd_fetch 191 572 = some (572, .iaload, 1, 0, 0, 0, 0, 0) := rfl
set_option maxRecDepth 20000 in
theorem gk_f191_573 : gd_fetch 191 573 = some (573, .aload_n 0, 1, 0, 0, 0, 0, 0) := rfl
set_option maxRecDepth 20000 in
theorem gk_f191_574 : gd_fetch 191 574 = some (574, .iload_n 3, 1, 0, 0, 0, 0, 0) := rfl
set_option maxRecDepth 20000 in
theorem gk_f191_575 : gd_fetch 191 575 = some (575, .iconst 3, 1, 0, 0, 0, 0, 0) := rfl
set_option maxRecDepth 20000 in
theorem gk_f191_576 : gd_fetch 191 576 = some (576, .iadd, 1, 0, 0, 0, 0, 0) := rfl
set_option maxRecDepth 20000 in
theorem gk_f191_577 : gd_fetch 191 577 = some (577, .iaload, 1, 0, 0, 0, 0, 0) := rfl
set_option maxRecDepth 20000 in
theorem gk_f191_578 : gd_fetch 191 578 = some (578, .invokevirtual 66, 3, 1443, 145, 3, 0, 0) := rfl
set_option maxRecDepth 20000 in
theorem gk_f191_581 : gd_fetch 191 581 = some (581, .if_icmp .eq 378, 3, 0, 0, 0, 0, 0) := rfl
set_option maxRecDepth 20000 in
theorem gk_f191_584 : gd_fetch 191 584 = some (584, .iconst 0, 1, 0, 0, 0, 0, 0) := rfl
set_option maxRecDepth 20000 in
theorem gk_f191_585 : gd_fetch 191 585 = some (585, .ireturn, 1, 0, 0, 0, 0, 0) := rfl
set_option maxRecDepth 20000 in
theorem gk_f191_586 : gd_fetch 191 586 = some (586, .aload_n 1, 1, 0, 0, 0, 0, 0) := rfl
set_option maxRecDepth 20000 in
theorem gk_f191_587 : gd_fetch 191 587 = some (587, .aload_n 0, 1, 0, 0, 0, 0, 0) := rfl
set_option maxRecDepth 20000 in
theorem gk_f191_588 : gd_fetch 191 588 = some (588, .iload_n 3, 1, 0, 0, 0, 0, 0) := rfl
set_option maxRecDepth 20000 in
theorem gk_f191_589 : gd_fetch 191 589 = some (589, .iconst 1, 1, 0, 0, 0, 0, 0) := rfl
set_option maxRecDepth 20000 in
theorem gk_f191_590 : gd_fetch 191 590 = some (590, .iadd, 1, 0, 0, 0, 0, 0) := rfl
set_option maxRecDepth 20000 in
theorem gk_f191_591 : gd_fetch 191 591 = some (591, .iaload, 1, 0, 0, 0, 0, 0) := rfl
set_option maxRecDepth 20000 in
theorem gk_f191_592 : gd_fetch 191 592 = some (592, .aload_n 0, 1, 0, 0, 0, 0, 0) := rfl
set_option maxRecDepth 20000 in
theorem gk_f191_593 : gd_fetch 191 593 = some (593, .iload_n 3, 1, 0, 0, 0, 0, 0) := rfl
set_option maxRecDepth 20000 in
theorem gk_f191_594 : gd_fetch 191 594 = some (594, .iconst 2, 1, 0, 0, 0, 0, 0) := rfl
set_option maxRecDepth 20000 in
theorem gk_f191_595 : gd_fetch 191 595 = some (595, .iadd, 1, 0, 0, 0, 0, 0) := rfl
set_option maxRecDepth 20000 in
theorem gk_f191_596 : gd_fetch 191 596 = some (596, .iaload, 1, 0, 0, 0, 0, 0) := rfl
set_option maxRecDepth 20000 in
theorem gk_f191_597 : gd_fetch 191 597 = some (597, .aload_n 0, 1, 0, 0, 0, 0, 0) := rfl
set_option maxRecDepth 20000 in
theorem gk_f191_598 : gd_fetch 191 598 = some (598, .iload_n 3, 1, 0, 0, 0, 0, 0) := rfl
set_option maxRecDepth 20000 in
theorem gk_f191_599 : gd_fetch 191 599 = some (599, .iconst 3, 1, 0, 0, 0, 0, 0) := rfl
set_option maxRecDepth 20000 in
theorem gk_f191_600 : gd_fetch 191 600 = some (600, .iadd, 1, 0, 0, 0, 0, 0) := rfl
set_option maxRecDepth 20000 in
theorem gk_f191_601 : gd_fetch 191 601 = some (601, .iaload, 1, 0, 0, 0, 0, 0) := rfl
set_option maxRecDepth 20000 in
theorem gk_f191_602 : gd_fetch 191 602 = some (602, .invokevirtual 67, 3, 835, 148, 3, 0, 0) := rfl
set_option maxRecDepth 20000 in
theorem gk_f191_605 : gd_fetch 191 605 = some (605, .aload_n 2, 1, 0, 0, 0, 0, 0) := rfl
set_option maxRecDepth 20000 in
theorem gk_f191_606 : gd_fetch 191 606 = some (606, .aload_n 0, 1, 0, 0, 0, 0, 0) := rfl
set_option maxRecDepth 20000 in
theorem gk_f191_607 : gd_fetch 191 607 = some (607, .iload_n 3, 1, 0, 0, 0, 0, 0) := rfl
set_option maxRecDepth 20000 in
theorem gk_f191_608 : gd_fetch 191 608 = some (608, .iconst 1, 1, 0, 0, 0, 0, 0) := rfl
set_option maxRecDepth 20000 in
theorem gk_f191_609 : gd_fetch 191 609 = some (609, .iadd, 1, 0, 0, 0, 0, 0) := rfl
set_option maxRecDepth 20000 in
theorem gk_f191_610 : gd_fetch 191 610 = some (610, .iaload, 1, 0, 0, 0, 0, 0) := rfl
set_option maxRecDepth 20000 in
theorem gk_f191_611 : gd_fetch 191 611 = some (611, .aload_n 0, 1, 0, 0, 0, 0, 0) := rfl
set_option maxRecDepth 20000 in
theorem gk_f191_612 : gd_fetch 191 612 = some (612, .iload_n 3, 1, 0, 0, 0, 0, 0) := rfl
set_option maxRecDepth 20000 in
theorem gk_f191_613 : gd_fetch 191 613 = some (613, .iconst 2, 1, 0, 0, 0, 0, 0) := rfl
set_option maxRecDepth 20000 in
theorem gk_f191_614 : gd_fetch 191 614 = some (614, .iadd, 1, 0, 0, 0, 0, 0) := rfl
set_option maxRecDepth 20000 in
theorem gk_f191_615 : gd_fetch 191 615 = some (615, .iaload, 1, 0, 0, 0, 0, 0) := rfl
set_option maxRecDepth 20000 in
theorem gk_f191_616 : gd_fetch 191 616 = some (616, .aload_n 0, 1, 0, 0, 0, 0, 0) := rfl
set_option maxRecDepth 20000 in
theorem gk_f191_617 : gd_fetch 191 617 = some (617, .iload_n 3, 1, 0, 0, 0, 0, 0) := rfl
set_option maxRecDepth 20000 in
theorem gk_f191_618 : gd_fetch 191 618 = some (618, .iconst 3, 1, 0, 0, 0, 0, 0) := rfl
set_option maxRecDepth 20000 in
theorem gk_f191_619 : gd_fetch 191 619 = some (619, .iadd, 1, 0, 0, 0, 0, 0) := rfl
set_option maxRecDepth 20000 in
theorem gk_f191_620 : gd_fetch 191 620 = some (620, .iaload, 1, 0, 0, 0, 0, 0) := rfl
set_option maxRecDepth 20000 in
theorem gk_f191_621 : gd_fetch 191 621 = some (621, .invokevirtual 70, 3, 1476, 150, 3, 0, 0) := rfl
set_option maxRecDepth 20000 in
theorem gk_f191_624 : gd_fetch 191 624 = some (624, .if_icmp .eq 335, 3, 0, 0, 0, 0, 0) := rfl
set_option maxRecDepth 20000 in
theorem gk_f191_627 : gd_fetch 191 627 = some (627, .iconst 0, 1, 0, 0, 0, 0, 0) := rfl
set_option maxRecDepth 20000 in
theorem gk_f191_628 : gd_fetch 191 628 = some (628, .ireturn, 1, 0, 0, 0, 0, 0) := rfl
set_option maxRecDepth 20000 in
theorem gk_f191_629 : gd_fetch 191 629 = some (629, .aload_n 1, 1, 0, 0, 0, 0, 0) := rfl
set_option maxRecDepth 20000 in
theorem gk_f191_630 : gd_fetch 191 630 = some (630, .aload_n 0, 1, 0, 0, 0, 0, 0) := rfl
set_option maxRecDepth 20000 in
theorem gk_f191_631 : gd_fetch 191 631 = some (631, .iload_n 3, 1, 0, 0, 0, 0, 0) := rfl
set_option maxRecDepth 20000 in
theorem gk_f191_632 : gd_fetch 191 632 = some (632, .iconst 1, 1, 0, 0, 0, 0, 0) := rfl
set_option maxRecDepth 20000 in
theorem gk_f191_633 : gd_fetch 191 633 = some (633, .iadd, 1, 0, 0, 0, 0, 0) := rfl
set_option maxRecDepth 20000 in
theorem gk_f191_634 : gd_fetch 191 634 = some (634, .iaload, 1, 0, 0, 0, 0, 0) := rfl
set_option maxRecDepth 20000 in
theorem gk_f191_635 : gd_fetch 191 635 = some (635, .aload_n 0, 1, 0, 0, 0, 0, 0) := rfl
set_option maxRecDepth 20000 in
theorem gk_f191_636 : gd_fetch 191 636 = some (636, .iload_n 3, 1, 0, 0, 0, 0, 0) := rfl
set_option maxRecDepth 20000 in
theorem gk_f191_637 : gd_fetch 191 637 = some (637, .iconst 2, 1, 0, 0, 0, 0, 0) := rfl
set_option maxRecDepth 20000 in
theorem gk_f191_638 : gd_fetch 191 638 = some (638, .iadd, 1, 0, 0, 0, 0, 0) := rfl
set_option maxRecDepth 20000 in
theorem gk_f191_639 : gd_fetch 191 639 = some (639, .iaload, 1, 0, 0, 0, 0, 0) := rfl
set_option maxRecDepth 20000 in
theorem gk_f191_640 : gd_fetch 191 640 = some (640, .aload_n 0, 1, 0, 0, 0, 0, 0) := rfl
set_option maxRecDepth 20000 in
theorem gk_f191_641 : gd_fetch 191 641 = some (641, .iload_n 3, 1, 0, 0, 0, 0, 0) := rfl
set_option maxRecDepth 20000 in
theorem gk_f191_642 : gd_fetch 191 642 = some (642, .iconst 3, 1, 0, 0, 0, 0, 0) := rfl
set_option maxRecDepth 20000 in
theorem gk_f191_643 : gd_fetch 191 643 = some (643, .iadd, 1, 0, 0, 0, 0, 0) := rfl
set_option maxRecDepth 20000 in
theorem gk_f191_644 : gd_fetch 191 644 = some (644, .iaload, 1, 0, 0, 0, 0, 0) := rfl
set_option maxRecDepth 20000 in
theorem gk_f191_645 : gd_fetch 191 645 = some (645, .invokevirtual 71, 3, 848, 152, 3, 0, 0) := rfl
set_option maxRecDepth 20000 in
theorem gk_f191_648 : gd_fetch 191 648 = some (648, .aload_n 2, 1, 0, 0, 0, 0, 0) := rfl
set_option maxRecDepth 20000 in
theorem gk_f191_649 : gd_fetch 191 649 = some (649, .aload_n 0, 1, 0, 0, 0, 0, 0) := rfl
set_option maxRecDepth 20000 in
theorem gk_f191_650 : gd_fetch 191 650 = some (650, .iload_n 3, 1, 0, 0, 0, 0, 0) := rfl
set_option maxRecDepth 20000 in
theorem gk_f191_651 : gd_fetch 191 651 = some (651, .iconst 1, 1, 0, 0, 0, 0, 0) := rfl
set_option maxRecDepth 20000 in
theorem gk_f191_652 : gd_fetch 191 652 = some (652, .iadd, 1, 0, 0, 0, 0, 0) := rfl
set_option maxRecDepth 20000 in
theorem gk_f191_653 : gd_fetch 191 653 = some (653, .iaload, 1, 0, 0, 0, 0, 0) := rfl
set_option maxRecDepth 20000 in
theorem gk_f191_654 : gd_fetch 191 654 = some (654, .aload_n 0, 1, 0, 0, 0, 0, 0) := rfl
set_option maxRecDepth 20000 in
theorem gk_f191_655 : gd_fetch 191 655 = some (655, .iload_n 3, 1, 0, 0, 0, 0, 0) := rfl
set_option maxRecDepth 20000 in
theorem gk_f191_656 : gd_fetch 191 656 = some (656, .iconst 2, 1, 0, 0, 0, 0, 0) := rfl
set_option maxRecDepth 20000 in
theorem gk_f191_657 : gd_fetch 191 657 = some (657, .iadd, 1, 0, 0, 0, 0, 0) := rfl
set_option maxRecDepth 20000 in
theorem gk_f191_658 : gd_fetch 191 658 = some (658, .iaload, 1, 0, 0, 0, 0, 0) := rfl
set_option maxRecDepth 20000 in
theorem gk_f191_659 : gd_fetch 191 659 = some (659, .aload_n 0, 1, 0, 0, 0, 0, 0) := rfl
set_option maxRecDepth 20000 in
theorem gk_f191_660 : gd_fetch 191 660 = some (660, .iload_n 3, 1, 0, 0, 0, 0, 0) := rfl
set_option maxRecDepth 20000 in
theorem gk_f191_661 : gd_fetch 191 661 = some (661, .iconst 3, 1, 0, 0, 0, 0, 0) := rfl
set_option maxRecDepth 20000 in
theorem gk_f191_662 : gd_fetch 191 662 = some (662, .iadd, 1, 0, 0, 0, 0, 0) := rfl
set_option maxRecDepth 20000 in
theorem gk_f191_663 : gd_fetch 191 663 = some (663, .iaload, 1, 0, 0, 0, 0, 0) := rfl
set_option maxRecDepth 20000 in
theorem gk_f191_664 : gd_fetch 191 664 = some (664, .invokevirtual 74, 3, 1484, 153, 3, 0, 0) := rfl
set_option maxRecDepth 20000 in
theorem gk_f191_667 : gd_fetch 191 667 = some (667, .if_icmp .eq 292, 3, 0, 0, 0, 0, 0) := rfl
set_option maxRecDepth 20000 in
theorem gk_f191_670 : gd_fetch 191 670 = some (670, .iconst 0, 1, 0, 0, 0, 0, 0) := rfl
set_option maxRecDepth 20000 in
theorem gk_f191_671 : gd_fetch 191 671 = some (671, .ireturn, 1, 0, 0, 0, 0, 0) := rfl
set_option maxRecDepth 20000 in
theorem gk_f191_672 : gd_fetch 191 672 = some (672, .aload_n 1, 1, 0, 0, 0, 0, 0) := rfl
set_option maxRecDepth 20000 in
theorem gk_f191_673 : gd_fetch 191 673 = some (673, .aload_n 0, 1, 0, 0, 0, 0, 0) := rfl
set_option maxRecDepth 20000 in
theorem gk_f191_674 : gd_fetch 191 674 = some (674, .iload_n 3, 1, 0, 0, 0, 0, 0) := rfl
set_option maxRecDepth 20000 in
theorem gk_f191_675 : gd_fetch 191 675 = some (675, .iconst 1, 1, 0, 0, 0, 0, 0) := rfl
set_option maxRecDepth 20000 in
theorem gk_f191_676 : gd_fetch 191 676 = some (676, .iadd, 1, 0, 0, 0, 0, 0) := rfl
set_option maxRecDepth 20000 in
theorem gk_f191_677 : gd_fetch 191 677 = some (677, .iaload, 1, 0, 0, 0, 0, 0) := rfl
set_option maxRecDepth 20000 in
theorem gk_f191_678 : gd_fetch 191 678 = some (678, .aload_n 0, 1, 0, 0, 0, 0, 0) := rfl
set_option maxRecDepth 20000 in
theorem gk_f191_679 : gd_fetch 191 679 = some (679, .iload_n 3, 1, 0, 0, 0, 0, 0) := rfl
set_option maxRecDepth 20000 in
theorem gk_f191_680 : gd_fetch 191 680 = some (680, .iconst 2, 1, 0, 0, 0, 0, 0) := rfl
set_option maxRecDepth 20000 in
theorem gk_f191_681 : gd_fetch 191 681 = some (681, .iadd, 1, 0, 0, 0, 0, 0) := rfl
set_option maxRecDepth 20000 in
theorem gk_f191_682 : gd_fetch 191 682 = some (682, .iaload, 1, 0, 0, 0, 0, 0) := rfl
set_option maxRecDepth 20000 in
theorem gk_f191_683 : gd_fetch 191 683 = some (683, .aload_n 0, 1, 0, 0, 0, 0, 0) := rfl
set_option maxRecDepth 20000 in
theorem gk_f191_684 : gd_fetch 191 684 = some (684, .iload_n 3, 1, 0, 0, 0, 0, 0) := rfl
set_option maxRecDepth 20000 in
theorem gk_f191_685 : gd_fetch 191 685 = some (685, .iconst 3, 1, 0, 0, 0, 0, 0) := rfl
set_option maxRecDepth 20000 in
theorem gk_f191_686 : gd_fetch 191 686 = some (686, .iadd, 1, 0, 0, 0, 0, 0) := rfl
set_option maxRecDepth 20000 in
theorem gk_f191_687 : gd_fetch 191 687 = some (687, .iaload, 1, 0, 0, 0, 0, 0) := rfl
set_option maxRecDepth 20000 in
theorem gk_f191_688 : gd_fetch 191 688 = some (688, .aload_n 0, 1, 0, 0, 0, 0, 0) := rfl
set_option maxRecDepth 20000 in
theorem gk_f191_689 : gd_fetch 191 689 = some (689, .iload_n 3, 1, 0, 0, 0, 0, 0) := rfl
set_option maxRecDepth 20000 in
theorem gk_f191_690 : gd_fetch 191 690 = some (690, .iconst 4, 1, 0, 0, 0, 0, 0) := rfl
set_option maxRecDepth 20000 in
theorem gk_f191_691 : gd_fetch 191 691 = some (691, .iadd, 1, 0, 0, 0, 0, 0) := rfl
set_option maxRecDepth 20000 in
theorem gk_f191_692 : gd_fetch 191 692 = some (692, .iaload, 1, 0, 0, 0, 0, 0) := rfl
set_option maxRecDepth 20000 in
theorem gk_f191_693 : gd_fetch 191 693 = some (693, .invokevirtual 75, 3, 856, 154, 4, 0, 0) := rfl
set_option maxRecDepth 20000 in
theorem gk_f191_696 : gd_fetch 191 696 = some (696, .aload_n 2, 1, 0, 0, 0, 0, 0) := rfl
set_option maxRecDepth 20000 in
theorem gk_f191_697 : gd_fetch 191 697 = some (697, .aload_n 0, 1, 0, 0, 0, 0, 0) := rfl
set_option maxRecDepth 20000 in
theorem gk_f191_698 : gd_fetch 191 698 = some (698, .iload_n 3, 1, 0, 0, 0, 0, 0) := rfl
set_option maxRecDepth 20000 in
theorem gk_f191_699 : gd_fetch 191 699 = some (699, .iconst 1, 1, 0, 0, 0, 0, 0) := rfl
set_option maxRecDepth 20000 in
theorem gk_f191_700 : gd_fetch 191 700 = some (700, .iadd, 1, 0, 0, 0, 0, 0) := rfl
set_option maxRecDepth 20000 in
theorem gk_f191_701 : gd_fetch 191 701 = some (701, .iaload, 1, 0, 0, 0, 0, 0) := rfl
set_option maxRecDepth 20000 in
theorem gk_f191_702 : gd_fetch 191 702 = some (702, .aload_n 0, 1, 0, 0, 0, 0, 0) := rfl
set_option maxRecDepth 20000 in
theorem gk_f191_703 : gd_fetch 191 703 = some (703, .iload_n 3, 1, 0, 0, 0, 0, 0) := rfl
set_option maxRecDepth 20000 in
theorem gk_f191_704 : gd_fetch 191 704 = some (704, .iconst 2, 1, 0, 0, 0, 0, 0) := rfl
set_option maxRecDepth 20000 in
theorem gk_f191_705 : gd_fetch 191 705 = some (705, .iadd, 1, 0, 0, 0, 0, 0) := rfl
set_option maxRecDepth 20000 in
theorem gk_f191_706 : gd_fetch 191 706 = some (706, .iaload, 1, 0, 0, 0, 0, 0) := rfl
set_option maxRecDepth 20000 in
theorem gk_f191_707 : gd_fetch 191 707 = some (707, .aload_n 0, 1, 0, 0, 0, 0, 0) := rfl
set_option maxRecDepth 20000 in
theorem gk_f191_708 : gd_fetch 191 708 = some (708, .iload_n 3, 1, 0, 0, 0, 0, 0) := rfl
set_option maxRecDepth 20000 in
theorem gk_f191_709 : gd_fetch 191 709 = some (709, .iconst 3, 1, 0, 0, 0, 0, 0) := rfl
set_option maxRecDepth 20000 in
theorem gk_f191_710 : gd_fetch 191 710 = some (710, .iadd, 1, 0, 0, 0, 0, 0) := rfl
set_option maxRecDepth 20000 in
theorem gk_f191_711 : gd_fetch 191 711 = some (711, .iaload, 1, 0, 0, 0, 0, 0) := rfl
set_option maxRecDepth 20000 in
theorem gk_f191_712 : gd_fetch 191 712 = some (712, .aload_n 0, 1, 0, 0, 0, 0, 0) := rfl
set_option maxRecDepth 20000 in
theorem gk_f191_713 : gd_fetch 191 713 = some (713, .iload_n 3, 1, 0, 0, 0, 0, 0) := rfl
set_option maxRecDepth 20000 in
theorem gk_f191_714 : gd_fetch 191 714 = some (714, .iconst 4, 1, 0, 0, 0, 0, 0) := rfl
set_option maxRecDepth 20000 in
theorem gk_f191_715 : gd_fetch 191 715 = some (715, .iadd, 1, 0, 0, 0, 0, 0) := rfl
set_option maxRecDepth 20000 in
theorem gk_f191_716 : gd_fetch 191 716 = some (716, .iaload, 1, 0, 0, 0, 0, 0) := rfl
set_option maxRecDepth 20000 in
theorem gk_f191_717 : gd_fetch 191 717 = some (717, .invokevirtual 78, 3, 1489, 155, 4, 0, 0) := rfl
set_option maxRecDepth 20000 in
theorem gk_f191_720 : gd_fetch 191 720 = some (720, .if_icmp .eq 239, 3, 0, 0, 0, 0, 0) := rfl
set_option maxRecDepth 20000 in
theorem gk_f191_723 : gd_fetch 191 723 = some (723, .iconst 0, 1, 0, 0, 0, 0, 0) := rfl
set_option maxRecDepth 20000 in
theorem gk_f191_724 : gd_fetch 191 724 = some (724, .ireturn, 1, 0, 0, 0, 0, 0) := rfl
set_option maxRecDepth 20000 in
theorem gk_f191_725 : gd_fetch 191 725 = some (725, .aload_n 1, 1, 0, 0, 0, 0, 0) := rfl
set_option maxRecDepth 20000 in
theorem gk_f191_726 : gd_fetch 191 726 = some (726, .aload_n 0, 1, 0, 0, 0, 0, 0) := rfl
set_option maxRecDepth 20000 in
theorem gk_f191_727 : gd_fetch 191 727 = some (727, .iload_n 3, 1, 0, 0, 0, 0, 0) := rfl
set_option maxRecDepth 20000 in
theorem gk_f191_728 : gd_fetch 191 728 = some (728, .iconst 1, 1, 0, 0, 0, 0, 0) := rfl
set_option maxRecDepth 20000 in
theorem gk_f191_729 : gd_fetch 191 729 = some (729, .iadd, 1, 0, 0, 0, 0, 0) := rfl
set_option maxRecDepth 20000 in
theorem gk_f191_730 : gd_fetch 191 730 = some (730, .iaload, 1, 0, 0, 0, 0, 0) := rfl
set_option maxRecDepth 20000 in
theorem gk_f191_731 : gd_fetch 191 731 = some (731, .aload_n 0, 1, 0, 0, 0, 0, 0) := rfl
set_option maxRecDepth 20000 in
theorem gk_f191_732 : gd_fetch 191 732 = some (732, .iload_n 3, 1, 0, 0, 0, 0, 0) := rfl
set_option maxRecDepth 20000 in
theorem gk_f191_733 : gd_fetch 191 733 = some (733, .iconst 2, 1, 0, 0, 0, 0, 0) := rfl
set_option maxRecDepth 20000 in
theorem gk_f191_734 : gd_fetch 191 734 = some (734, .iadd, 1, 0, 0, 0, 0, 0) := rfl
set_option maxRecDepth 20000 in
theorem gk_f191_735 : gd_fetch 191 735 = some (735, .iaload, 1, 0, 0, 0, 0, 0) := rfl
set_option maxRecDepth 20000 in
theorem gk_f191_736 : gd_fetch 191 736 = some (736, .invokevirtual 79, 3, 861, 158, 2, 0, 0) := rfl
set_option maxRecDepth 20000 in
theorem gk_f191_739 : gd_fetch 191 739 = some (739, .aload_n 2, 1, 0, 0, 0, 0, 0) := rfl
set_option maxRecDepth 20000 in
theorem gk_f191_740 : gd_fetch 191 740 = some (740, .aload_n 0, 1, 0, 0, 0, 0, 0) := rfl
set_option maxRecDepth 20000 in
theorem gk_f191_741 : gd_fetch 191 741 = some (741, .iload_n 3, 1, 0, 0, 0, 0, 0) := rfl
set_option maxRecDepth 20000 in
theorem gk_f191_742 : gd_fetch 191 742 = some (742, .iconst 1, 1, 0, 0, 0, 0, 0) := rfl
set_option maxRecDepth 20000 in
theorem gk_f191_743 : gd_fetch 191 743 = some (743, .iadd, 1, 0, 0, 0, 0, 0) := rfl
set_option maxRecDepth 20000 in
theorem gk_f191_744 : gd_fetch 191 744 = some (744, .iaload, 1, 0, 0, 0, 0, 0) := rfl
set_option maxRecDepth 20000 in
theorem gk_f191_745 : gd_fetch 191 745 = some (745, .aload_n 0, 1, 0, 0, 0, 0, 0) := rfl
set_option maxRecDepth 20000 in
theorem gk_f191_746 : gd_fetch 191 746 = some (746, .iload_n 3, 1, 0, 0, 0, 0, 0) := rfl
set_option maxRecDepth 20000 in
theorem gk_f191_747 : gd_fetch 191 747 = some (747, .iconst 2, 1, 0, 0, 0, 0, 0) := rfl
set_option maxRecDepth 20000 in
theorem gk_f191_748 : gd_fetch 191 748 = some (748, .iadd, 1, 0, 0, 0, 0, 0) := rfl
set_option maxRecDepth 20000 in
theorem gk_f191_749 : gd_fetch 191 749 = some (749, .iaload, 1, 0, 0, 0, 0, 0) := rfl
set_option maxRecDepth 20000 in
theorem gk_f191_750 : gd_fetch 191 750 = some (750, .invokevirtual 82, 3, 1493, 159, 2, 0, 0) := rfl
set_option maxRecDepth 20000 in
theorem gk_f191_753 : gd_fetch 191 753 = some (753, .if_icmp .eq 206, 3, 0, 0, 0, 0, 0) := rfl
set_option maxRecDepth 20000 in
theorem gk_f191_756 : gd_fetch 191 756 = some (756, .iconst 0, 1, 0, 0, 0, 0, 0) := rfl
set_option maxRecDepth 20000 in
theorem gk_f191_757 : gd_fetch 191 757 = some (757, .ireturn, 1, 0, 0, 0, 0, 0) := rfl
set_option maxRecDepth 20000 in
theorem gk_f191_758 : gd_fetch 191 758 = some (758, .aload_n 1, 1, 0, 0, 0, 0, 0) := rfl
set_option maxRecDepth 20000 in
theorem gk_f191_759 : gd_fetch 191 759 = some (759, .aload_n 0, 1, 0, 0, 0, 0, 0) := rfl
set_option maxRecDepth 20000 in
theorem gk_f191_760 : gd_fetch 191 760 = some (760, .iload_n 3, 1, 0, 0, 0, 0, 0) := rfl
set_option maxRecDepth 20000 in
theorem gk_f191_761 : gd_fetch 191 761 = some (761, .iconst 1, 1, 0, 0, 0, 0, 0) := rfl
set_option maxRecDepth 20000 in
theorem gk_f191_762 : gd_fetch 191 762 = some (762, .iadd, 1, 0, 0, 0, 0, 0) := rfl
set_option maxRecDepth 20000 in
theorem gk_f191_763 : gd_fetch 191 763 = some (763, .iaload, 1, 0, 0, 0, 0, 0) := rfl
set_option maxRecDepth 20000 in
theorem gk_f191_764 : gd_fetch 191 764 = some (764, .invokevirtual 83, 3, 872, 165, 1, 0, 0) := rfl
set_option maxRecDepth 20000 in
theorem gk_f191_767 : gd_fetch 191 767 = some (767, .aload_n 2, 1, 0, 0, 0, 0, 0) := rfl
set_option maxRecDepth 20000 in
theorem gk_f191_768 : gd_fetch 191 768 = some (768, .aload_n 0, 1, 0, 0, 0, 0, 0) := rfl
set_option maxRecDepth 20000 in
theorem gk_f191_769 : gd_fetch 191 769 = some (769, .iload_n 3, 1, 0, 0, 0, 0, 0) := rfl
set_option maxRecDepth 20000 in
theorem gk_f191_770 : gd_fetch 191 770 = some (770, .iconst 1, 1, 0, 0, 0, 0, 0) := rfl
set_option maxRecDepth 20000 in
theorem gk_f191_771 : gd_fetch 191 771 = some (771, .iadd, 1, 0, 0, 0, 0, 0) := rfl
set_option maxRecDepth 20000 in
theorem gk_f191_772 : gd_fetch 191 772 = some (772, .iaload, 1, 0, 0, 0, 0, 0) := rfl
set_option maxRecDepth 20000 in
theorem gk_f191_773 : gd_fetch 191 773 = some (773, .invokevirtual 86, 3, 1497, 168, 1, 0, 0) := rfl
set_option maxRecDepth 20000 in
theorem gk_f191_776 : gd_fetch 191 776 = some (776, .if_icmp .eq 183, 3, 0, 0, 0, 0, 0) := rfl
set_option maxRecDepth 20000 in
theorem gk_f191_779 : gd_fetch 191 779 = some (779, .iconst 0, 1, 0, 0, 0, 0, 0) := rfl
set_option maxRecDepth 20000 in
theorem gk_f191_780 : gd_fetch 191 780 = some (780, .ireturn, 1, 0, 0, 0, 0, 0) := rfl
set_option maxRecDepth 20000 in
theorem gk_f191_781 : gd_fetch 191 781 = some (781, .aload_n 1, 1, 0, 0, 0, 0, 0) := rfl
set_option maxRecDepth 20000 in
theorem gk_f191_782 : gd_fetch 191 782 = some (782, .aload_n 0, 1, 0, 0, 0, 0, 0) := rfl
set_option maxRecDepth 20000 in
theorem gk_f191_783 : gd_fetch 191 783 = some (783, .iload_n 3, 1, 0, 0, 0, 0, 0) := rfl
set_option maxRecDepth 20000 in
theorem gk_f191_784 : gd_fetch 191 784 = some (784, .iconst 1, 1, 0, 0, 0, 0, 0) := rfl
set_option maxRecDepth 20000 in
theorem gk_f191_785 : gd_fetch 191 785 = some (785, .iadd, 1, 0, 0, 0, 0, 0) := rfl
set_option maxRecDepth 20000 in
theorem gk_f191_786 : gd_fetch 191 786 = some (786, .iaload, 1, 0, 0, 0, 0, 0) := rfl
set_option maxRecDepth 20000 in
theorem gk_f191_787 : gd_fetch 191 787 = some (787, .aload_n 0, 1, 0, 0, 0, 0, 0) := rfl
set_option maxRecDepth 20000 in
theorem gk_f191_788 : gd_fetch 191 788 = some (788, .iload_n 3, 1, 0, 0, 0, 0, 0) := rfl
set_option maxRecDepth 20000 in
theorem gk_f191_789 : gd_fetch 191 789 = some (789, .iconst 2, 1, 0, 0, 0, 0, 0) := rfl
set_option maxRecDepth 20000 in
theorem gk_f191_790 : gd_fetch 191 790 = some (790, .iadd, 1, 0, 0, 0, 0, 0) := rfl
set_option maxRecDepth 20000 in
theorem gk_f191_791 : gd_fetch 191 791 = some (791, .iaload, 1, 0, 0, 0, 0, 0) := rfl
set_option maxRecDepth 20000 in
theorem gk_f191_792 : gd_fetch 191 792 = some (792, .aload_n 0, 1, 0, 0, 0, 0, 0) := rfl
set_option maxRecDepth 20000 in
theorem gk_f191_793 : gd_fetch 191 793 = some (793, .iload_n 3, 1, 0, 0, 0, 0, 0) := rfl
set_option maxRecDepth 20000 in
theorem gk_f191_794 : gd_fetch 191 794 = some (794, .iconst 3, 1, 0, 0, 0, 0, 0) := rfl
set_option maxRecDepth 20000 in
theorem gk_f191_795 : gd_fetch 191 795 = some (795, .iadd, 1, 0, 0, 0, 0, 0) := rfl
set_option maxRecDepth 20000 in
theorem gk_f191_796 : gd_fetch 191 796 = some (796, .iaload, 1, 0, 0, 0, 0, 0) := rfl
set_option maxRecDepth 20000 in
theorem gk_f191_797 : gd_fetch 191 797 = some (797, .invokevirtual 87, 3, 896, 173, 3, 0, 0) := rfl
set_option maxRecDepth 20000 in
theorem gk_f191_800 : gd_fetch 191 800 = some (800, .aload_n 2, 1, 0, 0, 0, 0, 0) := rfl
set_option maxRecDepth 20000 in
theorem gk_f191_801 : gd_fetch 191 801 = some (801, .aload_n 0, 1, 0, 0, 0, 0, 0) := rfl
set_option maxRecDepth 20000 in
theorem gk_f191_802 : gd_fetch 191 802 = some (802, .iload_n 3, 1, 0, 0, 0, 0, 0) := rfl
set_option maxRecDepth 20000 in
theorem gk_f191_803 : gd_fetch 191 803 = some (803, .iconst 1, 1, 0, 0, 0, 0, 0) := rfl
set_option maxRecDepth 20000 in
theorem gk_f191_804 : gd_fetch 191 804 = some (804, .iadd, 1, 0, 0, 0, 0, 0) := rfl
set_option maxRecDepth 20000 in
theorem gk_f191_805 : gd_fetch 191 805 = some (805, .iaload, 1, 0, 0, 0, 0, 0) := rfl
set_option maxRecDepth 20000 in
theorem gk_f191_806 : gd_fetch 191 806 = some (806, .aload_n 0, 1, 0, 0, 0, 0, 0) := rfl
set_option maxRecDepth 20000 in
theorem gk_f191_807 : gd_fetch 191 807 = some (807, .iload_n 3, 1, 0, 0, 0, 0, 0) := rfl
set_option maxRecDepth 20000 in
theorem gk_f191_808 : gd_fetch 191 808 = some (808, .iconst 2, 1, 0, 0, 0, 0, 0) := rfl
set_option maxRecDepth 20000 in
theorem gk_f191_809 : gd_fetch 191 809 = some (809, .iadd, 1, 0, 0, 0, 0, 0) := rfl
set_option maxRecDepth 20000 in
theorem gk_f191_810 : gd_fetch 191 810 = some (810, .iaload, 1, 0, 0, 0, 0, 0) := rfl
set_option maxRecDepth 20000 in
theorem gk_f191_811 : gd_fetch 191 811 = some (811, .aload_n 0, 1, 0, 0, 0, 0, 0) := rfl
set_option maxRecDepth 20000 in
theorem gk_f191_812 : gd_fetch 191 812 = some (812, .iload_n 3, 1, 0, 0, 0, 0, 0) := rfl
set_option maxRecDepth 20000 in
theorem gk_f191_813 : gd_fetch 191 813 = some (813, .iconst 3, 1, 0, 0, 0, 0, 0) := rfl
set_option maxRecDepth 20000 in
theorem gk_f191_814 : gd_fetch 191 814 = some (814, .iadd, 1, 0, 0, 0, 0, 0) := rfl
set_option maxRecDepth 20000 in
theorem gk_f191_815 : gd_fetch 191 815 = some (815, .iaload, 1, 0, 0, 0, 0, 0) := rfl
set_option maxRecDepth 20000 in
theorem gk_f191_816 : gd_fetch 191 816 = some (816, .invokevirtual 90, 3, 1509, 175, 3, 0, 0) := rfl
set_option maxRecDepth 20000 in
theorem gk_f191_819 : gd_fetch 191 819 = some (819, .if_icmp .eq 140, 3, 0, 0, 0, 0, 0) := rfl
set_option maxRecDepth 20000 in
theorem gk_f191_822 : gd_fetch 191 822 = some (822, .iconst 0, 1, 0, 0, 0, 0, 0) := rfl
set_option maxRecDepth 20000 in
theorem gk_f191_823 : gd_fetch 191 823 = some (823, .ireturn, 1, 0, 0, 0, 0, 0) := rfl
set_option maxRecDepth 20000 in
theorem gk_f191_824 : gd_fetch 191 824 = some (824, .aload_n 1, 1, 0, 0, 0, 0, 0) := rfl
set_option maxRecDepth 20000 in
theorem gk_f191_825 : gd_fetch 191 825 = some (825, .aload_n 0, 1, 0, 0, 0, 0, 0) := rfl
set_option maxRecDepth 20000 in
theorem gk_f191_826 : gd_fetch 191 826 = some (826, .iload_n 3, 1, 0, 0, 0, 0, 0) := rfl
set_option maxRecDepth 20000 in
theorem gk_f191_827 : gd_fetch 191 827 = some (827, .iconst 1, 1, 0, 0, 0, 0, 0) := rfl
set_option maxRecDepth 20000 in
theorem gk_f191_828 : gd_fetch 191 828 = some (828, .iadd, 1, 0, 0, 0, 0, 0) := rfl
set_option maxRecDepth 20000 in
theorem gk_f191_829 : gd_fetch 191 829 = some (829, .iaload, 1, 0, 0, 0, 0, 0) := rfl
set_option maxRecDepth 20000 in
theorem gk_f191_830 : gd_fetch 191 830 = some (830, .aload_n 0, 1, 0, 0, 0, 0, 0) := rfl
set_option maxRecDepth 20000 in
theorem gk_f191_831 : gd_fetch 191 831 = some (831, .iload_n 3, 1, 0, 0, 0, 0, 0) := rfl
set_option maxRecDepth 20000 in
theorem gk_f191_832 : gd_fetch 191 832 = some (832, .iconst 2, 1, 0, 0, 0, 0, 0) := rfl
set_option maxRecDepth 20000 in
theorem gk_f191_833 : gd_fetch 191 833 = some (833, .iadd, 1, 0, 0, 0, 0, 0) := rfl
set_option maxRecDepth 20000 in
theorem gk_f191_834 : gd_fetch 191 834 = some (834, .iaload, 1, 0, 0, 0, 0, 0) := rfl
set_option maxRecDepth 20000 in
theorem gk_f191_835 : gd_fetch 191 835 = some (835, .invokevirtual 91, 3, 917, 176, 2, 0, 0) := rfl
set_option maxRecDepth 20000 in
theorem gk_f191_838 : gd_fetch 191 838 = some (838, .aload_n 2, 1, 0, 0, 0, 0, 0) := rfl
set_option maxRecDepth 20000 in
theorem gk_f191_839 : gd_fetch 191 839 = some (839, .aload_n 0, 1, 0, 0, 0, 0, 0) := rfl
set_option maxRecDepth 20000 in
theorem gk_f191_840 : gd_fetch 191 840 = some (840, .iload_n 3, 1, 0, 0, 0, 0, 0) := rfl
set_option maxRecDepth 20000 in
theorem gk_f191_841 : gd_fetch 191 841 = some (841, .iconst 1, 1, 0, 0, 0, 0, 0) := rfl
set_option maxRecDepth 20000 in
theorem gk_f191_842 : gd_fetch 191 842 = some (842, .iadd, 1, 0, 0, 0, 0, 0) := rfl
set_option maxRecDepth 20000 in
theorem gk_f191_843 : gd_fetch 191 843 = some (843, .iaload, 1, 0, 0, 0, 0, 0) := rfl
set_option maxRecDepth 20000 in
theorem gk_f191_844 : gd_fetch 191 844 = some (844, .aload_n 0, 1, 0, 0, 0, 0, 0) := rfl
set_option maxRecDepth 20000 in
theorem gk_f191_845 : gd_fetch 191 845 = some (845, .iload_n 3, 1, 0, 0, 0, 0, 0) := rfl
set_option maxRecDepth 20000 in
theorem gk_f191_846 : gd_fetch 191 846 = some (846, .iconst 2, 1, 0, 0, 0, 0, 0) := rfl
set_option maxRecDepth 20000 in
theorem gk_f191_847 : gd_fetch 191 847 = some (847, .iadd, 1, 0, 0, 0, 0, 0) := rfl
set_option maxRecDepth 20000 in
theorem gk_f191_848 : gd_fetch 191 848 = some (848, .iaload, 1, 0, 0, 0, 0, 0) := rfl
set_option maxRecDepth 20000 in
theorem gk_f191_849 : gd_fetch 191 849 = some (849, .invokevirtual 94, 3, 1517, 177, 2, 0, 0) := rfl
set_option maxRecDepth 20000 in
theorem gk_f191_852 : gd_fetch 191 852 = some (852, .if_icmp .eq 107, 3, 0, 0, 0, 0, 0) := rfl
set_option maxRecDepth 20000 in
theorem gk_f191_855 : gd_fetch 191 855 = some (855, .iconst 0, 1, 0, 0, 0, 0, 0) := rfl
set_option maxRecDepth 20000 in
theorem gk_f191_856 : gd_fetch 191 856 = some (856, .ireturn, 1, 0, 0, 0, 0, 0) := rfl
set_option maxRecDepth 20000 in
theorem gk_f191_857 : gd_fetch 191 857 = some (857, .aload_n 1, 1, 0, 0, 0, 0, 0) := rfl
set_option maxRecDepth 20000 in
theorem gk_f191_858 : gd_fetch 191 858 = some (858, .aload_n 0, 1, 0, 0, 0, 0, 0) := rfl
set_option maxRecDepth 20000 in
theorem gk_f191_859 : gd_fetch 191 859 = some (859, .iload_n 3, 1, 0, 0, 0, 0, 0) := rfl
set_option maxRecDepth 20000 in
theorem gk_f191_860 : gd_fetch 191 860 = some (860, .iconst 1, 1, 0, 0, 0, 0, 0) := rfl
set_option maxRecDepth 20000 in
theorem gk_f191_861 : gd_fetch 191 861 = some (861, .iadd, 1, 0, 0, 0, 0, 0) := rfl
set_option maxRecDepth 20000 in
theorem gk_f191_862 : gd_fetch 191 862 = some (862, .iaload, 1, 0, 0, 0, 0, 0) := rfl
set_option maxRecDepth 20000 in
theorem gk_f191_863 : gd_fetch 191 863 = some (863, .aload_n 0, 1, 0, 0, 0, 0, 0) := rfl
set_option maxRecDepth 20000 in
theorem gk_f191_864 : gd_fetch 191 864 = some (864, .iload_n 3, 1, 0, 0, 0, 0, 0) := rfl
set_option maxRecDepth 20000 in
theorem gk_f191_865 : gd_fetch 191 865 = some (865, .iconst 2, 1, 0, 0, 0, 0, 0) := rfl
set_option maxRecDepth 20000 in
theorem gk_f191_866 : gd_fetch 191 866 = some (866, .iadd, 1, 0, 0, 0, 0, 0) := rfl
set_option maxRecDepth 20000 in
theorem gk_f191_867 : gd_fetch 191 867 = some (867, .iaload, 1, 0, 0, 0, 0, 0) := rfl
set_option maxRecDepth 20000 in
theorem gk_f191_868 : gd_fetch 191 868 = some (868, .invokevirtual 95, 3, 921, 181, 2, 0, 0) := rfl
set_option maxRecDepth 20000 in
theorem gk_f191_871 : gd_fetch 191 871 = some (871, .aload_n 2, 1, 0, 0, 0, 0, 0) := rfl
set_option maxRecDepth 20000 in
theorem gk_f191_872 : gd_fetch 191 872 = some (872, .aload_n 0, 1, 0, 0, 0, 0, 0) := rfl
set_option maxRecDepth 20000 in
theorem gk_f191_873 : gd_fetch 191 873 = some (873, .iload_n 3, 1, 0, 0, 0, 0, 0) := rfl
set_option maxRecDepth 20000 in
theorem gk_f191_874 : gd_fetch 191 874 = some (874, .iconst 1, 1, 0, 0, 0, 0, 0) := rfl
set_option maxRecDepth 20000 in
theorem gk_f191_875 : gd_fetch 191 875 = some (875, .iadd, 1, 0, 0, 0, 0, 0) := rfl
set_option maxRecDepth 20000 in
theorem gk_f191_876 : gd_fetch 191 876 = some (876, .iaload, 1, 0, 0, 0, 0, 0) := rfl
set_option maxRecDepth 20000 in
theorem gk_f191_877 : gd_fetch 191 877 = some (877, .aload_n 0, 1, 0, 0, 0, 0, 0) := rfl
set_option maxRecDepth 20000 in
theorem gk_f191_878 : gd_fetch 191 878 = some (878, .iload_n 3, 1, 0, 0, 0, 0, 0) := rfl
set_option maxRecDepth 20000 in
theorem gk_f191_879 : gd_fetch 191 879 = some (879, .iconst 2, 1, 0, 0, 0, 0, 0) := rfl
set_option maxRecDepth 20000 in
theorem gk_f191_880 : gd_fetch 191 880 = some (880, .iadd, 1, 0, 0, 0, 0, 0) := rfl
set_option maxRecDepth 20000 in
theorem gk_f191_881 : gd_fetch 191 881 = some (881, .iaload, 1, 0, 0, 0, 0, 0) := rfl
set_option maxRecDepth 20000 in
theorem gk_f191_882 : gd_fetch 191 882 = some (882, .invokevirtual 98, 3, 1521, 183, 2, 0, 0) := rfl
set_option maxRecDepth 20000 in
theorem gk_f191_885 : gd_fetch 191 885 = some (885, .if_icmp .eq 74, 3, 0, 0, 0, 0, 0) := rfl
set_option maxRecDepth 20000 in
theorem gk_f191_888 : gd_fetch 191 888 = some (888, .iconst 0, 1, 0, 0, 0, 0, 0) := rfl
set_option maxRecDepth 20000 in
theorem gk_f191_889 : gd_fetch 191 889 = some (889, .ireturn, 1, 0, 0, 0, 0, 0) := rfl
set_option maxRecDepth 20000 in
theorem gk_f191_890 : gd_fetch 191 890 = some (890, .aload_n 1, 1, 0, 0, 0, 0, 0) := rfl
set_option maxRecDepth 20000 in
theorem gk_f191_891 : gd_fetch 191 891 = some (891, .aload_n 0, 1, 0, 0, 0, 0, 0) := rfl
set_option maxRecDepth 20000 in
theorem gk_f191_892 : gd_fetch 191 892 = some (892, .iload_n 3, 1, 0, 0, 0, 0, 0) := rfl
set_option maxRecDepth 20000 in
theorem gk_f191_893 : gd_fetch 191 893 = some (893, .iconst 1, 1, 0, 0, 0, 0, 0) := rfl
set_option maxRecDepth 20000 in
theorem gk_f191_894 : gd_fetch 191 894 = some (894, .iadd, 1, 0, 0, 0, 0, 0) := rfl
set_option maxRecDepth 20000 in
theorem gk_f191_895 : gd_fetch 191 895 = some (895, .iaload, 1, 0, 0, 0, 0, 0) := rfl
set_option maxRecDepth 20000 in
theorem gk_f191_896 : gd_fetch 191 896 = some (896, .invokevirtual 99, 3, 938, 184, 1, 0, 0) := rfl
set_option maxRecDepth 20000 in
theorem gk_f191_899 : gd_fetch 191 899 = some (899, .aload_n 2, 1, 0, 0, 0, 0, 0) := rfl
set_option maxRecDepth 20000 in
theorem gk_f191_900 : gd_fetch 191 900 = some (900, .aload_n 0, 1, 0, 0, 0, 0, 0) := rfl
set_option maxRecDepth 20000 in
theorem gk_f191_901 : gd_fetch 191 901 = some (901, .iload_n 3, 1, 0, 0, 0, 0, 0) := rfl
set_option maxRecDepth 20000 in
theorem gk_f191_902 : gd_fetch 191 902 = some (902, .iconst 1, 1, 0, 0, 0, 0, 0) := rfl
set_option maxRecDepth 20000 in
theorem gk_f191_903 : gd_fetch 191 903 = some (903, .iadd, 1, 0, 0, 0, 0, 0) := rfl
set_option maxRecDepth 20000 in
theorem gk_f191_904 : gd_fetch 191 904 = some (904, .iaload, 1, 0, 0, 0, 0, 0) := rfl
set_option maxRecDepth 20000 in
theorem gk_f191_905 : gd_fetch 191 905 = some (905, .invokevirtual 102, 3, 1529, 185, 1, 0, 0) := rfl
set_option maxRecDepth 20000 in
theorem gk_f191_908 : gd_fetch 191 908 = some (908, .if_icmp .eq 51, 3, 0, 0, 0, 0, 0) := rfl
set_option maxRecDepth 20000 in
theorem gk_f191_911 : gd_fetch 191 911 = some (911, .iconst 0, 1, 0, 0, 0, 0, 0) := rfl
set_option maxRecDepth 20000 in
theorem gk_f191_912 : gd_fetch 191 912 = some (912, .ireturn, 1, 0, 0, 0, 0, 0) := rfl
set_option maxRecDepth 20000 in
theorem gk_f191_913 : gd_fetch 191 913 = some (913, .aload_n 1, 1, 0, 0, 0, 0, 0) := rfl
set_option maxRecDepth 20000 in
theorem gk_f191_914 : gd_fetch 191 914 = some (914, .aload_n 0, 1, 0, 0, 0, 0, 0) := rfl
set_option maxRecDepth 20000 in
theorem gk_f191_915 : gd_fetch 191 915 = some (915, .iload_n 3, 1, 0, 0, 0, 0, 0) := rfl
set_option maxRecDepth 20000 in
theorem gk_f191_916 : gd_fetch 191 916 = some (916, .iconst 1, 1, 0, 0, 0, 0, 0) := rfl
set_option maxRecDepth 20000 in
theorem gk_f191_917 : gd_fetch 191 917 = some (917, .iadd, 1, 0, 0, 0, 0, 0) := rfl
set_option maxRecDepth 20000 in
theorem gk_f191_918 : gd_fetch 191 918 = some (918, .iaload, 1, 0, 0, 0, 0, 0) := rfl
set_option maxRecDepth 20000 in
theorem gk_f191_919 : gd_fetch 191 919 = some (919, .invokevirtual 103, 3, 942, 187, 1, 0, 0) := rfl
set_option maxRecDepth 20000 in
theorem gk_f191_922 : gd_fetch 191 922 = some (922, .aload_n 2, 1, 0, 0, 0, 0, 0) := rfl
set_option maxRecDepth 20000 in
theorem gk_f191_923 : gd_fetch 191 923 = some (923, .aload_n 0, 1, 0, 0, 0, 0, 0) := rfl
set_option maxRecDepth 20000 in
theorem gk_f191_924 : gd_fetch 191 924 = some (924, .iload_n 3, 1, 0, 0, 0, 0, 0) := rfl
set_option maxRecDepth 20000 in
theorem gk_f191_925 : gd_fetch 191 925 = some (925, .iconst 1, 1, 0, 0, 0, 0, 0) := rfl
set_option maxRecDepth 20000 in
theorem gk_f191_926 : gd_fetch 191 926 = some (926, .iadd, 1, 0, 0, 0, 0, 0) := rfl
set_option maxRecDepth 20000 in
theorem gk_f191_927 : gd_fetch 191 927 = some (927, .iaload, 1, 0, 0, 0, 0, 0) := rfl
set_option maxRecDepth 20000 in
theorem gk_f191_928 : gd_fetch 191 928 = some (928, .invokevirtual 106, 3, 1534, 188, 1, 0, 0) := rfl
set_option maxRecDepth 20000 in
theorem gk_f191_931 : gd_fetch 191 931 = some (931, .if_icmp .eq 28, 3, 0, 0, 0, 0, 0) := rfl
set_option maxRecDepth 20000 in
theorem gk_f191_934 : gd_fetch 191 934 = some (934, .iconst 0, 1, 0, 0, 0, 0, 0) := rfl
set_option maxRecDepth 20000 in
theorem gk_f191_935 : gd_fetch 191 935 = some (935, .ireturn, 1, 0, 0, 0, 0, 0) := rfl
set_option maxRecDepth 20000 in
theorem gk_f191_936 : gd_fetch 191 936 = some (936, .aload_n 1, 1, 0, 0, 0, 0, 0) := rfl
set_option maxRecDepth 20000 in
theorem gk_f191_937 : gd_fetch 191 937 = some (937, .aload_n 0, 1, 0, 0, 0, 0, 0) := rfl
set_option maxRecDepth 20000 in
theorem gk_f191_938 : gd_fetch 191 938 = some (938, .iload_n 3, 1, 0, 0, 0, 0, 0) := rfl
set_option maxRecDepth 20000 in
theorem gk_f191_939 : gd_fetch 191 939 = some (939, .iconst 1, 1, 0, 0, 0, 0, 0) := rfl
set_option maxRecDepth 20000 in
theorem gk_f191_940 : gd_fetch 191 940 = some (940, .iadd, 1, 0, 0, 0, 0, 0) := rfl
set_option maxRecDepth 20000 in
theorem gk_f191_941 : gd_fetch 191 941 = some (941, .iaload, 1, 0, 0, 0, 0, 0) := rfl
set_option maxRecDepth 20000 in
theorem gk_f191_942 : gd_fetch 191 942 = some (942, .invokevirtual 107, 3, 950, 189, 1, 0, 0) := rfl
set_option maxRecDepth 20000 in
theorem gk_f191_945 : gd_fetch 191 945 = some (945, .aload_n 2, 1, 0, 0, 0, 0, 0) := rfl
set_option maxRecDepth 20000 in
theorem gk_f191_946 : gd_fetch 191 946 = some (946, .aload_n 0, 1, 0, 0, 0, 0, 0) := rfl
set_option maxRecDepth 20000 in
theorem gk_f191_947 : gd_fetch 191 947 = some (947, .iload_n 3, 1, 0, 0, 0, 0, 0) := rfl
set_option maxRecDepth 20000 in
theorem gk_f191_948 : gd_fetch 191 948 = some (948, .iconst 1, 1, 0, 0, 0, 0, 0) := rfl
set_option maxRecDepth 20000 in
theorem gk_f191_949 : gd_fetch 191 949 = some (949, .iadd, 1, 0, 0, 0, 0, 0) := rfl
set_option maxRecDepth 20000 in
theorem gk_f191_950 : gd_fetch 191 950 = some (950, .iaload, 1, 0, 0, 0, 0, 0) := rfl
set_option maxRecDepth 20000 in
theorem gk_f191_951 : gd_fetch 191 951 = some (951, .invokevirtual 110, 3, 1538, 190, 1, 0, 0) := rfl
set_option maxRecDepth 20000 in
theorem gk_f191_954 : gd_fetch 191 954 = some (954, .if_icmp .eq 5, 3, 0, 0, 0, 0, 0) := rfl
set_option maxRecDepth 20000 in
theorem gk_f191_957 : gd_fetch 191 957 = some (957, .iconst 0, 1, 0, 0, 0, 0, 0) := rfl
set_option maxRecDepth 20000 in
theorem gk_f191_958 : gd_fetch 191 958 = some (958, .ireturn, 1, 0, 0, 0, 0, 0) := rfl
set_option maxRecDepth 20000 in
theorem gk_f191_959 : gd_fetch 191 959 = some (959, .iinc 3 6, 3, 0, 0, 0, 0, 0) := rfl
set_option maxRecDepth 20000 in
theorem gk_f191_962 : gd_fetch 191 962 = some (962, .goto (-944), 3, 0, 0, 0, 0, 0) := rfl
set_option maxRecDepth 20000 in
theorem gk_f191_965 : gd_fetch 191 965 = some (965, .iconst 1, 1, 0, 0, 0, 0, 0) := rfl
set_option maxRecDepth 20000 in
theorem gk_f191_966 : gd_fetch 191 966 = some (966, .ireturn, 1, 0, 0, 0, 0, 0) := rfl
set_option maxRecDepth 20000 in
set_option maxHeartbeats 4000000 in
theorem q_L_law  (m : gd_M) : gd_call 191 [.ref 3] m = if Nat.beq (gd_KD (gN m)) 6 = true then (if Nat.ble 8 (gN m) = true then ((gd_call 14 [.ref (gN m)] (gd_al m 15)).bind (gd_k0V fun m4 => if Nat.beq (gd_KD (gN m4)) 9 = true then (if Nat.ble 8 (gN m4) = true then ((gd_call 21 [.ref (gN m4)] (gd_al m4 45)).bind (gd_k0V fun m9 => gd_Den (191, 18, [.ref 3, .ref (gN m), .ref (gN m4), .int 0], [], m9))) else none) else none)) else none) else none := by
  refine Eq.trans (show gd_call 191 [.ref 3] m = gd_Den (191, 0, [.ref 3, .null, .null, .null], [], m) from by unfold gd_call gd_ent; rw [gk_ml191]; rfl) ?_
  refine Eq.trans (D_new gk_f191_0) ?_
  refine gd_ite (fun h2 => ?_) (fun _ => rfl)
  refine Eq.trans (D_dupR gk_f191_3) ?_
  refine Eq.trans (D_isp (args := [.ref (gN m)]) (rest := [.ref (gN m)]) gk_f191_4 rfl rfl rfl (gd_rmk gk_rm191_14 gk_ln14 gk_ml14 rfl rfl rfl) gk_rk14 (gd_hnd_n gk_nc191)) ?_
  refine gd_ite (fun h3 => ?_) (fun _ => rfl)
  refine gd_bnd (gd_k0V_c fun m4 => ?_)
  refine Eq.trans (D_astore_n gk_f191_7 gk_st191_1) ?_
  refine Eq.trans (D_new gk_f191_8) ?_
  refine gd_ite (fun h7 => ?_) (fun _ => rfl)
  refine Eq.trans (D_dupR gk_f191_11) ?_
  refine Eq.trans (D_isp (args := [.ref (gN m4)]) (rest := [.ref (gN m4)]) gk_f191_12 rfl rfl rfl (gd_rmk gk_rm191_21 gk_ln21 gk_ml21 rfl rfl rfl) gk_rk21 (gd_hnd_n gk_nc191)) ?_
  refine gd_ite (fun h8 => ?_) (fun _ => rfl)
  refine gd_bnd (gd_k0V_c fun m9 => ?_)
  refine Eq.trans (D_astore_n gk_f191_15 gk_st191_2) ?_
  refine Eq.trans (D_iconst (x := 0) gk_f191_16 gk_c_0) ?_
  refine Eq.trans (D_istore_n gk_f191_17 gk_st191_3) ?_
  rfl
set_option maxRecDepth 20000 in
set_option maxHeartbeats 4000000 in
theorem q_L_law_18 (r1 : Nat) (r2 : Nat) (x3 : Int32) (m : gd_M) : gd_Den (191, 18, [.ref 3, .ref r1, .ref r2, .int x3], [], m) = if (((Int32.ofNat (gL m)) - 6) < x3 : Prop) then (some (.int 1, m)) else (if gd_in x3 (gL m) = true then (if ((gI m 3 (x3 : Int32).toNatClampNeg) &&& 31) = 0 then (if gd_in (x3 + 1) (gL m) = true then (if gd_in (x3 + 2) (gL m) = true then (if gd_in (x3 + 3) (gL m) = true then (if gd_in (x3 + 4) (gL m) = true then (if gd_in (x3 + 5) (gL m) = true then (if gd_ok (gN m) r1 6 = true then ((gd_call 23 [.ref r1, .int (gI m 3 ((x3 + 1) : Int32).toNatClampNeg), .int (gI m 3 ((x3 + 2) : Int32).toNatClampNeg), .int (gI m 3 ((x3 + 3) : Int32).toNatClampNeg), .int (gI m 3 ((x3 + 4) : Int32).toNatClampNeg), .int (gI m 3 ((x3 + 5) : Int32).toNatClampNeg)] m).bind (gd_kI fun z14 m12 => if gd_in (x3 + 1) (gL m12) = true then (if gd_in (x3 + 2) (gL m12) = true then (if gd_in (x3 + 3) (gL m12) = true then (if gd_in (x3 + 4) (gL m12) = true then (if gd_in (x3 + 5) (gL m12) = true then (if gd_ok (gN m12) r2 9 = true then ((gd_call 24 [.ref r2, .int (gI m12 3 ((x3 + 1) : Int32).toNatClampNeg), .int (gI m12 3 ((x3 + 2) : Int32).toNatClampNeg), .int (gI m12 3 ((x3 + 3) : Int32).toNatClampNeg), .int (gI m12 3 ((x3 + 4) : Int32).toNatClampNeg), .int (gI m12 3 ((x3 + 5) : Int32).toNatClampNeg)] m12).bind (gd_kI fun z23 m21 => if (z14 = z23 : Prop) then (gd_Den (191, 18, [.ref 3, .ref r1, .ref r2, .int (x3 + 6)], [], m21)) else (some (.int 0, m21)))) else none) else none) else none) else none) else none) else none)) else none) else none) else none) else none) else none) else none) else if ((gI m 3 (x3 : Int32).toNatClampNeg) &&& 31) = 1 then (if gd_in (x3 + 1) (gL m) = true then (if gd_ok (gN m) r1 6 = true then ((gd_call 25 [.ref r1, .int (gI m 3 ((x3 + 1) : Int32).toNatClampNeg)] m).bind (gd_kI fun z32 m30 => if gd_in (x3 + 1) (gL m30) = true then (if gd_ok (gN m30) r2 9 = true then ((gd_call 26 [.ref r2, .int (gI m30 3 ((x3 + 1) : Int32).toNatClampNeg)] m30).bind (gd_kI fun z37 m35 => if (z32 = z37 : Prop) then (gd_Den (191, 18, [.ref 3, .ref r1, .ref r2, .int (x3 + 6)], [], m35)) else (some (.int 0, m35)))) else none) else none)) else none) else none) else if ((gI m 3 (x3 : Int32).toNatClampNeg) &&& 31) = 2 then (if gd_ok (gN m) r1 6 = true then ((gd_call 61 [.ref r1] m).bind (gd_kI fun z45 m43 => if gd_ok (gN m43) r2 9 = true then ((gd_call 82 [.ref r2] m43).bind (gd_k0I fun z49 m47 => if (z45 = z49 : Prop) then (gd_Den (191, 18, [.ref 3, .ref r1, .ref r2, .int (x3 + 6)], [], m47)) else (some (.int 0, m47)))) else none)) else none) else if ((gI m 3 (x3 : Int32).toNatClampNeg) &&& 31) = 3 then (if gd_in (x3 + 1) (gL m) = true then (if gd_ok (gN m) r1 6 = true then ((gd_call 83 [.ref r1, .int (gI m 3 ((x3 + 1) : Int32).toNatClampNeg)] m).bind (gd_kI fun z58 m56 => if gd_in (x3 + 1) (gL m56) = true then (if gd_ok (gN m56) r2 9 = true then ((gd_call 84 [.ref r2, .int (gI m56 3 ((x3 + 1) : Int32).toNatClampNeg)] m56).bind (gd_kI fun z63 m61 => if (z58 = z63 : Prop) then (gd_Den (191, 18, [.ref 3, .ref r1, .ref r2, .int (x3 + 6)], [], m61)) else (some (.int 0, m61)))) else none) else none)) else none) else none) else if ((gI m 3 (x3 : Int32).toNatClampNeg) &&& 31) = 4 then (if gd_in (x3 + 1) (gL m) = true then (if gd_in (x3 + 2) (gL m) = true then (if gd_ok (gN m) r1 6 = true then ((gd_call 87 [.ref r1, .int (gI m 3 ((x3 + 1) : Int32).toNatClampNeg), .int (gI m 3 ((x3 + 2) : Int32).toNatClampNeg)] m).bind (gd_kI fun z73 m71 => if gd_in (x3 + 1) (gL m71) = true then (if gd_in (x3 + 2) (gL m71) = true then (if gd_ok (gN m71) r2 9 = true then ((gd_call 88 [.ref r2, .int (gI m71 3 ((x3 + 1) : Int32).toNatClampNeg), .int (gI m71 3 ((x3 + 2) : Int32).toNatClampNeg)] m71).bind (gd_kI fun z79 m77 => if (z73 = z79 : Prop) then (gd_Den (191, 18, [.ref 3, .ref r1, .ref r2, .int (x3 + 6)], [], m77)) else (some (.int 0, m77)))) else none) else none) else none)) else none) else none) else none) else if ((gI m 3 (x3 : Int32).toNatClampNeg) &&& 31) = 5 then (if gd_in (x3 + 1) (gL m) = true then (if gd_ok (gN m) r1 6 = true then ((gd_call 90 [.ref r1, .int (gI m 3 ((x3 + 1) : Int32).toNatClampNeg)] m).bind (gd_kI fun z88 m86 => if gd_in (x3 + 1) (gL m86) = true then (if gd_ok (gN m86) r2 9 = true then ((gd_call 91 [.ref r2, .int (gI m86 3 ((x3 + 1) : Int32).toNatClampNeg)] m86).bind (gd_kI fun z93 m91 => if (z88 = z93 : Prop) then (gd_Den (191, 18, [.ref 3, .ref r1, .ref r2, .int (x3 + 6)], [], m91)) else (some (.int 0, m91)))) else none) else none)) else none) else none) else if ((gI m 3 (x3 : Int32).toNatClampNeg) &&& 31) = 6 then (if gd_in (x3 + 1) (gL m) = true then (if gd_in (x3 + 2) (gL m) = true then (if gd_ok (gN m) r1 6 = true then ((gd_call 96 [.ref r1, .int (gI m 3 ((x3 + 1) : Int32).toNatClampNeg), .int (gI m 3 ((x3 + 2) : Int32).toNatClampNeg)] m).bind (gd_kI fun z103 m101 => if gd_in (x3 + 1) (gL m101) = true then (if gd_in (x3 + 2) (gL m101) = true then (if gd_ok (gN m101) r2 9 = true then ((gd_call 99 [.ref r2, .int (gI m101 3 ((x3 + 1) : Int32).toNatClampNeg), .int (gI m101 3 ((x3 + 2) : Int32).toNatClampNeg)] m101).bind (gd_kI fun z109 m107 => if (z103 = z109 : Prop) then (gd_Den (191, 18, [.ref 3, .ref r1, .ref r2, .int (x3 + 6)], [], m107)) else (some (.int 0, m107)))) else none) else none) else none)) else none) else none) else none) else if ((gI m 3 (x3 : Int32).toNatClampNeg) &&& 31) = 7 then (if gd_in (x3 + 1) (gL m) = true then (if gd_in (x3 + 2) (gL m) = true then (if gd_in (x3 + 3) (gL m) = true then (if gd_ok (gN m) r1 6 = true then ((gd_call 102 [.ref r1, .int (gI m 3 ((x3 + 1) : Int32).toNatClampNeg), .int (gI m 3 ((x3 + 2) : Int32).toNatClampNeg), .int (gI m 3 ((x3 + 3) : Int32).toNatClampNeg)] m).bind (gd_kI fun z120 m118 => if gd_in (x3 + 1) (gL m118) = true then (if gd_in (x3 + 2) (gL m118) = true then (if gd_in (x3 + 3) (gL m118) = true then (if gd_ok (gN m118) r2 9 = true then ((gd_call 104 [.ref r2, .int (gI m118 3 ((x3 + 1) : Int32).toNatClampNeg), .int (gI m118 3 ((x3 + 2) : Int32).toNatClampNeg), .int (gI m118 3 ((x3 + 3) : Int32).toNatClampNeg)] m118).bind (gd_kI fun z127 m125 => if (z120 = z127 : Prop) then (gd_Den (191, 18, [.ref 3, .ref r1, .ref r2, .int (x3 + 6)], [], m125)) else (some (.int 0, m125)))) else none) else none) else none) else none)) else none) else none) else none) else none) else if ((gI m 3 (x3 : Int32).toNatClampNeg) &&& 31) = 8 then (if gd_in (x3 + 1) (gL m) = true then (if gd_in (x3 + 2) (gL m) = true then (if gd_in (x3 + 3) (gL m) = true then (if gd_in (x3 + 4) (gL m) = true then (if gd_ok (gN m) r1 6 = true then ((gd_call 111 [.ref r1, .int (gI m 3 ((x3 + 1) : Int32).toNatClampNeg), .int (gI m 3 ((x3 + 2) : Int32).toNatClampNeg), .int (gI m 3 ((x3 + 3) : Int32).toNatClampNeg), .int (gI m 3 ((x3 + 4) : Int32).toNatClampNeg)] m).bind (gd_kI fun z139 m137 => if gd_in (x3 + 1) (gL m137) = true then (if gd_in (x3 + 2) (gL m137) = true then (if gd_in (x3 + 3) (gL m137) = true then (if gd_in (x3 + 4) (gL m137) = true then (if gd_ok (gN m137) r2 9 = true then ((gd_call 113 [.ref r2, .int (gI m137 3 ((x3 + 1) : Int32).toNatClampNeg), .int (gI m137 3 ((x3 + 2) : Int32).toNatClampNeg), .int (gI m137 3 ((x3 + 3) : Int32).toNatClampNeg), .int (gI m137 3 ((x3 + 4) : Int32).toNatClampNeg)] m137).bind (gd_kI fun z147 m145 => if (z139 = z147 : Prop) then (gd_Den (191, 18, [.ref 3, .ref r1, .ref r2, .int (x3 + 6)], [], m145)) else (some (.int 0, m145)))) else none) else none) else none) else none) else none)) else none) else none) else none) else none) else none) else if ((gI m 3 (x3 : Int32).toNatClampNeg) &&& 31) = 9 then (if gd_in (x3 + 1) (gL m) = true then (if gd_in (x3 + 2) (gL m) = true then (if gd_ok (gN m) r1 6 = true then ((gd_call 114 [.ref r1, .int (gI m 3 ((x3 + 1) : Int32).toNatClampNeg), .int (gI m 3 ((x3 + 2) : Int32).toNatClampNeg)] m).bind (gd_kI fun z157 m155 => if gd_in (x3 + 1) (gL m155) = true then (if gd_in (x3 + 2) (gL m155) = true then (if gd_ok (gN m155) r2 9 = true then ((gd_call 115 [.ref r2, .int (gI m155 3 ((x3 + 1) : Int32).toNatClampNeg), .int (gI m155 3 ((x3 + 2) : Int32).toNatClampNeg)] m155).bind (gd_kI fun z163 m161 => if (z157 = z163 : Prop) then (gd_Den (191, 18, [.ref 3, .ref r1, .ref r2, .int (x3 + 6)], [], m161)) else (some (.int 0, m161)))) else none) else none) else none)) else none) else none) else none) else if ((gI m 3 (x3 : Int32).toNatClampNeg) &&& 31) = 10 then (if gd_in (x3 + 1) (gL m) = true then (if gd_in (x3 + 2) (gL m) = true then (if gd_in (x3 + 3) (gL m) = true then (if gd_in (x3 + 4) (gL m) = true then (if gd_in (x3 + 5) (gL m) = true then (if gd_ok (gN m) r1 6 = true then ((gd_call 119 [.ref r1, .int (gI m 3 ((x3 + 1) : Int32).toNatClampNeg), .int (gI m 3 ((x3 + 2) : Int32).toNatClampNeg), .int (gI m 3 ((x3 + 3) : Int32).toNatClampNeg), .int (gI m 3 ((x3 + 4) : Int32).toNatClampNeg), .int (gI m 3 ((x3 + 5) : Int32).toNatClampNeg)] m).bind (gd_kI fun z176 m174 => if gd_in (x3 + 1) (gL m174) = true then (if gd_in (x3 + 2) (gL m174) = true then (if gd_in (x3 + 3) (gL m174) = true then (if gd_in (x3 + 4) (gL m174) = true then (if gd_in (x3 + 5) (gL m174) = true then (if gd_ok (gN m174) r2 9 = true then ((gd_call 121 [.ref r2, .int (gI m174 3 ((x3 + 1) : Int32).toNatClampNeg), .int (gI m174 3 ((x3 + 2) : Int32).toNatClampNeg), .int (gI m174 3 ((x3 + 3) : Int32).toNatClampNeg), .int (gI m174 3 ((x3 + 4) : Int32).toNatClampNeg), .int (gI m174 3 ((x3 + 5) : Int32).toNatClampNeg)] m174).bind (gd_kI fun z185 m183 => if (z176 = z185 : Prop) then (gd_Den (191, 18, [.ref 3, .ref r1, .ref r2, .int (x3 + 6)], [], m183)) else (some (.int 0, m183)))) else none) else none) else none) else none) else none) else none)) else none) else none) else none) else none) else none) else none) else if ((gI m 3 (x3 : Int32).toNatClampNeg) &&& 31) = 11 then (if gd_in (x3 + 1) (gL m) = true then (if gd_in (x3 + 2) (gL m) = true then (if gd_in (x3 + 3) (gL m) = true then (if gd_ok (gN m) r1 6 = true then ((gd_call 137 [.ref r1, .int (gI m 3 ((x3 + 1) : Int32).toNatClampNeg), .int (gI m 3 ((x3 + 2) : Int32).toNatClampNeg), .int (gI m 3 ((x3 + 3) : Int32).toNatClampNeg)] m).bind (gd_kI fun z196 m194 => if gd_in (x3 + 1) (gL m194) = true then (if gd_in (x3 + 2) (gL m194) = true then (if gd_in (x3 + 3) (gL m194) = true then (if gd_ok (gN m194) r2 9 = true then ((gd_call 145 [.ref r2, .int (gI m194 3 ((x3 + 1) : Int32).toNatClampNeg), .int (gI m194 3 ((x3 + 2) : Int32).toNatClampNeg), .int (gI m194 3 ((x3 + 3) : Int32).toNatClampNeg)] m194).bind (gd_kI fun z203 m201 => if (z196 = z203 : Prop) then (gd_Den (191, 18, [.ref 3, .ref r1, .ref r2, .int (x3 + 6)], [], m201)) else (some (.int 0, m201)))) else none) else none) else none) else none)) else none) else none) else none) else none) else if ((gI m 3 (x3 : Int32).toNatClampNeg) &&& 31) = 12 then (if gd_in (x3 + 1) (gL m) = true then (if gd_in (x3 + 2) (gL m) = true then (if gd_in (x3 + 3) (gL m) = true then (if gd_ok (gN m) r1 6 = true then ((gd_call 148 [.ref r1, .int (gI m 3 ((x3 + 1) : Int32).toNatClampNeg), .int (gI m 3 ((x3 + 2) : Int32).toNatClampNeg), .int (gI m 3 ((x3 + 3) : Int32).toNatClampNeg)] m).bind (gd_kI fun z214 m212 => if gd_in (x3 + 1) (gL m212) = true then (if gd_in (x3 + 2) (gL m212) = true then (if gd_in (x3 + 3) (gL m212) = true then (if gd_ok (gN m212) r2 9 = true then ((gd_call 150 [.ref r2, .int (gI m212 3 ((x3 + 1) : Int32).toNatClampNeg), .int (gI m212 3 ((x3 + 2) : Int32).toNatClampNeg), .int (gI m212 3 ((x3 + 3) : Int32).toNatClampNeg)] m212).bind (gd_kI fun z221 m219 => if (z214 = z221 : Prop) then (gd_Den (191, 18, [.ref 3, .ref r1, .ref r2, .int (x3 + 6)], [], m219)) else (some (.int 0, m219)))) else none) else none) else none) else none)) else none) else none) else none) else none) else if ((gI m 3 (x3 : Int32).toNatClampNeg) &&& 31) = 13 then (if gd_in (x3 + 1) (gL m) = true then (if gd_in (x3 + 2) (gL m) = true then (if gd_in (x3 + 3) (gL m) = true then (if gd_ok (gN m) r1 6 = true then ((gd_call 152 [.ref r1, .int (gI m 3 ((x3 + 1) : Int32).toNatClampNeg), .int (gI m 3 ((x3 + 2) : Int32).toNatClampNeg), .int (gI m 3 ((x3 + 3) : Int32).toNatClampNeg)] m).bind (gd_kI fun z232 m230 => if gd_in (x3 + 1) (gL m230) = true then (if gd_in (x3 + 2) (gL m230) = true then (if gd_in (x3 + 3) (gL m230) = true then (if gd_ok (gN m230) r2 9 = true then ((gd_call 153 [.ref r2, .int (gI m230 3 ((x3 + 1) : Int32).toNatClampNeg), .int (gI m230 3 ((x3 + 2) : Int32).toNatClampNeg), .int (gI m230 3 ((x3 + 3) : Int32).toNatClampNeg)] m230).bind (gd_kI fun z239 m237 => if (z232 = z239 : Prop) then (gd_Den (191, 18, [.ref 3, .ref r1, .ref r2, .int (x3 + 6)], [], m237)) else (some (.int 0, m237)))) else none) else none) else none) else none)) else none) else none) else none) else none) else if ((gI m 3 (x3 : Int32).toNatClampNeg) &&& 31) = 14 then (if gd_in (x3 + 1) (gL m) = true then (if gd_in (x3 + 2) (gL m) = true then (if gd_in (x3 + 3) (gL m) = true then (if gd_in (x3 + 4) (gL m) = true then (if gd_ok (gN m) r1 6 = true then ((gd_call 154 [.ref r1, .int (gI m 3 ((x3 + 1) : Int32).toNatClampNeg), .int (gI m 3 ((x3 + 2) : Int32).toNatClampNeg), .int (gI m 3 ((x3 + 3) : Int32).toNatClampNeg), .int (gI m 3 ((x3 + 4) : Int32).toNatClampNeg)] m).bind (gd_kI fun z251 m249 => if gd_in (x3 + 1) (gL m249) = true then (if gd_in (x3 + 2) (gL m249) = true then (if gd_in (x3 + 3) (gL m249) = true then (if gd_in (x3 + 4) (gL m249) = true then (if gd_ok (gN m249) r2 9 = true then ((gd_call 155 [.ref r2, .int (gI m249 3 ((x3 + 1) : Int32).toNatClampNeg), .int (gI m249 3 ((x3 + 2) : Int32).toNatClampNeg), .int (gI m249 3 ((x3 + 3) : Int32).toNatClampNeg), .int (gI m249 3 ((x3 + 4) : Int32).toNatClampNeg)] m249).bind (gd_kI fun z259 m257 => if (z251 = z259 : Prop) then (gd_Den (191, 18, [.ref 3, .ref r1, .ref r2, .int (x3 + 6)], [], m257)) else (some (.int 0, m257)))) else none) else none) else none) else none) else none)) else none) else none) else none) else none) else none) else if ((gI m 3 (x3 : Int32).toNatClampNeg) &&& 31) = 15 then (if gd_in (x3 + 1) (gL m) = true then (if gd_in (x3 + 2) (gL m) = true then (if gd_ok (gN m) r1 6 = true then ((gd_call 158 [.ref r1, .int (gI m 3 ((x3 + 1) : Int32).toNatClampNeg), .int (gI m 3 ((x3 + 2) : Int32).toNatClampNeg)] m).bind (gd_kI fun z269 m267 => if gd_in (x3 + 1) (gL m267) = true then (if gd_in (x3 + 2) (gL m267) = true then (if gd_ok (gN m267) r2 9 = true then ((gd_call 159 [.ref r2, .int (gI m267 3 ((x3 + 1) : Int32).toNatClampNeg), .int (gI m267 3 ((x3 + 2) : Int32).toNatClampNeg)] m267).bind (gd_kI fun z275 m273 => if (z269 = z275 : Prop) then (gd_Den (191, 18, [.ref 3, .ref r1, .ref r2, .int (x3 + 6)], [], m273)) else (some (.int 0, m273)))) else none) else none) else none)) else none) else none) else none) else if ((gI m 3 (x3 : Int32).toNatClampNeg) &&& 31) = 16 then (if gd_in (x3 + 1) (gL m) = true then (if gd_ok (gN m) r1 6 = true then ((gd_call 165 [.ref r1, .int (gI m 3 ((x3 + 1) : Int32).toNatClampNeg)] m).bind (gd_kI fun z284 m282 => if gd_in (x3 + 1) (gL m282) = true then (if gd_ok (gN m282) r2 9 = true then ((gd_call 168 [.ref r2, .int (gI m282 3 ((x3 + 1) : Int32).toNatClampNeg)] m282).bind (gd_kI fun z289 m287 => if (z284 = z289 : Prop) then (gd_Den (191, 18, [.ref 3, .ref r1, .ref r2, .int (x3 + 6)], [], m287)) else (some (.int 0, m287)))) else none) else none)) else none) else none) else if ((gI m 3 (x3 : Int32).toNatClampNeg) &&& 31) = 17 then (if gd_in (x3 + 1) (gL m) = true then (if gd_in (x3 + 2) (gL m) = true then (if gd_in (x3 + 3) (gL m) = true then (if gd_ok (gN m) r1 6 = true then ((gd_call 173 [.ref r1, .int (gI m 3 ((x3 + 1) : Int32).toNatClampNeg), .int (gI m 3 ((x3 + 2) : Int32).toNatClampNeg), .int (gI m 3 ((x3 + 3) : Int32).toNatClampNeg)] m).bind (gd_kI fun z300 m298 => if gd_in (x3 + 1) (gL m298) = true then (if gd_in (x3 + 2) (gL m298) = true then (if gd_in (x3 + 3) (gL m298) = true then (if gd_ok (gN m298) r2 9 = true then ((gd_call 175 [.ref r2, .int (gI m298 3 ((x3 + 1) : Int32).toNatClampNeg), .int (gI m298 3 ((x3 + 2) : Int32).toNatClampNeg), .int (gI m298 3 ((x3 + 3) : Int32).toNatClampNeg)] m298).bind (gd_kI fun z307 m305 => if (z300 = z307 : Prop) then (gd_Den (191, 18, [.ref 3, .ref r1, .ref r2, .int (x3 + 6)], [], m305)) else (some (.int 0, m305)))) else none) else none) else none) else none)) else none) else none) else none) else none) else if ((gI m 3 (x3 : Int32).toNatClampNeg) &&& 31) = 18 then (if gd_in (x3 + 1) (gL m) = true then (if gd_in (x3 + 2) (gL m) = true then (if gd_ok (gN m) r1 6 = true then ((gd_call 176 [.ref r1, .int (gI m 3 ((x3 + 1) : Int32).toNatClampNeg), .int (gI m 3 ((x3 + 2) : Int32).toNatClampNeg)] m).bind (gd_kI fun z317 m315 => if gd_in (x3 + 1) (gL m315) = true then (if gd_in (x3 + 2) (gL m315) = true then (if gd_ok (gN m315) r2 9 = true then ((gd_call 177 [.ref r2, .int (gI m315 3 ((x3 + 1) : Int32).toNatClampNeg), .int (gI m315 3 ((x3 + 2) : Int32).toNatClampNeg)] m315).bind (gd_kI fun z323 m321 => if (z317 = z323 : Prop) then (gd_Den (191, 18, [.ref 3, .ref r1, .ref r2, .int (x3 + 6)], [], m321)) else (some (.int 0, m321)))) else none) else none) else none)) else none) else none) else none) else if ((gI m 3 (x3 : Int32).toNatClampNeg) &&& 31) = 19 then (if gd_in (x3 + 1) (gL m) = true then (if gd_in (x3 + 2) (gL m) = true then (if gd_ok (gN m) r1 6 = true then ((gd_call 181 [.ref r1, .int (gI m 3 ((x3 + 1) : Int32).toNatClampNeg), .int (gI m 3 ((x3 + 2) : Int32).toNatClampNeg)] m).bind (gd_kI fun z333 m331 => if gd_in (x3 + 1) (gL m331) = true then (if gd_in (x3 + 2) (gL m331) = true then (if gd_ok (gN m331) r2 9 = true then ((gd_call 183 [.ref r2, .int (gI m331 3 ((x3 + 1) : Int32).toNatClampNeg), .int (gI m331 3 ((x3 + 2) : Int32).toNatClampNeg)] m331).bind (gd_kI fun z339 m337 => if (z333 = z339 : Prop) then (gd_Den (191, 18, [.ref 3, .ref r1, .ref r2, .int (x3 + 6)], [], m337)) else (some (.int 0, m337)))) else none) else none) else none)) else none) else none) else none) else if ((gI m 3 (x3 : Int32).toNatClampNeg) &&& 31) = 20 then (if gd_in (x3 + 1) (gL m) = true then (if gd_ok (gN m) r1 6 = true then ((gd_call 184 [.ref r1, .int (gI m 3 ((x3 + 1) : Int32).toNatClampNeg)] m).bind (gd_kI fun z348 m346 => if gd_in (x3 + 1) (gL m346) = true then (if gd_ok (gN m346) r2 9 = true then ((gd_call 185 [.ref r2, .int (gI m346 3 ((x3 + 1) : Int32).toNatClampNeg)] m346).bind (gd_kI fun z353 m351 => if (z348 = z353 : Prop) then (gd_Den (191, 18, [.ref 3, .ref r1, .ref r2, .int (x3 + 6)], [], m351)) else (some (.int 0, m351)))) else none) else none)) else none) else none) else if ((gI m 3 (x3 : Int32).toNatClampNeg) &&& 31) = 21 then (if gd_in (x3 + 1) (gL m) = true then (if gd_ok (gN m) r1 6 = true then ((gd_call 187 [.ref r1, .int (gI m 3 ((x3 + 1) : Int32).toNatClampNeg)] m).bind (gd_kI fun z362 m360 => if gd_in (x3 + 1) (gL m360) = true then (if gd_ok (gN m360) r2 9 = true then ((gd_call 188 [.ref r2, .int (gI m360 3 ((x3 + 1) : Int32).toNatClampNeg)] m360).bind (gd_kI fun z367 m365 => if (z362 = z367 : Prop) then (gd_Den (191, 18, [.ref 3, .ref r1, .ref r2, .int (x3 + 6)], [], m365)) else (some (.int 0, m365)))) else none) else none)) else none) else none) else if ((gI m 3 (x3 : Int32).toNatClampNeg) &&& 31) = 22 then (if gd_in (x3 + 1) (gL m) = true then (if gd_ok (gN m) r1 6 = true then ((gd_call 189 [.ref r1, .int (gI m 3 ((x3 + 1) : Int32).toNatClampNeg)] m).bind (gd_kI fun z376 m374 => if gd_in (x3 + 1) (gL m374) = true then (if gd_ok (gN m374) r2 9 = true then ((gd_call 190 [.ref r2, .int (gI m374 3 ((x3 + 1) : Int32).toNatClampNeg)] m374).bind (gd_kI fun z381 m379 => if (z376 = z381 : Prop) then (gd_Den (191, 18, [.ref 3, .ref r1, .ref r2, .int (x3 + 6)], [], m379)) else (some (.int 0, m379)))) else none) else none)) else none) else none) else (gd_Den (191, 18, [.ref 3, .ref r1, .ref r2, .int (x3 + 6)], [], m))) else none) := by
  refine Eq.trans (D_iload_n (x := x3) gk_f191_18 rfl) ?_
  refine Eq.trans (D_aload_n (x := 3) gk_f191_19 rfl) ?_
  refine Eq.trans (D_alenS gk_f191_20 gk_10t) ?_
  refine Eq.trans (D_bipush (x := 6) gk_f191_21 gk_b_6) ?_
  refine Eq.trans (D_isub gk_f191_23) ?_
  refine Eq.trans (D_ic_gt (t := 965) gk_f191_24 (by decide)) ?_
  refine gd_ite (fun h1 => ?_) (fun h2 => ?_)
  · refine Eq.trans (D_iconst (x := 1) gk_f191_965 gk_c_1) ?_
    refine Eq.trans (D_zreturn gk_f191_966 gk_rk191) ?_
    exact if_pos rfl
  · refine Eq.trans (D_aload_n (x := 3) gk_f191_27 rfl) ?_
    refine Eq.trans (D_iload_n (x := x3) gk_f191_28 rfl) ?_
    refine Eq.trans (D_ialdS gk_f191_29 gk_10t) ?_
    refine gd_ite (fun h3 => ?_) (fun _ => rfl)
    refine Eq.trans (D_bipush (x := 31) gk_f191_30 gk_b_31) ?_
    refine Eq.trans (D_iand gk_f191_32) ?_
    refine Eq.trans (D_tsw (vs := [(0, 140), (1, 203), (2, 226), (3, 239), (4, 262), (5, 295), (6, 318), (7, 351), (8, 394), (9, 447), (10, 480), (11, 543), (12, 586), (13, 629), (14, 672), (15, 725), (16, 758), (17, 781), (18, 824), (19, 857), (20, 890), (21, 913), (22, 936)]) (t := 959) gk_f191_33 (by decide) (by decide)) ?_
    refine gd_ite (fun h4 => ?_) (fun h5 => ?_)
    · refine Eq.trans (D_aload_n (x := r1) gk_f191_140 rfl) ?_
      refine Eq.trans (D_aload_n (x := 3) gk_f191_141 rfl) ?_
      refine Eq.trans (D_iload_n (x := x3) gk_f191_142 rfl) ?_
      refine Eq.trans (D_iconst (x := 1) gk_f191_143 gk_c_1) ?_
      refine Eq.trans (D_iadd gk_f191_144) ?_
      refine Eq.trans (D_ialdS gk_f191_145 gk_10t) ?_
      refine gd_ite (fun h6 => ?_) (fun _ => rfl)
      refine Eq.trans (D_aload_n (x := 3) gk_f191_146 rfl) ?_
      refine Eq.trans (D_iload_n (x := x3) gk_f191_147 rfl) ?_
      refine Eq.trans (D_iconst (x := 2) gk_f191_148 gk_c_2) ?_
      refine Eq.trans (D_iadd gk_f191_149) ?_
      refine Eq.trans (D_ialdS gk_f191_150 gk_10t) ?_
      refine gd_ite (fun h7 => ?_) (fun _ => rfl)
      refine Eq.trans (D_aload_n (x := 3) gk_f191_151 rfl) ?_
      refine Eq.trans (D_iload_n (x := x3) gk_f191_152 rfl) ?_
      refine Eq.trans (D_iconst (x := 3) gk_f191_153 gk_c_3) ?_
      refine Eq.trans (D_iadd gk_f191_154) ?_
      refine Eq.trans (D_ialdS gk_f191_155 gk_10t) ?_
      refine gd_ite (fun h8 => ?_) (fun _ => rfl)
      refine Eq.trans (D_aload_n (x := 3) gk_f191_156 rfl) ?_
      refine Eq.trans (D_iload_n (x := x3) gk_f191_157 rfl) ?_
      refine Eq.trans (D_iconst (x := 4) gk_f191_158 gk_c_4) ?_
      refine Eq.trans (D_iadd gk_f191_159) ?_
      refine Eq.trans (D_ialdS gk_f191_160 gk_10t) ?_
      refine gd_ite (fun h9 => ?_) (fun _ => rfl)
      refine Eq.trans (D_aload_n (x := 3) gk_f191_161 rfl) ?_
      refine Eq.trans (D_iload_n (x := x3) gk_f191_162 rfl) ?_
      refine Eq.trans (D_iconst (x := 5) gk_f191_163 gk_c_5) ?_
      refine Eq.trans (D_iadd gk_f191_164) ?_
      refine Eq.trans (D_ialdS gk_f191_165 gk_10t) ?_
      refine gd_ite (fun h10 => ?_) (fun _ => rfl)
      refine Eq.trans (D_ivI (cl := 6) (args := [.ref r1, .int (gI m 3 ((x3 + 1) : Int32).toNatClampNeg), .int (gI m 3 ((x3 + 2) : Int32).toNatClampNeg), .int (gI m 3 ((x3 + 3) : Int32).toNatClampNeg), .int (gI m 3 ((x3 + 4) : Int32).toNatClampNeg), .int (gI m 3 ((x3 + 5) : Int32).toNatClampNeg)]) (rest := []) gk_f191_166 rfl rfl (gd_rmk gk_rm191_23 gk_ln23 gk_ml23 rfl rfl rfl) gk_rk23 (gd_hnd_n gk_nc191) gk_nc23 gk_n11_23 gk_cl23) ?_
      refine gd_ite (fun h11 => ?_) (fun _ => rfl)
      refine gd_bnd (gd_kI_c fun z14 m12 => ?_)
      refine Eq.trans (D_aload_n (x := r2) gk_f191_169 rfl) ?_
      refine Eq.trans (D_aload_n (x := 3) gk_f191_170 rfl) ?_
      refine Eq.trans (D_iload_n (x := x3) gk_f191_171 rfl) ?_
      refine Eq.trans (D_iconst (x := 1) gk_f191_172 gk_c_1) ?_
      refine Eq.trans (D_iadd gk_f191_173) ?_
      refine Eq.trans (D_ialdS gk_f191_174 gk_10t) ?_
      refine gd_ite (fun h15 => ?_) (fun _ => rfl)
      refine Eq.trans (D_aload_n (x := 3) gk_f191_175 rfl) ?_
      refine Eq.trans (D_iload_n (x := x3) gk_f191_176 rfl) ?_
      refine Eq.trans (D_iconst (x := 2) gk_f191_177 gk_c_2) ?_
      refine Eq.trans (D_iadd gk_f191_178) ?_
      refine Eq.trans (D_ialdS gk_f191_179 gk_10t) ?_
      refine gd_ite (fun h16 => ?_) (fun _ => rfl)
      refine Eq.trans (D_aload_n (x := 3) gk_f191_180 rfl) ?_
      refine Eq.trans (D_iload_n (x := x3) gk_f191_181 rfl) ?_
      refine Eq.trans (D_iconst (x := 3) gk_f191_182 gk_c_3) ?_
      refine Eq.trans (D_iadd gk_f191_183) ?_
      refine Eq.trans (D_ialdS gk_f191_184 gk_10t) ?_
      refine gd_ite (fun h17 => ?_) (fun _ => rfl)
      refine Eq.trans (D_aload_n (x := 3) gk_f191_185 rfl) ?_
      refine Eq.trans (D_iload_n (x := x3) gk_f191_186 rfl) ?_
      refine Eq.trans (D_iconst (x := 4) gk_f191_187 gk_c_4) ?_
      refine Eq.trans (D_iadd gk_f191_188) ?_
      refine Eq.trans (D_ialdS gk_f191_189 gk_10t) ?_
      refine gd_ite (fun h18 => ?_) (fun _ => rfl)
      refine Eq.trans (D_aload_n (x := 3) gk_f191_190 rfl) ?_
      refine Eq.trans (D_iload_n (x := x3) gk_f191_191 rfl) ?_
      refine Eq.trans (D_iconst (x := 5) gk_f191_192 gk_c_5) ?_
      refine Eq.trans (D_iadd gk_f191_193) ?_
      refine Eq.trans (D_ialdS gk_f191_194 gk_10t) ?_
      refine gd_ite (fun h19 => ?_) (fun _ => rfl)
      refine Eq.trans (D_ivI (cl := 9) (args := [.ref r2, .int (gI m12 3 ((x3 + 1) : Int32).toNatClampNeg), .int (gI m12 3 ((x3 + 2) : Int32).toNatClampNeg), .int (gI m12 3 ((x3 + 3) : Int32).toNatClampNeg), .int (gI m12 3 ((x3 + 4) : Int32).toNatClampNeg), .int (gI m12 3 ((x3 + 5) : Int32).toNatClampNeg)]) (rest := [.int z14]) gk_f191_195 rfl rfl (gd_rmk gk_rm191_24 gk_ln24 gk_ml24 rfl rfl rfl) gk_rk24 (gd_hnd_n gk_nc191) gk_nc24 gk_n11_24 gk_cl24) ?_
      refine gd_ite (fun h20 => ?_) (fun _ => rfl)
      refine gd_bnd (gd_kI_c fun z23 m21 => ?_)
      refine Eq.trans (D_ic_eq (t := 959) gk_f191_198 (by decide)) ?_
      refine gd_ite (fun h24 => ?_) (fun h25 => ?_)
      · refine Eq.trans (D_iinc (x := x3) (y := 6) gk_f191_959 rfl gk_c_6 gk_st191_3) ?_
        refine Eq.trans (D_goto (t := 18) gk_f191_962 (by decide)) ?_
        rfl
      · refine Eq.trans (D_iconst (x := 0) gk_f191_201 gk_c_0) ?_
        refine Eq.trans (D_zreturn gk_f191_202 gk_rk191) ?_
        exact if_pos rfl
    refine gd_ite (fun h26 => ?_) (fun h27 => ?_)
    · refine Eq.trans (D_aload_n (x := r1) gk_f191_203 rfl) ?_
      refine Eq.trans (D_aload_n (x := 3) gk_f191_204 rfl) ?_
      refine Eq.trans (D_iload_n (x := x3) gk_f191_205 rfl) ?_
      refine Eq.trans (D_iconst (x := 1) gk_f191_206 gk_c_1) ?_
      refine Eq.trans (D_iadd gk_f191_207) ?_
      refine Eq.trans (D_ialdS gk_f191_208 gk_10t) ?_
      refine gd_ite (fun h28 => ?_) (fun _ => rfl)
      refine Eq.trans (D_ivI (cl := 6) (args := [.ref r1, .int (gI m 3 ((x3 + 1) : Int32).toNatClampNeg)]) (rest := []) gk_f191_209 rfl rfl (gd_rmk gk_rm191_25 gk_ln25 gk_ml25 rfl rfl rfl) gk_rk25 (gd_hnd_n gk_nc191) gk_nc25 gk_n11_25 gk_cl25) ?_
      refine gd_ite (fun h29 => ?_) (fun _ => rfl)
      refine gd_bnd (gd_kI_c fun z32 m30 => ?_)
      refine Eq.trans (D_aload_n (x := r2) gk_f191_212 rfl) ?_
      refine Eq.trans (D_aload_n (x := 3) gk_f191_213 rfl) ?_
      refine Eq.trans (D_iload_n (x := x3) gk_f191_214 rfl) ?_
      refine Eq.trans (D_iconst (x := 1) gk_f191_215 gk_c_1) ?_
      refine Eq.trans (D_iadd gk_f191_216) ?_
      refine Eq.trans (D_ialdS gk_f191_217 gk_10t) ?_
      refine gd_ite (fun h33 => ?_) (fun _ => rfl)
      refine Eq.trans (D_ivI (cl := 9) (args := [.ref r2, .int (gI m30 3 ((x3 + 1) : Int32).toNatClampNeg)]) (rest := [.int z32]) gk_f191_218 rfl rfl (gd_rmk gk_rm191_26 gk_ln26 gk_ml26 rfl rfl rfl) gk_rk26 (gd_hnd_n gk_nc191) gk_nc26 gk_n11_26 gk_cl26) ?_
      refine gd_ite (fun h34 => ?_) (fun _ => rfl)
      refine gd_bnd (gd_kI_c fun z37 m35 => ?_)
      refine Eq.trans (D_ic_eq (t := 959) gk_f191_221 (by decide)) ?_
      refine gd_ite (fun h38 => ?_) (fun h39 => ?_)
      · refine Eq.trans (D_iinc (x := x3) (y := 6) gk_f191_959 rfl gk_c_6 gk_st191_3) ?_
        refine Eq.trans (D_goto (t := 18) gk_f191_962 (by decide)) ?_
        rfl
      · refine Eq.trans (D_iconst (x := 0) gk_f191_224 gk_c_0) ?_
        refine Eq.trans (D_zreturn gk_f191_225 gk_rk191) ?_
        exact if_pos rfl
    refine gd_ite (fun h40 => ?_) (fun h41 => ?_)
    · refine Eq.trans (D_aload_n (x := r1) gk_f191_226 rfl) ?_
      refine Eq.trans (D_ivI (cl := 6) (args := [.ref r1]) (rest := []) gk_f191_227 rfl rfl (gd_rmk gk_rm191_61 gk_ln61 gk_ml61 rfl rfl rfl) gk_rk61 (gd_hnd_n gk_nc191) gk_nc61 gk_n11_61 gk_cl61) ?_
      refine gd_ite (fun h42 => ?_) (fun _ => rfl)
      refine gd_bnd (gd_kI_c fun z45 m43 => ?_)
      refine Eq.trans (D_aload_n (x := r2) gk_f191_230 rfl) ?_
      refine Eq.trans (D_ivC (cl := 9) (args := [.ref r2]) (rest := [.int z45]) gk_f191_231 rfl rfl (gd_rmk gk_rm191_82 gk_ln82 gk_ml82 rfl rfl rfl) gk_rk82 (gd_hnd_n gk_nc191) gk_nc82 gk_n11_82 gk_cl82) ?_
      refine gd_ite (fun h46 => ?_) (fun _ => rfl)
      refine gd_bnd (gd_k0I_c fun z49 m47 => ?_)
      refine Eq.trans (D_ic_eq (t := 959) gk_f191_234 (by decide)) ?_
      refine gd_ite (fun h50 => ?_) (fun h51 => ?_)
      · refine Eq.trans (D_iinc (x := x3) (y := 6) gk_f191_959 rfl gk_c_6 gk_st191_3) ?_
        refine Eq.trans (D_goto (t := 18) gk_f191_962 (by decide)) ?_
        rfl
      · refine Eq.trans (D_iconst (x := 0) gk_f191_237 gk_c_0) ?_
        refine Eq.trans (D_zreturn gk_f191_238 gk_rk191) ?_
        exact if_pos rfl
    refine gd_ite (fun h52 => ?_) (fun h53 => ?_)
    · refine Eq.trans (D_aload_n (x := r1) gk_f191_239 rfl) ?_
      refine Eq.trans (D_aload_n (x := 3) gk_f191_240 rfl) ?_
      refine Eq.trans (D_iload_n (x := x3) gk_f191_241 rfl) ?_
      refine Eq.trans (D_iconst (x := 1) gk_f191_242 gk_c_1) ?_
      refine Eq.trans (D_iadd gk_f191_243) ?_
      refine Eq.trans (D_ialdS gk_f191_244 gk_10t) ?_
      refine gd_ite (fun h54 => ?_) (fun _ => rfl)
      refine Eq.trans (D_ivI (cl := 6) (args := [.ref r1, .int (gI m 3 ((x3 + 1) : Int32).toNatClampNeg)]) (rest := []) gk_f191_245 rfl rfl (gd_rmk gk_rm191_83 gk_ln83 gk_ml83 rfl rfl rfl) gk_rk83 (gd_hnd_n gk_nc191) gk_nc83 gk_n11_83 gk_cl83) ?_
      refine gd_ite (fun h55 => ?_) (fun _ => rfl)
      refine gd_bnd (gd_kI_c fun z58 m56 => ?_)
      refine Eq.trans (D_aload_n (x := r2) gk_f191_248 rfl) ?_
      refine Eq.trans (D_aload_n (x := 3) gk_f191_249 rfl) ?_
      refine Eq.trans (D_iload_n (x := x3) gk_f191_250 rfl) ?_
      refine Eq.trans (D_iconst (x := 1) gk_f191_251 gk_c_1) ?_
      refine Eq.trans (D_iadd gk_f191_252) ?_
      refine Eq.trans (D_ialdS gk_f191_253 gk_10t) ?_
      refine gd_ite (fun h59 => ?_) (fun _ => rfl)
      refine Eq.trans (D_ivI (cl := 9) (args := [.ref r2, .int (gI m56 3 ((x3 + 1) : Int32).toNatClampNeg)]) (rest := [.int z58]) gk_f191_254 rfl rfl (gd_rmk gk_rm191_84 gk_ln84 gk_ml84 rfl rfl rfl) gk_rk84 (gd_hnd_n gk_nc191) gk_nc84 gk_n11_84 gk_cl84) ?_
      refine gd_ite (fun h60 => ?_) (fun _ => rfl)
      refine gd_bnd (gd_kI_c fun z63 m61 => ?_)
      refine Eq.trans (D_ic_eq (t := 959) gk_f191_257 (by decide)) ?_
      refine gd_ite (fun h64 => ?_) (fun h65 => ?_)
      · refine Eq.trans (D_iinc (x := x3) (y := 6) gk_f191_959 rfl gk_c_6 gk_st191_3) ?_
        refine Eq.trans (D_goto (t := 18) gk_f191_962 (by decide)) ?_
        rfl
      · refine Eq.trans (D_iconst (x := 0) gk_f191_260 gk_c_0) ?_
        refine Eq.trans (D_zreturn gk_f191_261 gk_rk191) ?_
        exact if_pos rfl
    refine gd_ite (fun h66 => ?_) (fun h67 => ?_)
    · refine Eq.trans (D_aload_n (x := r1) gk_f191_262 rfl) ?_
      refine Eq.trans (D_aload_n (x := 3) gk_f191_263 rfl) ?_
      refine Eq.trans (D_iload_n (x := x3) gk_f191_264 rfl) ?_
      refine Eq.trans (D_iconst (x := 1) gk_f191_265 gk_c_1) ?_
      refine Eq.trans (D_iadd gk_f191_266) ?_
      refine Eq.trans (D_ialdS gk_f191_267 gk_10t) ?_
      refine gd_ite (fun h68 => ?_) (fun _ => rfl)
      refine Eq.trans (D_aload_n (x := 3) gk_f191_268 rfl) ?_
      refine Eq.trans (D_iload_n (x := x3) gk_f191_269 rfl) ?_
      refine Eq.trans (D_iconst (x := 2) gk_f191_270 gk_c_2) ?_
      refine Eq.trans (D_iadd gk_f191_271) ?_
      refine Eq.trans (D_ialdS gk_f191_272 gk_10t) ?_
      refine gd_ite (fun h69 => ?_) (fun _ => rfl)
      refine Eq.trans (D_ivI (cl := 6) (args := [.ref r1, .int (gI m 3 ((x3 + 1) : Int32).toNatClampNeg), .int (gI m 3 ((x3 + 2) : Int32).toNatClampNeg)]) (rest := []) gk_f191_273 rfl rfl (gd_rmk gk_rm191_87 gk_ln87 gk_ml87 rfl rfl rfl) gk_rk87 (gd_hnd_n gk_nc191) gk_nc87 gk_n11_87 gk_cl87) ?_
      refine gd_ite (fun h70 => ?_) (fun _ => rfl)
      refine gd_bnd (gd_kI_c fun z73 m71 => ?_)
      refine Eq.trans (D_aload_n (x := r2) gk_f191_276 rfl) ?_
      refine Eq.trans (D_aload_n (x := 3) gk_f191_277 rfl) ?_
      refine Eq.trans (D_iload_n (x := x3) gk_f191_278 rfl) ?_
      refine Eq.trans (D_iconst (x := 1) gk_f191_279 gk_c_1) ?_
      refine Eq.trans (D_iadd gk_f191_280) ?_
      refine Eq.trans (D_ialdS gk_f191_281 gk_10t) ?_
      refine gd_ite (fun h74 => ?_) (fun _ => rfl)
      refine Eq.trans (D_aload_n (x := 3) gk_f191_282 rfl) ?_
      refine Eq.trans (D_iload_n (x := x3) gk_f191_283 rfl) ?_
      refine Eq.trans (D_iconst (x := 2) gk_f191_284 gk_c_2) ?_
      refine Eq.trans (D_iadd gk_f191_285) ?_
      refine Eq.trans (D_ialdS gk_f191_286 gk_10t) ?_
      refine gd_ite (fun h75 => ?_) (fun _ => rfl)
      refine Eq.trans (D_ivI (cl := 9) (args := [.ref r2, .int (gI m71 3 ((x3 + 1) : Int32).toNatClampNeg), .int (gI m71 3 ((x3 + 2) : Int32).toNatClampNeg)]) (rest := [.int z73]) gk_f191_287 rfl rfl (gd_rmk gk_rm191_88 gk_ln88 gk_ml88 rfl rfl rfl) gk_rk88 (gd_hnd_n gk_nc191) gk_nc88 gk_n11_88 gk_cl88) ?_
      refine gd_ite (fun h76 => ?_) (fun _ => rfl)
      refine gd_bnd (gd_kI_c fun z79 m77 => ?_)
      refine Eq.trans (D_ic_eq (t := 959) gk_f191_290 (by decide)) ?_
      refine gd_ite (fun h80 => ?_) (fun h81 => ?_)
      · refine Eq.trans (D_iinc (x := x3) (y := 6) gk_f191_959 rfl gk_c_6 gk_st191_3) ?_
        refine Eq.trans (D_goto (t := 18) gk_f191_962 (by decide)) ?_
        rfl
      · refine Eq.trans (D_iconst (x := 0) gk_f191_293 gk_c_0) ?_
        refine Eq.trans (D_zreturn gk_f191_294 gk_rk191) ?_
        exact if_pos rfl
    refine gd_ite (fun h82 => ?_) (fun h83 => ?_)
    · refine Eq.trans (D_aload_n (x := r1) gk_f191_295 rfl) ?_
      refine Eq.trans (D_aload_n (x := 3) gk_f191_296 rfl) ?_
      refine Eq.trans (D_iload_n (x := x3) gk_f191_297 rfl) ?_
      refine Eq.trans (D_iconst (x := 1) gk_f191_298 gk_c_1) ?_
      refine Eq.trans (D_iadd gk_f191_299) ?_
      refine Eq.trans (D_ialdS gk_f191_300 gk_10t) ?_
      refine gd_ite (fun h84 => ?_) (fun _ => rfl)
      refine Eq.trans (D_ivI (cl := 6) (args := [.ref r1, .int (gI m 3 ((x3 + 1) : Int32).toNatClampNeg)]) (rest := []) gk_f191_301 rfl rfl (gd_rmk gk_rm191_90 gk_ln90 gk_ml90 rfl rfl rfl) gk_rk90 (gd_hnd_n gk_nc191) gk_nc90 gk_n11_90 gk_cl90) ?_
      refine gd_ite (fun h85 => ?_) (fun _ => rfl)
      refine gd_bnd (gd_kI_c fun z88 m86 => ?_)
      refine Eq.trans (D_aload_n (x := r2) gk_f191_304 rfl) ?_
      refine Eq.trans (D_aload_n (x := 3) gk_f191_305 rfl) ?_
      refine Eq.trans (D_iload_n (x := x3) gk_f191_306 rfl) ?_
      refine Eq.trans (D_iconst (x := 1) gk_f191_307 gk_c_1) ?_
      refine Eq.trans (D_iadd gk_f191_308) ?_
      refine Eq.trans (D_ialdS gk_f191_309 gk_10t) ?_
      refine gd_ite (fun h89 => ?_) (fun _ => rfl)
      refine Eq.trans (D_ivI (cl := 9) (args := [.ref r2, .int (gI m86 3 ((x3 + 1) : Int32).toNatClampNeg)]) (rest := [.int z88]) gk_f191_310 rfl rfl (gd_rmk gk_rm191_91 gk_ln91 gk_ml91 rfl rfl rfl) gk_rk91 (gd_hnd_n gk_nc191) gk_nc91 gk_n11_91 gk_cl91) ?_
      refine gd_ite (fun h90 => ?_) (fun _ => rfl)
      refine gd_bnd (gd_kI_c fun z93 m91 => ?_)
      refine Eq.trans (D_ic_eq (t := 959) gk_f191_313 (by decide)) ?_
      refine gd_ite (fun h94 => ?_) (fun h95 => ?_)
      · refine Eq.trans (D_iinc (x := x3) (y := 6) gk_f191_959 rfl gk_c_6 gk_st191_3) ?_
        refine Eq.trans (D_goto (t := 18) gk_f191_962 (by decide)) ?_
        rfl
      · refine Eq.trans (D_iconst (x := 0) gk_f191_316 gk_c_0) ?_
        refine Eq.trans (D_zreturn gk_f191_317 gk_rk191) ?_
        exact if_pos rfl
    refine gd_ite (fun h96 => ?_) (fun h97 => ?_)
    · refine Eq.trans (D_aload_n (x := r1) gk_f191_318 rfl) ?_
      refine Eq.trans (D_aload_n (x := 3) gk_f191_319 rfl) ?_
      refine Eq.trans (D_iload_n (x := x3) gk_f191_320 rfl) ?_
      refine Eq.trans (D_iconst (x := 1) gk_f191_321 gk_c_1) ?_
      refine Eq.trans (D_iadd gk_f191_322) ?_
      refine Eq.trans (D_ialdS gk_f191_323 gk_10t) ?_
      refine gd_ite (fun h98 => ?_) (fun _ => rfl)
      refine Eq.trans (D_aload_n (x := 3) gk_f191_324 rfl) ?_
      refine Eq.trans (D_iload_n (x := x3) gk_f191_325 rfl) ?_
      refine Eq.trans (D_iconst (x := 2) gk_f191_326 gk_c_2) ?_
      refine Eq.trans (D_iadd gk_f191_327) ?_
      refine Eq.trans (D_ialdS gk_f191_328 gk_10t) ?_
      refine gd_ite (fun h99 => ?_) (fun _ => rfl)
      refine Eq.trans (D_ivI (cl := 6) (args := [.ref r1, .int (gI m 3 ((x3 + 1) : Int32).toNatClampNeg), .int (gI m 3 ((x3 + 2) : Int32).toNatClampNeg)]) (rest := []) gk_f191_329 rfl rfl (gd_rmk gk_rm191_96 gk_ln96 gk_ml96 rfl rfl rfl) gk_rk96 (gd_hnd_n gk_nc191) gk_nc96 gk_n11_96 gk_cl96) ?_
      refine gd_ite (fun h100 => ?_) (fun _ => rfl)
      refine gd_bnd (gd_kI_c fun z103 m101 => ?_)
      refine Eq.trans (D_aload_n (x := r2) gk_f191_332 rfl) ?_
      refine Eq.trans (D_aload_n (x := 3) gk_f191_333 rfl) ?_
      refine Eq.trans (D_iload_n (x := x3) gk_f191_334 rfl) ?_
      refine Eq.trans (D_iconst (x := 1) gk_f191_335 gk_c_1) ?_
      refine Eq.trans (D_iadd gk_f191_336) ?_
      refine Eq.trans (D_ialdS gk_f191_337 gk_10t) ?_
      refine gd_ite (fun h104 => ?_) (fun _ => rfl)
      refine Eq.trans (D_aload_n (x := 3) gk_f191_338 rfl) ?_
      refine Eq.trans (D_iload_n (x := x3) gk_f191_339 rfl) ?_
      refine Eq.trans (D_iconst (x := 2) gk_f191_340 gk_c_2) ?_
      refine Eq.trans (D_iadd gk_f191_341) ?_
      refine Eq.trans (D_ialdS gk_f191_342 gk_10t) ?_
      refine gd_ite (fun h105 => ?_) (fun _ => rfl)
      refine Eq.trans (D_ivI (cl := 9) (args := [.ref r2, .int (gI m101 3 ((x3 + 1) : Int32).toNatClampNeg), .int (gI m101 3 ((x3 + 2) : Int32).toNatClampNeg)]) (rest := [.int z103]) gk_f191_343 rfl rfl (gd_rmk gk_rm191_99 gk_ln99 gk_ml99 rfl rfl rfl) gk_rk99 (gd_hnd_n gk_nc191) gk_nc99 gk_n11_99 gk_cl99) ?_
      refine gd_ite (fun h106 => ?_) (fun _ => rfl)
      refine gd_bnd (gd_kI_c fun z109 m107 => ?_)
      refine Eq.trans (D_ic_eq (t := 959) gk_f191_346 (by decide)) ?_
      refine gd_ite (fun h110 => ?_) (fun h111 => ?_)
      · refine Eq.trans (D_iinc (x := x3) (y := 6) gk_f191_959 rfl gk_c_6 gk_st191_3) ?_
        refine Eq.trans (D_goto (t := 18) gk_f191_962 (by decide)) ?_
        rfl
      · refine Eq.trans (D_iconst (x := 0) gk_f191_349 gk_c_0) ?_
        refine Eq.trans (D_zreturn gk_f191_350 gk_rk191) ?_
        exact if_pos rfl
    refine gd_ite (fun h112 => ?_) (fun h113 => ?_)
    · refine Eq.trans (D_aload_n (x := r1) gk_f191_351 rfl) ?_
      refine Eq.trans (D_aload_n (x := 3) gk_f191_352 rfl) ?_
      refine Eq.trans (D_iload_n (x := x3) gk_f191_353 rfl) ?_
      refine Eq.trans (D_iconst (x := 1) gk_f191_354 gk_c_1) ?_
      refine Eq.trans (D_iadd gk_f191_355) ?_
      refine Eq.trans (D_ialdS gk_f191_356 gk_10t) ?_
      refine gd_ite (fun h114 => ?_) (fun _ => rfl)
      refine Eq.trans (D_aload_n (x := 3) gk_f191_357 rfl) ?_
      refine Eq.trans (D_iload_n (x := x3) gk_f191_358 rfl) ?_
      refine Eq.trans (D_iconst (x := 2) gk_f191_359 gk_c_2) ?_
      refine Eq.trans (D_iadd gk_f191_360) ?_
      refine Eq.trans (D_ialdS gk_f191_361 gk_10t) ?_
      refine gd_ite (fun h115 => ?_) (fun _ => rfl)
      refine Eq.trans (D_aload_n (x := 3) gk_f191_362 rfl) ?_
      refine Eq.trans (D_iload_n (x := x3) gk_f191_363 rfl) ?_
      refine Eq.trans (D_iconst (x := 3) gk_f191_364 gk_c_3) ?_
      refine Eq.trans (D_iadd gk_f191_365) ?_
      refine Eq.trans (D_ialdS gk_f191_366 gk_10t) ?_
      refine gd_ite (fun h116 => ?_) (fun _ => rfl)
      refine Eq.trans (D_ivI (cl := 6) (args := [.ref r1, .int (gI m 3 ((x3 + 1) : Int32).toNatClampNeg), .int (gI m 3 ((x3 + 2) : Int32).toNatClampNeg), .int (gI m 3 ((x3 + 3) : Int32).toNatClampNeg)]) (rest := []) gk_f191_367 rfl rfl (gd_rmk gk_rm191_102 gk_ln102 gk_ml102 rfl rfl rfl) gk_rk102 (gd_hnd_n gk_nc191) gk_nc102 gk_n11_102 gk_cl102) ?_
      refine gd_ite (fun h117 => ?_) (fun _ => rfl)
      refine gd_bnd (gd_kI_c fun z120 m118 => ?_)
      refine Eq.trans (D_aload_n (x := r2) gk_f191_370 rfl) ?_
      refine Eq.trans (D_aload_n (x := 3) gk_f191_371 rfl) ?_
      refine Eq.trans (D_iload_n (x := x3) gk_f191_372 rfl) ?_
      refine Eq.trans (D_iconst (x := 1) gk_f191_373 gk_c_1) ?_
      refine Eq.trans (D_iadd gk_f191_374) ?_
      refine Eq.trans (D_ialdS gk_f191_375 gk_10t) ?_
      refine gd_ite (fun h121 => ?_) (fun _ => rfl)
      refine Eq.trans (D_aload_n (x := 3) gk_f191_376 rfl) ?_
      refine Eq.trans (D_iload_n (x := x3) gk_f191_377 rfl) ?_
      refine Eq.trans (D_iconst (x := 2) gk_f191_378 gk_c_2) ?_
      refine Eq.trans (D_iadd gk_f191_379) ?_
      refine Eq.trans (D_ialdS gk_f191_380 gk_10t) ?_
      refine gd_ite (fun h122 => ?_) (fun _ => rfl)
      refine Eq.trans (D_aload_n (x := 3) gk_f191_381 rfl) ?_
      refine Eq.trans (D_iload_n (x := x3) gk_f191_382 rfl) ?_
      refine Eq.trans (D_iconst (x := 3) gk_f191_383 gk_c_3) ?_
      refine Eq.trans (D_iadd gk_f191_384) ?_
      refine Eq.trans (D_ialdS gk_f191_385 gk_10t) ?_
      refine gd_ite (fun h123 => ?_) (fun _ => rfl)
      refine Eq.trans (D_ivI (cl := 9) (args := [.ref r2, .int (gI m118 3 ((x3 + 1) : Int32).toNatClampNeg), .int (gI m118 3 ((x3 + 2) : Int32).toNatClampNeg), .int (gI m118 3 ((x3 + 3) : Int32).toNatClampNeg)]) (rest := [.int z120]) gk_f191_386 rfl rfl (gd_rmk gk_rm191_104 gk_ln104 gk_ml104 rfl rfl rfl) gk_rk104 (gd_hnd_n gk_nc191) gk_nc104 gk_n11_104 gk_cl104) ?_
      refine gd_ite (fun h124 => ?_) (fun _ => rfl)
      refine gd_bnd (gd_kI_c fun z127 m125 => ?_)
      refine Eq.trans (D_ic_eq (t := 959) gk_f191_389 (by decide)) ?_
      refine gd_ite (fun h128 => ?_) (fun h129 => ?_)
      · refine Eq.trans (D_iinc (x := x3) (y := 6) gk_f191_959 rfl gk_c_6 gk_st191_3) ?_
        refine Eq.trans (D_goto (t := 18) gk_f191_962 (by decide)) ?_
        rfl
      · refine Eq.trans (D_iconst (x := 0) gk_f191_392 gk_c_0) ?_
        refine Eq.trans (D_zreturn gk_f191_393 gk_rk191) ?_
        exact if_pos rfl
    refine gd_ite (fun h130 => ?_) (fun h131 => ?_)
    · refine Eq.trans (D_aload_n (x := r1) gk_f191_394 rfl) ?_
      refine Eq.trans (D_aload_n (x := 3) gk_f191_395 rfl) ?_
      refine Eq.trans (D_iload_n (x := x3) gk_f191_396 rfl) ?_
      refine Eq.trans (D_iconst (x := 1) gk_f191_397 gk_c_1) ?_
      refine Eq.trans (D_iadd gk_f191_398) ?_
      refine Eq.trans (D_ialdS gk_f191_399 gk_10t) ?_
      refine gd_ite (fun h132 => ?_) (fun _ => rfl)
      refine Eq.trans (D_aload_n (x := 3) gk_f191_400 rfl) ?_
      refine Eq.trans (D_iload_n (x := x3) gk_f191_401 rfl) ?_
      refine Eq.trans (D_iconst (x := 2) gk_f191_402 gk_c_2) ?_
      refine Eq.trans (D_iadd gk_f191_403) ?_
      refine Eq.trans (D_ialdS gk_f191_404 gk_10t) ?_
      refine gd_ite (fun h133 => ?_) (fun _ => rfl)
      refine Eq.trans (D_aload_n (x := 3) gk_f191_405 rfl) ?_
      refine Eq.trans (D_iload_n (x := x3) gk_f191_406 rfl) ?_
      refine Eq.trans (D_iconst (x := 3) gk_f191_407 gk_c_3) ?_
      refine Eq.trans (D_iadd gk_f191_408) ?_
      refine Eq.trans (D_ialdS gk_f191_409 gk_10t) ?_
      refine gd_ite (fun h134 => ?_) (fun _ => rfl)
      refine Eq.trans (D_aload_n (x := 3) gk_f191_410 rfl) ?_
      refine Eq.trans (D_iload_n (x := x3) gk_f191_411 rfl) ?_
      refine Eq.trans (D_iconst (x := 4) gk_f191_412 gk_c_4) ?_
      refine Eq.trans (D_iadd gk_f191_413) ?_
      refine Eq.trans (D_ialdS gk_f191_414 gk_10t) ?_
      refine gd_ite (fun h135 => ?_) (fun _ => rfl)
      refine Eq.trans (D_ivI (cl := 6) (args := [.ref r1, .int (gI m 3 ((x3 + 1) : Int32).toNatClampNeg), .int (gI m 3 ((x3 + 2) : Int32).toNatClampNeg), .int (gI m 3 ((x3 + 3) : Int32).toNatClampNeg), .int (gI m 3 ((x3 + 4) : Int32).toNatClampNeg)]) (rest := []) gk_f191_415 rfl rfl (gd_rmk gk_rm191_111 gk_ln111 gk_ml111 rfl rfl rfl) gk_rk111 (gd_hnd_n gk_nc191) gk_nc111 gk_n11_111 gk_cl111) ?_
      refine gd_ite (fun h136 => ?_) (fun _ => rfl)
      refine gd_bnd (gd_kI_c fun z139 m137 => ?_)
      refine Eq.trans (D_aload_n (x := r2) gk_f191_418 rfl) ?_
      refine Eq.trans (D_aload_n (x := 3) gk_f191_419 rfl) ?_
      refine Eq.trans (D_iload_n (x := x3) gk_f191_420 rfl) ?_
      refine Eq.trans (D_iconst (x := 1) gk_f191_421 gk_c_1) ?_
      refine Eq.trans (D_iadd gk_f191_422) ?_
      refine Eq.trans (D_ialdS gk_f191_423 gk_10t) ?_
      refine gd_ite (fun h140 => ?_) (fun _ => rfl)
      refine Eq.trans (D_aload_n (x := 3) gk_f191_424 rfl) ?_
      refine Eq.trans (D_iload_n (x := x3) gk_f191_425 rfl) ?_
      refine Eq.trans (D_iconst (x := 2) gk_f191_426 gk_c_2) ?_
      refine Eq.trans (D_iadd gk_f191_427) ?_
      refine Eq.trans (D_ialdS gk_f191_428 gk_10t) ?_
      refine gd_ite (fun h141 => ?_) (fun _ => rfl)
      refine Eq.trans (D_aload_n (x := 3) gk_f191_429 rfl) ?_
      refine Eq.trans (D_iload_n (x := x3) gk_f191_430 rfl) ?_
      refine Eq.trans (D_iconst (x := 3) gk_f191_431 gk_c_3) ?_
      refine Eq.trans (D_iadd gk_f191_432) ?_
      refine Eq.trans (D_ialdS gk_f191_433 gk_10t) ?_
      refine gd_ite (fun h142 => ?_) (fun _ => rfl)
      refine Eq.trans (D_aload_n (x := 3) gk_f191_434 rfl) ?_
      refine Eq.trans (D_iload_n (x := x3) gk_f191_435 rfl) ?_
      refine Eq.trans (D_iconst (x := 4) gk_f191_436 gk_c_4) ?_
      refine Eq.trans (D_iadd gk_f191_437) ?_
      refine Eq.trans (D_ialdS gk_f191_438 gk_10t) ?_
      refine gd_ite (fun h143 => ?_) (fun _ => rfl)
      refine Eq.trans (D_ivI (cl := 9) (args := [.ref r2, .int (gI m137 3 ((x3 + 1) : Int32).toNatClampNeg), .int (gI m137 3 ((x3 + 2) : Int32).toNatClampNeg), .int (gI m137 3 ((x3 + 3) : Int32).toNatClampNeg), .int (gI m137 3 ((x3 + 4) : Int32).toNatClampNeg)]) (rest := [.int z139]) gk_f191_439 rfl rfl (gd_rmk gk_rm191_113 gk_ln113 gk_ml113 rfl rfl rfl) gk_rk113 (gd_hnd_n gk_nc191) gk_nc113 gk_n11_113 gk_cl113) ?_
      refine gd_ite (fun h144 => ?_) (fun _ => rfl)
      refine gd_bnd (gd_kI_c fun z147 m145 => ?_)
      refine Eq.trans (D_ic_eq (t := 959) gk_f191_442 (by decide)) ?_
      refine gd_ite (fun h148 => ?_) (fun h149 => ?_)
      · refine Eq.trans (D_iinc (x := x3) (y := 6) gk_f191_959 rfl gk_c_6 gk_st191_3) ?_
        refine Eq.trans (D_goto (t := 18) gk_f191_962 (by decide)) ?_
        rfl
      · refine Eq.trans (D_iconst (x := 0) gk_f191_445 gk_c_0) ?_
        refine Eq.trans (D_zreturn gk_f191_446 gk_rk191) ?_
        exact if_pos rfl
    refine gd_ite (fun h150 => ?_) (fun h151 => ?_)
    · refine Eq.trans (D_aload_n (x := r1) gk_f191_447 rfl) ?_
      refine Eq.trans (D_aload_n (x := 3) gk_f191_448 rfl) ?_
      refine Eq.trans (D_iload_n (x := x3) gk_f191_449 rfl) ?_
      refine Eq.trans (D_iconst (x := 1) gk_f191_450 gk_c_1) ?_
      refine Eq.trans (D_iadd gk_f191_451) ?_
      refine Eq.trans (D_ialdS gk_f191_452 gk_10t) ?_
      refine gd_ite (fun h152 => ?_) (fun _ => rfl)
      refine Eq.trans (D_aload_n (x := 3) gk_f191_453 rfl) ?_
      refine Eq.trans (D_iload_n (x := x3) gk_f191_454 rfl) ?_
      refine Eq.trans (D_iconst (x := 2) gk_f191_455 gk_c_2) ?_
      refine Eq.trans (D_iadd gk_f191_456) ?_
      refine Eq.trans (D_ialdS gk_f191_457 gk_10t) ?_
      refine gd_ite (fun h153 => ?_) (fun _ => rfl)
      refine Eq.trans (D_ivI (cl := 6) (args := [.ref r1, .int (gI m 3 ((x3 + 1) : Int32).toNatClampNeg), .int (gI m 3 ((x3 + 2) : Int32).toNatClampNeg)]) (rest := []) gk_f191_458 rfl rfl (gd_rmk gk_rm191_114 gk_ln114 gk_ml114 rfl rfl rfl) gk_rk114 (gd_hnd_n gk_nc191) gk_nc114 gk_n11_114 gk_cl114) ?_
      refine gd_ite (fun h154 => ?_) (fun _ => rfl)
      refine gd_bnd (gd_kI_c fun z157 m155 => ?_)
      refine Eq.trans (D_aload_n (x := r2) gk_f191_461 rfl) ?_
      refine Eq.trans (D_aload_n (x := 3) gk_f191_462 rfl) ?_
      refine Eq.trans (D_iload_n (x := x3) gk_f191_463 rfl) ?_
      refine Eq.trans (D_iconst (x := 1) gk_f191_464 gk_c_1) ?_
      refine Eq.trans (D_iadd gk_f191_465) ?_
      refine Eq.trans (D_ialdS gk_f191_466 gk_10t) ?_
      refine gd_ite (fun h158 => ?_) (fun _ => rfl)
      refine Eq.trans (D_aload_n (x := 3) gk_f191_467 rfl) ?_
      refine Eq.trans (D_iload_n (x := x3) gk_f191_468 rfl) ?_
      refine Eq.trans (D_iconst (x := 2) gk_f191_469 gk_c_2) ?_
      refine Eq.trans (D_iadd gk_f191_470) ?_
      refine Eq.trans (D_ialdS gk_f191_471 gk_10t) ?_
      refine gd_ite (fun h159 => ?_) (fun _ => rfl)
      refine Eq.trans (D_ivI (cl := 9) (args := [.ref r2, .int (gI m155 3 ((x3 + 1) : Int32).toNatClampNeg), .int (gI m155 3 ((x3 + 2) : Int32).toNatClampNeg)]) (rest := [.int z157]) gk_f191_472 rfl rfl (gd_rmk gk_rm191_115 gk_ln115 gk_ml115 rfl rfl rfl) gk_rk115 (gd_hnd_n gk_nc191) gk_nc115 gk_n11_115 gk_cl115) ?_
      refine gd_ite (fun h160 => ?_) (fun _ => rfl)
      refine gd_bnd (gd_kI_c fun z163 m161 => ?_)
      refine Eq.trans (D_ic_eq (t := 959) gk_f191_475 (by decide)) ?_
      refine gd_ite (fun h164 => ?_) (fun h165 => ?_)
      · refine Eq.trans (D_iinc (x := x3) (y := 6) gk_f191_959 rfl gk_c_6 gk_st191_3) ?_
        refine Eq.trans (D_goto (t := 18) gk_f191_962 (by decide)) ?_
        rfl
      · refine Eq.trans (D_iconst (x := 0) gk_f191_478 gk_c_0) ?_
        refine Eq.trans (D_zreturn gk_f191_479 gk_rk191) ?_
        exact if_pos rfl
    refine gd_ite (fun h166 => ?_) (fun h167 => ?_)
    · refine Eq.trans (D_aload_n (x := r1) gk_f191_480 rfl) ?_
      refine Eq.trans (D_aload_n (x := 3) gk_f191_481 rfl) ?_
      refine Eq.trans (D_iload_n (x := x3) gk_f191_482 rfl) ?_
      refine Eq.trans (D_iconst (x := 1) gk_f191_483 gk_c_1) ?_
      refine Eq.trans (D_iadd gk_f191_484) ?_
      refine Eq.trans (D_ialdS gk_f191_485 gk_10t) ?_
      refine gd_ite (fun h168 => ?_) (fun _ => rfl)
      refine Eq.trans (D_aload_n (x := 3) gk_f191_486 rfl) ?_
      refine Eq.trans (D_iload_n (x := x3) gk_f191_487 rfl) ?_
      refine Eq.trans (D_iconst (x := 2) gk_f191_488 gk_c_2) ?_
      refine Eq.trans (D_iadd gk_f191_489) ?_
      refine Eq.trans (D_ialdS gk_f191_490 gk_10t) ?_
      refine gd_ite (fun h169 => ?_) (fun _ => rfl)
      refine Eq.trans (D_aload_n (x := 3) gk_f191_491 rfl) ?_
      refine Eq.trans (D_iload_n (x := x3) gk_f191_492 rfl) ?_
      refine Eq.trans (D_iconst (x := 3) gk_f191_493 gk_c_3) ?_
      refine Eq.trans (D_iadd gk_f191_494) ?_
      refine Eq.trans (D_ialdS gk_f191_495 gk_10t) ?_
      refine gd_ite (fun h170 => ?_) (fun _ => rfl)
      refine Eq.trans (D_aload_n (x := 3) gk_f191_496 rfl) ?_
      refine Eq.trans (D_iload_n (x := x3) gk_f191_497 rfl) ?_
      refine Eq.trans (D_iconst (x := 4) gk_f191_498 gk_c_4) ?_
      refine Eq.trans (D_iadd gk_f191_499) ?_
      refine Eq.trans (D_ialdS gk_f191_500 gk_10t) ?_
      refine gd_ite (fun h171 => ?_) (fun _ => rfl)
      refine Eq.trans (D_aload_n (x := 3) gk_f191_501 rfl) ?_
      refine Eq.trans (D_iload_n (x := x3) gk_f191_502 rfl) ?_
      refine Eq.trans (D_iconst (x := 5) gk_f191_503 gk_c_5) ?_
      refine Eq.trans (D_iadd gk_f191_504) ?_
      refine Eq.trans (D_ialdS gk_f191_505 gk_10t) ?_
      refine gd_ite (fun h172 => ?_) (fun _ => rfl)
      refine Eq.trans (D_ivI (cl := 6) (args := [.ref r1, .int (gI m 3 ((x3 + 1) : Int32).toNatClampNeg), .int (gI m 3 ((x3 + 2) : Int32).toNatClampNeg), .int (gI m 3 ((x3 + 3) : Int32).toNatClampNeg), .int (gI m 3 ((x3 + 4) : Int32).toNatClampNeg), .int (gI m 3 ((x3 + 5) : Int32).toNatClampNeg)]) (rest := []) gk_f191_506 rfl rfl (gd_rmk gk_rm191_119 gk_ln119 gk_ml119 rfl rfl rfl) gk_rk119 (gd_hnd_n gk_nc191) gk_nc119 gk_n11_119 gk_cl119) ?_
      refine gd_ite (fun h173 => ?_) (fun _ => rfl)
      refine gd_bnd (gd_kI_c fun z176 m174 => ?_)
      refine Eq.trans (D_aload_n (x := r2) gk_f191_509 rfl) ?_
      refine Eq.trans (D_aload_n (x := 3) gk_f191_510 rfl) ?_
      refine Eq.trans (D_iload_n (x := x3) gk_f191_511 rfl) ?_
      refine Eq.trans (D_iconst (x := 1) gk_f191_512 gk_c_1) ?_
      refine Eq.trans (D_iadd gk_f191_513) ?_
      refine Eq.trans (D_ialdS gk_f191_514 gk_10t) ?_
      refine gd_ite (fun h177 => ?_) (fun _ => rfl)
      refine Eq.trans (D_aload_n (x := 3) gk_f191_515 rfl) ?_
      refine Eq.trans (D_iload_n (x := x3) gk_f191_516 rfl) ?_
      refine Eq.trans (D_iconst (x := 2) gk_f191_517 gk_c_2) ?_
      refine Eq.trans (D_iadd gk_f191_518) ?_
      refine Eq.trans (D_ialdS gk_f191_519 gk_10t) ?_
      refine gd_ite (fun h178 => ?_) (fun _ => rfl)
      refine Eq.trans (D_aload_n (x := 3) gk_f191_520 rfl) ?_
      refine Eq.trans (D_iload_n (x := x3) gk_f191_521 rfl) ?_
      refine Eq.trans (D_iconst (x := 3) gk_f191_522 gk_c_3) ?_
      refine Eq.trans (D_iadd gk_f191_523) ?_
      refine Eq.trans (D_ialdS gk_f191_524 gk_10t) ?_
      refine gd_ite (fun h179 => ?_) (fun _ => rfl)
      refine Eq.trans (D_aload_n (x := 3) gk_f191_525 rfl) ?_
      refine Eq.trans (D_iload_n (x := x3) gk_f191_526 rfl) ?_
      refine Eq.trans (D_iconst (x := 4) gk_f191_527 gk_c_4) ?_
      refine Eq.trans (D_iadd gk_f191_528) ?_
      refine Eq.trans (D_ialdS gk_f191_529 gk_10t) ?_
      refine gd_ite (fun h180 => ?_) (fun _ => rfl)
      refine Eq.trans (D_aload_n (x := 3) gk_f191_530 rfl) ?_
      refine Eq.trans (D_iload_n (x := x3) gk_f191_531 rfl) ?_
      refine Eq.trans (D_iconst (x := 5) gk_f191_532 gk_c_5) ?_
      refine Eq.trans (D_iadd gk_f191_533) ?_
      refine Eq.trans (D_ialdS gk_f191_534 gk_10t) ?_
      refine gd_ite (fun h181 => ?_) (fun _ => rfl)
      refine Eq.trans (D_ivI (cl := 9) (args := [.ref r2, .int (gI m174 3 ((x3 + 1) : Int32).toNatClampNeg), .int (gI m174 3 ((x3 + 2) : Int32).toNatClampNeg), .int (gI m174 3 ((x3 + 3) : Int32).toNatClampNeg), .int (gI m174 3 ((x3 + 4) : Int32).toNatClampNeg), .int (gI m174 3 ((x3 + 5) : Int32).toNatClampNeg)]) (rest := [.int z176]) gk_f191_535 rfl rfl (gd_rmk gk_rm191_121 gk_ln121 gk_ml121 rfl rfl rfl) gk_rk121 (gd_hnd_n gk_nc191) gk_nc121 gk_n11_121 gk_cl121) ?_
      refine gd_ite (fun h182 => ?_) (fun _ => rfl)
      refine gd_bnd (gd_kI_c fun z185 m183 => ?_)
      refine Eq.trans (D_ic_eq (t := 959) gk_f191_538 (by decide)) ?_
      refine gd_ite (fun h186 => ?_) (fun h187 => ?_)
      · refine Eq.trans (D_iinc (x := x3) (y := 6) gk_f191_959 rfl gk_c_6 gk_st191_3) ?_
        refine Eq.trans (D_goto (t := 18) gk_f191_962 (by decide)) ?_
        rfl
      · refine Eq.trans (D_iconst (x := 0) gk_f191_541 gk_c_0) ?_
        refine Eq.trans (D_zreturn gk_f191_542 gk_rk191) ?_
        exact if_pos rfl
    refine gd_ite (fun h188 => ?_) (fun h189 => ?_)
    · refine Eq.trans (D_aload_n (x := r1) gk_f191_543 rfl) ?_
      refine Eq.trans (D_aload_n (x := 3) gk_f191_544 rfl) ?_
      refine Eq.trans (D_iload_n (x := x3) gk_f191_545 rfl) ?_
      refine Eq.trans (D_iconst (x := 1) gk_f191_546 gk_c_1) ?_
      refine Eq.trans (D_iadd gk_f191_547) ?_
      refine Eq.trans (D_ialdS gk_f191_548 gk_10t) ?_
      refine gd_ite (fun h190 => ?_) (fun _ => rfl)
      refine Eq.trans (D_aload_n (x := 3) gk_f191_549 rfl) ?_
      refine Eq.trans (D_iload_n (x := x3) gk_f191_550 rfl) ?_
      refine Eq.trans (D_iconst (x := 2) gk_f191_551 gk_c_2) ?_
      refine Eq.trans (D_iadd gk_f191_552) ?_
      refine Eq.trans (D_ialdS gk_f191_553 gk_10t) ?_
      refine gd_ite (fun h191 => ?_) (fun _ => rfl)
      refine Eq.trans (D_aload_n (x := 3) gk_f191_554 rfl) ?_
      refine Eq.trans (D_iload_n (x := x3) gk_f191_555 rfl) ?_
      refine Eq.trans (D_iconst (x := 3) gk_f191_556 gk_c_3) ?_
      refine Eq.trans (D_iadd gk_f191_557) ?_
      refine Eq.trans (D_ialdS gk_f191_558 gk_10t) ?_
      refine gd_ite (fun h192 => ?_) (fun _ => rfl)
      refine Eq.trans (D_ivI (cl := 6) (args := [.ref r1, .int (gI m 3 ((x3 + 1) : Int32).toNatClampNeg), .int (gI m 3 ((x3 + 2) : Int32).toNatClampNeg), .int (gI m 3 ((x3 + 3) : Int32).toNatClampNeg)]) (rest := []) gk_f191_559 rfl rfl (gd_rmk gk_rm191_137 gk_ln137 gk_ml137 rfl rfl rfl) gk_rk137 (gd_hnd_n gk_nc191) gk_nc137 gk_n11_137 gk_cl137) ?_
      refine gd_ite (fun h193 => ?_) (fun _ => rfl)
      refine gd_bnd (gd_kI_c fun z196 m194 => ?_)
      refine Eq.trans (D_aload_n (x := r2) gk_f191_562 rfl) ?_
      refine Eq.trans (D_aload_n (x := 3) gk_f191_563 rfl) ?_
      refine Eq.trans (D_iload_n (x := x3) gk_f191_564 rfl) ?_
      refine Eq.trans (D_iconst (x := 1) gk_f191_565 gk_c_1) ?_
      refine Eq.trans (D_iadd gk_f191_566) ?_
      refine Eq.trans (D_ialdS gk_f191_567 gk_10t) ?_
      refine gd_ite (fun h197 => ?_) (fun _ => rfl)
      refine Eq.trans (D_aload_n (x := 3) gk_f191_568 rfl) ?_
      refine Eq.trans (D_iload_n (x := x3) gk_f191_569 rfl) ?_
      refine Eq.trans (D_iconst (x := 2) gk_f191_570 gk_c_2) ?_
      refine Eq.trans (D_iadd gk_f191_571) ?_
      refine Eq.trans (D_ialdS gk_f191_572 gk_10t) ?_
      refine gd_ite (fun h198 => ?_) (fun _ => rfl)
      refine Eq.trans (D_aload_n (x := 3) gk_f191_573 rfl) ?_
      refine Eq.trans (D_iload_n (x := x3) gk_f191_574 rfl) ?_
      refine Eq.trans (D_iconst (x := 3) gk_f191_575 gk_c_3) ?_
      refine Eq.trans (D_iadd gk_f191_576) ?_
      refine Eq.trans (D_ialdS gk_f191_577 gk_10t) ?_
      refine gd_ite (fun h199 => ?_) (fun _ => rfl)
      refine Eq.trans (D_ivI (cl := 9) (args := [.ref r2, .int (gI m194 3 ((x3 + 1) : Int32).toNatClampNeg), .int (gI m194 3 ((x3 + 2) : Int32).toNatClampNeg), .int (gI m194 3 ((x3 + 3) : Int32).toNatClampNeg)]) (rest := [.int z196]) gk_f191_578 rfl rfl (gd_rmk gk_rm191_145 gk_ln145 gk_ml145 rfl rfl rfl) gk_rk145 (gd_hnd_n gk_nc191) gk_nc145 gk_n11_145 gk_cl145) ?_
      refine gd_ite (fun h200 => ?_) (fun _ => rfl)
      refine gd_bnd (gd_kI_c fun z203 m201 => ?_)
      refine Eq.trans (D_ic_eq (t := 959) gk_f191_581 (by decide)) ?_
      refine gd_ite (fun h204 => ?_) (fun h205 => ?_)
      · refine Eq.trans (D_iinc (x := x3) (y := 6) gk_f191_959 rfl gk_c_6 gk_st191_3) ?_
        refine Eq.trans (D_goto (t := 18) gk_f191_962 (by decide)) ?_
        rfl
      · refine Eq.trans (D_iconst (x := 0) gk_f191_584 gk_c_0) ?_
        refine Eq.trans (D_zreturn gk_f191_585 gk_rk191) ?_
        exact if_pos rfl
    refine gd_ite (fun h206 => ?_) (fun h207 => ?_)
    · refine Eq.trans (D_aload_n (x := r1) gk_f191_586 rfl) ?_
      refine Eq.trans (D_aload_n (x := 3) gk_f191_587 rfl) ?_
      refine Eq.trans (D_iload_n (x := x3) gk_f191_588 rfl) ?_
      refine Eq.trans (D_iconst (x := 1) gk_f191_589 gk_c_1) ?_
      refine Eq.trans (D_iadd gk_f191_590) ?_
      refine Eq.trans (D_ialdS gk_f191_591 gk_10t) ?_
      refine gd_ite (fun h208 => ?_) (fun _ => rfl)
      refine Eq.trans (D_aload_n (x := 3) gk_f191_592 rfl) ?_
      refine Eq.trans (D_iload_n (x := x3) gk_f191_593 rfl) ?_
      refine Eq.trans (D_iconst (x := 2) gk_f191_594 gk_c_2) ?_
      refine Eq.trans (D_iadd gk_f191_595) ?_
      refine Eq.trans (D_ialdS gk_f191_596 gk_10t) ?_
      refine gd_ite (fun h209 => ?_) (fun _ => rfl)
      refine Eq.trans (D_aload_n (x := 3) gk_f191_597 rfl) ?_
      refine Eq.trans (D_iload_n (x := x3) gk_f191_598 rfl) ?_
      refine Eq.trans (D_iconst (x := 3) gk_f191_599 gk_c_3) ?_
      refine Eq.trans (D_iadd gk_f191_600) ?_
      refine Eq.trans (D_ialdS gk_f191_601 gk_10t) ?_
      refine gd_ite (fun h210 => ?_) (fun _ => rfl)
      refine Eq.trans (D_ivI (cl := 6) (args := [.ref r1, .int (gI m 3 ((x3 + 1) : Int32).toNatClampNeg), .int (gI m 3 ((x3 + 2) : Int32).toNatClampNeg), .int (gI m 3 ((x3 + 3) : Int32).toNatClampNeg)]) (rest := []) gk_f191_602 rfl rfl (gd_rmk gk_rm191_148 gk_ln148 gk_ml148 rfl rfl rfl) gk_rk148 (gd_hnd_n gk_nc191) gk_nc148 gk_n11_148 gk_cl148) ?_
      refine gd_ite (fun h211 => ?_) (fun _ => rfl)
      refine gd_bnd (gd_kI_c fun z214 m212 => ?_)
      refine Eq.trans (D_aload_n (x := r2) gk_f191_605 rfl) ?_
      refine Eq.trans (D_aload_n (x := 3) gk_f191_606 rfl) ?_
      refine Eq.trans (D_iload_n (x := x3) gk_f191_607 rfl) ?_
      refine Eq.trans (D_iconst (x := 1) gk_f191_608 gk_c_1) ?_
      refine Eq.trans (D_iadd gk_f191_609) ?_
      refine Eq.trans (D_ialdS gk_f191_610 gk_10t) ?_
      refine gd_ite (fun h215 => ?_) (fun _ => rfl)
      refine Eq.trans (D_aload_n (x := 3) gk_f191_611 rfl) ?_
      refine Eq.trans (D_iload_n (x := x3) gk_f191_612 rfl) ?_
      refine Eq.trans (D_iconst (x := 2) gk_f191_613 gk_c_2) ?_
      refine Eq.trans (D_iadd gk_f191_614) ?_
      refine Eq.trans (D_ialdS gk_f191_615 gk_10t) ?_
      refine gd_ite (fun h216 => ?_) (fun _ => rfl)
      refine Eq.trans (D_aload_n (x := 3) gk_f191_616 rfl) ?_
      refine Eq.trans (D_iload_n (x := x3) gk_f191_617 rfl) ?_
      refine Eq.trans (D_iconst (x := 3) gk_f191_618 gk_c_3) ?_
      refine Eq.trans (D_iadd gk_f191_619) ?_
      refine Eq.trans (D_ialdS gk_f191_620 gk_10t) ?_
      refine gd_ite (fun h217 => ?_) (fun _ => rfl)
      refine Eq.trans (D_ivI (cl := 9) (args := [.ref r2, .int (gI m212 3 ((x3 + 1) : Int32).toNatClampNeg), .int (gI m212 3 ((x3 + 2) : Int32).toNatClampNeg), .int (gI m212 3 ((x3 + 3) : Int32).toNatClampNeg)]) (rest := [.int z214]) gk_f191_621 rfl rfl (gd_rmk gk_rm191_150 gk_ln150 gk_ml150 rfl rfl rfl) gk_rk150 (gd_hnd_n gk_nc191) gk_nc150 gk_n11_150 gk_cl150) ?_
      refine gd_ite (fun h218 => ?_) (fun _ => rfl)
      refine gd_bnd (gd_kI_c fun z221 m219 => ?_)
      refine Eq.trans (D_ic_eq (t := 959) gk_f191_624 (by decide)) ?_
      refine gd_ite (fun h222 => ?_) (fun h223 => ?_)
      · refine Eq.trans (D_iinc (x := x3) (y := 6) gk_f191_959 rfl gk_c_6 gk_st191_3) ?_
        refine Eq.trans (D_goto (t := 18) gk_f191_962 (by decide)) ?_
        rfl
      · refine Eq.trans (D_iconst (x := 0) gk_f191_627 gk_c_0) ?_
        refine Eq.trans (D_zreturn gk_f191_628 gk_rk191) ?_
        exact if_pos rfl
    refine gd_ite (fun h224 => ?_) (fun h225 => ?_)
    · refine Eq.trans (D_aload_n (x := r1) gk_f191_629 rfl) ?_
      refine Eq.trans (D_aload_n (x := 3) gk_f191_630 rfl) ?_
      refine Eq.trans (D_iload_n (x := x3) gk_f191_631 rfl) ?_
      refine Eq.trans (D_iconst (x := 1) gk_f191_632 gk_c_1) ?_
      refine Eq.trans (D_iadd gk_f191_633) ?_
      refine Eq.trans (D_ialdS gk_f191_634 gk_10t) ?_
      refine gd_ite (fun h226 => ?_) (fun _ => rfl)
      refine Eq.trans (D_aload_n (x := 3) gk_f191_635 rfl) ?_
      refine Eq.trans (D_iload_n (x := x3) gk_f191_636 rfl) ?_
      refine Eq.trans (D_iconst (x := 2) gk_f191_637 gk_c_2) ?_
      refine Eq.trans (D_iadd gk_f191_638) ?_
      refine Eq.trans (D_ialdS gk_f191_639 gk_10t) ?_
      refine gd_ite (fun h227 => ?_) (fun _ => rfl)
      refine Eq.trans (D_aload_n (x := 3) gk_f191_640 rfl) ?_
      refine Eq.trans (D_iload_n (x := x3) gk_f191_641 rfl) ?_
      refine Eq.trans (D_iconst (x := 3) gk_f191_642 gk_c_3) ?_
      refine Eq.trans (D_iadd gk_f191_643) ?_
      refine Eq.trans (D_ialdS gk_f191_644 gk_10t) ?_
      refine gd_ite (fun h228 => ?_) (fun _ => rfl)
      refine Eq.trans (D_ivI (cl := 6) (args := [.ref r1, .int (gI m 3 ((x3 + 1) : Int32).toNatClampNeg), .int (gI m 3 ((x3 + 2) : Int32).toNatClampNeg), .int (gI m 3 ((x3 + 3) : Int32).toNatClampNeg)]) (rest := []) gk_f191_645 rfl rfl (gd_rmk gk_rm191_152 gk_ln152 gk_ml152 rfl rfl rfl) gk_rk152 (gd_hnd_n gk_nc191) gk_nc152 gk_n11_152 gk_cl152) ?_
      refine gd_ite (fun h229 => ?_) (fun _ => rfl)
      refine gd_bnd (gd_kI_c fun z232 m230 => ?_)
      refine Eq.trans (D_aload_n (x := r2) gk_f191_648 rfl) ?_
      refine Eq.trans (D_aload_n (x := 3) gk_f191_649 rfl) ?_
      refine Eq.trans (D_iload_n (x := x3) gk_f191_650 rfl) ?_
      refine Eq.trans (D_iconst (x := 1) gk_f191_651 gk_c_1) ?_
      refine Eq.trans (D_iadd gk_f191_652) ?_
      refine Eq.trans (D_ialdS gk_f191_653 gk_10t) ?_
      refine gd_ite (fun h233 => ?_) (fun _ => rfl)
      refine Eq.trans (D_aload_n (x := 3) gk_f191_654 rfl) ?_
      refine Eq.trans (D_iload_n (x := x3) gk_f191_655 rfl) ?_
      refine Eq.trans (D_iconst (x := 2) gk_f191_656 gk_c_2) ?_
      refine Eq.trans (D_iadd gk_f191_657) ?_
      refine Eq.trans (D_ialdS gk_f191_658 gk_10t) ?_
      refine gd_ite (fun h234 => ?_) (fun _ => rfl)
      refine Eq.trans (D_aload_n (x := 3) gk_f191_659 rfl) ?_
      refine Eq.trans (D_iload_n (x := x3) gk_f191_660 rfl) ?_
      refine Eq.trans (D_iconst (x := 3) gk_f191_661 gk_c_3) ?_
      refine Eq.trans (D_iadd gk_f191_662) ?_
      refine Eq.trans (D_ialdS gk_f191_663 gk_10t) ?_
      refine gd_ite (fun h235 => ?_) (fun _ => rfl)
      refine Eq.trans (D_ivI (cl := 9) (args := [.ref r2, .int (gI m230 3 ((x3 + 1) : Int32).toNatClampNeg), .int (gI m230 3 ((x3 + 2) : Int32).toNatClampNeg), .int (gI m230 3 ((x3 + 3) : Int32).toNatClampNeg)]) (rest := [.int z232]) gk_f191_664 rfl rfl (gd_rmk gk_rm191_153 gk_ln153 gk_ml153 rfl rfl rfl) gk_rk153 (gd_hnd_n gk_nc191) gk_nc153 gk_n11_153 gk_cl153) ?_
      refine gd_ite (fun h236 => ?_) (fun _ => rfl)
      refine gd_bnd (gd_kI_c fun z239 m237 => ?_)
      refine Eq.trans (D_ic_eq (t := 959) gk_f191_667 (by decide)) ?_
      refine gd_ite (fun h240 => ?_) (fun h241 => ?_)
      · refine Eq.trans (D_iinc (x := x3) (y := 6) gk_f191_959 rfl gk_c_6 gk_st191_3) ?_
        refine Eq.trans (D_goto (t := 18) gk_f191_962 (by decide)) ?_
        rfl
      · refine Eq.trans (D_iconst (x := 0) gk_f191_670 gk_c_0) ?_
        refine Eq.trans (D_zreturn gk_f191_671 gk_rk191) ?_
        exact if_pos rfl
    refine gd_ite (fun h242 => ?_) (fun h243 => ?_)
    · refine Eq.trans (D_aload_n (x := r1) gk_f191_672 rfl) ?_
      refine Eq.trans (D_aload_n (x := 3) gk_f191_673 rfl) ?_
      refine Eq.trans (D_iload_n (x := x3) gk_f191_674 rfl) ?_
      refine Eq.trans (D_iconst (x := 1) gk_f191_675 gk_c_1) ?_
      refine Eq.trans (D_iadd gk_f191_676) ?_
      refine Eq.trans (D_ialdS gk_f191_677 gk_10t) ?_
      refine gd_ite (fun h244 => ?_) (fun _ => rfl)
      refine Eq.trans (D_aload_n (x := 3) gk_f191_678 rfl) ?_
      refine Eq.trans (D_iload_n (x := x3) gk_f191_679 rfl) ?_
      refine Eq.trans (D_iconst (x := 2) gk_f191_680 gk_c_2) ?_
      refine Eq.trans (D_iadd gk_f191_681) ?_
      refine Eq.trans (D_ialdS gk_f191_682 gk_10t) ?_
      refine gd_ite (fun h245 => ?_) (fun _ => rfl)
      refine Eq.trans (D_aload_n (x := 3) gk_f191_683 rfl) ?_
      refine Eq.trans (D_iload_n (x := x3) gk_f191_684 rfl) ?_
      refine Eq.trans (D_iconst (x := 3) gk_f191_685 gk_c_3) ?_
      refine Eq.trans (D_iadd gk_f191_686) ?_
      refine Eq.trans (D_ialdS gk_f191_687 gk_10t) ?_
      refine gd_ite (fun h246 => ?_) (fun _ => rfl)
      refine Eq.trans (D_aload_n (x := 3) gk_f191_688 rfl) ?_
      refine Eq.trans (D_iload_n (x := x3) gk_f191_689 rfl) ?_
      refine Eq.trans (D_iconst (x := 4) gk_f191_690 gk_c_4) ?_
      refine Eq.trans (D_iadd gk_f191_691) ?_
      refine Eq.trans (D_ialdS gk_f191_692 gk_10t) ?_
      refine gd_ite (fun h247 => ?_) (fun _ => rfl)
      refine Eq.trans (D_ivI (cl := 6) (args := [.ref r1, .int (gI m 3 ((x3 + 1) : Int32).toNatClampNeg), .int (gI m 3 ((x3 + 2) : Int32).toNatClampNeg), .int (gI m 3 ((x3 + 3) : Int32).toNatClampNeg), .int (gI m 3 ((x3 + 4) : Int32).toNatClampNeg)]) (rest := []) gk_f191_693 rfl rfl (gd_rmk gk_rm191_154 gk_ln154 gk_ml154 rfl rfl rfl) gk_rk154 (gd_hnd_n gk_nc191) gk_nc154 gk_n11_154 gk_cl154) ?_
      refine gd_ite (fun h248 => ?_) (fun _ => rfl)
      refine gd_bnd (gd_kI_c fun z251 m249 => ?_)
      refine Eq.trans (D_aload_n (x := r2) gk_f191_696 rfl) ?_
      refine Eq.trans (D_aload_n (x := 3) gk_f191_697 rfl) ?_
      refine Eq.trans (D_iload_n (x := x3) gk_f191_698 rfl) ?_
      refine Eq.trans (D_iconst (x := 1) gk_f191_699 gk_c_1) ?_
      refine Eq.trans (D_iadd gk_f191_700) ?_
      refine Eq.trans (D_ialdS gk_f191_701 gk_10t) ?_
      refine gd_ite (fun h252 => ?_) (fun _ => rfl)
      refine Eq.trans (D_aload_n (x := 3) gk_f191_702 rfl) ?_
      refine Eq.trans (D_iload_n (x := x3) gk_f191_703 rfl) ?_
      refine Eq.trans (D_iconst (x := 2) gk_f191_704 gk_c_2) ?_
      refine Eq.trans (D_iadd gk_f191_705) ?_
      refine Eq.trans (D_ialdS gk_f191_706 gk_10t) ?_
      refine gd_ite (fun h253 => ?_) (fun _ => rfl)
      refine Eq.trans (D_aload_n (x := 3) gk_f191_707 rfl) ?_
      refine Eq.trans (D_iload_n (x := x3) gk_f191_708 rfl) ?_
      refine Eq.trans (D_iconst (x := 3) gk_f191_709 gk_c_3) ?_
      refine Eq.trans (D_iadd gk_f191_710) ?_
      refine Eq.trans (D_ialdS gk_f191_711 gk_10t) ?_
      refine gd_ite (fun h254 => ?_) (fun _ => rfl)
      refine Eq.trans (D_aload_n (x := 3) gk_f191_712 rfl) ?_
      refine Eq.trans (D_iload_n (x := x3) gk_f191_713 rfl) ?_
      refine Eq.trans (D_iconst (x := 4) gk_f191_714 gk_c_4) ?_
      refine Eq.trans (D_iadd gk_f191_715) ?_
      refine Eq.trans (D_ialdS gk_f191_716 gk_10t) ?_
      refine gd_ite (fun h255 => ?_) (fun _ => rfl)
      refine Eq.trans (D_ivI (cl := 9) (args := [.ref r2, .int (gI m249 3 ((x3 + 1) : Int32).toNatClampNeg), .int (gI m249 3 ((x3 + 2) : Int32).toNatClampNeg), .int (gI m249 3 ((x3 + 3) : Int32).toNatClampNeg), .int (gI m249 3 ((x3 + 4) : Int32).toNatClampNeg)]) (rest := [.int z251]) gk_f191_717 rfl rfl (gd_rmk gk_rm191_155 gk_ln155 gk_ml155 rfl rfl rfl) gk_rk155 (gd_hnd_n gk_nc191) gk_nc155 gk_n11_155 gk_cl155) ?_
      refine gd_ite (fun h256 => ?_) (fun _ => rfl)
      refine gd_bnd (gd_kI_c fun z259 m257 => ?_)
      refine Eq.trans (D_ic_eq (t := 959) gk_f191_720 (by decide)) ?_
      refine gd_ite (fun h260 => ?_) (fun h261 => ?_)
      · refine Eq.trans (D_iinc (x := x3) (y := 6) gk_f191_959 rfl gk_c_6 gk_st191_3) ?_
        refine Eq.trans (D_goto (t := 18) gk_f191_962 (by decide)) ?_
        rfl
      · refine Eq.trans (D_iconst (x := 0) gk_f191_723 gk_c_0) ?_
        refine Eq.trans (D_zreturn gk_f191_724 gk_rk191) ?_
        exact if_pos rfl
    refine gd_ite (fun h262 => ?_) (fun h263 => ?_)
    · refine Eq.trans (D_aload_n (x := r1) gk_f191_725 rfl) ?_
      refine Eq.trans (D_aload_n (x := 3) gk_f191_726 rfl) ?_
      refine Eq.trans (D_iload_n (x := x3) gk_f191_727 rfl) ?_
      refine Eq.trans (D_iconst (x := 1) gk_f191_728 gk_c_1) ?_
      refine Eq.trans (D_iadd gk_f191_729) ?_
      refine Eq.trans (D_ialdS gk_f191_730 gk_10t) ?_
      refine gd_ite (fun h264 => ?_) (fun _ => rfl)
      refine Eq.trans (D_aload_n (x := 3) gk_f191_731 rfl) ?_
      refine Eq.trans (D_iload_n (x := x3) gk_f191_732 rfl) ?_
      refine Eq.trans (D_iconst (x := 2) gk_f191_733 gk_c_2) ?_
      refine Eq.trans (D_iadd gk_f191_734) ?_
      refine Eq.trans (D_ialdS gk_f191_735 gk_10t) ?_
      refine gd_ite (fun h265 => ?_) (fun _ => rfl)
      refine Eq.trans (D_ivI (cl := 6) (args := [.ref r1, .int (gI m 3 ((x3 + 1) : Int32).toNatClampNeg), .int (gI m 3 ((x3 + 2) : Int32).toNatClampNeg)]) (rest := []) gk_f191_736 rfl rfl (gd_rmk gk_rm191_158 gk_ln158 gk_ml158 rfl rfl rfl) gk_rk158 (gd_hnd_n gk_nc191) gk_nc158 gk_n11_158 gk_cl158) ?_
      refine gd_ite (fun h266 => ?_) (fun _ => rfl)
      refine gd_bnd (gd_kI_c fun z269 m267 => ?_)
      refine Eq.trans (D_aload_n (x := r2) gk_f191_739 rfl) ?_
      refine Eq.trans (D_aload_n (x := 3) gk_f191_740 rfl) ?_
      refine Eq.trans (D_iload_n (x := x3) gk_f191_741 rfl) ?_
      refine Eq.trans (D_iconst (x := 1) gk_f191_742 gk_c_1) ?_
      refine Eq.trans (D_iadd gk_f191_743) ?_
      refine Eq.trans (D_ialdS gk_f191_744 gk_10t) ?_
      refine gd_ite (fun h270 => ?_) (fun _ => rfl)
      refine Eq.trans (D_aload_n (x := 3) gk_f191_745 rfl) ?_
      refine Eq.trans (D_iload_n (x := x3) gk_f191_746 rfl) ?_
      refine Eq.trans (D_iconst (x := 2) gk_f191_747 gk_c_2) ?_
      refine Eq.trans (D_iadd gk_f191_748) ?_
      refine Eq.trans (D_ialdS gk_f191_749 gk_10t) ?_
      refine gd_ite (fun h271 => ?_) (fun _ => rfl)
      refine Eq.trans (D_ivI (cl := 9) (args := [.ref r2, .int (gI m267 3 ((x3 + 1) : Int32).toNatClampNeg), .int (gI m267 3 ((x3 + 2) : Int32).toNatClampNeg)]) (rest := [.int z269]) gk_f191_750 rfl rfl (gd_rmk gk_rm191_159 gk_ln159 gk_ml159 rfl rfl rfl) gk_rk159 (gd_hnd_n gk_nc191) gk_nc159 gk_n11_159 gk_cl159) ?_
      refine gd_ite (fun h272 => ?_) (fun _ => rfl)
      refine gd_bnd (gd_kI_c fun z275 m273 => ?_)
      refine Eq.trans (D_ic_eq (t := 959) gk_f191_753 (by decide)) ?_
      refine gd_ite (fun h276 => ?_) (fun h277 => ?_)
      · refine Eq.trans (D_iinc (x := x3) (y := 6) gk_f191_959 rfl gk_c_6 gk_st191_3) ?_
        refine Eq.trans (D_goto (t := 18) gk_f191_962 (by decide)) ?_
        rfl
      · refine Eq.trans (D_iconst (x := 0) gk_f191_756 gk_c_0) ?_
        refine Eq.trans (D_zreturn gk_f191_757 gk_rk191) ?_
        exact if_pos rfl
    refine gd_ite (fun h278 => ?_) (fun h279 => ?_)
    · refine Eq.trans (D_aload_n (x := r1) gk_f191_758 rfl) ?_
      refine Eq.trans (D_aload_n (x := 3) gk_f191_759 rfl) ?_
      refine Eq.trans (D_iload_n (x := x3) gk_f191_760 rfl) ?_
      refine Eq.trans (D_iconst (x := 1) gk_f191_761 gk_c_1) ?_
      refine Eq.trans (D_iadd gk_f191_762) ?_
      refine Eq.trans (D_ialdS gk_f191_763 gk_10t) ?_
      refine gd_ite (fun h280 => ?_) (fun _ => rfl)
      refine Eq.trans (D_ivI (cl := 6) (args := [.ref r1, .int (gI m 3 ((x3 + 1) : Int32).toNatClampNeg)]) (rest := []) gk_f191_764 rfl rfl (gd_rmk gk_rm191_165 gk_ln165 gk_ml165 rfl rfl rfl) gk_rk165 (gd_hnd_n gk_nc191) gk_nc165 gk_n11_165 gk_cl165) ?_
      refine gd_ite (fun h281 => ?_) (fun _ => rfl)
      refine gd_bnd (gd_kI_c fun z284 m282 => ?_)
      refine Eq.trans (D_aload_n (x := r2) gk_f191_767 rfl) ?_
      refine Eq.trans (D_aload_n (x := 3) gk_f191_768 rfl) ?_
      refine Eq.trans (D_iload_n (x := x3) gk_f191_769 rfl) ?_
      refine Eq.trans (D_iconst (x := 1) gk_f191_770 gk_c_1) ?_
      refine Eq.trans (D_iadd gk_f191_771) ?_
      refine Eq.trans (D_ialdS gk_f191_772 gk_10t) ?_
      refine gd_ite (fun h285 => ?_) (fun _ => rfl)
      refine Eq.trans (D_ivI (cl := 9) (args := [.ref r2, .int (gI m282 3 ((x3 + 1) : Int32).toNatClampNeg)]) (rest := [.int z284]) gk_f191_773 rfl rfl (gd_rmk gk_rm191_168 gk_ln168 gk_ml168 rfl rfl rfl) gk_rk168 (gd_hnd_n gk_nc191) gk_nc168 gk_n11_168 gk_cl168) ?_
      refine gd_ite (fun h286 => ?_) (fun _ => rfl)
      refine gd_bnd (gd_kI_c fun z289 m287 => ?_)
      refine Eq.trans (D_ic_eq (t := 959) gk_f191_776 (by decide)) ?_
      refine gd_ite (fun h290 => ?_) (fun h291 => ?_)
      · refine Eq.trans (D_iinc (x := x3) (y := 6) gk_f191_959 rfl gk_c_6 gk_st191_3) ?_
        refine Eq.trans (D_goto (t := 18) gk_f191_962 (by decide)) ?_
        rfl
      · refine Eq.trans (D_iconst (x := 0) gk_f191_779 gk_c_0) ?_
        refine Eq.trans (D_zreturn gk_f191_780 gk_rk191) ?_
        exact if_pos rfl
    refine gd_ite (fun h292 => ?_) (fun h293 => ?_)
    · refine Eq.trans (D_aload_n (x := r1) gk_f191_781 rfl) ?_
      refine Eq.trans (D_aload_n (x := 3) gk_f191_782 rfl) ?_
      refine Eq.trans (D_iload_n (x := x3) gk_f191_783 rfl) ?_
      refine Eq.trans (D_iconst (x := 1) gk_f191_784 gk_c_1) ?_
      refine Eq.trans (D_iadd gk_f191_785) ?_
      refine Eq.trans (D_ialdS gk_f191_786 gk_10t) ?_
      refine gd_ite (fun h294 => ?_) (fun _ => rfl)
      refine Eq.trans (D_aload_n (x := 3) gk_f191_787 rfl) ?_
      refine Eq.trans (D_iload_n (x := x3) gk_f191_788 rfl) ?_
      refine Eq.trans (D_iconst (x := 2) gk_f191_789 gk_c_2) ?_
      refine Eq.trans (D_iadd gk_f191_790) ?_
      refine Eq.trans (D_ialdS gk_f191_791 gk_10t) ?_
      refine gd_ite (fun h295 => ?_) (fun _ => rfl)
      refine Eq.trans (D_aload_n (x := 3) gk_f191_792 rfl) ?_
      refine Eq.trans (D_iload_n (x := x3) gk_f191_793 rfl) ?_
      refine Eq.trans (D_iconst (x := 3) gk_f191_794 gk_c_3) ?_
      refine Eq.trans (D_iadd gk_f191_795) ?_
      refine Eq.trans (D_ialdS gk_f191_796 gk_10t) ?_
      refine gd_ite (fun h296 => ?_) (fun _ => rfl)
      refine Eq.trans (D_ivI (cl := 6) (args := [.ref r1, .int (gI m 3 ((x3 + 1) : Int32).toNatClampNeg), .int (gI m 3 ((x3 + 2) : Int32).toNatClampNeg), .int (gI m 3 ((x3 + 3) : Int32).toNatClampNeg)]) (rest := []) gk_f191_797 rfl rfl (gd_rmk gk_rm191_173 gk_ln173 gk_ml173 rfl rfl rfl) gk_rk173 (gd_hnd_n gk_nc191) gk_nc173 gk_n11_173 gk_cl173) ?_
      refine gd_ite (fun h297 => ?_) (fun _ => rfl)
      refine gd_bnd (gd_kI_c fun z300 m298 => ?_)
      refine Eq.trans (D_aload_n (x := r2) gk_f191_800 rfl) ?_
      refine Eq.trans (D_aload_n (x := 3) gk_f191_801 rfl) ?_
      refine Eq.trans (D_iload_n (x := x3) gk_f191_802 rfl) ?_
      refine Eq.trans (D_iconst (x := 1) gk_f191_803 gk_c_1) ?_
      refine Eq.trans (D_iadd gk_f191_804) ?_
      refine Eq.trans (D_ialdS gk_f191_805 gk_10t) ?_
      refine gd_ite (fun h301 => ?_) (fun _ => rfl)
      refine Eq.trans (D_aload_n (x := 3) gk_f191_806 rfl) ?_
      refine Eq.trans (D_iload_n (x := x3) gk_f191_807 rfl) ?_
      refine Eq.trans (D_iconst (x := 2) gk_f191_808 gk_c_2) ?_
      refine Eq.trans (D_iadd gk_f191_809) ?_
      refine Eq.trans (D_ialdS gk_f191_810 gk_10t) ?_
      refine gd_ite (fun h302 => ?_) (fun _ => rfl)
      refine Eq.trans (D_aload_n (x := 3) gk_f191_811 rfl) ?_
      refine Eq.trans (D_iload_n (x := x3) gk_f191_812 rfl) ?_
      refine Eq.trans (D_iconst (x := 3) gk_f191_813 gk_c_3) ?_
      refine Eq.trans (D_iadd gk_f191_814) ?_
      refine Eq.trans (D_ialdS gk_f191_815 gk_10t) ?_
      refine gd_ite (fun h303 => ?_) (fun _ => rfl)
      refine Eq.trans (D_ivI (cl := 9) (args := [.ref r2, .int (gI m298 3 ((x3 + 1) : Int32).toNatClampNeg), .int (gI m298 3 ((x3 + 2) : Int32).toNatClampNeg), .int (gI m298 3 ((x3 + 3) : Int32).toNatClampNeg)]) (rest := [.int z300]) gk_f191_816 rfl rfl (gd_rmk gk_rm191_175 gk_ln175 gk_ml175 rfl rfl rfl) gk_rk175 (gd_hnd_n gk_nc191) gk_nc175 gk_n11_175 gk_cl175) ?_
      refine gd_ite (fun h304 => ?_) (fun _ => rfl)
      refine gd_bnd (gd_kI_c fun z307 m305 => ?_)
      refine Eq.trans (D_ic_eq (t := 959) gk_f191_819 (by decide)) ?_
      refine gd_ite (fun h308 => ?_) (fun h309 => ?_)
      · refine Eq.trans (D_iinc (x := x3) (y := 6) gk_f191_959 rfl gk_c_6 gk_st191_3) ?_
        refine Eq.trans (D_goto (t := 18) gk_f191_962 (by decide)) ?_
        rfl
      · refine Eq.trans (D_iconst (x := 0) gk_f191_822 gk_c_0) ?_
        refine Eq.trans (D_zreturn gk_f191_823 gk_rk191) ?_
        exact if_pos rfl
    refine gd_ite (fun h310 => ?_) (fun h311 => ?_)
    · refine Eq.trans (D_aload_n (x := r1) gk_f191_824 rfl) ?_
      refine Eq.trans (D_aload_n (x := 3) gk_f191_825 rfl) ?_
      refine Eq.trans (D_iload_n (x := x3) gk_f191_826 rfl) ?_
      refine Eq.trans (D_iconst (x := 1) gk_f191_827 gk_c_1) ?_
      refine Eq.trans (D_iadd gk_f191_828) ?_
      refine Eq.trans (D_ialdS gk_f191_829 gk_10t) ?_
      refine gd_ite (fun h312 => ?_) (fun _ => rfl)
      refine Eq.trans (D_aload_n (x := 3) gk_f191_830 rfl) ?_
      refine Eq.trans (D_iload_n (x := x3) gk_f191_831 rfl) ?_
      refine Eq.trans (D_iconst (x := 2) gk_f191_832 gk_c_2) ?_
      refine Eq.trans (D_iadd gk_f191_833) ?_
      refine Eq.trans (D_ialdS gk_f191_834 gk_10t) ?_
      refine gd_ite (fun h313 => ?_) (fun _ => rfl)
      refine Eq.trans (D_ivI (cl := 6) (args := [.ref r1, .int (gI m 3 ((x3 + 1) : Int32).toNatClampNeg), .int (gI m 3 ((x3 + 2) : Int32).toNatClampNeg)]) (rest := []) gk_f191_835 rfl rfl (gd_rmk gk_rm191_176 gk_ln176 gk_ml176 rfl rfl rfl) gk_rk176 (gd_hnd_n gk_nc191) gk_nc176 gk_n11_176 gk_cl176) ?_
      refine gd_ite (fun h314 => ?_) (fun _ => rfl)
      refine gd_bnd (gd_kI_c fun z317 m315 => ?_)
      refine Eq.trans (D_aload_n (x := r2) gk_f191_838 rfl) ?_
      refine Eq.trans (D_aload_n (x := 3) gk_f191_839 rfl) ?_
      refine Eq.trans (D_iload_n (x := x3) gk_f191_840 rfl) ?_
      refine Eq.trans (D_iconst (x := 1) gk_f191_841 gk_c_1) ?_
      refine Eq.trans (D_iadd gk_f191_842) ?_
      refine Eq.trans (D_ialdS gk_f191_843 gk_10t) ?_
      refine gd_ite (fun h318 => ?_) (fun _ => rfl)
      refine Eq.trans (D_aload_n (x := 3) gk_f191_844 rfl) ?_
      refine Eq.trans (D_iload_n (x := x3) gk_f191_845 rfl) ?_
      refine Eq.trans (D_iconst (x := 2) gk_f191_846 gk_c_2) ?_
      refine Eq.trans (D_iadd gk_f191_847) ?_
      refine Eq.trans (D_ialdS gk_f191_848 gk_10t) ?_
      refine gd_ite (fun h319 => ?_) (fun _ => rfl)
      refine Eq.trans (D_ivI (cl := 9) (args := [.ref r2, .int (gI m315 3 ((x3 + 1) : Int32).toNatClampNeg), .int (gI m315 3 ((x3 + 2) : Int32).toNatClampNeg)]) (rest := [.int z317]) gk_f191_849 rfl rfl (gd_rmk gk_rm191_177 gk_ln177 gk_ml177 rfl rfl rfl) gk_rk177 (gd_hnd_n gk_nc191) gk_nc177 gk_n11_177 gk_cl177) ?_
      refine gd_ite (fun h320 => ?_) (fun _ => rfl)
      refine gd_bnd (gd_kI_c fun z323 m321 => ?_)
      refine Eq.trans (D_ic_eq (t := 959) gk_f191_852 (by decide)) ?_
      refine gd_ite (fun h324 => ?_) (fun h325 => ?_)
      · refine Eq.trans (D_iinc (x := x3) (y := 6) gk_f191_959 rfl gk_c_6 gk_st191_3) ?_
        refine Eq.trans (D_goto (t := 18) gk_f191_962 (by decide)) ?_
        rfl
      · refine Eq.trans (D_iconst (x := 0) gk_f191_855 gk_c_0) ?_
        refine Eq.trans (D_zreturn gk_f191_856 gk_rk191) ?_
        exact if_pos rfl
    refine gd_ite (fun h326 => ?_) (fun h327 => ?_)
    · refine Eq.trans (D_aload_n (x := r1) gk_f191_857 rfl) ?_
      refine Eq.trans (D_aload_n (x := 3) gk_f191_858 rfl) ?_
      refine Eq.trans (D_iload_n (x := x3) gk_f191_859 rfl) ?_
      refine Eq.trans (D_iconst (x := 1) gk_f191_860 gk_c_1) ?_
      refine Eq.trans (D_iadd gk_f191_861) ?_
      refine Eq.trans (D_ialdS gk_f191_862 gk_10t) ?_
      refine gd_ite (fun h328 => ?_) (fun _ => rfl)
      refine Eq.trans (D_aload_n (x := 3) gk_f191_863 rfl) ?_
      refine Eq.trans (D_iload_n (x := x3) gk_f191_864 rfl) ?_
      refine Eq.trans (D_iconst (x := 2) gk_f191_865 gk_c_2) ?_
      refine Eq.trans (D_iadd gk_f191_866) ?_
      refine Eq.trans (D_ialdS gk_f191_867 gk_10t) ?_
      refine gd_ite (fun h329 => ?_) (fun _ => rfl)
      refine Eq.trans (D_ivI (cl := 6) (args := [.ref r1, .int (gI m 3 ((x3 + 1) : Int32).toNatClampNeg), .int (gI m 3 ((x3 + 2) : Int32).toNatClampNeg)]) (rest := []) gk_f191_868 rfl rfl (gd_rmk gk_rm191_181 gk_ln181 gk_ml181 rfl rfl rfl) gk_rk181 (gd_hnd_n gk_nc191) gk_nc181 gk_n11_181 gk_cl181) ?_
      refine gd_ite (fun h330 => ?_) (fun _ => rfl)
      refine gd_bnd (gd_kI_c fun z333 m331 => ?_)
      refine Eq.trans (D_aload_n (x := r2) gk_f191_871 rfl) ?_
      refine Eq.trans (D_aload_n (x := 3) gk_f191_872 rfl) ?_
      refine Eq.trans (D_iload_n (x := x3) gk_f191_873 rfl) ?_
      refine Eq.trans (D_iconst (x := 1) gk_f191_874 gk_c_1) ?_
      refine Eq.trans (D_iadd gk_f191_875) ?_
      refine Eq.trans (D_ialdS gk_f191_876 gk_10t) ?_
      refine gd_ite (fun h334 => ?_) (fun _ => rfl)
      refine Eq.trans (D_aload_n (x := 3) gk_f191_877 rfl) ?_
      refine Eq.trans (D_iload_n (x := x3) gk_f191_878 rfl) ?_
      refine Eq.trans (D_iconst (x := 2) gk_f191_879 gk_c_2) ?_
      refine Eq.trans (D_iadd gk_f191_880) ?_
      refine Eq.trans (D_ialdS gk_f191_881 gk_10t) ?_
      refine gd_ite (fun h335 => ?_) (fun _ => rfl)
      refine Eq.trans (D_ivI (cl := 9) (args := [.ref r2, .int (gI m331 3 ((x3 + 1) : Int32).toNatClampNeg), .int (gI m331 3 ((x3 + 2) : Int32).toNatClampNeg)]) (rest := [.int z333]) gk_f191_882 rfl rfl (gd_rmk gk_rm191_183 gk_ln183 gk_ml183 rfl rfl rfl) gk_rk183 (gd_hnd_n gk_nc191) gk_nc183 gk_n11_183 gk_cl183) ?_
      refine gd_ite (fun h336 => ?_) (fun _ => rfl)
      refine gd_bnd (gd_kI_c fun z339 m337 => ?_)
      refine Eq.trans (D_ic_eq (t := 959) gk_f191_885 (by decide)) ?_
      refine gd_ite (fun h340 => ?_) (fun h341 => ?_)
      · refine Eq.trans (D_iinc (x := x3) (y := 6) gk_f191_959 rfl gk_c_6 gk_st191_3) ?_
        refine Eq.trans (D_goto (t := 18) gk_f191_962 (by decide)) ?_
        rfl
      · refine Eq.trans (D_iconst (x := 0) gk_f191_888 gk_c_0) ?_
        refine Eq.trans (D_zreturn gk_f191_889 gk_rk191) ?_
        exact if_pos rfl
    refine gd_ite (fun h342 => ?_) (fun h343 => ?_)
    · refine Eq.trans (D_aload_n (x := r1) gk_f191_890 rfl) ?_
      refine Eq.trans (D_aload_n (x := 3) gk_f191_891 rfl) ?_
      refine Eq.trans (D_iload_n (x := x3) gk_f191_892 rfl) ?_
      refine Eq.trans (D_iconst (x := 1) gk_f191_893 gk_c_1) ?_
      refine Eq.trans (D_iadd gk_f191_894) ?_
      refine Eq.trans (D_ialdS gk_f191_895 gk_10t) ?_
      refine gd_ite (fun h344 => ?_) (fun _ => rfl)
      refine Eq.trans (D_ivI (cl := 6) (args := [.ref r1, .int (gI m 3 ((x3 + 1) : Int32).toNatClampNeg)]) (rest := []) gk_f191_896 rfl rfl (gd_rmk gk_rm191_184 gk_ln184 gk_ml184 rfl rfl rfl) gk_rk184 (gd_hnd_n gk_nc191) gk_nc184 gk_n11_184 gk_cl184) ?_
      refine gd_ite (fun h345 => ?_) (fun _ => rfl)
      refine gd_bnd (gd_kI_c fun z348 m346 => ?_)
      refine Eq.trans (D_aload_n (x := r2) gk_f191_899 rfl) ?_
      refine Eq.trans (D_aload_n (x := 3) gk_f191_900 rfl) ?_
      refine Eq.trans (D_iload_n (x := x3) gk_f191_901 rfl) ?_
      refine Eq.trans (D_iconst (x := 1) gk_f191_902 gk_c_1) ?_
      refine Eq.trans (D_iadd gk_f191_903) ?_
      refine Eq.trans (D_ialdS gk_f191_904 gk_10t) ?_
      refine gd_ite (fun h349 => ?_) (fun _ => rfl)
      refine Eq.trans (D_ivI (cl := 9) (args := [.ref r2, .int (gI m346 3 ((x3 + 1) : Int32).toNatClampNeg)]) (rest := [.int z348]) gk_f191_905 rfl rfl (gd_rmk gk_rm191_185 gk_ln185 gk_ml185 rfl rfl rfl) gk_rk185 (gd_hnd_n gk_nc191) gk_nc185 gk_n11_185 gk_cl185) ?_
      refine gd_ite (fun h350 => ?_) (fun _ => rfl)
      refine gd_bnd (gd_kI_c fun z353 m351 => ?_)
      refine Eq.trans (D_ic_eq (t := 959) gk_f191_908 (by decide)) ?_
      refine gd_ite (fun h354 => ?_) (fun h355 => ?_)
      · refine Eq.trans (D_iinc (x := x3) (y := 6) gk_f191_959 rfl gk_c_6 gk_st191_3) ?_
        refine Eq.trans (D_goto (t := 18) gk_f191_962 (by decide)) ?_
        rfl
      · refine Eq.trans (D_iconst (x := 0) gk_f191_911 gk_c_0) ?_
        refine Eq.trans (D_zreturn gk_f191_912 gk_rk191) ?_
        exact if_pos rfl
    refine gd_ite (fun h356 => ?_) (fun h357 => ?_)
    · refine Eq.trans (D_aload_n (x := r1) gk_f191_913 rfl) ?_
      refine Eq.trans (D_aload_n (x := 3) gk_f191_914 rfl) ?_
      refine Eq.trans (D_iload_n (x := x3) gk_f191_915 rfl) ?_
      refine Eq.trans (D_iconst (x := 1) gk_f191_916 gk_c_1) ?_
      refine Eq.trans (D_iadd gk_f191_917) ?_
      refine Eq.trans (D_ialdS gk_f191_918 gk_10t) ?_
      refine gd_ite (fun h358 => ?_) (fun _ => rfl)
      refine Eq.trans (D_ivI (cl := 6) (args := [.ref r1, .int (gI m 3 ((x3 + 1) : Int32).toNatClampNeg)]) (rest := []) gk_f191_919 rfl rfl (gd_rmk gk_rm191_187 gk_ln187 gk_ml187 rfl rfl rfl) gk_rk187 (gd_hnd_n gk_nc191) gk_nc187 gk_n11_187 gk_cl187) ?_
      refine gd_ite (fun h359 => ?_) (fun _ => rfl)
      refine gd_bnd (gd_kI_c fun z362 m360 => ?_)
      refine Eq.trans (D_aload_n (x := r2) gk_f191_922 rfl) ?_
      refine Eq.trans (D_aload_n (x := 3) gk_f191_923 rfl) ?_
      refine Eq.trans (D_iload_n (x := x3) gk_f191_924 rfl) ?_
      refine Eq.trans (D_iconst (x := 1) gk_f191_925 gk_c_1) ?_
      refine Eq.trans (D_iadd gk_f191_926) ?_
      refine Eq.trans (D_ialdS gk_f191_927 gk_10t) ?_
      refine gd_ite (fun h363 => ?_) (fun _ => rfl)
      refine Eq.trans (D_ivI (cl := 9) (args := [.ref r2, .int (gI m360 3 ((x3 + 1) : Int32).toNatClampNeg)]) (rest := [.int z362]) gk_f191_928 rfl rfl (gd_rmk gk_rm191_188 gk_ln188 gk_ml188 rfl rfl rfl) gk_rk188 (gd_hnd_n gk_nc191) gk_nc188 gk_n11_188 gk_cl188) ?_
      refine gd_ite (fun h364 => ?_) (fun _ => rfl)
      refine gd_bnd (gd_kI_c fun z367 m365 => ?_)
      refine Eq.trans (D_ic_eq (t := 959) gk_f191_931 (by decide)) ?_
      refine gd_ite (fun h368 => ?_) (fun h369 => ?_)
      · refine Eq.trans (D_iinc (x := x3) (y := 6) gk_f191_959 rfl gk_c_6 gk_st191_3) ?_
        refine Eq.trans (D_goto (t := 18) gk_f191_962 (by decide)) ?_
        rfl
      · refine Eq.trans (D_iconst (x := 0) gk_f191_934 gk_c_0) ?_
        refine Eq.trans (D_zreturn gk_f191_935 gk_rk191) ?_
        exact if_pos rfl
    refine gd_ite (fun h370 => ?_) (fun h371 => ?_)
    · refine Eq.trans (D_aload_n (x := r1) gk_f191_936 rfl) ?_
      refine Eq.trans (D_aload_n (x := 3) gk_f191_937 rfl) ?_
      refine Eq.trans (D_iload_n (x := x3) gk_f191_938 rfl) ?_
      refine Eq.trans (D_iconst (x := 1) gk_f191_939 gk_c_1) ?_
      refine Eq.trans (D_iadd gk_f191_940) ?_
      refine Eq.trans (D_ialdS gk_f191_941 gk_10t) ?_
      refine gd_ite (fun h372 => ?_) (fun _ => rfl)
      refine Eq.trans (D_ivI (cl := 6) (args := [.ref r1, .int (gI m 3 ((x3 + 1) : Int32).toNatClampNeg)]) (rest := []) gk_f191_942 rfl rfl (gd_rmk gk_rm191_189 gk_ln189 gk_ml189 rfl rfl rfl) gk_rk189 (gd_hnd_n gk_nc191) gk_nc189 gk_n11_189 gk_cl189) ?_
      refine gd_ite (fun h373 => ?_) (fun _ => rfl)
      refine gd_bnd (gd_kI_c fun z376 m374 => ?_)
      refine Eq.trans (D_aload_n (x := r2) gk_f191_945 rfl) ?_
      refine Eq.trans (D_aload_n (x := 3) gk_f191_946 rfl) ?_
      refine Eq.trans (D_iload_n (x := x3) gk_f191_947 rfl) ?_
      refine Eq.trans (D_iconst (x := 1) gk_f191_948 gk_c_1) ?_
      refine Eq.trans (D_iadd gk_f191_949) ?_
      refine Eq.trans (D_ialdS gk_f191_950 gk_10t) ?_
      refine gd_ite (fun h377 => ?_) (fun _ => rfl)
      refine Eq.trans (D_ivI (cl := 9) (args := [.ref r2, .int (gI m374 3 ((x3 + 1) : Int32).toNatClampNeg)]) (rest := [.int z376]) gk_f191_951 rfl rfl (gd_rmk gk_rm191_190 gk_ln190 gk_ml190 rfl rfl rfl) gk_rk190 (gd_hnd_n gk_nc191) gk_nc190 gk_n11_190 gk_cl190) ?_
      refine gd_ite (fun h378 => ?_) (fun _ => rfl)
      refine gd_bnd (gd_kI_c fun z381 m379 => ?_)
      refine Eq.trans (D_ic_eq (t := 959) gk_f191_954 (by decide)) ?_
      refine gd_ite (fun h382 => ?_) (fun h383 => ?_)
      · refine Eq.trans (D_iinc (x := x3) (y := 6) gk_f191_959 rfl gk_c_6 gk_st191_3) ?_
        refine Eq.trans (D_goto (t := 18) gk_f191_962 (by decide)) ?_
        rfl
      · refine Eq.trans (D_iconst (x := 0) gk_f191_957 gk_c_0) ?_
        refine Eq.trans (D_zreturn gk_f191_958 gk_rk191) ?_
        exact if_pos rfl
    refine Eq.trans (D_iinc (x := x3) (y := 6) gk_f191_959 rfl gk_c_6 gk_st191_3) ?_
    refine Eq.trans (D_goto (t := 18) gk_f191_962 (by decide)) ?_
    rfl
