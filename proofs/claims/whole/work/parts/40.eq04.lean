/-! GymDesk$Chooser.extra (LGymDesk$Code;I)I -/
set_option maxRecDepth 20000 in
theorem gk_f128_0 : gd_fetch 128 0 = some (0, .iconst 0, 1, 0, 0, 0, 0, 0) := rfl
set_option maxRecDepth 20000 in
theorem gk_f128_1 : gd_fetch 128 1 = some (1, .istore_n 3, 1, 0, 0, 0, 0, 0) := rfl
set_option maxRecDepth 20000 in
theorem gk_f128_2 : gd_fetch 128 2 = some (2, .iconst 0, 1, 0, 0, 0, 0, 0) := rfl
set_option maxRecDepth 20000 in
theorem gk_f128_3 : gd_fetch 128 3 = some (3, .istore 4, 2, 0, 0, 0, 0, 0) := rfl
set_option maxRecDepth 20000 in
theorem gk_f128_5 : gd_fetch 128 5 = some (5, .iload_n 2, 1, 0, 0, 0, 0, 0) := rfl
set_option maxRecDepth 20000 in
theorem gk_f128_6 : gd_fetch 128 6 = some (6, .istore 5, 2, 0, 0, 0, 0, 0) := rfl
set_option maxRecDepth 20000 in
theorem gk_f128_8 : gd_fetch 128 8 = some (8, .iconst 0, 1, 0, 0, 0, 0, 0) := rfl
set_option maxRecDepth 20000 in
theorem gk_f128_9 : gd_fetch 128 9 = some (9, .istore 6, 2, 0, 0, 0, 0, 0) := rfl
set_option maxRecDepth 20000 in
theorem gk_f128_11 : gd_fetch 128 11 = some (11, .iload 6, 2, 0, 0, 0, 0, 0) := rfl
set_option maxRecDepth 20000 in
theorem gk_f128_13 : gd_fetch 128 13 = some (13, .iconst 5, 1, 0, 0, 0, 0, 0) := rfl
set_option maxRecDepth 20000 in
theorem gk_f128_14 : gd_fetch 128 14 = some (14, .if_icmp .ge 75, 3, 0, 0, 0, 0, 0) := rfl
set_option maxRecDepth 20000 in
theorem gk_f128_17 : gd_fetch 128 17 = some (17, .iconst 1, 1, 0, 0, 0, 0, 0) := rfl
set_option maxRecDepth 20000 in
theorem gk_f128_18 : gd_fetch 128 18 = some (18, .aload_n 0, 1, 0, 0, 0, 0, 0) := rfl
set_option maxRecDepth 20000 in
theorem gk_f128_19 : gd_fetch 128 19 = some (19, .getfield 18, 3, 247, 0, 2, 4, 1) := rfl
set_option maxRecDepth 20000 in
theorem gk_f128_22 : gd_fetch 128 22 = some (22, .iload 6, 2, 0, 0, 0, 0, 0) := rfl
set_option maxRecDepth 20000 in
theorem gk_f128_24 : gd_fetch 128 24 = some (24, .iaload, 1, 0, 0, 0, 0, 0) := rfl
set_option maxRecDepth 20000 in
theorem gk_f128_25 : gd_fetch 128 25 = some (25, .invokestatic 75, 3, 796, 125, 2, 0, 0) := rfl
set_option maxRecDepth 20000 in
theorem gk_f128_28 : gd_fetch 128 28 = some (28, .istore 7, 2, 0, 0, 0, 0, 0) := rfl
set_option maxRecDepth 20000 in
theorem gk_f128_30 : gd_fetch 128 30 = some (30, .iload 5, 2, 0, 0, 0, 0, 0) := rfl
set_option maxRecDepth 20000 in
theorem gk_f128_32 : gd_fetch 128 32 = some (32, .iload 7, 2, 0, 0, 0, 0, 0) := rfl
set_option maxRecDepth 20000 in
theorem gk_f128_34 : gd_fetch 128 34 = some (34, .irem, 1, 0, 0, 0, 0, 0) := rfl
set_option maxRecDepth 20000 in
theorem gk_f128_35 : gd_fetch 128 35 = some (35, .istore 8, 2, 0, 0, 0, 0, 0) := rfl
set_option maxRecDepth 20000 in
theorem gk_f128_37 : gd_fetch 128 37 = some (37, .iload 5, 2, 0, 0, 0, 0, 0) := rfl
set_option maxRecDepth 20000 in
theorem gk_f128_39 : gd_fetch 128 39 = some (39, .iload 7, 2, 0, 0, 0, 0, 0) := rfl
set_option maxRecDepth 20000 in
theorem gk_f128_41 : gd_fetch 128 41 = some (41, .idiv, 1, 0, 0, 0, 0, 0) := rfl
set_option maxRecDepth 20000 in
theorem gk_f128_42 : gd_fetch 128 42 = some (42, .istore 5, 2, 0, 0, 0, 0, 0) := rfl
set_option maxRecDepth 20000 in
theorem gk_f128_44 : gd_fetch 128 44 = some (44, .iload_n 3, 1, 0, 0, 0, 0, 0) := rfl
set_option maxRecDepth 20000 in
theorem gk_f128_45 : gd_fetch 128 45 = some (45, .iload 8, 2, 0, 0, 0, 0, 0) := rfl
set_option maxRecDepth 20000 in
theorem gk_f128_47 : gd_fetch 128 47 = some (47, .iadd, 1, 0, 0, 0, 0, 0) := rfl
set_option maxRecDepth 20000 in
theorem gk_f128_48 : gd_fetch 128 48 = some (48, .istore_n 3, 1, 0, 0, 0, 0, 0) := rfl
set_option maxRecDepth 20000 in
theorem gk_f128_49 : gd_fetch 128 49 = some (49, .aload_n 1, 1, 0, 0, 0, 0, 0) := rfl
set_option maxRecDepth 20000 in
theorem gk_f128_50 : gd_fetch 128 50 = some (50, .getfield 99, 3, 336, 1, 8, 4, 1) := rfl
set_option maxRecDepth 20000 in
theorem gk_f128_53 : gd_fetch 128 53 = some (53, .iload 6, 2, 0, 0, 0, 0, 0) := rfl
set_option maxRecDepth 20000 in
theorem gk_f128_55 : gd_fetch 128 55 = some (55, .iaload, 1, 0, 0, 0, 0, 0) := rfl
set_option maxRecDepth 20000 in
theorem gk_f128_56 : gd_fetch 128 56 = some (56, .ifCond .le 27, 3, 0, 0, 0, 0, 0) := rfl
set_option maxRecDepth 20000 in
theorem gk_f128_59 : gd_fetch 128 59 = some (59, .iload 8, 2, 0, 0, 0, 0, 0) := rfl
set_option maxRecDepth 20000 in
theorem gk_f128_61 : gd_fetch 128 61 = some (61, .aload_n 1, 1, 0, 0, 0, 0, 0) := rfl
set_option maxRecDepth 20000 in
theorem gk_f128_62 : gd_fetch 128 62 = some (62, .getfield 99, 3, 336, 1, 8, 4, 1) := rfl
set_option maxRecDepth 20000 in
theorem gk_f128_65 : gd_fetch 128 65 = some (65, .iload 6, 2, 0, 0, 0, 0, 0) := rfl
set_option maxRecDepth 20000 in
theorem gk_f128_67 : gd_fetch 128 67 = some (67, .iaload, 1, 0, 0, 0, 0, 0) := rfl
set_option maxRecDepth 20000 in
theorem gk_f128_68 : gd_fetch 128 68 = some (68, .if_icmp .lt 15, 3, 0, 0, 0, 0, 0) := rfl
set_option maxRecDepth 20000 in
theorem gk_f128_71 : gd_fetch 128 71 = some (71, .iload 4, 2, 0, 0, 0, 0, 0) := rfl
set_option maxRecDepth 20000 in
theorem gk_f128_73 : gd_fetch 128 73 = some (73, .aload_n 1, 1, 0, 0, 0, 0, 0) := rfl
set_option maxRecDepth 20000 in
theorem gk_f128_74 : gd_fetch 128 74 = some (74, .getfield 102, 3, 340, 1, 9, 4, 1) := rfl
set_option maxRecDepth 20000 in
theorem gk_f128_77 : gd_fetch 128 77 = some (77, .iload 6, 2, 0, 0, 0, 0, 0) := rfl
set_option maxRecDepth 20000 in
theorem gk_f128_79 : gd_fetch 128 79 = some (79, .iaload, 1, 0, 0, 0, 0, 0) := rfl
set_option maxRecDepth 20000 in
theorem gk_f128_80 : gd_fetch 128 80 = some (80, .iadd, 1, 0, 0, 0, 0, 0) := rfl
set_option maxRecDepth 20000 in
theorem gk_f128_81 : gd_fetch 128 81 = some (81, .istore 4, 2, 0, 0, 0, 0, 0) := rfl
set_option maxRecDepth 20000 in
theorem gk_f128_83 : gd_fetch 128 83 = some (83, .iinc 6 1, 3, 0, 0, 0, 0, 0) := rfl
set_option maxRecDepth 20000 in
theorem gk_f128_86 : gd_fetch 128 86 = some (86, .goto (-75), 3, 0, 0, 0, 0, 0) := rfl
set_option maxRecDepth 20000 in
theorem gk_f128_89 : gd_fetch 128 89 = some (89, .iload_n 3, 1, 0, 0, 0, 0, 0) := rfl
set_option maxRecDepth 20000 in
theorem gk_f128_90 : gd_fetch 128 90 = some (90, .aload_n 1, 1, 0, 0, 0, 0, 0) := rfl
set_option maxRecDepth 20000 in
theorem gk_f128_91 : gd_fetch 128 91 = some (91, .getfield 105, 3, 348, 1, 11, 4, 1) := rfl
set_option maxRecDepth 20000 in
theorem gk_f128_94 : gd_fetch 128 94 = some (94, .iconst 5, 1, 0, 0, 0, 0, 0) := rfl
set_option maxRecDepth 20000 in
theorem gk_f128_95 : gd_fetch 128 95 = some (95, .iaload, 1, 0, 0, 0, 0, 0) := rfl
set_option maxRecDepth 20000 in
theorem gk_f128_96 : gd_fetch 128 96 = some (96, .if_icmp .le 6, 3, 0, 0, 0, 0, 0) := rfl
set_option maxRecDepth 20000 in
theorem gk_f128_99 : gd_fetch 128 99 = some (99, .ldc 74, 2, 791, 0, 0, 0, (-1073741824)) := rfl
set_option maxRecDepth 20000 in
theorem gk_f128_101 : gd_fetch 128 101 = some (101, .ireturn, 1, 0, 0, 0, 0, 0) := rfl
set_option maxRecDepth 20000 in
theorem gk_f128_102 : gd_fetch 128 102 = some (102, .iload_n 3, 1, 0, 0, 0, 0, 0) := rfl
set_option maxRecDepth 20000 in
theorem gk_f128_103 : gd_fetch 128 103 = some (103, .aload_n 1, 1, 0, 0, 0, 0, 0) := rfl
set_option maxRecDepth 20000 in
theorem gk_f128_104 : gd_fetch 128 104 = some (104, .getfield 105, 3, 348, 1, 11, 4, 1) := rfl
set_option maxRecDepth 20000 in
theorem gk_f128_107 : gd_fetch 128 107 = some (107, .bipush 6, 2, 0, 0, 0, 0, 0) := rfl
set_option maxRecDepth 20000 in
theorem gk_f128_109 : gd_fetch 128 109 = some (109, .iaload, 1, 0, 0, 0, 0, 0) := rfl
set_option maxRecDepth 20000 in
theorem gk_f128_110 : gd_fetch 128 110 = some (110, .if_icmp .ge 15, 3, 0, 0, 0, 0, 0) := rfl
set_option maxRecDepth 20000 in
theorem gk_f128_113 : gd_fetch 128 113 = some (113, .iload 4, 2, 0, 0, 0, 0, 0) := rfl
set_option maxRecDepth 20000 in
theorem gk_f128_115 : gd_fetch 128 115 = some (115, .aload_n 1, 1, 0, 0, 0, 0, 0) := rfl
set_option maxRecDepth 20000 in
theorem gk_f128_116 : gd_fetch 128 116 = some (116, .getfield 105, 3, 348, 1, 11, 4, 1) := rfl
set_option maxRecDepth 20000 in
theorem gk_f128_119 : gd_fetch 128 119 = some (119, .bipush 7, 2, 0, 0, 0, 0, 0) := rfl
set_option maxRecDepth 20000 in
theorem gk_f128_121 : gd_fetch 128 121 = some (121, .iaload, 1, 0, 0, 0, 0, 0) := rfl
set_option maxRecDepth 20000 in
theorem gk_f128_122 : gd_fetch 128 122 = some (122, .isub, 1, 0, 0, 0, 0, 0) := rfl
set_option maxRecDepth 20000 in
theorem gk_f128_123 : gd_fetch 128 123 = some (123, .istore 4, 2, 0, 0, 0, 0, 0) := rfl
set_option maxRecDepth 20000 in
theorem gk_f128_125 : gd_fetch 128 125 = some (125, .iload 4, 2, 0, 0, 0, 0, 0) := rfl
set_option maxRecDepth 20000 in
theorem gk_f128_127 : gd_fetch 128 127 = some (127, .ldc 81, 2, 799, 0, 0, 0, 65536) := rfl
set_option maxRecDepth 20000 in
theorem gk_f128_129 : gd_fetch 128 129 = some (129, .imul, 1, 0, 0, 0, 0, 0) := rfl
set_option maxRecDepth 20000 in
theorem gk_f128_130 : gd_fetch 128 130 = some (130, .ireturn, 1, 0, 0, 0, 0, 0) := rfl
set_option maxRecDepth 20000 in
set_option maxHeartbeats 4000000 in
theorem q_Ch_extra (r0 : Nat) (r1 : Nat) (x2 : Int32) (m : gd_M) : gd_call 128 [.ref r0, .ref r1, .int x2] m = gd_Den (128, 11, [.ref r0, .ref r1, .int x2, .int 0, .int 0, .int x2, .int 0, .null, .null], [], m) := by
  refine Eq.trans (show gd_call 128 [.ref r0, .ref r1, .int x2] m = gd_Den (128, 0, [.ref r0, .ref r1, .int x2, .null, .null, .null, .null, .null, .null], [], m) from by unfold gd_call gd_ent; rw [gk_ml128]; rfl) ?_
  refine Eq.trans (D_iconst (x := 0) gk_f128_0 gk_c_0) ?_
  refine Eq.trans (D_istore_n gk_f128_1 gk_st128_3) ?_
  refine Eq.trans (D_iconst (x := 0) gk_f128_2 gk_c_0) ?_
  refine Eq.trans (D_istore gk_f128_3 gk_st128_4) ?_
  refine Eq.trans (D_iload_n (x := x2) gk_f128_5 rfl) ?_
  refine Eq.trans (D_istore gk_f128_6 gk_st128_5) ?_
  refine Eq.trans (D_iconst (x := 0) gk_f128_8 gk_c_0) ?_
  refine Eq.trans (D_istore gk_f128_9 gk_st128_6) ?_
  rfl
set_option maxRecDepth 20000 in
set_option maxHeartbeats 4000000 in
theorem q_Ch_extra_11 (r0 : Nat) (r1 : Nat) (x2 : Int32) (x3 : Int32) (x4 : Int32) (x5 : Int32) (x6 : Int32) (v7 : Value) (v8 : Value) (m : gd_M) : gd_Den (128, 11, [.ref r0, .ref r1, .int x2, .int x3, .int x4, .int x5, .int x6, v7, v8], [], m) = if (x6 < 5 : Prop) then (if gd_ok (gN m) r0 0 = true then (if gd_okA (gN m) (gR m r0 2) 10 x6 = true then ((gd_call 125 [.int 1, .int (gI m (gR m r0 2) (x6 : Int32).toNatClampNeg)] m).bind (gd_k0I fun z7 m5 => if z7 = 0 then none else (if z7 = 0 then none else (if gd_ok (gN m5) r1 1 = true then (if gd_okA (gN m5) (gR m5 r1 8) 10 x6 = true then (if (0 < (gI m5 (gR m5 r1 8) (x6 : Int32).toNatClampNeg) : Prop) then (if ((x5 - x5 / z7 * z7) < (gI m5 (gR m5 r1 8) (x6 : Int32).toNatClampNeg) : Prop) then (gd_Den (128, 11, [.ref r0, .ref r1, .int x2, .int (x3 + (x5 - x5 / z7 * z7)), .int x4, .int (x5 / z7), .int (x6 + 1), .int z7, .int (x5 - x5 / z7 * z7)], [], m5)) else (if gd_okA (gN m5) (gR m5 r1 9) 10 x6 = true then (gd_Den (128, 11, [.ref r0, .ref r1, .int x2, .int (x3 + (x5 - x5 / z7 * z7)), .int (x4 + (gI m5 (gR m5 r1 9) (x6 : Int32).toNatClampNeg)), .int (x5 / z7), .int (x6 + 1), .int z7, .int (x5 - x5 / z7 * z7)], [], m5)) else none)) else (gd_Den (128, 11, [.ref r0, .ref r1, .int x2, .int (x3 + (x5 - x5 / z7 * z7)), .int x4, .int (x5 / z7), .int (x6 + 1), .int z7, .int (x5 - x5 / z7 * z7)], [], m5))) else none) else none)))) else none) else none) else (if gd_ok (gN m) r1 1 = true then (if gd_okA (gN m) (gR m r1 11) 10 5 = true then (if ((gI m (gR m r1 11) (5 : Int32).toNatClampNeg) < x3 : Prop) then (some (.int (-1073741824), m)) else (if gd_okA (gN m) (gR m r1 11) 10 6 = true then (if (x3 < (gI m (gR m r1 11) (6 : Int32).toNatClampNeg) : Prop) then (if gd_okA (gN m) (gR m r1 11) 10 7 = true then (some (.int ((x4 - (gI m (gR m r1 11) (7 : Int32).toNatClampNeg)) * 65536), m)) else none) else (some (.int (x4 * 65536), m))) else none)) else none) else none) := by
  refine Eq.trans (D_iload (x := x6) gk_f128_11 rfl) ?_
  refine Eq.trans (D_iconst (x := 5) gk_f128_13 gk_c_5) ?_
  refine Eq.trans (D_ic_ge (t := 89) gk_f128_14 (by decide)) ?_
  refine gd_ite (fun h1 => ?_) (fun h2 => ?_)
  · refine Eq.trans (D_iconst (x := 1) gk_f128_17 gk_c_1) ?_
    refine Eq.trans (D_aload_n (x := r0) gk_f128_18 rfl) ?_
    refine Eq.trans (D_gfR gk_f128_19 (by decide)) ?_
    refine gd_ite (fun h3 => ?_) (fun _ => rfl)
    refine Eq.trans (D_iload (x := x6) gk_f128_22 rfl) ?_
    refine Eq.trans (D_iald gk_f128_24 gk_n10_128) ?_
    refine gd_ite (fun h4 => ?_) (fun _ => rfl)
    refine Eq.trans (D_isI (args := [.int 1, .int (gI m (gR m r0 2) (x6 : Int32).toNatClampNeg)]) (rest := []) gk_f128_25 rfl rfl rfl (gd_rmk gk_rm128_125 gk_ln125 gk_ml125 rfl rfl rfl) gk_rk125 (gd_hnd_n gk_nc128)) ?_
    refine gd_bnd (gd_k0I_c fun z7 m5 => ?_)
    refine Eq.trans (D_istore gk_f128_28 gk_st128_7) ?_
    refine Eq.trans (D_iload (x := x5) gk_f128_30 rfl) ?_
    refine Eq.trans (D_iload (x := z7) gk_f128_32 rfl) ?_
    refine Eq.trans (D_irem gk_f128_34) ?_
    refine gd_ite (fun _ => rfl) (fun h8 => ?_)
    refine Eq.trans (D_istore gk_f128_35 gk_st128_8) ?_
    refine Eq.trans (D_iload (x := x5) gk_f128_37 rfl) ?_
    refine Eq.trans (D_iload (x := z7) gk_f128_39 rfl) ?_
    refine Eq.trans (D_idiv gk_f128_41) ?_
    refine gd_ite (fun _ => rfl) (fun h9 => ?_)
    refine Eq.trans (D_istore gk_f128_42 gk_st128_5) ?_
    refine Eq.trans (D_iload_n (x := x3) gk_f128_44 rfl) ?_
    refine Eq.trans (D_iload (x := (x5 - x5 / z7 * z7)) gk_f128_45 rfl) ?_
    refine Eq.trans (D_iadd gk_f128_47) ?_
    refine Eq.trans (D_istore_n gk_f128_48 gk_st128_3) ?_
    refine Eq.trans (D_aload_n (x := r1) gk_f128_49 rfl) ?_
    refine Eq.trans (D_gfR gk_f128_50 (by decide)) ?_
    refine gd_ite (fun h10 => ?_) (fun _ => rfl)
    refine Eq.trans (D_iload (x := x6) gk_f128_53 rfl) ?_
    refine Eq.trans (D_iald gk_f128_55 gk_n10_128) ?_
    refine gd_ite (fun h11 => ?_) (fun _ => rfl)
    refine Eq.trans (D_if_le (t := 83) gk_f128_56 (by decide)) ?_
    refine gd_ite (fun h12 => ?_) (fun h13 => ?_)
    · refine Eq.trans (D_iload (x := (x5 - x5 / z7 * z7)) gk_f128_59 rfl) ?_
      refine Eq.trans (D_aload_n (x := r1) gk_f128_61 rfl) ?_
      refine Eq.trans (D_gfR gk_f128_62 (by decide)) ?_
      refine Eq.trans (if_pos h10) ?_
      refine Eq.trans (D_iload (x := x6) gk_f128_65 rfl) ?_
      refine Eq.trans (D_iald gk_f128_67 gk_n10_128) ?_
      refine Eq.trans (if_pos h11) ?_
      refine Eq.trans (D_ic_lt (t := 83) gk_f128_68 (by decide)) ?_
      refine gd_ite (fun h14 => ?_) (fun h15 => ?_)
      · refine Eq.trans (D_iinc (x := x6) (y := 1) gk_f128_83 rfl gk_c_1 gk_st128_6) ?_
        refine Eq.trans (D_goto (t := 11) gk_f128_86 (by decide)) ?_
        rfl
      · refine Eq.trans (D_iload (x := x4) gk_f128_71 rfl) ?_
        refine Eq.trans (D_aload_n (x := r1) gk_f128_73 rfl) ?_
        refine Eq.trans (D_gfR gk_f128_74 (by decide)) ?_
        refine Eq.trans (if_pos h10) ?_
        refine Eq.trans (D_iload (x := x6) gk_f128_77 rfl) ?_
        refine Eq.trans (D_iald gk_f128_79 gk_n10_128) ?_
        refine gd_ite (fun h16 => ?_) (fun _ => rfl)
        refine Eq.trans (D_iadd gk_f128_80) ?_
        refine Eq.trans (D_istore gk_f128_81 gk_st128_4) ?_
        refine Eq.trans (D_iinc (x := x6) (y := 1) gk_f128_83 rfl gk_c_1 gk_st128_6) ?_
        refine Eq.trans (D_goto (t := 11) gk_f128_86 (by decide)) ?_
        rfl
    · refine Eq.trans (D_iinc (x := x6) (y := 1) gk_f128_83 rfl gk_c_1 gk_st128_6) ?_
      refine Eq.trans (D_goto (t := 11) gk_f128_86 (by decide)) ?_
      rfl
  · refine Eq.trans (D_iload_n (x := x3) gk_f128_89 rfl) ?_
    refine Eq.trans (D_aload_n (x := r1) gk_f128_90 rfl) ?_
    refine Eq.trans (D_gfR gk_f128_91 (by decide)) ?_
    refine gd_ite (fun h17 => ?_) (fun _ => rfl)
    refine Eq.trans (D_iconst (x := 5) gk_f128_94 gk_c_5) ?_
    refine Eq.trans (D_iald gk_f128_95 gk_n10_128) ?_
    refine gd_ite (fun h18 => ?_) (fun _ => rfl)
    refine Eq.trans (D_ic_le (t := 102) gk_f128_96 (by decide)) ?_
    refine gd_ite (fun h19 => ?_) (fun h20 => ?_)
    · refine Eq.trans (D_ldc (x := (-1073741824)) gk_f128_99 gk_c_m1073741824) ?_
      refine Eq.trans (D_ireturn gk_f128_101 gk_rk128) ?_
      rfl
    · refine Eq.trans (D_iload_n (x := x3) gk_f128_102 rfl) ?_
      refine Eq.trans (D_aload_n (x := r1) gk_f128_103 rfl) ?_
      refine Eq.trans (D_gfR gk_f128_104 (by decide)) ?_
      refine Eq.trans (if_pos h17) ?_
      refine Eq.trans (D_bipush (x := 6) gk_f128_107 gk_b_6) ?_
      refine Eq.trans (D_iald gk_f128_109 gk_n10_128) ?_
      refine gd_ite (fun h21 => ?_) (fun _ => rfl)
      refine Eq.trans (D_ic_ge (t := 125) gk_f128_110 (by decide)) ?_
      refine gd_ite (fun h22 => ?_) (fun h23 => ?_)
      · refine Eq.trans (D_iload (x := x4) gk_f128_113 rfl) ?_
        refine Eq.trans (D_aload_n (x := r1) gk_f128_115 rfl) ?_
        refine Eq.trans (D_gfR gk_f128_116 (by decide)) ?_
        refine Eq.trans (if_pos h17) ?_
        refine Eq.trans (D_bipush (x := 7) gk_f128_119 gk_b_7) ?_
        refine Eq.trans (D_iald gk_f128_121 gk_n10_128) ?_
        refine gd_ite (fun h24 => ?_) (fun _ => rfl)
        refine Eq.trans (D_isub gk_f128_122) ?_
        refine Eq.trans (D_istore gk_f128_123 gk_st128_4) ?_
        refine Eq.trans (D_iload (x := (x4 - (gI m (gR m r1 11) (7 : Int32).toNatClampNeg))) gk_f128_125 rfl) ?_
        refine Eq.trans (D_ldc (x := 65536) gk_f128_127 gk_c_65536) ?_
        refine Eq.trans (D_imul gk_f128_129) ?_
        refine Eq.trans (D_ireturn gk_f128_130 gk_rk128) ?_
        rfl
      · refine Eq.trans (D_iload (x := x4) gk_f128_125 rfl) ?_
        refine Eq.trans (D_ldc (x := 65536) gk_f128_127 gk_c_65536) ?_
        refine Eq.trans (D_imul gk_f128_129) ?_
        refine Eq.trans (D_ireturn gk_f128_130 gk_rk128) ?_
        rfl
/-! java/lang/Math.floorDiv (II)I -/
set_option maxRecDepth 20000 in
theorem gk_f129_0 : gd_fetch 129 0 = some (0, .iload_n 0, 1, 0, 0, 0, 0, 0) := rfl
set_option maxRecDepth 20000 in
theorem gk_f129_1 : gd_fetch 129 1 = some (1, .iload_n 1, 1, 0, 0, 0, 0, 0) := rfl
set_option maxRecDepth 20000 in
theorem gk_f129_2 : gd_fetch 129 2 = some (2, .idiv, 1, 0, 0, 0, 0, 0) := rfl
set_option maxRecDepth 20000 in
theorem gk_f129_3 : gd_fetch 129 3 = some (3, .istore_n 2, 1, 0, 0, 0, 0, 0) := rfl
set_option maxRecDepth 20000 in
theorem gk_f129_4 : gd_fetch 129 4 = some (4, .iload_n 0, 1, 0, 0, 0, 0, 0) := rfl
set_option maxRecDepth 20000 in
theorem gk_f129_5 : gd_fetch 129 5 = some (5, .iload_n 1, 1, 0, 0, 0, 0, 0) := rfl
set_option maxRecDepth 20000 in
theorem gk_f129_6 : gd_fetch 129 6 = some (6, .ixor, 1, 0, 0, 0, 0, 0) := rfl
set_option maxRecDepth 20000 in
theorem gk_f129_7 : gd_fetch 129 7 = some (7, .ifCond .ge 14, 3, 0, 0, 0, 0, 0) := rfl
set_option maxRecDepth 20000 in
theorem gk_f129_10 : gd_fetch 129 10 = some (10, .iload_n 2, 1, 0, 0, 0, 0, 0) := rfl
set_option maxRecDepth 20000 in
theorem gk_f129_11 : gd_fetch 129 11 = some (11, .iload_n 1, 1, 0, 0, 0, 0, 0) := rfl
set_option maxRecDepth 20000 in
theorem gk_f129_12 : gd_fetch 129 12 = some (12, .imul, 1, 0, 0, 0, 0, 0) := rfl
set_option maxRecDepth 20000 in
theorem gk_f129_13 : gd_fetch 129 13 = some (13, .iload_n 0, 1, 0, 0, 0, 0, 0) := rfl
set_option maxRecDepth 20000 in
theorem gk_f129_14 : gd_fetch 129 14 = some (14, .if_icmp .eq 7, 3, 0, 0, 0, 0, 0) := rfl
set_option maxRecDepth 20000 in
theorem gk_f129_17 : gd_fetch 129 17 = some (17, .iload_n 2, 1, 0, 0, 0, 0, 0) := rfl
set_option maxRecDepth 20000 in
theorem gk_f129_18 : gd_fetch 129 18 = some (18, .iconst 1, 1, 0, 0, 0, 0, 0) := rfl
set_option maxRecDepth 20000 in
theorem gk_f129_19 : gd_fetch 129 19 = some (19, .isub, 1, 0, 0, 0, 0, 0) := rfl
set_option maxRecDepth 20000 in
theorem gk_f129_20 : gd_fetch 129 20 = some (20, .ireturn, 1, 0, 0, 0, 0, 0) := rfl
set_option maxRecDepth 20000 in
theorem gk_f129_21 : gd_fetch 129 21 = some (21, .iload_n 2, 1, 0, 0, 0, 0, 0) := rfl
set_option maxRecDepth 20000 in
theorem gk_f129_22 : gd_fetch 129 22 = some (22, .ireturn, 1, 0, 0, 0, 0, 0) := rfl
set_option maxRecDepth 20000 in
set_option maxHeartbeats 4000000 in
theorem q_Ma_floorDiv (x0 : Int32) (x1 : Int32) (m : gd_M) : gd_call 129 [.int x0, .int x1] m = if x1 = 0 then none else (if ((x0 ^^^ x1) < 0 : Prop) then (if (((x0 / x1) * x1) = x0 : Prop) then (some (.int (x0 / x1), m)) else (some (.int ((x0 / x1) - 1), m))) else (some (.int (x0 / x1), m))) := by
  refine Eq.trans (show gd_call 129 [.int x0, .int x1] m = gd_Den (129, 0, [.int x0, .int x1, .null], [], m) from by unfold gd_call gd_ent; rw [gk_ml129]; rfl) ?_
  refine Eq.trans (D_iload_n (x := x0) gk_f129_0 rfl) ?_
  refine Eq.trans (D_iload_n (x := x1) gk_f129_1 rfl) ?_
  refine Eq.trans (D_idiv gk_f129_2) ?_
  refine gd_ite (fun _ => rfl) (fun h1 => ?_)
  refine Eq.trans (D_istore_n gk_f129_3 gk_st129_2) ?_
  refine Eq.trans (D_iload_n (x := x0) gk_f129_4 rfl) ?_
  refine Eq.trans (D_iload_n (x := x1) gk_f129_5 rfl) ?_
  refine Eq.trans (D_ixor gk_f129_6) ?_
  refine Eq.trans (D_if_ge (t := 21) gk_f129_7 (by decide)) ?_
  refine gd_ite (fun h2 => ?_) (fun h3 => ?_)
  · refine Eq.trans (D_iload_n (x := (x0 / x1)) gk_f129_10 rfl) ?_
    refine Eq.trans (D_iload_n (x := x1) gk_f129_11 rfl) ?_
    refine Eq.trans (D_imul gk_f129_12) ?_
    refine Eq.trans (D_iload_n (x := x0) gk_f129_13 rfl) ?_
    refine Eq.trans (D_ic_eq (t := 21) gk_f129_14 (by decide)) ?_
    refine gd_ite (fun h4 => ?_) (fun h5 => ?_)
    · refine Eq.trans (D_iload_n (x := (x0 / x1)) gk_f129_21 rfl) ?_
      refine Eq.trans (D_ireturn gk_f129_22 gk_rk129) ?_
      rfl
    · refine Eq.trans (D_iload_n (x := (x0 / x1)) gk_f129_17 rfl) ?_
      refine Eq.trans (D_iconst (x := 1) gk_f129_18 gk_c_1) ?_
      refine Eq.trans (D_isub gk_f129_19) ?_
      refine Eq.trans (D_ireturn gk_f129_20 gk_rk129) ?_
      rfl
  · refine Eq.trans (D_iload_n (x := (x0 / x1)) gk_f129_21 rfl) ?_
    refine Eq.trans (D_ireturn gk_f129_22 gk_rk129) ?_
    rfl
/-! GymDesk$Chooser.settle (LGymDesk$Code;)V -/
set_option maxRecDepth 20000 in
theorem gk_f130_0 : gd_fetch 130 0 = some (0, .ldc 74, 2, 791, 0, 0, 0, (-1073741824)) := rfl
set_option maxRecDepth 20000 in
theorem gk_f130_2 : gd_fetch 130 2 = some (2, .istore_n 2, 1, 0, 0, 0, 0, 0) := rfl
set_option maxRecDepth 20000 in
theorem gk_f130_3 : gd_fetch 130 3 = some (3, .iconst 0, 1, 0, 0, 0, 0, 0) := rfl
set_option maxRecDepth 20000 in
theorem gk_f130_4 : gd_fetch 130 4 = some (4, .istore_n 3, 1, 0, 0, 0, 0, 0) := rfl
set_option maxRecDepth 20000 in
theorem gk_f130_5 : gd_fetch 130 5 = some (5, .iload_n 3, 1, 0, 0, 0, 0, 0) := rfl
set_option maxRecDepth 20000 in
theorem gk_f130_6 : gd_fetch 130 6 = some (6, .aload_n 0, 1, 0, 0, 0, 0, 0) := rfl
set_option maxRecDepth 20000 in
theorem gk_f130_7 : gd_fetch 130 7 = some (7, .getfield 64, 3, 249, 0, 4, 0, 0) := rfl
set_option maxRecDepth 20000 in
theorem gk_f130_10 : gd_fetch 130 10 = some (10, .if_icmp .ge 47, 3, 0, 0, 0, 0, 0) := rfl
set_option maxRecDepth 20000 in
theorem gk_f130_13 : gd_fetch 130 13 = some (13, .aload_n 0, 1, 0, 0, 0, 0, 0) := rfl
set_option maxRecDepth 20000 in
theorem gk_f130_14 : gd_fetch 130 14 = some (14, .getfield 11, 3, 245, 0, 0, 4, 1) := rfl
set_option maxRecDepth 20000 in
theorem gk_f130_17 : gd_fetch 130 17 = some (17, .iload_n 3, 1, 0, 0, 0, 0, 0) := rfl
set_option maxRecDepth 20000 in
theorem gk_f130_18 : gd_fetch 130 18 = some (18, .iaload, 1, 0, 0, 0, 0, 0) := rfl
set_option maxRecDepth 20000 in
theorem gk_f130_19 : gd_fetch 130 19 = some (19, .aload_n 0, 1, 0, 0, 0, 0, 0) := rfl
set_option maxRecDepth 20000 in
theorem gk_f130_20 : gd_fetch 130 20 = some (20, .getfield 15, 3, 246, 0, 1, 4, 1) := rfl
set_option maxRecDepth 20000 in
theorem gk_f130_23 : gd_fetch 130 23 = some (23, .iload_n 3, 1, 0, 0, 0, 0, 0) := rfl
set_option maxRecDepth 20000 in
theorem gk_f130_24 : gd_fetch 130 24 = some (24, .iaload, 1, 0, 0, 0, 0, 0) := rfl
set_option maxRecDepth 20000 in
theorem gk_f130_25 : gd_fetch 130 25 = some (25, .invokestatic 75, 3, 796, 125, 2, 0, 0) := rfl
set_option maxRecDepth 20000 in
theorem gk_f130_28 : gd_fetch 130 28 = some (28, .istore 4, 2, 0, 0, 0, 0, 0) := rfl
set_option maxRecDepth 20000 in
theorem gk_f130_30 : gd_fetch 130 30 = some (30, .iload 4, 2, 0, 0, 0, 0, 0) := rfl
set_option maxRecDepth 20000 in
theorem gk_f130_32 : gd_fetch 130 32 = some (32, .ldc 85, 2, 809, 0, 0, 0, (-536870912)) := rfl
set_option maxRecDepth 20000 in
theorem gk_f130_34 : gd_fetch 130 34 = some (34, .if_icmp .le 17, 3, 0, 0, 0, 0, 0) := rfl
set_option maxRecDepth 20000 in
theorem gk_f130_37 : gd_fetch 130 37 = some (37, .iload_n 2, 1, 0, 0, 0, 0, 0) := rfl
set_option maxRecDepth 20000 in
theorem gk_f130_38 : gd_fetch 130 38 = some (38, .iload 4, 2, 0, 0, 0, 0, 0) := rfl
set_option maxRecDepth 20000 in
theorem gk_f130_40 : gd_fetch 130 40 = some (40, .aload_n 0, 1, 0, 0, 0, 0, 0) := rfl
set_option maxRecDepth 20000 in
theorem gk_f130_41 : gd_fetch 130 41 = some (41, .aload_n 1, 1, 0, 0, 0, 0, 0) := rfl
set_option maxRecDepth 20000 in
theorem gk_f130_42 : gd_fetch 130 42 = some (42, .iload_n 3, 1, 0, 0, 0, 0, 0) := rfl
set_option maxRecDepth 20000 in
theorem gk_f130_43 : gd_fetch 130 43 = some (43, .invokevirtual 86, 3, 810, 128, 2, 0, 0) := rfl
set_option maxRecDepth 20000 in
theorem gk_f130_46 : gd_fetch 130 46 = some (46, .iadd, 1, 0, 0, 0, 0, 0) := rfl
set_option maxRecDepth 20000 in
theorem gk_f130_47 : gd_fetch 130 47 = some (47, .invokestatic 75, 3, 796, 125, 2, 0, 0) := rfl
set_option maxRecDepth 20000 in
theorem gk_f130_50 : gd_fetch 130 50 = some (50, .istore_n 2, 1, 0, 0, 0, 0, 0) := rfl
set_option maxRecDepth 20000 in
theorem gk_f130_51 : gd_fetch 130 51 = some (51, .iinc 3 1, 3, 0, 0, 0, 0, 0) := rfl
set_option maxRecDepth 20000 in
theorem gk_f130_54 : gd_fetch 130 54 = some (54, .goto (-49), 3, 0, 0, 0, 0, 0) := rfl
set_option maxRecDepth 20000 in
theorem gk_f130_57 : gd_fetch 130 57 = some (57, .iload_n 2, 1, 0, 0, 0, 0, 0) := rfl
set_option maxRecDepth 20000 in
theorem gk_f130_58 : gd_fetch 130 58 = some (58, .ldc 81, 2, 799, 0, 0, 0, 65536) := rfl
set_option maxRecDepth 20000 in
theorem gk_f130_60 : gd_fetch 130 60 = some (60, .iadd, 1, 0, 0, 0, 0, 0) := rfl
set_option maxRecDepth 20000 in
theorem gk_f130_61 : gd_fetch 130 61 = some (61, .iconst 1, 1, 0, 0, 0, 0, 0) := rfl
set_option maxRecDepth 20000 in
theorem gk_f130_62 : gd_fetch 130 62 = some (62, .isub, 1, 0, 0, 0, 0, 0) := rfl
set_option maxRecDepth 20000 in
theorem gk_f130_63 : gd_fetch 130 63 = some (63, .ldc 81, 2, 799, 0, 0, 0, 65536) := rfl
set_option maxRecDepth 20000 in
theorem gk_f130_65 : gd_fetch 130 65 = some (65, .invokestatic 90, 3, 814, 129, 2, 0, 0) := rfl
set_option maxRecDepth 20000 in
theorem gk_f130_68 : gd_fetch 130 68 = some (68, .istore_n 3, 1, 0, 0, 0, 0, 0) := rfl
set_option maxRecDepth 20000 in
theorem gk_f130_69 : gd_fetch 130 69 = some (69, .aload_n 0, 1, 0, 0, 0, 0, 0) := rfl
set_option maxRecDepth 20000 in
theorem gk_f130_70 : gd_fetch 130 70 = some (70, .iload_n 3, 1, 0, 0, 0, 0, 0) := rfl
set_option maxRecDepth 20000 in
theorem gk_f130_71 : gd_fetch 130 71 = some (71, .ldc 81, 2, 799, 0, 0, 0, 65536) := rfl
set_option maxRecDepth 20000 in
theorem gk_f130_73 : gd_fetch 130 73 = some (73, .imul, 1, 0, 0, 0, 0, 0) := rfl
set_option maxRecDepth 20000 in
theorem gk_f130_74 : gd_fetch 130 74 = some (74, .iload_n 2, 1, 0, 0, 0, 0, 0) := rfl
set_option maxRecDepth 20000 in
theorem gk_f130_75 : gd_fetch 130 75 = some (75, .isub, 1, 0, 0, 0, 0, 0) := rfl
set_option maxRecDepth 20000 in
theorem gk_f130_76 : gd_fetch 130 76 = some (76, .putfield 93, 3, 252, 0, 6, 0, 0) := rfl
set_option maxRecDepth 20000 in
theorem gk_f130_79 : gd_fetch 130 79 = some (79, .aload_n 0, 1, 0, 0, 0, 0, 0) := rfl
set_option maxRecDepth 20000 in
theorem gk_f130_80 : gd_fetch 130 80 = some (80, .iconst 0, 1, 0, 0, 0, 0, 0) := rfl
set_option maxRecDepth 20000 in
theorem gk_f130_81 : gd_fetch 130 81 = some (81, .iload_n 3, 1, 0, 0, 0, 0, 0) := rfl
set_option maxRecDepth 20000 in
theorem gk_f130_82 : gd_fetch 130 82 = some (82, .invokestatic 75, 3, 796, 125, 2, 0, 0) := rfl
set_option maxRecDepth 20000 in
theorem gk_f130_85 : gd_fetch 130 85 = some (85, .putfield 96, 3, 250, 0, 5, 0, 0) := rfl
set_option maxRecDepth 20000 in
theorem gk_f130_88 : gd_fetch 130 88 = some (88, .return_, 1, 0, 0, 0, 0, 0) := rfl
set_option maxRecDepth 20000 in
set_option maxHeartbeats 4000000 in
theorem q_Ch_settle (r0 : Nat) (r1 : Nat) (m : gd_M) : gd_call 130 [.ref r0, .ref r1] m = gd_Den (130, 5, [.ref r0, .ref r1, .int (-1073741824), .int 0, .null], [], m) := by
  refine Eq.trans (show gd_call 130 [.ref r0, .ref r1] m = gd_Den (130, 0, [.ref r0, .ref r1, .null, .null, .null], [], m) from by unfold gd_call gd_ent; rw [gk_ml130]; rfl) ?_
  refine Eq.trans (D_ldc (x := (-1073741824)) gk_f130_0 gk_c_m1073741824) ?_
  refine Eq.trans (D_istore_n gk_f130_2 gk_st130_2) ?_
  refine Eq.trans (D_iconst (x := 0) gk_f130_3 gk_c_0) ?_
  refine Eq.trans (D_istore_n gk_f130_4 gk_st130_3) ?_
  rfl
set_option maxRecDepth 20000 in
set_option maxHeartbeats 4000000 in
theorem q_Ch_settle_5 (r0 : Nat) (r1 : Nat) (x2 : Int32) (x3 : Int32) (v4 : Value) (m : gd_M) : gd_Den (130, 5, [.ref r0, .ref r1, .int x2, .int x3, v4], [], m) = if gd_ok (gN m) r0 0 = true then (if (x3 < (gI m r0 4) : Prop) then (if gd_okA (gN m) (gR m r0 0) 10 x3 = true then (if gd_okA (gN m) (gR m r0 1) 10 x3 = true then ((gd_call 125 [.int (gI m (gR m r0 0) (x3 : Int32).toNatClampNeg), .int (gI m (gR m r0 1) (x3 : Int32).toNatClampNeg)] m).bind (gd_k0I fun z8 m6 => if ((-536870912) < z8 : Prop) then (if gd_ok (gN m6) r0 0 = true then ((gd_call 128 [.ref r0, .ref r1, .int x3] m6).bind (gd_kI fun z14 m12 => (gd_call 125 [.int x2, .int (z8 + z14)] m12).bind (gd_k0I fun z17 m15 => gd_Den (130, 5, [.ref r0, .ref r1, .int z17, .int (x3 + 1), .int z8], [], m15)))) else none) else (gd_Den (130, 5, [.ref r0, .ref r1, .int x2, .int (x3 + 1), .int z8], [], m6)))) else none) else none) else ((gd_call 129 [.int ((x2 + 65536) - 1), .int 65536] m).bind (gd_k0I fun z20 m18 => if gd_ok (gN m18) r0 0 = true then ((gd_call 125 [.int 0, .int z20] (wI m18 r0 6 ((z20 * 65536) - x2))).bind (gd_k0I fun z24 m22 => if gd_ok (gN m22) r0 0 = true then (some (.null, (wI m22 r0 5 z24))) else none)) else none))) else none := by
  refine Eq.trans (D_iload_n (x := x3) gk_f130_5 rfl) ?_
  refine Eq.trans (D_aload_n (x := r0) gk_f130_6 rfl) ?_
  refine Eq.trans (D_gfI gk_f130_7 (by decide) (by decide) (by decide)) ?_
  refine gd_ite (fun h1 => ?_) (fun _ => rfl)
  refine Eq.trans (D_ic_ge (t := 57) gk_f130_10 (by decide)) ?_
  refine gd_ite (fun h2 => ?_) (fun h3 => ?_)
  · refine Eq.trans (D_aload_n (x := r0) gk_f130_13 rfl) ?_
    refine Eq.trans (D_gfR gk_f130_14 (by decide)) ?_
    refine Eq.trans (if_pos h1) ?_
    refine Eq.trans (D_iload_n (x := x3) gk_f130_17 rfl) ?_
    refine Eq.trans (D_iald gk_f130_18 gk_n10_130) ?_
    refine gd_ite (fun h4 => ?_) (fun _ => rfl)
    refine Eq.trans (D_aload_n (x := r0) gk_f130_19 rfl) ?_
    refine Eq.trans (D_gfR gk_f130_20 (by decide)) ?_
    refine Eq.trans (if_pos h1) ?_
    refine Eq.trans (D_iload_n (x := x3) gk_f130_23 rfl) ?_
    refine Eq.trans (D_iald gk_f130_24 gk_n10_130) ?_
    refine gd_ite (fun h5 => ?_) (fun _ => rfl)
    refine Eq.trans (D_isI (args := [.int (gI m (gR m r0 0) (x3 : Int32).toNatClampNeg), .int (gI m (gR m r0 1) (x3 : Int32).toNatClampNeg)]) (rest := []) gk_f130_25 rfl rfl rfl (gd_rmk gk_rm130_125 gk_ln125 gk_ml125 rfl rfl rfl) gk_rk125 (gd_hnd_n gk_nc130)) ?_
    refine gd_bnd (gd_k0I_c fun z8 m6 => ?_)
    refine Eq.trans (D_istore gk_f130_28 gk_st130_4) ?_
    refine Eq.trans (D_iload (x := z8) gk_f130_30 rfl) ?_
    refine Eq.trans (D_ldc (x := (-536870912)) gk_f130_32 gk_c_m536870912) ?_
    refine Eq.trans (D_ic_le (t := 51) gk_f130_34 (by decide)) ?_
    refine gd_ite (fun h9 => ?_) (fun h10 => ?_)
    · refine Eq.trans (D_iload_n (x := x2) gk_f130_37 rfl) ?_
      refine Eq.trans (D_iload (x := z8) gk_f130_38 rfl) ?_
      refine Eq.trans (D_aload_n (x := r0) gk_f130_40 rfl) ?_
      refine Eq.trans (D_aload_n (x := r1) gk_f130_41 rfl) ?_
      refine Eq.trans (D_iload_n (x := x3) gk_f130_42 rfl) ?_
      refine Eq.trans (D_ivI (cl := 0) (args := [.ref r0, .ref r1, .int x3]) (rest := [.int z8, .int x2]) gk_f130_43 rfl rfl (gd_rmk gk_rm130_128 gk_ln128 gk_ml128 rfl rfl rfl) gk_rk128 (gd_hnd_n gk_nc130) gk_nc128 gk_n11_128 gk_cl128) ?_
      refine gd_ite (fun h11 => ?_) (fun _ => rfl)
      refine gd_bnd (gd_kI_c fun z14 m12 => ?_)
      refine Eq.trans (D_iadd gk_f130_46) ?_
      refine Eq.trans (D_isI (args := [.int x2, .int (z8 + z14)]) (rest := []) gk_f130_47 rfl rfl rfl (gd_rmk gk_rm130_125 gk_ln125 gk_ml125 rfl rfl rfl) gk_rk125 (gd_hnd_n gk_nc130)) ?_
      refine gd_bnd (gd_k0I_c fun z17 m15 => ?_)
      refine Eq.trans (D_istore_n gk_f130_50 gk_st130_2) ?_
      refine Eq.trans (D_iinc (x := x3) (y := 1) gk_f130_51 rfl gk_c_1 gk_st130_3) ?_
      refine Eq.trans (D_goto (t := 5) gk_f130_54 (by decide)) ?_
      rfl
    · refine Eq.trans (D_iinc (x := x3) (y := 1) gk_f130_51 rfl gk_c_1 gk_st130_3) ?_
      refine Eq.trans (D_goto (t := 5) gk_f130_54 (by decide)) ?_
      rfl
  · refine Eq.trans (D_iload_n (x := x2) gk_f130_57 rfl) ?_
    refine Eq.trans (D_ldc (x := 65536) gk_f130_58 gk_c_65536) ?_
    refine Eq.trans (D_iadd gk_f130_60) ?_
    refine Eq.trans (D_iconst (x := 1) gk_f130_61 gk_c_1) ?_
    refine Eq.trans (D_isub gk_f130_62) ?_
    refine Eq.trans (D_ldc (x := 65536) gk_f130_63 gk_c_65536) ?_
    refine Eq.trans (D_isI (args := [.int ((x2 + 65536) - 1), .int 65536]) (rest := []) gk_f130_65 rfl rfl rfl (gd_rmk gk_rm130_129 gk_ln129 gk_ml129 rfl rfl rfl) gk_rk129 (gd_hnd_n gk_nc130)) ?_
    refine gd_bnd (gd_k0I_c fun z20 m18 => ?_)
    refine Eq.trans (D_istore_n gk_f130_68 gk_st130_3) ?_
    refine Eq.trans (D_aload_n (x := r0) gk_f130_69 rfl) ?_
    refine Eq.trans (D_iload_n (x := z20) gk_f130_70 rfl) ?_
    refine Eq.trans (D_ldc (x := 65536) gk_f130_71 gk_c_65536) ?_
    refine Eq.trans (D_imul gk_f130_73) ?_
    refine Eq.trans (D_iload_n (x := x2) gk_f130_74 rfl) ?_
    refine Eq.trans (D_isub gk_f130_75) ?_
    refine Eq.trans (D_pfI gk_f130_76) ?_
    refine gd_ite (fun h21 => ?_) (fun _ => rfl)
    refine Eq.trans (D_aload_n (x := r0) gk_f130_79 rfl) ?_
    refine Eq.trans (D_iconst (x := 0) gk_f130_80 gk_c_0) ?_
    refine Eq.trans (D_iload_n (x := z20) gk_f130_81 rfl) ?_
    refine Eq.trans (D_isI (args := [.int 0, .int z20]) (rest := [.ref r0]) gk_f130_82 rfl rfl rfl (gd_rmk gk_rm130_125 gk_ln125 gk_ml125 rfl rfl rfl) gk_rk125 (gd_hnd_n gk_nc130)) ?_
    refine gd_bnd (gd_k0I_c fun z24 m22 => ?_)
    refine Eq.trans (D_pfI gk_f130_85) ?_
    refine gd_ite (fun h25 => ?_) (fun _ => rfl)
    refine Eq.trans (D_vreturn gk_f130_88 gk_rk130) ?_
    rfl
/-! GymDesk$Chooser.choose (LGymDesk$Code;LGymDesk$Routine;)V -/
set_option maxRecDepth 20000 in
theorem gk_f131_0 : gd_fetch 131 0 = some (0, .aload_n 2, 1, 0, 0, 0, 0, 0) := rfl
set_option maxRecDepth 20000 in
theorem gk_f131_1 : gd_fetch 131 1 = some (1, .invokevirtual 24, 3, 775, 122, 0, 0, 0) := rfl
set_option maxRecDepth 20000 in
theorem gk_f131_4 : gd_fetch 131 4 = some (4, .istore_n 3, 1, 0, 0, 0, 0, 0) := rfl
set_option maxRecDepth 20000 in
theorem gk_f131_5 : gd_fetch 131 5 = some (5, .aload_n 2, 1, 0, 0, 0, 0, 0) := rfl
set_option maxRecDepth 20000 in
theorem gk_f131_6 : gd_fetch 131 6 = some (6, .aload_n 1, 1, 0, 0, 0, 0, 0) := rfl
set_option maxRecDepth 20000 in
theorem gk_f131_7 : gd_fetch 131 7 = some (7, .invokevirtual 30, 3, 779, 123, 1, 0, 0) := rfl
set_option maxRecDepth 20000 in
theorem gk_f131_10 : gd_fetch 131 10 = some (10, .istore 4, 2, 0, 0, 0, 0, 0) := rfl
set_option maxRecDepth 20000 in
theorem gk_f131_12 : gd_fetch 131 12 = some (12, .aload_n 0, 1, 0, 0, 0, 0, 0) := rfl
set_option maxRecDepth 20000 in
theorem gk_f131_13 : gd_fetch 131 13 = some (13, .aload_n 1, 1, 0, 0, 0, 0, 0) := rfl
set_option maxRecDepth 20000 in
theorem gk_f131_14 : gd_fetch 131 14 = some (14, .aload_n 2, 1, 0, 0, 0, 0, 0) := rfl
set_option maxRecDepth 20000 in
theorem gk_f131_15 : gd_fetch 131 15 = some (15, .iload_n 3, 1, 0, 0, 0, 0, 0) := rfl
set_option maxRecDepth 20000 in
theorem gk_f131_16 : gd_fetch 131 16 = some (16, .iload 4, 2, 0, 0, 0, 0, 0) := rfl
set_option maxRecDepth 20000 in
theorem gk_f131_18 : gd_fetch 131 18 = some (18, .invokevirtual 34, 3, 785, 124, 4, 0, 0) := rfl
set_option maxRecDepth 20000 in
theorem gk_f131_21 : gd_fetch 131 21 = some (21, .iconst 0, 1, 0, 0, 0, 0, 0) := rfl
set_option maxRecDepth 20000 in
theorem gk_f131_22 : gd_fetch 131 22 = some (22, .istore 5, 2, 0, 0, 0, 0, 0) := rfl
set_option maxRecDepth 20000 in
theorem gk_f131_24 : gd_fetch 131 24 = some (24, .iload 5, 2, 0, 0, 0, 0, 0) := rfl
set_option maxRecDepth 20000 in
theorem gk_f131_26 : gd_fetch 131 26 = some (26, .iload_n 3, 1, 0, 0, 0, 0, 0) := rfl
set_option maxRecDepth 20000 in
theorem gk_f131_27 : gd_fetch 131 27 = some (27, .if_icmp .ge 34, 3, 0, 0, 0, 0, 0) := rfl
set_option maxRecDepth 20000 in
theorem gk_f131_30 : gd_fetch 131 30 = some (30, .iload 4, 2, 0, 0, 0, 0, 0) := rfl
set_option maxRecDepth 20000 in
theorem gk_f131_32 : gd_fetch 131 32 = some (32, .iload 5, 2, 0, 0, 0, 0, 0) := rfl
set_option maxRecDepth 20000 in
theorem gk_f131_34 : gd_fetch 131 34 = some (34, .ishr, 1, 0, 0, 0, 0, 0) := rfl
set_option maxRecDepth 20000 in
theorem gk_f131_35 : gd_fetch 131 35 = some (35, .iconst 1, 1, 0, 0, 0, 0, 0) := rfl
set_option maxRecDepth 20000 in
theorem gk_f131_36 : gd_fetch 131 36 = some (36, .iand, 1, 0, 0, 0, 0, 0) := rfl
set_option maxRecDepth 20000 in
theorem gk_f131_37 : gd_fetch 131 37 = some (37, .ifCond .ne 14, 3, 0, 0, 0, 0, 0) := rfl
set_option maxRecDepth 20000 in
theorem gk_f131_40 : gd_fetch 131 40 = some (40, .aload_n 0, 1, 0, 0, 0, 0, 0) := rfl
set_option maxRecDepth 20000 in
theorem gk_f131_41 : gd_fetch 131 41 = some (41, .aload_n 1, 1, 0, 0, 0, 0, 0) := rfl
set_option maxRecDepth 20000 in
theorem gk_f131_42 : gd_fetch 131 42 = some (42, .aload_n 2, 1, 0, 0, 0, 0, 0) := rfl
set_option maxRecDepth 20000 in
theorem gk_f131_43 : gd_fetch 131 43 = some (43, .iload 5, 2, 0, 0, 0, 0, 0) := rfl
set_option maxRecDepth 20000 in
theorem gk_f131_45 : gd_fetch 131 45 = some (45, .invokevirtual 38, 3, 792, 126, 3, 0, 0) := rfl
set_option maxRecDepth 20000 in
theorem gk_f131_48 : gd_fetch 131 48 = some (48, .goto 7, 3, 0, 0, 0, 0, 0) := rfl
set_option maxRecDepth 20000 in
theorem gk_f131_51 : gd_fetch 131 51 = some (51, .aload_n 0, 1, 0, 0, 0, 0, 0) := rfl
set_option maxRecDepth 20000 in
theorem gk_f131_52 : gd_fetch 131 52 = some (52, .invokevirtual 42, 3, 801, 127, 0, 0, 0) := rfl
set_option maxRecDepth 20000 in
theorem gk_f131_55 : gd_fetch 131 55 = some (55, .iinc 5 1, 3, 0, 0, 0, 0, 0) := rfl
set_option maxRecDepth 20000 in
theorem gk_f131_58 : gd_fetch 131 58 = some (58, .goto (-34), 3, 0, 0, 0, 0, 0) := rfl
set_option maxRecDepth 20000 in
theorem gk_f131_61 : gd_fetch 131 61 = some (61, .aload_n 0, 1, 0, 0, 0, 0, 0) := rfl
set_option maxRecDepth 20000 in
theorem gk_f131_62 : gd_fetch 131 62 = some (62, .aload_n 1, 1, 0, 0, 0, 0, 0) := rfl
set_option maxRecDepth 20000 in
theorem gk_f131_63 : gd_fetch 131 63 = some (63, .invokevirtual 45, 3, 805, 130, 1, 0, 0) := rfl
set_option maxRecDepth 20000 in
theorem gk_f131_66 : gd_fetch 131 66 = some (66, .return_, 1, 0, 0, 0, 0, 0) := rfl
set_option maxRecDepth 20000 in
set_option maxHeartbeats 4000000 in
theorem q_Ch_choose (r0 : Nat) (r1 : Nat) (r2 : Nat) (m : gd_M) : gd_call 131 [.ref r0, .ref r1, .ref r2] m = if gd_ok (gN m) r2 4 = true then ((gd_call 122 [.ref r2] m).bind (gd_kI fun z4 m2 => if gd_ok (gN m2) r2 4 = true then ((gd_call 123 [.ref r2, .ref r1] m2).bind (gd_kI fun z8 m6 => if gd_ok (gN m6) r0 0 = true then ((gd_call 124 [.ref r0, .ref r1, .ref r2, .int z4, .int z8] m6).bind (gd_kV fun m10 => gd_Den (131, 24, [.ref r0, .ref r1, .ref r2, .int z4, .int z8, .int 0], [], m10))) else none)) else none)) else none := by
  refine Eq.trans (show gd_call 131 [.ref r0, .ref r1, .ref r2] m = gd_Den (131, 0, [.ref r0, .ref r1, .ref r2, .null, .null, .null], [], m) from by unfold gd_call gd_ent; rw [gk_ml131]; rfl) ?_
  refine Eq.trans (D_aload_n (x := r2) gk_f131_0 rfl) ?_
  refine Eq.trans (D_ivI (cl := 4) (args := [.ref r2]) (rest := []) gk_f131_1 rfl rfl (gd_rmk gk_rm131_122 gk_ln122 gk_ml122 rfl rfl rfl) gk_rk122 (gd_hnd_n gk_nc131) gk_nc122 gk_n11_122 gk_cl122) ?_
  refine gd_ite (fun h1 => ?_) (fun _ => rfl)
  refine gd_bnd (gd_kI_c fun z4 m2 => ?_)
  refine Eq.trans (D_istore_n gk_f131_4 gk_st131_3) ?_
  refine Eq.trans (D_aload_n (x := r2) gk_f131_5 rfl) ?_
  refine Eq.trans (D_aload_n (x := r1) gk_f131_6 rfl) ?_
  refine Eq.trans (D_ivI (cl := 4) (args := [.ref r2, .ref r1]) (rest := []) gk_f131_7 rfl rfl (gd_rmk gk_rm131_123 gk_ln123 gk_ml123 rfl rfl rfl) gk_rk123 (gd_hnd_n gk_nc131) gk_nc123 gk_n11_123 gk_cl123) ?_
  refine gd_ite (fun h5 => ?_) (fun _ => rfl)
  refine gd_bnd (gd_kI_c fun z8 m6 => ?_)
  refine Eq.trans (D_istore gk_f131_10 gk_st131_4) ?_
  refine Eq.trans (D_aload_n (x := r0) gk_f131_12 rfl) ?_
  refine Eq.trans (D_aload_n (x := r1) gk_f131_13 rfl) ?_
  refine Eq.trans (D_aload_n (x := r2) gk_f131_14 rfl) ?_
  refine Eq.trans (D_iload_n (x := z4) gk_f131_15 rfl) ?_
  refine Eq.trans (D_iload (x := z8) gk_f131_16 rfl) ?_
  refine Eq.trans (D_ivV (cl := 0) (args := [.ref r0, .ref r1, .ref r2, .int z4, .int z8]) (rest := []) gk_f131_18 rfl rfl (gd_rmk gk_rm131_124 gk_ln124 gk_ml124 rfl rfl rfl) gk_rk124 (gd_hnd_n gk_nc131) gk_nc124 gk_n11_124 gk_cl124) ?_
  refine gd_ite (fun h9 => ?_) (fun _ => rfl)
  refine gd_bnd (gd_kV_c fun m10 => ?_)
  refine Eq.trans (D_iconst (x := 0) gk_f131_21 gk_c_0) ?_
  refine Eq.trans (D_istore gk_f131_22 gk_st131_5) ?_
  rfl
set_option maxRecDepth 20000 in
set_option maxHeartbeats 4000000 in
theorem q_Ch_choose_24 (r0 : Nat) (r1 : Nat) (r2 : Nat) (x3 : Int32) (x4 : Int32) (x5 : Int32) (m : gd_M) : gd_Den (131, 24, [.ref r0, .ref r1, .ref r2, .int x3, .int x4, .int x5], [], m) = if (x5 < x3 : Prop) then (if ((((x4 : Int32) >>> (x5 &&& 31)) &&& 1) = 0 : Prop) then (if gd_ok (gN m) r0 0 = true then ((gd_call 126 [.ref r0, .ref r1, .ref r2, .int x5] m).bind (gd_kV fun m6 => gd_Den (131, 24, [.ref r0, .ref r1, .ref r2, .int x3, .int x4, .int (x5 + 1)], [], m6))) else none) else (if gd_ok (gN m) r0 0 = true then ((gd_call 127 [.ref r0] m).bind (gd_kV fun m9 => gd_Den (131, 24, [.ref r0, .ref r1, .ref r2, .int x3, .int x4, .int (x5 + 1)], [], m9))) else none)) else (if gd_ok (gN m) r0 0 = true then ((gd_call 130 [.ref r0, .ref r1] m).bind (gd_kV fun m12 => some (.null, m12))) else none) := by
  refine Eq.trans (D_iload (x := x5) gk_f131_24 rfl) ?_
  refine Eq.trans (D_iload_n (x := x3) gk_f131_26 rfl) ?_
  refine Eq.trans (D_ic_ge (t := 61) gk_f131_27 (by decide)) ?_
  refine gd_ite (fun h1 => ?_) (fun h2 => ?_)
  · refine Eq.trans (D_iload (x := x4) gk_f131_30 rfl) ?_
    refine Eq.trans (D_iload (x := x5) gk_f131_32 rfl) ?_
    refine Eq.trans (D_ishr gk_f131_34) ?_
    refine Eq.trans (D_iconst (x := 1) gk_f131_35 gk_c_1) ?_
    refine Eq.trans (D_iand gk_f131_36) ?_
    refine Eq.trans (D_if_ne (t := 51) gk_f131_37 (by decide)) ?_
    refine gd_ite (fun h3 => ?_) (fun h4 => ?_)
    · refine Eq.trans (D_aload_n (x := r0) gk_f131_40 rfl) ?_
      refine Eq.trans (D_aload_n (x := r1) gk_f131_41 rfl) ?_
      refine Eq.trans (D_aload_n (x := r2) gk_f131_42 rfl) ?_
      refine Eq.trans (D_iload (x := x5) gk_f131_43 rfl) ?_
      refine Eq.trans (D_ivV (cl := 0) (args := [.ref r0, .ref r1, .ref r2, .int x5]) (rest := []) gk_f131_45 rfl rfl (gd_rmk gk_rm131_126 gk_ln126 gk_ml126 rfl rfl rfl) gk_rk126 (gd_hnd_n gk_nc131) gk_nc126 gk_n11_126 gk_cl126) ?_
      refine gd_ite (fun h5 => ?_) (fun _ => rfl)
      refine gd_bnd (gd_kV_c fun m6 => ?_)
      refine Eq.trans (D_goto (t := 55) gk_f131_48 (by decide)) ?_
      refine Eq.trans (D_iinc (x := x5) (y := 1) gk_f131_55 rfl gk_c_1 gk_st131_5) ?_
      refine Eq.trans (D_goto (t := 24) gk_f131_58 (by decide)) ?_
      rfl
    · refine Eq.trans (D_aload_n (x := r0) gk_f131_51 rfl) ?_
      refine Eq.trans (D_ivV (cl := 0) (args := [.ref r0]) (rest := []) gk_f131_52 rfl rfl (gd_rmk gk_rm131_127 gk_ln127 gk_ml127 rfl rfl rfl) gk_rk127 (gd_hnd_n gk_nc131) gk_nc127 gk_n11_127 gk_cl127) ?_
      refine gd_ite (fun h8 => ?_) (fun _ => rfl)
      refine gd_bnd (gd_kV_c fun m9 => ?_)
      refine Eq.trans (D_iinc (x := x5) (y := 1) gk_f131_55 rfl gk_c_1 gk_st131_5) ?_
      refine Eq.trans (D_goto (t := 24) gk_f131_58 (by decide)) ?_
      rfl
  · refine Eq.trans (D_aload_n (x := r0) gk_f131_61 rfl) ?_
    refine Eq.trans (D_aload_n (x := r1) gk_f131_62 rfl) ?_
    refine Eq.trans (D_ivV (cl := 0) (args := [.ref r0, .ref r1]) (rest := []) gk_f131_63 rfl rfl (gd_rmk gk_rm131_130 gk_ln130 gk_ml130 rfl rfl rfl) gk_rk130 (gd_hnd_n gk_nc131) gk_nc130 gk_n11_130 gk_cl130) ?_
    refine gd_ite (fun h11 => ?_) (fun _ => rfl)
    refine gd_bnd (gd_kV_c fun m12 => ?_)
    refine Eq.trans (D_vreturn gk_f131_66 gk_rk131) ?_
    rfl
/-! GymDesk$Routine.takeChoice (II)V -/
set_option maxRecDepth 20000 in
theorem gk_f132_0 : gd_fetch 132 0 = some (0, .aload_n 0, 1, 0, 0, 0, 0, 0) := rfl
set_option maxRecDepth 20000 in
theorem gk_f132_1 : gd_fetch 132 1 = some (1, .iload_n 1, 1, 0, 0, 0, 0, 0) := rfl
set_option maxRecDepth 20000 in
theorem gk_f132_2 : gd_fetch 132 2 = some (2, .putfield 89, 3, 417, 4, 9, 0, 0) := rfl
set_option maxRecDepth 20000 in
theorem gk_f132_5 : gd_fetch 132 5 = some (5, .aload_n 0, 1, 0, 0, 0, 0, 0) := rfl
set_option maxRecDepth 20000 in
theorem gk_f132_6 : gd_fetch 132 6 = some (6, .iload_n 2, 1, 0, 0, 0, 0, 0) := rfl
set_option maxRecDepth 20000 in
theorem gk_f132_7 : gd_fetch 132 7 = some (7, .putfield 92, 3, 419, 4, 10, 0, 0) := rfl
set_option maxRecDepth 20000 in
theorem gk_f132_10 : gd_fetch 132 10 = some (10, .aload_n 0, 1, 0, 0, 0, 0, 0) := rfl
set_option maxRecDepth 20000 in
theorem gk_f132_11 : gd_fetch 132 11 = some (11, .iconst 0, 1, 0, 0, 0, 0, 0) := rfl
set_option maxRecDepth 20000 in
theorem gk_f132_12 : gd_fetch 132 12 = some (12, .putfield 28, 3, 409, 4, 5, 1, 0) := rfl
set_option maxRecDepth 20000 in
theorem gk_f132_15 : gd_fetch 132 15 = some (15, .return_, 1, 0, 0, 0, 0, 0) := rfl
set_option maxRecDepth 20000 in
set_option maxHeartbeats 4000000 in
theorem q_Ro_takeChoice (r0 : Nat) (x1 : Int32) (x2 : Int32) (m : gd_M) : gd_call 132 [.ref r0, .int x1, .int x2] m = if gd_ok (gN m) r0 4 = true then (some (.null, (wI (wI (wI m r0 9 x1) r0 10 x2) r0 5 0))) else none := by
  refine Eq.trans (show gd_call 132 [.ref r0, .int x1, .int x2] m = gd_Den (132, 0, [.ref r0, .int x1, .int x2], [], m) from by unfold gd_call gd_ent; rw [gk_ml132]; rfl) ?_
  refine Eq.trans (D_aload_n (x := r0) gk_f132_0 rfl) ?_
  refine Eq.trans (D_iload_n (x := x1) gk_f132_1 rfl) ?_
  refine Eq.trans (D_pfI gk_f132_2) ?_
  refine gd_ite (fun h1 => ?_) (fun _ => rfl)
  refine Eq.trans (D_aload_n (x := r0) gk_f132_5 rfl) ?_
  refine Eq.trans (D_iload_n (x := x2) gk_f132_6 rfl) ?_
  refine Eq.trans (D_pfI gk_f132_7) ?_
  refine Eq.trans (if_pos h1) ?_
  refine Eq.trans (D_aload_n (x := r0) gk_f132_10 rfl) ?_
  refine Eq.trans (D_iconst (x := 0) gk_f132_11 gk_c_0) ?_
  refine Eq.trans (D_pfZ gk_f132_12) ?_
  refine Eq.trans (if_pos h1) ?_
  refine Eq.trans (if_pos rfl) ?_
  refine Eq.trans (D_vreturn gk_f132_15 gk_rk132) ?_
  rfl
/-! GymDesk.refresh (LGymDesk$Routine;)V -/
set_option maxRecDepth 20000 in
theorem gk_f133_0 : gd_fetch 133 0 = some (0, .aload_n 1, 1, 0, 0, 0, 0, 0) := rfl
set_option maxRecDepth 20000 in
theorem gk_f133_1 : gd_fetch 133 1 = some (1, .getfield 188, 3, 410, 4, 5, 1, 0) := rfl
set_option maxRecDepth 20000 in
theorem gk_f133_4 : gd_fetch 133 4 = some (4, .ifCond .eq 33, 3, 0, 0, 0, 0, 0) := rfl
set_option maxRecDepth 20000 in
theorem gk_f133_7 : gd_fetch 133 7 = some (7, .aload_n 0, 1, 0, 0, 0, 0, 0) := rfl
set_option maxRecDepth 20000 in
theorem gk_f133_8 : gd_fetch 133 8 = some (8, .getfield 23, 3, 462, 6, 2, 4, 1) := rfl
set_option maxRecDepth 20000 in
theorem gk_f133_11 : gd_fetch 133 11 = some (11, .aload_n 0, 1, 0, 0, 0, 0, 0) := rfl
set_option maxRecDepth 20000 in
theorem gk_f133_12 : gd_fetch 133 12 = some (12, .getfield 56, 3, 469, 6, 9, 4, 0) := rfl
set_option maxRecDepth 20000 in
theorem gk_f133_15 : gd_fetch 133 15 = some (15, .aload_n 1, 1, 0, 0, 0, 0, 0) := rfl
set_option maxRecDepth 20000 in
theorem gk_f133_16 : gd_fetch 133 16 = some (16, .invokevirtual 191, 3, 771, 131, 2, 0, 0) := rfl
set_option maxRecDepth 20000 in
theorem gk_f133_19 : gd_fetch 133 19 = some (19, .aload_n 1, 1, 0, 0, 0, 0, 0) := rfl
set_option maxRecDepth 20000 in
theorem gk_f133_20 : gd_fetch 133 20 = some (20, .aload_n 0, 1, 0, 0, 0, 0, 0) := rfl
set_option maxRecDepth 20000 in
theorem gk_f133_21 : gd_fetch 133 21 = some (21, .getfield 23, 3, 462, 6, 2, 4, 1) := rfl
set_option maxRecDepth 20000 in
theorem gk_f133_24 : gd_fetch 133 24 = some (24, .getfield 195, 3, 251, 0, 5, 0, 0) := rfl
set_option maxRecDepth 20000 in
theorem gk_f133_27 : gd_fetch 133 27 = some (27, .aload_n 0, 1, 0, 0, 0, 0, 0) := rfl
set_option maxRecDepth 20000 in
theorem gk_f133_28 : gd_fetch 133 28 = some (28, .getfield 23, 3, 462, 6, 2, 4, 1) := rfl
set_option maxRecDepth 20000 in
theorem gk_f133_31 : gd_fetch 133 31 = some (31, .getfield 198, 3, 253, 0, 6, 0, 0) := rfl
set_option maxRecDepth 20000 in
theorem gk_f133_34 : gd_fetch 133 34 = some (34, .invokevirtual 201, 3, 817, 132, 2, 0, 0) := rfl
set_option maxRecDepth 20000 in
theorem gk_f133_37 : gd_fetch 133 37 = some (37, .return_, 1, 0, 0, 0, 0, 0) := rfl
set_option maxRecDepth 20000 in
set_option maxHeartbeats 4000000 in
theorem q_X_refresh (r0 : Nat) (r1 : Nat) (m : gd_M) : gd_call 133 [.ref r0, .ref r1] m = if gd_ok (gN m) r1 4 = true then (if ((gI m r1 5) = 0 : Prop) then (some (.null, m)) else (if gd_ok (gN m) r0 6 = true then (if gd_ok (gN m) (gR m r0 2) 0 = true then ((gd_call 131 [.ref (gR m r0 2), .ref (gR m r0 9), .ref r1] m).bind (gd_kV fun m6 => if gd_ok (gN m6) r0 6 = true then (if gd_ok (gN m6) (gR m6 r0 2) 0 = true then (if gd_ok (gN m6) r1 4 = true then ((gd_call 132 [.ref r1, .int (gI m6 (gR m6 r0 2) 5), .int (gI m6 (gR m6 r0 2) 6)] m6).bind (gd_kV fun m11 => some (.null, m11))) else none) else none) else none)) else none) else none)) else none := by
  refine Eq.trans (show gd_call 133 [.ref r0, .ref r1] m = gd_Den (133, 0, [.ref r0, .ref r1], [], m) from by unfold gd_call gd_ent; rw [gk_ml133]; rfl) ?_
  refine Eq.trans (D_aload_n (x := r1) gk_f133_0 rfl) ?_
  refine Eq.trans (D_gfI gk_f133_1 (by decide) (by decide) (by decide)) ?_
  refine gd_ite (fun h1 => ?_) (fun _ => rfl)
  refine Eq.trans (D_if_eq (t := 37) gk_f133_4 (by decide)) ?_
  refine gd_ite (fun h2 => ?_) (fun h3 => ?_)
  · refine Eq.trans (D_vreturn gk_f133_37 gk_rk133) ?_
    rfl
  · refine Eq.trans (D_aload_n (x := r0) gk_f133_7 rfl) ?_
    refine Eq.trans (D_gfR gk_f133_8 (by decide)) ?_
    refine gd_ite (fun h4 => ?_) (fun _ => rfl)
    refine Eq.trans (D_aload_n (x := r0) gk_f133_11 rfl) ?_
    refine Eq.trans (D_gfR gk_f133_12 (by decide)) ?_
    refine Eq.trans (if_pos h4) ?_
    refine Eq.trans (D_aload_n (x := r1) gk_f133_15 rfl) ?_
    refine Eq.trans (D_ivV (cl := 0) (args := [.ref (gR m r0 2), .ref (gR m r0 9), .ref r1]) (rest := []) gk_f133_16 rfl rfl (gd_rmk gk_rm133_131 gk_ln131 gk_ml131 rfl rfl rfl) gk_rk131 (gd_hnd_n gk_nc133) gk_nc131 gk_n11_131 gk_cl131) ?_
    refine gd_ite (fun h5 => ?_) (fun _ => rfl)
    refine gd_bnd (gd_kV_c fun m6 => ?_)
    refine Eq.trans (D_aload_n (x := r1) gk_f133_19 rfl) ?_
    refine Eq.trans (D_aload_n (x := r0) gk_f133_20 rfl) ?_
    refine Eq.trans (D_gfR gk_f133_21 (by decide)) ?_
    refine gd_ite (fun h8 => ?_) (fun _ => rfl)
    refine Eq.trans (D_gfI gk_f133_24 (by decide) (by decide) (by decide)) ?_
    refine gd_ite (fun h9 => ?_) (fun _ => rfl)
    refine Eq.trans (D_aload_n (x := r0) gk_f133_27 rfl) ?_
    refine Eq.trans (D_gfR gk_f133_28 (by decide)) ?_
    refine Eq.trans (if_pos h8) ?_
    refine Eq.trans (D_gfI gk_f133_31 (by decide) (by decide) (by decide)) ?_
    refine Eq.trans (if_pos h9) ?_
    refine Eq.trans (D_ivV (cl := 4) (args := [.ref r1, .int (gI m6 (gR m6 r0 2) 5), .int (gI m6 (gR m6 r0 2) 6)]) (rest := []) gk_f133_34 rfl rfl (gd_rmk gk_rm133_132 gk_ln132 gk_ml132 rfl rfl rfl) gk_rk132 (gd_hnd_n gk_nc133) gk_nc132 gk_n11_132 gk_cl132) ?_
    refine gd_ite (fun h10 => ?_) (fun _ => rfl)
    refine gd_bnd (gd_kV_c fun m11 => ?_)
    refine Eq.trans (D_vreturn gk_f133_37 gk_rk133) ?_
    rfl
/-! GymDesk$Routine.meanOff (I)I -/
set_option maxRecDepth 20000 in
theorem gk_f134_0 : gd_fetch 134 0 = some (0, .iconst 0, 1, 0, 0, 0, 0, 0) := rfl
set_option maxRecDepth 20000 in
theorem gk_f134_1 : gd_fetch 134 1 = some (1, .istore_n 2, 1, 0, 0, 0, 0, 0) := rfl
set_option maxRecDepth 20000 in
theorem gk_f134_2 : gd_fetch 134 2 = some (2, .iconst 0, 1, 0, 0, 0, 0, 0) := rfl
set_option maxRecDepth 20000 in
theorem gk_f134_3 : gd_fetch 134 3 = some (3, .istore_n 3, 1, 0, 0, 0, 0, 0) := rfl
set_option maxRecDepth 20000 in
theorem gk_f134_4 : gd_fetch 134 4 = some (4, .bipush 100, 2, 0, 0, 0, 0, 0) := rfl
set_option maxRecDepth 20000 in
theorem gk_f134_6 : gd_fetch 134 6 = some (6, .istore 4, 2, 0, 0, 0, 0, 0) := rfl
set_option maxRecDepth 20000 in
theorem gk_f134_8 : gd_fetch 134 8 = some (8, .iconst 0, 1, 0, 0, 0, 0, 0) := rfl
set_option maxRecDepth 20000 in
theorem gk_f134_9 : gd_fetch 134 9 = some (9, .istore 5, 2, 0, 0, 0, 0, 0) := rfl
set_option maxRecDepth 20000 in
theorem gk_f134_11 : gd_fetch 134 11 = some (11, .iload 5, 2, 0, 0, 0, 0, 0) := rfl
set_option maxRecDepth 20000 in
theorem gk_f134_13 : gd_fetch 134 13 = some (13, .iload_n 1, 1, 0, 0, 0, 0, 0) := rfl
set_option maxRecDepth 20000 in
theorem gk_f134_14 : gd_fetch 134 14 = some (14, .if_icmp .ge 45, 3, 0, 0, 0, 0, 0) := rfl
set_option maxRecDepth 20000 in
theorem gk_f134_17 : gd_fetch 134 17 = some (17, .iload_n 2, 1, 0, 0, 0, 0, 0) := rfl
set_option maxRecDepth 20000 in
theorem gk_f134_18 : gd_fetch 134 18 = some (18, .aload_n 0, 1, 0, 0, 0, 0, 0) := rfl
set_option maxRecDepth 20000 in
theorem gk_f134_19 : gd_fetch 134 19 = some (19, .getfield 15, 3, 402, 4, 1, 4, 1) := rfl
set_option maxRecDepth 20000 in
theorem gk_f134_22 : gd_fetch 134 22 = some (22, .iload 5, 2, 0, 0, 0, 0, 0) := rfl
set_option maxRecDepth 20000 in
theorem gk_f134_24 : gd_fetch 134 24 = some (24, .iaload, 1, 0, 0, 0, 0, 0) := rfl
set_option maxRecDepth 20000 in
theorem gk_f134_25 : gd_fetch 134 25 = some (25, .iadd, 1, 0, 0, 0, 0, 0) := rfl
set_option maxRecDepth 20000 in
theorem gk_f134_26 : gd_fetch 134 26 = some (26, .istore_n 2, 1, 0, 0, 0, 0, 0) := rfl
set_option maxRecDepth 20000 in
theorem gk_f134_27 : gd_fetch 134 27 = some (27, .iload_n 3, 1, 0, 0, 0, 0, 0) := rfl
set_option maxRecDepth 20000 in
theorem gk_f134_28 : gd_fetch 134 28 = some (28, .aload_n 0, 1, 0, 0, 0, 0, 0) := rfl
set_option maxRecDepth 20000 in
theorem gk_f134_29 : gd_fetch 134 29 = some (29, .getfield 15, 3, 402, 4, 1, 4, 1) := rfl
set_option maxRecDepth 20000 in
theorem gk_f134_32 : gd_fetch 134 32 = some (32, .iload 5, 2, 0, 0, 0, 0, 0) := rfl
set_option maxRecDepth 20000 in
theorem gk_f134_34 : gd_fetch 134 34 = some (34, .iaload, 1, 0, 0, 0, 0, 0) := rfl
set_option maxRecDepth 20000 in
theorem gk_f134_35 : gd_fetch 134 35 = some (35, .invokestatic 111, 3, 829, 125, 2, 0, 0) := rfl
set_option maxRecDepth 20000 in
theorem gk_f134_38 : gd_fetch 134 38 = some (38, .istore_n 3, 1, 0, 0, 0, 0, 0) := rfl
set_option maxRecDepth 20000 in
theorem gk_f134_39 : gd_fetch 134 39 = some (39, .iload 4, 2, 0, 0, 0, 0, 0) := rfl
set_option maxRecDepth 20000 in
theorem gk_f134_41 : gd_fetch 134 41 = some (41, .aload_n 0, 1, 0, 0, 0, 0, 0) := rfl
set_option maxRecDepth 20000 in
theorem gk_f134_42 : gd_fetch 134 42 = some (42, .getfield 15, 3, 402, 4, 1, 4, 1) := rfl
set_option maxRecDepth 20000 in
theorem gk_f134_45 : gd_fetch 134 45 = some (45, .iload 5, 2, 0, 0, 0, 0, 0) := rfl
set_option maxRecDepth 20000 in
theorem gk_f134_47 : gd_fetch 134 47 = some (47, .iaload, 1, 0, 0, 0, 0, 0) := rfl
set_option maxRecDepth 20000 in
theorem gk_f134_48 : gd_fetch 134 48 = some (48, .invokestatic 82, 3, 762, 27, 2, 0, 0) := rfl
set_option maxRecDepth 20000 in
theorem gk_f134_51 : gd_fetch 134 51 = some (51, .istore 4, 2, 0, 0, 0, 0, 0) := rfl
set_option maxRecDepth 20000 in
theorem gk_f134_53 : gd_fetch 134 53 = some (53, .iinc 5 1, 3, 0, 0, 0, 0, 0) := rfl
set_option maxRecDepth 20000 in
theorem gk_f134_56 : gd_fetch 134 56 = some (56, .goto (-45), 3, 0, 0, 0, 0, 0) := rfl
set_option maxRecDepth 20000 in
theorem gk_f134_59 : gd_fetch 134 59 = some (59, .iload_n 1, 1, 0, 0, 0, 0, 0) := rfl
set_option maxRecDepth 20000 in
theorem gk_f134_60 : gd_fetch 134 60 = some (60, .iconst 4, 1, 0, 0, 0, 0, 0) := rfl
set_option maxRecDepth 20000 in
theorem gk_f134_61 : gd_fetch 134 61 = some (61, .if_icmp .lt 17, 3, 0, 0, 0, 0, 0) := rfl
set_option maxRecDepth 20000 in
theorem gk_f134_64 : gd_fetch 134 64 = some (64, .iload_n 2, 1, 0, 0, 0, 0, 0) := rfl
set_option maxRecDepth 20000 in
theorem gk_f134_65 : gd_fetch 134 65 = some (65, .iload_n 3, 1, 0, 0, 0, 0, 0) := rfl
set_option maxRecDepth 20000 in
theorem gk_f134_66 : gd_fetch 134 66 = some (66, .isub, 1, 0, 0, 0, 0, 0) := rfl
set_option maxRecDepth 20000 in
theorem gk_f134_67 : gd_fetch 134 67 = some (67, .iload 4, 2, 0, 0, 0, 0, 0) := rfl
set_option maxRecDepth 20000 in
theorem gk_f134_69 : gd_fetch 134 69 = some (69, .isub, 1, 0, 0, 0, 0, 0) := rfl
set_option maxRecDepth 20000 in
theorem gk_f134_70 : gd_fetch 134 70 = some (70, .bipush 100, 2, 0, 0, 0, 0, 0) := rfl
set_option maxRecDepth 20000 in
theorem gk_f134_72 : gd_fetch 134 72 = some (72, .imul, 1, 0, 0, 0, 0, 0) := rfl
set_option maxRecDepth 20000 in
theorem gk_f134_73 : gd_fetch 134 73 = some (73, .iload_n 1, 1, 0, 0, 0, 0, 0) := rfl
set_option maxRecDepth 20000 in
theorem gk_f134_74 : gd_fetch 134 74 = some (74, .iconst 2, 1, 0, 0, 0, 0, 0) := rfl
set_option maxRecDepth 20000 in
theorem gk_f134_75 : gd_fetch 134 75 = some (75, .isub, 1, 0, 0, 0, 0, 0) := rfl
set_option maxRecDepth 20000 in
theorem gk_f134_76 : gd_fetch 134 76 = some (76, .idiv, 1, 0, 0, 0, 0, 0) := rfl
set_option maxRecDepth 20000 in
theorem gk_f134_77 : gd_fetch 134 77 = some (77, .ireturn, 1, 0, 0, 0, 0, 0) := rfl
set_option maxRecDepth 20000 in
theorem gk_f134_78 : gd_fetch 134 78 = some (78, .iload_n 1, 1, 0, 0, 0, 0, 0) := rfl
set_option maxRecDepth 20000 in
theorem gk_f134_79 : gd_fetch 134 79 = some (79, .ifCond .le 12, 3, 0, 0, 0, 0, 0) := rfl
set_option maxRecDepth 20000 in
theorem gk_f134_82 : gd_fetch 134 82 = some (82, .iload_n 2, 1, 0, 0, 0, 0, 0) := rfl
set_option maxRecDepth 20000 in
theorem gk_f134_83 : gd_fetch 134 83 = some (83, .bipush 100, 2, 0, 0, 0, 0, 0) := rfl
set_option maxRecDepth 20000 in
theorem gk_f134_85 : gd_fetch 134 85 = some (85, .imul, 1, 0, 0, 0, 0, 0) := rfl
set_option maxRecDepth 20000 in
theorem gk_f134_86 : gd_fetch 134 86 = some (86, .iload_n 1, 1, 0, 0, 0, 0, 0) := rfl
set_option maxRecDepth 20000 in
theorem gk_f134_87 : gd_fetch 134 87 = some (87, .idiv, 1, 0, 0, 0, 0, 0) := rfl
set_option maxRecDepth 20000 in
theorem gk_f134_88 : gd_fetch 134 88 = some (88, .goto 4, 3, 0, 0, 0, 0, 0) := rfl
set_option maxRecDepth 20000 in
theorem gk_f134_91 : gd_fetch 134 91 = some (91, .iconst 0, 1, 0, 0, 0, 0, 0) := rfl
set_option maxRecDepth 20000 in
theorem gk_f134_92 : gd_fetch 134 92 = some (92, .ireturn, 1, 0, 0, 0, 0, 0) := rfl
set_option maxRecDepth 20000 in
set_option maxHeartbeats 4000000 in
theorem q_Ro_meanOff (r0 : Nat) (x1 : Int32) (m : gd_M) : gd_call 134 [.ref r0, .int x1] m = gd_Den (134, 11, [.ref r0, .int x1, .int 0, .int 0, .int 100, .int 0], [], m) := by
  refine Eq.trans (show gd_call 134 [.ref r0, .int x1] m = gd_Den (134, 0, [.ref r0, .int x1, .null, .null, .null, .null], [], m) from by unfold gd_call gd_ent; rw [gk_ml134]; rfl) ?_
  refine Eq.trans (D_iconst (x := 0) gk_f134_0 gk_c_0) ?_
  refine Eq.trans (D_istore_n gk_f134_1 gk_st134_2) ?_
  refine Eq.trans (D_iconst (x := 0) gk_f134_2 gk_c_0) ?_
  refine Eq.trans (D_istore_n gk_f134_3 gk_st134_3) ?_
  refine Eq.trans (D_bipush (x := 100) gk_f134_4 gk_b_100) ?_
  refine Eq.trans (D_istore gk_f134_6 gk_st134_4) ?_
  refine Eq.trans (D_iconst (x := 0) gk_f134_8 gk_c_0) ?_
  refine Eq.trans (D_istore gk_f134_9 gk_st134_5) ?_
  rfl
set_option maxRecDepth 20000 in
set_option maxHeartbeats 4000000 in
theorem q_Ro_meanOff_11 (r0 : Nat) (x1 : Int32) (x2 : Int32) (x3 : Int32) (x4 : Int32) (x5 : Int32) (m : gd_M) : gd_Den (134, 11, [.ref r0, .int x1, .int x2, .int x3, .int x4, .int x5], [], m) = if (x5 < x1 : Prop) then (if gd_ok (gN m) r0 4 = true then (if gd_okA (gN m) (gR m r0 1) 10 x5 = true then ((gd_call 125 [.int x3, .int (gI m (gR m r0 1) (x5 : Int32).toNatClampNeg)] m).bind (gd_k0I fun z7 m5 => if gd_ok (gN m5) r0 4 = true then (if gd_okA (gN m5) (gR m5 r0 1) 10 x5 = true then ((gd_call 27 [.int x4, .int (gI m5 (gR m5 r0 1) (x5 : Int32).toNatClampNeg)] m5).bind (gd_k0I fun z12 m10 => gd_Den (134, 11, [.ref r0, .int x1, .int (x2 + (gI m (gR m r0 1) (x5 : Int32).toNatClampNeg)), .int z7, .int z12, .int (x5 + 1)], [], m10))) else none) else none)) else none) else none) else (if (x1 < 4 : Prop) then (if (0 < x1 : Prop) then (if x1 = 0 then none else (some (.int ((x2 * 100) / x1), m))) else (some (.int 0, m))) else (if (x1 - 2) = 0 then none else (some (.int ((((x2 - x3) - x4) * 100) / (x1 - 2)), m)))) := by
  refine Eq.trans (D_iload (x := x5) gk_f134_11 rfl) ?_
  refine Eq.trans (D_iload_n (x := x1) gk_f134_13 rfl) ?_
  refine Eq.trans (D_ic_ge (t := 59) gk_f134_14 (by decide)) ?_
  refine gd_ite (fun h1 => ?_) (fun h2 => ?_)
  · refine Eq.trans (D_iload_n (x := x2) gk_f134_17 rfl) ?_
    refine Eq.trans (D_aload_n (x := r0) gk_f134_18 rfl) ?_
    refine Eq.trans (D_gfR gk_f134_19 (by decide)) ?_
    refine gd_ite (fun h3 => ?_) (fun _ => rfl)
    refine Eq.trans (D_iload (x := x5) gk_f134_22 rfl) ?_
    refine Eq.trans (D_iald gk_f134_24 gk_n10_134) ?_
    refine gd_ite (fun h4 => ?_) (fun _ => rfl)
    refine Eq.trans (D_iadd gk_f134_25) ?_
    refine Eq.trans (D_istore_n gk_f134_26 gk_st134_2) ?_
    refine Eq.trans (D_iload_n (x := x3) gk_f134_27 rfl) ?_
    refine Eq.trans (D_aload_n (x := r0) gk_f134_28 rfl) ?_
    refine Eq.trans (D_gfR gk_f134_29 (by decide)) ?_
    refine Eq.trans (if_pos h3) ?_
    refine Eq.trans (D_iload (x := x5) gk_f134_32 rfl) ?_
    refine Eq.trans (D_iald gk_f134_34 gk_n10_134) ?_
    refine Eq.trans (if_pos h4) ?_
    refine Eq.trans (D_isI (args := [.int x3, .int (gI m (gR m r0 1) (x5 : Int32).toNatClampNeg)]) (rest := []) gk_f134_35 rfl rfl rfl (gd_rmk gk_rm134_125 gk_ln125 gk_ml125 rfl rfl rfl) gk_rk125 (gd_hnd_n gk_nc134)) ?_
    refine gd_bnd (gd_k0I_c fun z7 m5 => ?_)
    refine Eq.trans (D_istore_n gk_f134_38 gk_st134_3) ?_
    refine Eq.trans (D_iload (x := x4) gk_f134_39 rfl) ?_
    refine Eq.trans (D_aload_n (x := r0) gk_f134_41 rfl) ?_
    refine Eq.trans (D_gfR gk_f134_42 (by decide)) ?_
    refine gd_ite (fun h8 => ?_) (fun _ => rfl)
    refine Eq.trans (D_iload (x := x5) gk_f134_45 rfl) ?_
    refine Eq.trans (D_iald gk_f134_47 gk_n10_134) ?_
    refine gd_ite (fun h9 => ?_) (fun _ => rfl)
    refine Eq.trans (D_isI (args := [.int x4, .int (gI m5 (gR m5 r0 1) (x5 : Int32).toNatClampNeg)]) (rest := []) gk_f134_48 rfl rfl rfl (gd_rmk gk_rm134_27 gk_ln27 gk_ml27 rfl rfl rfl) gk_rk27 (gd_hnd_n gk_nc134)) ?_
    refine gd_bnd (gd_k0I_c fun z12 m10 => ?_)
    refine Eq.trans (D_istore gk_f134_51 gk_st134_4) ?_
    refine Eq.trans (D_iinc (x := x5) (y := 1) gk_f134_53 rfl gk_c_1 gk_st134_5) ?_
    refine Eq.trans (D_goto (t := 11) gk_f134_56 (by decide)) ?_
    rfl
  · refine Eq.trans (D_iload_n (x := x1) gk_f134_59 rfl) ?_
    refine Eq.trans (D_iconst (x := 4) gk_f134_60 gk_c_4) ?_
    refine Eq.trans (D_ic_lt (t := 78) gk_f134_61 (by decide)) ?_
    refine gd_ite (fun h13 => ?_) (fun h14 => ?_)
    · refine Eq.trans (D_iload_n (x := x1) gk_f134_78 rfl) ?_
      refine Eq.trans (D_if_le (t := 91) gk_f134_79 (by decide)) ?_
      refine gd_ite (fun h15 => ?_) (fun h16 => ?_)
      · refine Eq.trans (D_iload_n (x := x2) gk_f134_82 rfl) ?_
        refine Eq.trans (D_bipush (x := 100) gk_f134_83 gk_b_100) ?_
        refine Eq.trans (D_imul gk_f134_85) ?_
        refine Eq.trans (D_iload_n (x := x1) gk_f134_86 rfl) ?_
        refine Eq.trans (D_idiv gk_f134_87) ?_
        refine gd_ite (fun _ => rfl) (fun h17 => ?_)
        refine Eq.trans (D_goto (t := 92) gk_f134_88 (by decide)) ?_
        refine Eq.trans (D_ireturn gk_f134_92 gk_rk134) ?_
        rfl
      · refine Eq.trans (D_iconst (x := 0) gk_f134_91 gk_c_0) ?_
        refine Eq.trans (D_ireturn gk_f134_92 gk_rk134) ?_
        rfl
    · refine Eq.trans (D_iload_n (x := x2) gk_f134_64 rfl) ?_
      refine Eq.trans (D_iload_n (x := x3) gk_f134_65 rfl) ?_
      refine Eq.trans (D_isub gk_f134_66) ?_
      refine Eq.trans (D_iload (x := x4) gk_f134_67 rfl) ?_
      refine Eq.trans (D_isub gk_f134_69) ?_
      refine Eq.trans (D_bipush (x := 100) gk_f134_70 gk_b_100) ?_
      refine Eq.trans (D_imul gk_f134_72) ?_
      refine Eq.trans (D_iload_n (x := x1) gk_f134_73 rfl) ?_
      refine Eq.trans (D_iconst (x := 2) gk_f134_74 gk_c_2) ?_
      refine Eq.trans (D_isub gk_f134_75) ?_
      refine Eq.trans (D_idiv gk_f134_76) ?_
      refine gd_ite (fun _ => rfl) (fun h18 => ?_)
      refine Eq.trans (D_ireturn gk_f134_77 gk_rk134) ?_
      rfl
/-! GymDesk$Routine.settleScore (LGymDesk$Code;)V -/
set_option maxRecDepth 20000 in
theorem gk_f135_0 : gd_fetch 135 0 = some (0, .aload_n 0, 1, 0, 0, 0, 0, 0) := rfl
set_option maxRecDepth 20000 in
theorem gk_f135_1 : gd_fetch 135 1 = some (1, .iconst 0, 1, 0, 0, 0, 0, 0) := rfl
set_option maxRecDepth 20000 in
theorem gk_f135_2 : gd_fetch 135 2 = some (2, .bipush 100, 2, 0, 0, 0, 0, 0) := rfl
set_option maxRecDepth 20000 in
theorem gk_f135_4 : gd_fetch 135 4 = some (4, .aload_n 0, 1, 0, 0, 0, 0, 0) := rfl
set_option maxRecDepth 20000 in
theorem gk_f135_5 : gd_fetch 135 5 = some (5, .getfield 89, 3, 417, 4, 9, 0, 0) := rfl
set_option maxRecDepth 20000 in
theorem gk_f135_8 : gd_fetch 135 8 = some (8, .imul, 1, 0, 0, 0, 0, 0) := rfl
set_option maxRecDepth 20000 in
theorem gk_f135_9 : gd_fetch 135 9 = some (9, .sipush 10000, 3, 0, 0, 0, 0, 0) := rfl
set_option maxRecDepth 20000 in
theorem gk_f135_12 : gd_fetch 135 12 = some (12, .iadd, 1, 0, 0, 0, 0, 0) := rfl
set_option maxRecDepth 20000 in
theorem gk_f135_13 : gd_fetch 135 13 = some (13, .aload_n 0, 1, 0, 0, 0, 0, 0) := rfl
set_option maxRecDepth 20000 in
theorem gk_f135_14 : gd_fetch 135 14 = some (14, .getfield 104, 3, 421, 4, 11, 0, 0) := rfl
set_option maxRecDepth 20000 in
theorem gk_f135_17 : gd_fetch 135 17 = some (17, .isub, 1, 0, 0, 0, 0, 0) := rfl
set_option maxRecDepth 20000 in
theorem gk_f135_18 : gd_fetch 135 18 = some (18, .bipush 100, 2, 0, 0, 0, 0, 0) := rfl
set_option maxRecDepth 20000 in
theorem gk_f135_20 : gd_fetch 135 20 = some (20, .aload_n 0, 1, 0, 0, 0, 0, 0) := rfl
set_option maxRecDepth 20000 in
theorem gk_f135_21 : gd_fetch 135 21 = some (21, .aload_n 1, 1, 0, 0, 0, 0, 0) := rfl
set_option maxRecDepth 20000 in
theorem gk_f135_22 : gd_fetch 135 22 = some (22, .invokevirtual 114, 3, 834, 118, 1, 0, 0) := rfl
set_option maxRecDepth 20000 in
theorem gk_f135_25 : gd_fetch 135 25 = some (25, .imul, 1, 0, 0, 0, 0, 0) := rfl
set_option maxRecDepth 20000 in
theorem gk_f135_26 : gd_fetch 135 26 = some (26, .isub, 1, 0, 0, 0, 0, 0) := rfl
set_option maxRecDepth 20000 in
theorem gk_f135_27 : gd_fetch 135 27 = some (27, .invokestatic 111, 3, 829, 125, 2, 0, 0) := rfl
set_option maxRecDepth 20000 in
theorem gk_f135_30 : gd_fetch 135 30 = some (30, .putfield 118, 3, 423, 4, 12, 0, 0) := rfl
set_option maxRecDepth 20000 in
theorem gk_f135_33 : gd_fetch 135 33 = some (33, .return_, 1, 0, 0, 0, 0, 0) := rfl
set_option maxRecDepth 20000 in
set_option maxHeartbeats 4000000 in
theorem q_Ro_settleScore (r0 : Nat) (r1 : Nat) (m : gd_M) : gd_call 135 [.ref r0, .ref r1] m = if gd_ok (gN m) r0 4 = true then ((gd_call 118 [.ref r0, .ref r1] m).bind (gd_kI fun z4 m2 => (gd_call 125 [.int 0, .int ((((100 * (gI m r0 9)) + 10000) - (gI m r0 11)) - (100 * z4))] m2).bind (gd_k0I fun z7 m5 => if gd_ok (gN m5) r0 4 = true then (some (.null, (wI m5 r0 12 z7))) else none))) else none := by
  refine Eq.trans (show gd_call 135 [.ref r0, .ref r1] m = gd_Den (135, 0, [.ref r0, .ref r1], [], m) from by unfold gd_call gd_ent; rw [gk_ml135]; rfl) ?_
  refine Eq.trans (D_aload_n (x := r0) gk_f135_0 rfl) ?_
  refine Eq.trans (D_iconst (x := 0) gk_f135_1 gk_c_0) ?_
  refine Eq.trans (D_bipush (x := 100) gk_f135_2 gk_b_100) ?_
  refine Eq.trans (D_aload_n (x := r0) gk_f135_4 rfl) ?_
  refine Eq.trans (D_gfI gk_f135_5 (by decide) (by decide) (by decide)) ?_
  refine gd_ite (fun h1 => ?_) (fun _ => rfl)
  refine Eq.trans (D_imul gk_f135_8) ?_
  refine Eq.trans (D_sipush (x := 10000) gk_f135_9 gk_s_10000) ?_
  refine Eq.trans (D_iadd gk_f135_12) ?_
  refine Eq.trans (D_aload_n (x := r0) gk_f135_13 rfl) ?_
  refine Eq.trans (D_gfI gk_f135_14 (by decide) (by decide) (by decide)) ?_
  refine Eq.trans (if_pos h1) ?_
  refine Eq.trans (D_isub gk_f135_17) ?_
  refine Eq.trans (D_bipush (x := 100) gk_f135_18 gk_b_100) ?_
  refine Eq.trans (D_aload_n (x := r0) gk_f135_20 rfl) ?_
  refine Eq.trans (D_aload_n (x := r1) gk_f135_21 rfl) ?_
  refine Eq.trans (D_ivI (cl := 4) (args := [.ref r0, .ref r1]) (rest := [.int 100, .int (((100 * (gI m r0 9)) + 10000) - (gI m r0 11)), .int 0, .ref r0]) gk_f135_22 rfl rfl (gd_rmk gk_rm135_118 gk_ln118 gk_ml118 rfl rfl rfl) gk_rk118 (gd_hnd_n gk_nc135) gk_nc118 gk_n11_118 gk_cl118) ?_
  refine Eq.trans (if_pos h1) ?_
  refine gd_bnd (gd_kI_c fun z4 m2 => ?_)
  refine Eq.trans (D_imul gk_f135_25) ?_
  refine Eq.trans (D_isub gk_f135_26) ?_
  refine Eq.trans (D_isI (args := [.int 0, .int ((((100 * (gI m r0 9)) + 10000) - (gI m r0 11)) - (100 * z4))]) (rest := [.ref r0]) gk_f135_27 rfl rfl rfl (gd_rmk gk_rm135_125 gk_ln125 gk_ml125 rfl rfl rfl) gk_rk125 (gd_hnd_n gk_nc135)) ?_
  refine gd_bnd (gd_k0I_c fun z7 m5 => ?_)
  refine Eq.trans (D_pfI gk_f135_30) ?_
  refine gd_ite (fun h8 => ?_) (fun _ => rfl)
  refine Eq.trans (D_vreturn gk_f135_33 gk_rk135) ?_
  rfl
/-! GymDesk$Routine.putPosting (ILGymDesk$Code;)V -/
set_option maxRecDepth 20000 in
theorem gk_f136_0 : gd_fetch 136 0 = some (0, .aload_n 0, 1, 0, 0, 0, 0, 0) := rfl
set_option maxRecDepth 20000 in
theorem gk_f136_1 : gd_fetch 136 1 = some (1, .iconst 1, 1, 0, 0, 0, 0, 0) := rfl
set_option maxRecDepth 20000 in
theorem gk_f136_2 : gd_fetch 136 2 = some (2, .putfield 25, 3, 407, 4, 4, 1, 0) := rfl
set_option maxRecDepth 20000 in
theorem gk_f136_5 : gd_fetch 136 5 = some (5, .aload_n 0, 1, 0, 0, 0, 0, 0) := rfl
set_option maxRecDepth 20000 in
theorem gk_f136_6 : gd_fetch 136 6 = some (6, .iload_n 1, 1, 0, 0, 0, 0, 0) := rfl
set_option maxRecDepth 20000 in
theorem gk_f136_7 : gd_fetch 136 7 = some (7, .putfield 95, 3, 425, 4, 13, 0, 0) := rfl
set_option maxRecDepth 20000 in
theorem gk_f136_10 : gd_fetch 136 10 = some (10, .aload_n 0, 1, 0, 0, 0, 0, 0) := rfl
set_option maxRecDepth 20000 in
theorem gk_f136_11 : gd_fetch 136 11 = some (11, .aload_n 0, 1, 0, 0, 0, 0, 0) := rfl
set_option maxRecDepth 20000 in
theorem gk_f136_12 : gd_fetch 136 12 = some (12, .aload_n 2, 1, 0, 0, 0, 0, 0) := rfl
set_option maxRecDepth 20000 in
theorem gk_f136_13 : gd_fetch 136 13 = some (13, .getfield 98, 3, 351, 1, 11, 4, 1) := rfl
set_option maxRecDepth 20000 in
theorem gk_f136_16 : gd_fetch 136 16 = some (16, .iconst 3, 1, 0, 0, 0, 0, 0) := rfl
set_option maxRecDepth 20000 in
theorem gk_f136_17 : gd_fetch 136 17 = some (17, .iaload, 1, 0, 0, 0, 0, 0) := rfl
set_option maxRecDepth 20000 in
theorem gk_f136_18 : gd_fetch 136 18 = some (18, .invokevirtual 101, 3, 825, 134, 1, 0, 0) := rfl
set_option maxRecDepth 20000 in
theorem gk_f136_21 : gd_fetch 136 21 = some (21, .putfield 104, 3, 421, 4, 11, 0, 0) := rfl
set_option maxRecDepth 20000 in
theorem gk_f136_24 : gd_fetch 136 24 = some (24, .aload_n 0, 1, 0, 0, 0, 0, 0) := rfl
set_option maxRecDepth 20000 in
theorem gk_f136_25 : gd_fetch 136 25 = some (25, .aload_n 2, 1, 0, 0, 0, 0, 0) := rfl
set_option maxRecDepth 20000 in
theorem gk_f136_26 : gd_fetch 136 26 = some (26, .invokevirtual 107, 3, 830, 135, 1, 0, 0) := rfl
set_option maxRecDepth 20000 in
theorem gk_f136_29 : gd_fetch 136 29 = some (29, .return_, 1, 0, 0, 0, 0, 0) := rfl
set_option maxRecDepth 20000 in
set_option maxHeartbeats 4000000 in
theorem q_Ro_putPosting (r0 : Nat) (x1 : Int32) (r2 : Nat) (m : gd_M) : gd_call 136 [.ref r0, .int x1, .ref r2] m = if gd_ok (gN m) r0 4 = true then (if gd_ok (gN m) r2 1 = true then (if gd_okA (gN m) (gR m r2 11) 10 3 = true then ((gd_call 134 [.ref r0, .int (gI (wI (wI m r0 4 1) r0 13 x1) (gR m r2 11) (3 : Int32).toNatClampNeg)] (wI (wI m r0 4 1) r0 13 x1)).bind (gd_kI fun z6 m4 => if gd_ok (gN m4) r0 4 = true then ((gd_call 135 [.ref r0, .ref r2] (wI m4 r0 11 z6)).bind (gd_kV fun m8 => some (.null, m8))) else none)) else none) else none) else none := by
  refine Eq.trans (show gd_call 136 [.ref r0, .int x1, .ref r2] m = gd_Den (136, 0, [.ref r0, .int x1, .ref r2], [], m) from by unfold gd_call gd_ent; rw [gk_ml136]; rfl) ?_
  refine Eq.trans (D_aload_n (x := r0) gk_f136_0 rfl) ?_
  refine Eq.trans (D_iconst (x := 1) gk_f136_1 gk_c_1) ?_
  refine Eq.trans (D_pfZ gk_f136_2) ?_
  refine gd_ite (fun h1 => ?_) (fun _ => rfl)
  refine Eq.trans (if_pos rfl) ?_
  refine Eq.trans (D_aload_n (x := r0) gk_f136_5 rfl) ?_
  refine Eq.trans (D_iload_n (x := x1) gk_f136_6 rfl) ?_
  refine Eq.trans (D_pfI gk_f136_7) ?_
  refine Eq.trans (if_pos h1) ?_
  refine Eq.trans (D_aload_n (x := r0) gk_f136_10 rfl) ?_
  refine Eq.trans (D_aload_n (x := r0) gk_f136_11 rfl) ?_
  refine Eq.trans (D_aload_n (x := r2) gk_f136_12 rfl) ?_
  refine Eq.trans (D_gfR gk_f136_13 (by decide)) ?_
  refine gd_ite (fun h2 => ?_) (fun _ => rfl)
  refine Eq.trans (D_iconst (x := 3) gk_f136_16 gk_c_3) ?_
  refine Eq.trans (D_iald gk_f136_17 gk_n10_136) ?_
  refine gd_ite (fun h3 => ?_) (fun _ => rfl)
  refine Eq.trans (D_ivI (cl := 4) (args := [.ref r0, .int (gI (wI (wI m r0 4 1) r0 13 x1) (gR m r2 11) (3 : Int32).toNatClampNeg)]) (rest := [.ref r0]) gk_f136_18 rfl rfl (gd_rmk gk_rm136_134 gk_ln134 gk_ml134 rfl rfl rfl) gk_rk134 (gd_hnd_n gk_nc136) gk_nc134 gk_n11_134 gk_cl134) ?_
  refine Eq.trans (if_pos h1) ?_
  refine gd_bnd (gd_kI_c fun z6 m4 => ?_)
  refine Eq.trans (D_pfI gk_f136_21) ?_
  refine gd_ite (fun h7 => ?_) (fun _ => rfl)
  refine Eq.trans (D_aload_n (x := r0) gk_f136_24 rfl) ?_
  refine Eq.trans (D_aload_n (x := r2) gk_f136_25 rfl) ?_
  refine Eq.trans (D_ivV (cl := 4) (args := [.ref r0, .ref r2]) (rest := []) gk_f136_26 rfl rfl (gd_rmk gk_rm136_135 gk_ln135 gk_ml135 rfl rfl rfl) gk_rk135 (gd_hnd_n gk_nc136) gk_nc135 gk_n11_135 gk_cl135) ?_
  refine Eq.trans (if_pos h7) ?_
  refine gd_bnd (gd_kV_c fun m8 => ?_)
  refine Eq.trans (D_vreturn gk_f136_29 gk_rk136) ?_
  rfl
/-! GymDesk.post (III)I -/
set_option maxRecDepth 20000 in
theorem gk_f137_0 : gd_fetch 137 0 = some (0, .aload_n 0, 1, 0, 0, 0, 0, 0) := rfl
set_option maxRecDepth 20000 in
theorem gk_f137_1 : gd_fetch 137 1 = some (1, .iload_n 1, 1, 0, 0, 0, 0, 0) := rfl
set_option maxRecDepth 20000 in
theorem gk_f137_2 : gd_fetch 137 2 = some (2, .iload_n 2, 1, 0, 0, 0, 0, 0) := rfl
set_option maxRecDepth 20000 in
theorem gk_f137_3 : gd_fetch 137 3 = some (3, .invokevirtual 124, 3, 685, 93, 2, 0, 0) := rfl
set_option maxRecDepth 20000 in
theorem gk_f137_6 : gd_fetch 137 6 = some (6, .astore 4, 2, 0, 0, 0, 0, 0) := rfl
set_option maxRecDepth 20000 in
theorem gk_f137_8 : gd_fetch 137 8 = some (8, .aload 4, 2, 0, 0, 0, 0, 0) := rfl
set_option maxRecDepth 20000 in
theorem gk_f137_10 : gd_fetch 137 10 = some (10, .ifnull 11, 3, 0, 0, 0, 0, 0) := rfl
set_option maxRecDepth 20000 in
theorem gk_f137_13 : gd_fetch 137 13 = some (13, .iload_n 3, 1, 0, 0, 0, 0, 0) := rfl
set_option maxRecDepth 20000 in
theorem gk_f137_14 : gd_fetch 137 14 = some (14, .aload_n 0, 1, 0, 0, 0, 0, 0) := rfl
set_option maxRecDepth 20000 in
theorem gk_f137_15 : gd_fetch 137 15 = some (15, .getfield 89, 3, 473, 6, 13, 0, 0) := rfl
set_option maxRecDepth 20000 in
theorem gk_f137_18 : gd_fetch 137 18 = some (18, .if_icmp .ge 6, 3, 0, 0, 0, 0, 0) := rfl
set_option maxRecDepth 20000 in
theorem gk_f137_21 : gd_fetch 137 21 = some (21, .bipush (-2), 2, 0, 0, 0, 0, 0) := rfl
set_option maxRecDepth 20000 in
theorem gk_f137_23 : gd_fetch 137 23 = some (23, .ireturn, 1, 0, 0, 0, 0, 0) := rfl
set_option maxRecDepth 20000 in
theorem gk_f137_24 : gd_fetch 137 24 = some (24, .aload 4, 2, 0, 0, 0, 0, 0) := rfl
set_option maxRecDepth 20000 in
theorem gk_f137_26 : gd_fetch 137 26 = some (26, .invokevirtual 138, 3, 705, 100, 0, 0, 0) := rfl
set_option maxRecDepth 20000 in
theorem gk_f137_29 : gd_fetch 137 29 = some (29, .ifCond .eq 28, 3, 0, 0, 0, 0, 0) := rfl
set_option maxRecDepth 20000 in
theorem gk_f137_32 : gd_fetch 137 32 = some (32, .aload 4, 2, 0, 0, 0, 0, 0) := rfl
set_option maxRecDepth 20000 in
theorem gk_f137_34 : gd_fetch 137 34 = some (34, .getfield 158, 3, 414, 4, 7, 0, 0) := rfl
set_option maxRecDepth 20000 in
theorem gk_f137_37 : gd_fetch 137 37 = some (37, .aload_n 0, 1, 0, 0, 0, 0, 0) := rfl
set_option maxRecDepth 20000 in
theorem gk_f137_38 : gd_fetch 137 38 = some (38, .getfield 56, 3, 469, 6, 9, 4, 0) := rfl
set_option maxRecDepth 20000 in
theorem gk_f137_41 : gd_fetch 137 41 = some (41, .getfield 132, 3, 350, 1, 11, 4, 1) := rfl
set_option maxRecDepth 20000 in
theorem gk_f137_44 : gd_fetch 137 44 = some (44, .iconst 3, 1, 0, 0, 0, 0, 0) := rfl
set_option maxRecDepth 20000 in
theorem gk_f137_45 : gd_fetch 137 45 = some (45, .iaload, 1, 0, 0, 0, 0, 0) := rfl
set_option maxRecDepth 20000 in
theorem gk_f137_46 : gd_fetch 137 46 = some (46, .if_icmp .lt 11, 3, 0, 0, 0, 0, 0) := rfl
set_option maxRecDepth 20000 in
theorem gk_f137_49 : gd_fetch 137 49 = some (49, .aload 4, 2, 0, 0, 0, 0, 0) := rfl
set_option maxRecDepth 20000 in
theorem gk_f137_51 : gd_fetch 137 51 = some (51, .getfield 161, 3, 416, 4, 8, 0, 0) := rfl
set_option maxRecDepth 20000 in
theorem gk_f137_54 : gd_fetch 137 54 = some (54, .ifCond .eq 5, 3, 0, 0, 0, 0, 0) := rfl
set_option maxRecDepth 20000 in
theorem gk_f137_57 : gd_fetch 137 57 = some (57, .iconst (-1), 1, 0, 0, 0, 0, 0) := rfl
set_option maxRecDepth 20000 in
theorem gk_f137_58 : gd_fetch 137 58 = some (58, .ireturn, 1, 0, 0, 0, 0, 0) := rfl
set_option maxRecDepth 20000 in
theorem gk_f137_59 : gd_fetch 137 59 = some (59, .aload_n 0, 1, 0, 0, 0, 0, 0) := rfl
set_option maxRecDepth 20000 in
theorem gk_f137_60 : gd_fetch 137 60 = some (60, .aload 4, 2, 0, 0, 0, 0, 0) := rfl
set_option maxRecDepth 20000 in
theorem gk_f137_62 : gd_fetch 137 62 = some (62, .invokevirtual 177, 3, 767, 133, 1, 0, 0) := rfl
set_option maxRecDepth 20000 in
theorem gk_f137_65 : gd_fetch 137 65 = some (65, .aload 4, 2, 0, 0, 0, 0, 0) := rfl
set_option maxRecDepth 20000 in
theorem gk_f137_67 : gd_fetch 137 67 = some (67, .iload_n 3, 1, 0, 0, 0, 0, 0) := rfl
set_option maxRecDepth 20000 in
theorem gk_f137_68 : gd_fetch 137 68 = some (68, .aload_n 0, 1, 0, 0, 0, 0, 0) := rfl
set_option maxRecDepth 20000 in
theorem gk_f137_69 : gd_fetch 137 69 = some (69, .getfield 56, 3, 469, 6, 9, 4, 0) := rfl
set_option maxRecDepth 20000 in
theorem gk_f137_72 : gd_fetch 137 72 = some (72, .invokevirtual 181, 3, 821, 136, 2, 0, 0) := rfl
set_option maxRecDepth 20000 in
theorem gk_f137_75 : gd_fetch 137 75 = some (75, .aload_n 0, 1, 0, 0, 0, 0, 0) := rfl
set_option maxRecDepth 20000 in
theorem gk_f137_76 : gd_fetch 137 76 = some (76, .iload_n 3, 1, 0, 0, 0, 0, 0) := rfl
set_option maxRecDepth 20000 in
theorem gk_f137_77 : gd_fetch 137 77 = some (77, .putfield 89, 3, 473, 6, 13, 0, 0) := rfl
set_option maxRecDepth 20000 in
theorem gk_f137_80 : gd_fetch 137 80 = some (80, .aload_n 0, 1, 0, 0, 0, 0, 0) := rfl
set_option maxRecDepth 20000 in
theorem gk_f137_81 : gd_fetch 137 81 = some (81, .dup, 1, 0, 0, 0, 0, 0) := rfl
set_option maxRecDepth 20000 in
theorem gk_f137_82 : gd_fetch 137 82 = some (82, .getfield 92, 3, 474, 6, 14, 0, 0) := rfl
set_option maxRecDepth 20000 in
theorem gk_f137_85 : gd_fetch 137 85 = some (85, .iconst 1, 1, 0, 0, 0, 0, 0) := rfl
set_option maxRecDepth 20000 in
theorem gk_f137_86 : gd_fetch 137 86 = some (86, .iadd, 1, 0, 0, 0, 0, 0) := rfl
set_option maxRecDepth 20000 in
theorem gk_f137_87 : gd_fetch 137 87 = some (87, .putfield 92, 3, 474, 6, 14, 0, 0) := rfl
set_option maxRecDepth 20000 in
theorem gk_f137_90 : gd_fetch 137 90 = some (90, .aload 4, 2, 0, 0, 0, 0, 0) := rfl
set_option maxRecDepth 20000 in
theorem gk_f137_92 : gd_fetch 137 92 = some (92, .getfield 185, 3, 424, 4, 12, 0, 0) := rfl
set_option maxRecDepth 20000 in
theorem gk_f137_95 : gd_fetch 137 95 = some (95, .ireturn, 1, 0, 0, 0, 0, 0) := rfl
set_option maxRecDepth 20000 in
set_option maxHeartbeats 4000000 in
theorem q_X_post (r0 : Nat) (x1 : Int32) (x2 : Int32) (x3 : Int32) (m : gd_M) : gd_call 137 [.ref r0, .int x1, .int x2, .int x3] m = if gd_ok (gN m) r0 6 = true then ((gd_call 93 [.ref r0, .int x1, .int x2] m).bind (gd_kR fun o4 m2 => if o4 = 0 then (some (.int (-2), m2)) else if 8 ≤ o4 then (if gd_ok (gN m2) r0 6 = true then (if (x3 < (gI m2 r0 13) : Prop) then (some (.int (-2), m2)) else (if gd_ok (gN m2) o4 4 = true then ((gd_call 100 [.ref o4] m2).bind (gd_kI fun z14 m12 => if (z14 = 0 : Prop) then (some (.int (-1), m12)) else (if gd_ok (gN m12) o4 4 = true then (if gd_ok (gN m12) r0 6 = true then (if gd_ok (gN m12) (gR m12 r0 9) 1 = true then (if gd_okA (gN m12) (gR m12 (gR m12 r0 9) 11) 10 3 = true then (if ((gI m12 o4 7) < (gI m12 (gR m12 (gR m12 r0 9) 11) (3 : Int32).toNatClampNeg) : Prop) then (some (.int (-1), m12)) else (if ((gI m12 o4 8) = 0 : Prop) then ((gd_call 133 [.ref r0, .ref o4] m12).bind (gd_kV fun m25 => if gd_ok (gN m25) r0 6 = true then (if gd_ok (gN m25) o4 4 = true then ((gd_call 136 [.ref o4, .int x3, .ref (gR m25 r0 9)] m25).bind (gd_kV fun m29 => if gd_ok (gN m29) r0 6 = true then (if gd_ok (gN m29) o4 4 = true then (some (.int (gI (wI (wI m29 r0 13 x3) r0 14 ((gI (wI m29 r0 13 x3) r0 14) + 1)) o4 12), (wI (wI m29 r0 13 x3) r0 14 ((gI (wI m29 r0 13 x3) r0 14) + 1)))) else none) else none)) else none) else none)) else (some (.int (-1), m12)))) else none) else none) else none) else none))) else none)) else none) else none)) else none := by
  refine Eq.trans (show gd_call 137 [.ref r0, .int x1, .int x2, .int x3] m = gd_Den (137, 0, [.ref r0, .int x1, .int x2, .int x3, .null], [], m) from by unfold gd_call gd_ent; rw [gk_ml137]; rfl) ?_
  refine Eq.trans (D_aload_n (x := r0) gk_f137_0 rfl) ?_
  refine Eq.trans (D_iload_n (x := x1) gk_f137_1 rfl) ?_
  refine Eq.trans (D_iload_n (x := x2) gk_f137_2 rfl) ?_
  refine Eq.trans (D_ivR (cl := 6) (args := [.ref r0, .int x1, .int x2]) (rest := []) gk_f137_3 rfl rfl (gd_rmk gk_rm137_93 gk_ln93 gk_ml93 rfl rfl rfl) gk_rk93 (gd_hnd_n gk_nc137) gk_nc93 gk_n11_93 gk_cl93) ?_
  refine gd_ite (fun h1 => ?_) (fun _ => rfl)
  refine gd_bnd (gd_kR_c fun o4 m2 => ?_)
  refine Eq.trans (D_astore gk_f137_6 gk_st137_4) ?_
  refine Eq.trans (D_aload (x := o4) gk_f137_8 rfl) ?_
  refine Eq.trans (D_ifnull (t := 21) gk_f137_10 (by decide)) ?_
  refine gd_ite (fun h5 => ?_) (fun h6 => gd_ite (fun h7 => ?_) (fun _ => rfl))
  · refine Eq.trans (D_bipush (x := (-2)) gk_f137_21 gk_b_m2) ?_
    refine Eq.trans (D_ireturn gk_f137_23 gk_rk137) ?_
    rfl
  · refine Eq.trans (D_iload_n (x := x3) gk_f137_13 rfl) ?_
    refine Eq.trans (D_aload_n (x := r0) gk_f137_14 rfl) ?_
    refine Eq.trans (D_gfI gk_f137_15 (by decide) (by decide) (by decide)) ?_
    refine gd_ite (fun h8 => ?_) (fun _ => rfl)
    refine Eq.trans (D_ic_ge (t := 24) gk_f137_18 (by decide)) ?_
    refine gd_ite (fun h9 => ?_) (fun h10 => ?_)
    · refine Eq.trans (D_bipush (x := (-2)) gk_f137_21 gk_b_m2) ?_
      refine Eq.trans (D_ireturn gk_f137_23 gk_rk137) ?_
      rfl
    · refine Eq.trans (D_aload (x := o4) gk_f137_24 rfl) ?_
      refine Eq.trans (D_ivZ (cl := 4) (args := [.ref o4]) (rest := []) gk_f137_26 rfl rfl (gd_rmk gk_rm137_100 gk_ln100 gk_ml100 rfl rfl rfl) gk_rk100 (gd_hnd_n gk_nc137) gk_nc100 gk_n11_100 gk_cl100) ?_
      refine gd_ite (fun h11 => ?_) (fun _ => rfl)
      refine gd_bnd (gd_kI_c fun z14 m12 => ?_)
      refine Eq.trans (D_if_eq (t := 57) gk_f137_29 (by decide)) ?_
      refine gd_ite (fun h15 => ?_) (fun h16 => ?_)
      · refine Eq.trans (D_iconst (x := (-1)) gk_f137_57 gk_c_m1) ?_
        refine Eq.trans (D_ireturn gk_f137_58 gk_rk137) ?_
        rfl
      · refine Eq.trans (D_aload (x := o4) gk_f137_32 rfl) ?_
        refine Eq.trans (D_gfI gk_f137_34 (by decide) (by decide) (by decide)) ?_
        refine gd_ite (fun h17 => ?_) (fun _ => rfl)
        refine Eq.trans (D_aload_n (x := r0) gk_f137_37 rfl) ?_
        refine Eq.trans (D_gfR gk_f137_38 (by decide)) ?_
        refine gd_ite (fun h18 => ?_) (fun _ => rfl)
        refine Eq.trans (D_gfR gk_f137_41 (by decide)) ?_
        refine gd_ite (fun h19 => ?_) (fun _ => rfl)
        refine Eq.trans (D_iconst (x := 3) gk_f137_44 gk_c_3) ?_
        refine Eq.trans (D_iald gk_f137_45 gk_n10_137) ?_
        refine gd_ite (fun h20 => ?_) (fun _ => rfl)
        refine Eq.trans (D_ic_lt (t := 57) gk_f137_46 (by decide)) ?_
        refine gd_ite (fun h21 => ?_) (fun h22 => ?_)
        · refine Eq.trans (D_iconst (x := (-1)) gk_f137_57 gk_c_m1) ?_
          refine Eq.trans (D_ireturn gk_f137_58 gk_rk137) ?_
          rfl
        · refine Eq.trans (D_aload (x := o4) gk_f137_49 rfl) ?_
          refine Eq.trans (D_gfI gk_f137_51 (by decide) (by decide) (by decide)) ?_
          refine Eq.trans (if_pos h17) ?_
          refine Eq.trans (D_if_eq (t := 59) gk_f137_54 (by decide)) ?_
          refine gd_ite (fun h23 => ?_) (fun h24 => ?_)
          · refine Eq.trans (D_aload_n (x := r0) gk_f137_59 rfl) ?_
            refine Eq.trans (D_aload (x := o4) gk_f137_60 rfl) ?_
            refine Eq.trans (D_ivV (cl := 6) (args := [.ref r0, .ref o4]) (rest := []) gk_f137_62 rfl rfl (gd_rmk gk_rm137_133 gk_ln133 gk_ml133 rfl rfl rfl) gk_rk133 (gd_hnd_n gk_nc137) gk_nc133 gk_n11_133 gk_cl133) ?_
            refine Eq.trans (if_pos h18) ?_
            refine gd_bnd (gd_kV_c fun m25 => ?_)
            refine Eq.trans (D_aload (x := o4) gk_f137_65 rfl) ?_
            refine Eq.trans (D_iload_n (x := x3) gk_f137_67 rfl) ?_
            refine Eq.trans (D_aload_n (x := r0) gk_f137_68 rfl) ?_
            refine Eq.trans (D_gfR gk_f137_69 (by decide)) ?_
            refine gd_ite (fun h27 => ?_) (fun _ => rfl)
            refine Eq.trans (D_ivV (cl := 4) (args := [.ref o4, .int x3, .ref (gR m25 r0 9)]) (rest := []) gk_f137_72 rfl rfl (gd_rmk gk_rm137_136 gk_ln136 gk_ml136 rfl rfl rfl) gk_rk136 (gd_hnd_n gk_nc137) gk_nc136 gk_n11_136 gk_cl136) ?_
            refine gd_ite (fun h28 => ?_) (fun _ => rfl)
            refine gd_bnd (gd_kV_c fun m29 => ?_)
            refine Eq.trans (D_aload_n (x := r0) gk_f137_75 rfl) ?_
            refine Eq.trans (D_iload_n (x := x3) gk_f137_76 rfl) ?_
            refine Eq.trans (D_pfI gk_f137_77) ?_
            refine gd_ite (fun h31 => ?_) (fun _ => rfl)
            refine Eq.trans (D_aload_n (x := r0) gk_f137_80 rfl) ?_
            refine Eq.trans (D_dupR gk_f137_81) ?_
            refine Eq.trans (D_gfI gk_f137_82 (by decide) (by decide) (by decide)) ?_
            refine Eq.trans (if_pos h31) ?_
            refine Eq.trans (D_iconst (x := 1) gk_f137_85 gk_c_1) ?_
            refine Eq.trans (D_iadd gk_f137_86) ?_
            refine Eq.trans (D_pfI gk_f137_87) ?_
            refine Eq.trans (if_pos h31) ?_
            refine Eq.trans (D_aload (x := o4) gk_f137_90 rfl) ?_
            refine Eq.trans (D_gfI gk_f137_92 (by decide) (by decide) (by decide)) ?_
            refine gd_ite (fun h32 => ?_) (fun _ => rfl)
            refine Eq.trans (D_ireturn gk_f137_95 gk_rk137) ?_
            rfl
          · refine Eq.trans (D_iconst (x := (-1)) gk_f137_57 gk_c_m1) ?_
            refine Eq.trans (D_ireturn gk_f137_58 gk_rk137) ?_
            rfl
/-! GymDeskModel.isRepeat (II)Z -/
set_option maxRecDepth 20000 in
theorem gk_f138_0 : gd_fetch 138 0 = some (0, .aload_n 0, 1, 0, 0, 0, 0, 0) := rfl
set_option maxRecDepth 20000 in
theorem gk_f138_1 : gd_fetch 138 1 = some (1, .getfield 57, 3, 1188, 9, 25, 4, 1) := rfl
set_option maxRecDepth 20000 in
theorem gk_f138_4 : gd_fetch 138 4 = some (4, .bipush 16, 2, 0, 0, 0, 0, 0) := rfl
set_option maxRecDepth 20000 in
theorem gk_f138_6 : gd_fetch 138 6 = some (6, .iload_n 1, 1, 0, 0, 0, 0, 0) := rfl
set_option maxRecDepth 20000 in
theorem gk_f138_7 : gd_fetch 138 7 = some (7, .imul, 1, 0, 0, 0, 0, 0) := rfl
set_option maxRecDepth 20000 in
theorem gk_f138_8 : gd_fetch 138 8 = some (8, .iload_n 2, 1, 0, 0, 0, 0, 0) := rfl
set_option maxRecDepth 20000 in
theorem gk_f138_9 : gd_fetch 138 9 = some (9, .iadd, 1, 0, 0, 0, 0, 0) := rfl
set_option maxRecDepth 20000 in
theorem gk_f138_10 : gd_fetch 138 10 = some (10, .iaload, 1, 0, 0, 0, 0, 0) := rfl
set_option maxRecDepth 20000 in
theorem gk_f138_11 : gd_fetch 138 11 = some (11, .istore_n 3, 1, 0, 0, 0, 0, 0) := rfl
set_option maxRecDepth 20000 in
theorem gk_f138_12 : gd_fetch 138 12 = some (12, .iload_n 3, 1, 0, 0, 0, 0, 0) := rfl
set_option maxRecDepth 20000 in
theorem gk_f138_13 : gd_fetch 138 13 = some (13, .iconst (-1), 1, 0, 0, 0, 0, 0) := rfl
set_option maxRecDepth 20000 in
theorem gk_f138_14 : gd_fetch 138 14 = some (14, .if_icmp .ne 5, 3, 0, 0, 0, 0, 0) := rfl
set_option maxRecDepth 20000 in
theorem gk_f138_17 : gd_fetch 138 17 = some (17, .iconst 0, 1, 0, 0, 0, 0, 0) := rfl
set_option maxRecDepth 20000 in
theorem gk_f138_18 : gd_fetch 138 18 = some (18, .ireturn, 1, 0, 0, 0, 0, 0) := rfl
set_option maxRecDepth 20000 in
theorem gk_f138_19 : gd_fetch 138 19 = some (19, .iconst 0, 1, 0, 0, 0, 0, 0) := rfl
set_option maxRecDepth 20000 in
theorem gk_f138_20 : gd_fetch 138 20 = some (20, .istore 4, 2, 0, 0, 0, 0, 0) := rfl
set_option maxRecDepth 20000 in
theorem gk_f138_22 : gd_fetch 138 22 = some (22, .iconst 0, 1, 0, 0, 0, 0, 0) := rfl
set_option maxRecDepth 20000 in
theorem gk_f138_23 : gd_fetch 138 23 = some (23, .istore 5, 2, 0, 0, 0, 0, 0) := rfl
set_option maxRecDepth 20000 in
theorem gk_f138_25 : gd_fetch 138 25 = some (25, .iload 5, 2, 0, 0, 0, 0, 0) := rfl
set_option maxRecDepth 20000 in
theorem gk_f138_27 : gd_fetch 138 27 = some (27, .iload_n 2, 1, 0, 0, 0, 0, 0) := rfl
set_option maxRecDepth 20000 in
theorem gk_f138_28 : gd_fetch 138 28 = some (28, .if_icmp .gt 71, 3, 0, 0, 0, 0, 0) := rfl
set_option maxRecDepth 20000 in
theorem gk_f138_31 : gd_fetch 138 31 = some (31, .aload_n 0, 1, 0, 0, 0, 0, 0) := rfl
set_option maxRecDepth 20000 in
theorem gk_f138_32 : gd_fetch 138 32 = some (32, .getfield 57, 3, 1188, 9, 25, 4, 1) := rfl
set_option maxRecDepth 20000 in
theorem gk_f138_35 : gd_fetch 138 35 = some (35, .bipush 16, 2, 0, 0, 0, 0, 0) := rfl
set_option maxRecDepth 20000 in
theorem gk_f138_37 : gd_fetch 138 37 = some (37, .iload_n 1, 1, 0, 0, 0, 0, 0) := rfl
set_option maxRecDepth 20000 in
theorem gk_f138_38 : gd_fetch 138 38 = some (38, .imul, 1, 0, 0, 0, 0, 0) := rfl
set_option maxRecDepth 20000 in
theorem gk_f138_39 : gd_fetch 138 39 = some (39, .iload 5, 2, 0, 0, 0, 0, 0) := rfl
set_option maxRecDepth 20000 in
theorem gk_f138_41 : gd_fetch 138 41 = some (41, .iadd, 1, 0, 0, 0, 0, 0) := rfl
set_option maxRecDepth 20000 in
theorem gk_f138_42 : gd_fetch 138 42 = some (42, .iaload, 1, 0, 0, 0, 0, 0) := rfl
set_option maxRecDepth 20000 in
theorem gk_f138_43 : gd_fetch 138 43 = some (43, .istore 6, 2, 0, 0, 0, 0, 0) := rfl
set_option maxRecDepth 20000 in
theorem gk_f138_45 : gd_fetch 138 45 = some (45, .iload 6, 2, 0, 0, 0, 0, 0) := rfl
set_option maxRecDepth 20000 in
theorem gk_f138_47 : gd_fetch 138 47 = some (47, .iconst (-1), 1, 0, 0, 0, 0, 0) := rfl
set_option maxRecDepth 20000 in
theorem gk_f138_48 : gd_fetch 138 48 = some (48, .if_icmp .ne 5, 3, 0, 0, 0, 0, 0) := rfl
set_option maxRecDepth 20000 in
theorem gk_f138_51 : gd_fetch 138 51 = some (51, .iconst 0, 1, 0, 0, 0, 0, 0) := rfl
set_option maxRecDepth 20000 in
theorem gk_f138_52 : gd_fetch 138 52 = some (52, .ireturn, 1, 0, 0, 0, 0, 0) := rfl
set_option maxRecDepth 20000 in
theorem gk_f138_53 : gd_fetch 138 53 = some (53, .iload 4, 2, 0, 0, 0, 0, 0) := rfl
set_option maxRecDepth 20000 in
theorem gk_f138_55 : gd_fetch 138 55 = some (55, .ifCond .ne 31, 3, 0, 0, 0, 0, 0) := rfl
set_option maxRecDepth 20000 in
theorem gk_f138_58 : gd_fetch 138 58 = some (58, .iload 5, 2, 0, 0, 0, 0, 0) := rfl
set_option maxRecDepth 20000 in
theorem gk_f138_60 : gd_fetch 138 60 = some (60, .iload_n 2, 1, 0, 0, 0, 0, 0) := rfl
set_option maxRecDepth 20000 in
theorem gk_f138_61 : gd_fetch 138 61 = some (61, .if_icmp .ge 29, 3, 0, 0, 0, 0, 0) := rfl
set_option maxRecDepth 20000 in
theorem gk_f138_64 : gd_fetch 138 64 = some (64, .aload_n 0, 1, 0, 0, 0, 0, 0) := rfl
set_option maxRecDepth 20000 in
theorem gk_f138_65 : gd_fetch 138 65 = some (65, .getfield 19, 3, 1164, 9, 1, 4, 0) := rfl
set_option maxRecDepth 20000 in
theorem gk_f138_68 : gd_fetch 138 68 = some (68, .getfield 223, 3, 1049, 7, 9, 4, 1) := rfl
set_option maxRecDepth 20000 in
theorem gk_f138_71 : gd_fetch 138 71 = some (71, .iload 6, 2, 0, 0, 0, 0, 0) := rfl
set_option maxRecDepth 20000 in
theorem gk_f138_73 : gd_fetch 138 73 = some (73, .iaload, 1, 0, 0, 0, 0, 0) := rfl
set_option maxRecDepth 20000 in
theorem gk_f138_74 : gd_fetch 138 74 = some (74, .aload_n 0, 1, 0, 0, 0, 0, 0) := rfl
set_option maxRecDepth 20000 in
theorem gk_f138_75 : gd_fetch 138 75 = some (75, .getfield 19, 3, 1164, 9, 1, 4, 0) := rfl
set_option maxRecDepth 20000 in
theorem gk_f138_78 : gd_fetch 138 78 = some (78, .getfield 223, 3, 1049, 7, 9, 4, 1) := rfl
set_option maxRecDepth 20000 in
theorem gk_f138_81 : gd_fetch 138 81 = some (81, .iload_n 3, 1, 0, 0, 0, 0, 0) := rfl
set_option maxRecDepth 20000 in
theorem gk_f138_82 : gd_fetch 138 82 = some (82, .iaload, 1, 0, 0, 0, 0, 0) := rfl
set_option maxRecDepth 20000 in
theorem gk_f138_83 : gd_fetch 138 83 = some (83, .if_icmp .ne 7, 3, 0, 0, 0, 0, 0) := rfl
set_option maxRecDepth 20000 in
theorem gk_f138_86 : gd_fetch 138 86 = some (86, .iconst 1, 1, 0, 0, 0, 0, 0) := rfl
set_option maxRecDepth 20000 in
theorem gk_f138_87 : gd_fetch 138 87 = some (87, .goto 4, 3, 0, 0, 0, 0, 0) := rfl
set_option maxRecDepth 20000 in
theorem gk_f138_90 : gd_fetch 138 90 = some (90, .iconst 0, 1, 0, 0, 0, 0, 0) := rfl
set_option maxRecDepth 20000 in
theorem gk_f138_91 : gd_fetch 138 91 = some (91, .istore 4, 2, 0, 0, 0, 0, 0) := rfl
set_option maxRecDepth 20000 in
theorem gk_f138_93 : gd_fetch 138 93 = some (93, .iinc 5 1, 3, 0, 0, 0, 0, 0) := rfl
set_option maxRecDepth 20000 in
theorem gk_f138_96 : gd_fetch 138 96 = some (96, .goto (-71), 3, 0, 0, 0, 0, 0) := rfl
set_option maxRecDepth 20000 in
theorem gk_f138_99 : gd_fetch 138 99 = some (99, .iload 4, 2, 0, 0, 0, 0, 0) := rfl
set_option maxRecDepth 20000 in
theorem gk_f138_101 : gd_fetch 138 101 = some (101, .ireturn, 1, 0, 0, 0, 0, 0) := rfl
set_option maxRecDepth 20000 in
set_option maxHeartbeats 4000000 in
theorem q_Mo_isRepeat (r0 : Nat) (x1 : Int32) (x2 : Int32) (m : gd_M) : gd_call 138 [.ref r0, .int x1, .int x2] m = if gd_ok (gN m) r0 9 = true then (if gd_okA (gN m) (gR m r0 25) 10 ((16 * x1) + x2) = true then (if ((gI m (gR m r0 25) (((16 * x1) + x2) : Int32).toNatClampNeg) = (-1) : Prop) then (some (.int 0, m)) else (gd_Den (138, 25, [.ref r0, .int x1, .int x2, .int (gI m (gR m r0 25) (((16 * x1) + x2) : Int32).toNatClampNeg), .int 0, .int 0, .null], [], m))) else none) else none := by
  refine Eq.trans (show gd_call 138 [.ref r0, .int x1, .int x2] m = gd_Den (138, 0, [.ref r0, .int x1, .int x2, .null, .null, .null, .null], [], m) from by unfold gd_call gd_ent; rw [gk_ml138]; rfl) ?_
  refine Eq.trans (D_aload_n (x := r0) gk_f138_0 rfl) ?_
  refine Eq.trans (D_gfR gk_f138_1 (by decide)) ?_
  refine gd_ite (fun h1 => ?_) (fun _ => rfl)
  refine Eq.trans (D_bipush (x := 16) gk_f138_4 gk_b_16) ?_
  refine Eq.trans (D_iload_n (x := x1) gk_f138_6 rfl) ?_
  refine Eq.trans (D_imul gk_f138_7) ?_
  refine Eq.trans (D_iload_n (x := x2) gk_f138_8 rfl) ?_
  refine Eq.trans (D_iadd gk_f138_9) ?_
  refine Eq.trans (D_iald gk_f138_10 gk_n10_138) ?_
  refine gd_ite (fun h2 => ?_) (fun _ => rfl)
  refine Eq.trans (D_istore_n gk_f138_11 gk_st138_3) ?_
  refine Eq.trans (D_iload_n (x := (gI m (gR m r0 25) (((16 * x1) + x2) : Int32).toNatClampNeg)) gk_f138_12 rfl) ?_
  refine Eq.trans (D_iconst (x := (-1)) gk_f138_13 gk_c_m1) ?_
  refine Eq.trans (D_ic_ne (t := 19) gk_f138_14 (by decide)) ?_
  refine gd_ite (fun h3 => ?_) (fun h4 => ?_)
  · refine Eq.trans (D_iconst (x := 0) gk_f138_17 gk_c_0) ?_
    refine Eq.trans (D_zreturn gk_f138_18 gk_rk138) ?_
    exact if_pos rfl
  · refine Eq.trans (D_iconst (x := 0) gk_f138_19 gk_c_0) ?_
    refine Eq.trans (D_istore gk_f138_20 gk_st138_4) ?_
    refine Eq.trans (D_iconst (x := 0) gk_f138_22 gk_c_0) ?_
    refine Eq.trans (D_istore gk_f138_23 gk_st138_5) ?_
    rfl
set_option maxRecDepth 20000 in
set_option maxHeartbeats 4000000 in
theorem q_Mo_isRepeat_25 (r0 : Nat) (x1 : Int32) (x2 : Int32) (x3 : Int32) (x4 : Int32) (x5 : Int32) (v6 : Value) (m : gd_M) : gd_Den (138, 25, [.ref r0, .int x1, .int x2, .int x3, .int x4, .int x5, v6], [], m) = if (x2 < x5 : Prop) then (if gd_bo x4 = true then some (.int x4, m) else none) else (if gd_ok (gN m) r0 9 = true then (if gd_okA (gN m) (gR m r0 25) 10 ((16 * x1) + x5) = true then (if ((gI m (gR m r0 25) (((16 * x1) + x5) : Int32).toNatClampNeg) = (-1) : Prop) then (some (.int 0, m)) else (if (x4 = 0 : Prop) then (if (x5 < x2 : Prop) then (if gd_ok (gN m) (gR m r0 1) 7 = true then (if gd_okA (gN m) (gR m (gR m r0 1) 9) 10 (gI m (gR m r0 25) (((16 * x1) + x5) : Int32).toNatClampNeg) = true then (if gd_okA (gN m) (gR m (gR m r0 1) 9) 10 x3 = true then (if ((gI m (gR m (gR m r0 1) 9) ((gI m (gR m r0 25) (((16 * x1) + x5) : Int32).toNatClampNeg) : Int32).toNatClampNeg) = (gI m (gR m (gR m r0 1) 9) (x3 : Int32).toNatClampNeg) : Prop) then (gd_Den (138, 25, [.ref r0, .int x1, .int x2, .int x3, .int 1, .int (x5 + 1), .int (gI m (gR m r0 25) (((16 * x1) + x5) : Int32).toNatClampNeg)], [], m)) else (gd_Den (138, 25, [.ref r0, .int x1, .int x2, .int x3, .int 0, .int (x5 + 1), .int (gI m (gR m r0 25) (((16 * x1) + x5) : Int32).toNatClampNeg)], [], m))) else none) else none) else none) else (gd_Den (138, 25, [.ref r0, .int x1, .int x2, .int x3, .int 0, .int (x5 + 1), .int (gI m (gR m r0 25) (((16 * x1) + x5) : Int32).toNatClampNeg)], [], m))) else (gd_Den (138, 25, [.ref r0, .int x1, .int x2, .int x3, .int 1, .int (x5 + 1), .int (gI m (gR m r0 25) (((16 * x1) + x5) : Int32).toNatClampNeg)], [], m)))) else none) else none) := by
  refine Eq.trans (D_iload (x := x5) gk_f138_25 rfl) ?_
  refine Eq.trans (D_iload_n (x := x2) gk_f138_27 rfl) ?_
  refine Eq.trans (D_ic_gt (t := 99) gk_f138_28 (by decide)) ?_
  refine gd_ite (fun h1 => ?_) (fun h2 => ?_)
  · refine Eq.trans (D_iload (x := x4) gk_f138_99 rfl) ?_
    refine Eq.trans (D_zreturn gk_f138_101 gk_rk138) ?_
    rfl
  · refine Eq.trans (D_aload_n (x := r0) gk_f138_31 rfl) ?_
    refine Eq.trans (D_gfR gk_f138_32 (by decide)) ?_
    refine gd_ite (fun h3 => ?_) (fun _ => rfl)
    refine Eq.trans (D_bipush (x := 16) gk_f138_35 gk_b_16) ?_
    refine Eq.trans (D_iload_n (x := x1) gk_f138_37 rfl) ?_
    refine Eq.trans (D_imul gk_f138_38) ?_
    refine Eq.trans (D_iload (x := x5) gk_f138_39 rfl) ?_
    refine Eq.trans (D_iadd gk_f138_41) ?_
    refine Eq.trans (D_iald gk_f138_42 gk_n10_138) ?_
    refine gd_ite (fun h4 => ?_) (fun _ => rfl)
    refine Eq.trans (D_istore gk_f138_43 gk_st138_6) ?_
    refine Eq.trans (D_iload (x := (gI m (gR m r0 25) (((16 * x1) + x5) : Int32).toNatClampNeg)) gk_f138_45 rfl) ?_
    refine Eq.trans (D_iconst (x := (-1)) gk_f138_47 gk_c_m1) ?_
    refine Eq.trans (D_ic_ne (t := 53) gk_f138_48 (by decide)) ?_
    refine gd_ite (fun h5 => ?_) (fun h6 => ?_)
    · refine Eq.trans (D_iconst (x := 0) gk_f138_51 gk_c_0) ?_
      refine Eq.trans (D_zreturn gk_f138_52 gk_rk138) ?_
      exact if_pos rfl
    · refine Eq.trans (D_iload (x := x4) gk_f138_53 rfl) ?_
      refine Eq.trans (D_if_ne (t := 86) gk_f138_55 (by decide)) ?_
      refine gd_ite (fun h7 => ?_) (fun h8 => ?_)
      · refine Eq.trans (D_iload (x := x5) gk_f138_58 rfl) ?_
        refine Eq.trans (D_iload_n (x := x2) gk_f138_60 rfl) ?_
        refine Eq.trans (D_ic_ge (t := 90) gk_f138_61 (by decide)) ?_
        refine gd_ite (fun h9 => ?_) (fun h10 => ?_)
        · refine Eq.trans (D_aload_n (x := r0) gk_f138_64 rfl) ?_
          refine Eq.trans (D_gfR gk_f138_65 (by decide)) ?_
          refine Eq.trans (if_pos h3) ?_
          refine Eq.trans (D_gfR gk_f138_68 (by decide)) ?_
          refine gd_ite (fun h11 => ?_) (fun _ => rfl)
          refine Eq.trans (D_iload (x := (gI m (gR m r0 25) (((16 * x1) + x5) : Int32).toNatClampNeg)) gk_f138_71 rfl) ?_
          refine Eq.trans (D_iald gk_f138_73 gk_n10_138) ?_
          refine gd_ite (fun h12 => ?_) (fun _ => rfl)
          refine Eq.trans (D_aload_n (x := r0) gk_f138_74 rfl) ?_
          refine Eq.trans (D_gfR gk_f138_75 (by decide)) ?_
          refine Eq.trans (if_pos h3) ?_
          refine Eq.trans (D_gfR gk_f138_78 (by decide)) ?_
          refine Eq.trans (if_pos h11) ?_
          refine Eq.trans (D_iload_n (x := x3) gk_f138_81 rfl) ?_
          refine Eq.trans (D_iald gk_f138_82 gk_n10_138) ?_
          refine gd_ite (fun h13 => ?_) (fun _ => rfl)
          refine Eq.trans (D_ic_ne (t := 90) gk_f138_83 (by decide)) ?_
          refine gd_ite (fun h14 => ?_) (fun h15 => ?_)
          · refine Eq.trans (D_iconst (x := 1) gk_f138_86 gk_c_1) ?_
            refine Eq.trans (D_goto (t := 91) gk_f138_87 (by decide)) ?_
            refine Eq.trans (D_istore gk_f138_91 gk_st138_4) ?_
            refine Eq.trans (D_iinc (x := x5) (y := 1) gk_f138_93 rfl gk_c_1 gk_st138_5) ?_
            refine Eq.trans (D_goto (t := 25) gk_f138_96 (by decide)) ?_
            rfl
          · refine Eq.trans (D_iconst (x := 0) gk_f138_90 gk_c_0) ?_
            refine Eq.trans (D_istore gk_f138_91 gk_st138_4) ?_
            refine Eq.trans (D_iinc (x := x5) (y := 1) gk_f138_93 rfl gk_c_1 gk_st138_5) ?_
            refine Eq.trans (D_goto (t := 25) gk_f138_96 (by decide)) ?_
            rfl
        · refine Eq.trans (D_iconst (x := 0) gk_f138_90 gk_c_0) ?_
          refine Eq.trans (D_istore gk_f138_91 gk_st138_4) ?_
          refine Eq.trans (D_iinc (x := x5) (y := 1) gk_f138_93 rfl gk_c_1 gk_st138_5) ?_
          refine Eq.trans (D_goto (t := 25) gk_f138_96 (by decide)) ?_
          rfl
      · refine Eq.trans (D_iconst (x := 1) gk_f138_86 gk_c_1) ?_
        refine Eq.trans (D_goto (t := 91) gk_f138_87 (by decide)) ?_
        refine Eq.trans (D_istore gk_f138_91 gk_st138_4) ?_
        refine Eq.trans (D_iinc (x := x5) (y := 1) gk_f138_93 rfl gk_c_1 gk_st138_5) ?_
        refine Eq.trans (D_goto (t := 25) gk_f138_96 (by decide)) ?_
        rfl
/-! GymDeskModel.isLawful (II)Z -/
set_option maxRecDepth 20000 in
theorem gk_f139_0 : gd_fetch 139 0 = some (0, .iconst 0, 1, 0, 0, 0, 0, 0) := rfl
set_option maxRecDepth 20000 in
theorem gk_f139_1 : gd_fetch 139 1 = some (1, .istore_n 3, 1, 0, 0, 0, 0, 0) := rfl
set_option maxRecDepth 20000 in
theorem gk_f139_2 : gd_fetch 139 2 = some (2, .iconst 0, 1, 0, 0, 0, 0, 0) := rfl
set_option maxRecDepth 20000 in
theorem gk_f139_3 : gd_fetch 139 3 = some (3, .istore 4, 2, 0, 0, 0, 0, 0) := rfl
set_option maxRecDepth 20000 in
theorem gk_f139_5 : gd_fetch 139 5 = some (5, .iload 4, 2, 0, 0, 0, 0, 0) := rfl
set_option maxRecDepth 20000 in
theorem gk_f139_7 : gd_fetch 139 7 = some (7, .iconst 5, 1, 0, 0, 0, 0, 0) := rfl
set_option maxRecDepth 20000 in
theorem gk_f139_8 : gd_fetch 139 8 = some (8, .if_icmp .ge 17, 3, 0, 0, 0, 0, 0) := rfl
set_option maxRecDepth 20000 in
theorem gk_f139_11 : gd_fetch 139 11 = some (11, .aload_n 0, 1, 0, 0, 0, 0, 0) := rfl
set_option maxRecDepth 20000 in
theorem gk_f139_12 : gd_fetch 139 12 = some (12, .getfield 87, 3, 1198, 9, 35, 4, 1) := rfl
set_option maxRecDepth 20000 in
theorem gk_f139_15 : gd_fetch 139 15 = some (15, .iload 4, 2, 0, 0, 0, 0, 0) := rfl
set_option maxRecDepth 20000 in
theorem gk_f139_17 : gd_fetch 139 17 = some (17, .iconst 0, 1, 0, 0, 0, 0, 0) := rfl
set_option maxRecDepth 20000 in
theorem gk_f139_18 : gd_fetch 139 18 = some (18, .iastore, 1, 0, 0, 0, 0, 0) := rfl
set_option maxRecDepth 20000 in
theorem gk_f139_19 : gd_fetch 139 19 = some (19, .iinc 4 1, 3, 0, 0, 0, 0, 0) := rfl
set_option maxRecDepth 20000 in
theorem gk_f139_22 : gd_fetch 139 22 = some (22, .goto (-17), 3, 0, 0, 0, 0, 0) := rfl
set_option maxRecDepth 20000 in
theorem gk_f139_25 : gd_fetch 139 25 = some (25, .iconst 0, 1, 0, 0, 0, 0, 0) := rfl
set_option maxRecDepth 20000 in
theorem gk_f139_26 : gd_fetch 139 26 = some (26, .istore 4, 2, 0, 0, 0, 0, 0) := rfl
set_option maxRecDepth 20000 in
theorem gk_f139_28 : gd_fetch 139 28 = some (28, .iload 4, 2, 0, 0, 0, 0, 0) := rfl
set_option maxRecDepth 20000 in
theorem gk_f139_30 : gd_fetch 139 30 = some (30, .aload_n 0, 1, 0, 0, 0, 0, 0) := rfl
set_option maxRecDepth 20000 in
theorem gk_f139_31 : gd_fetch 139 31 = some (31, .getfield 54, 3, 1187, 9, 24, 4, 1) := rfl
set_option maxRecDepth 20000 in
theorem gk_f139_34 : gd_fetch 139 34 = some (34, .iload_n 1, 1, 0, 0, 0, 0, 0) := rfl
set_option maxRecDepth 20000 in
theorem gk_f139_35 : gd_fetch 139 35 = some (35, .iaload, 1, 0, 0, 0, 0, 0) := rfl
set_option maxRecDepth 20000 in
theorem gk_f139_36 : gd_fetch 139 36 = some (36, .if_icmp .ge 53, 3, 0, 0, 0, 0, 0) := rfl
set_option maxRecDepth 20000 in
theorem gk_f139_39 : gd_fetch 139 39 = some (39, .iload_n 2, 1, 0, 0, 0, 0, 0) := rfl
set_option maxRecDepth 20000 in
theorem gk_f139_40 : gd_fetch 139 40 = some (40, .iload 4, 2, 0, 0, 0, 0, 0) := rfl
set_option maxRecDepth 20000 in
theorem gk_f139_42 : gd_fetch 139 42 = some (42, .ishr, 1, 0, 0, 0, 0, 0) := rfl
set_option maxRecDepth 20000 in
theorem gk_f139_43 : gd_fetch 139 43 = some (43, .iconst 1, 1, 0, 0, 0, 0, 0) := rfl
set_option maxRecDepth 20000 in
theorem gk_f139_44 : gd_fetch 139 44 = some (44, .iand, 1, 0, 0, 0, 0, 0) := rfl
set_option maxRecDepth 20000 in
theorem gk_f139_45 : gd_fetch 139 45 = some (45, .ifCond .ne 6, 3, 0, 0, 0, 0, 0) := rfl
set_option maxRecDepth 20000 in
theorem gk_f139_48 : gd_fetch 139 48 = some (48, .goto 35, 3, 0, 0, 0, 0, 0) := rfl
set_option maxRecDepth 20000 in
theorem gk_f139_51 : gd_fetch 139 51 = some (51, .iinc 3 1, 3, 0, 0, 0, 0, 0) := rfl
set_option maxRecDepth 20000 in
theorem gk_f139_54 : gd_fetch 139 54 = some (54, .aload_n 0, 1, 0, 0, 0, 0, 0) := rfl
set_option maxRecDepth 20000 in
theorem gk_f139_55 : gd_fetch 139 55 = some (55, .getfield 87, 3, 1198, 9, 35, 4, 1) := rfl
set_option maxRecDepth 20000 in
theorem gk_f139_58 : gd_fetch 139 58 = some (58, .aload_n 0, 1, 0, 0, 0, 0, 0) := rfl
set_option maxRecDepth 20000 in
theorem gk_f139_59 : gd_fetch 139 59 = some (59, .getfield 19, 3, 1164, 9, 1, 4, 0) := rfl
set_option maxRecDepth 20000 in
theorem gk_f139_62 : gd_fetch 139 62 = some (62, .getfield 220, 3, 1047, 7, 8, 4, 1) := rfl
set_option maxRecDepth 20000 in
theorem gk_f139_65 : gd_fetch 139 65 = some (65, .aload_n 0, 1, 0, 0, 0, 0, 0) := rfl
set_option maxRecDepth 20000 in
theorem gk_f139_66 : gd_fetch 139 66 = some (66, .getfield 57, 3, 1188, 9, 25, 4, 1) := rfl
set_option maxRecDepth 20000 in
theorem gk_f139_69 : gd_fetch 139 69 = some (69, .bipush 16, 2, 0, 0, 0, 0, 0) := rfl
set_option maxRecDepth 20000 in
theorem gk_f139_71 : gd_fetch 139 71 = some (71, .iload_n 1, 1, 0, 0, 0, 0, 0) := rfl
set_option maxRecDepth 20000 in
theorem gk_f139_72 : gd_fetch 139 72 = some (72, .imul, 1, 0, 0, 0, 0, 0) := rfl
set_option maxRecDepth 20000 in
theorem gk_f139_73 : gd_fetch 139 73 = some (73, .iload 4, 2, 0, 0, 0, 0, 0) := rfl
set_option maxRecDepth 20000 in
theorem gk_f139_75 : gd_fetch 139 75 = some (75, .iadd, 1, 0, 0, 0, 0, 0) := rfl
set_option maxRecDepth 20000 in
theorem gk_f139_76 : gd_fetch 139 76 = some (76, .iaload, 1, 0, 0, 0, 0, 0) := rfl
set_option maxRecDepth 20000 in
theorem gk_f139_77 : gd_fetch 139 77 = some (77, .iaload, 1, 0, 0, 0, 0, 0) := rfl
set_option maxRecDepth 20000 in
theorem gk_f139_78 : gd_fetch 139 78 = some (78, .dup2, 1, 0, 0, 0, 0, 0) := rfl
set_option maxRecDepth 20000 in
theorem gk_f139_79 : gd_fetch 139 79 = some (79, .iaload, 1, 0, 0, 0, 0, 0) := rfl
set_option maxRecDepth 20000 in
theorem gk_f139_80 : gd_fetch 139 80 = some (80, .iconst 1, 1, 0, 0, 0, 0, 0) := rfl
set_option maxRecDepth 20000 in
theorem gk_f139_81 : gd_fetch 139 81 = some (81, .iadd, 1, 0, 0, 0, 0, 0) := rfl
set_option maxRecDepth 20000 in
theorem gk_f139_82 : gd_fetch 139 82 = some (82, .iastore, 1, 0, 0, 0, 0, 0) := rfl
set_option maxRecDepth 20000 in
theorem gk_f139_83 : gd_fetch 139 83 = some (83, .iinc 4 1, 3, 0, 0, 0, 0, 0) := rfl
set_option maxRecDepth 20000 in
theorem gk_f139_86 : gd_fetch 139 86 = some (86, .goto (-58), 3, 0, 0, 0, 0, 0) := rfl
set_option maxRecDepth 20000 in
theorem gk_f139_89 : gd_fetch 139 89 = some (89, .iload_n 3, 1, 0, 0, 0, 0, 0) := rfl
set_option maxRecDepth 20000 in
theorem gk_f139_90 : gd_fetch 139 90 = some (90, .aload_n 0, 1, 0, 0, 0, 0, 0) := rfl
set_option maxRecDepth 20000 in
theorem gk_f139_91 : gd_fetch 139 91 = some (91, .getfield 19, 3, 1164, 9, 1, 4, 0) := rfl
set_option maxRecDepth 20000 in
theorem gk_f139_94 : gd_fetch 139 94 = some (94, .getfield 285, 3, 1067, 7, 18, 0, 0) := rfl
set_option maxRecDepth 20000 in
theorem gk_f139_97 : gd_fetch 139 97 = some (97, .if_icmp .gt 7, 3, 0, 0, 0, 0, 0) := rfl
set_option maxRecDepth 20000 in
theorem gk_f139_100 : gd_fetch 139 100 = some (100, .iconst 1, 1, 0, 0, 0, 0, 0) := rfl
set_option maxRecDepth 20000 in
theorem gk_f139_101 : gd_fetch 139 101 = some (101, .goto 4, 3, 0, 0, 0, 0, 0) := rfl
set_option maxRecDepth 20000 in
theorem gk_f139_104 : gd_fetch 139 104 = some (104, .iconst 0, 1, 0, 0, 0, 0, 0) := rfl
set_option maxRecDepth 20000 in
theorem gk_f139_105 : gd_fetch 139 105 = some (105, .istore 4, 2, 0, 0, 0, 0, 0) := rfl
set_option maxRecDepth 20000 in
theorem gk_f139_107 : gd_fetch 139 107 = some (107, .iconst 0, 1, 0, 0, 0, 0, 0) := rfl
set_option maxRecDepth 20000 in
theorem gk_f139_108 : gd_fetch 139 108 = some (108, .istore 5, 2, 0, 0, 0, 0, 0) := rfl
set_option maxRecDepth 20000 in
theorem gk_f139_110 : gd_fetch 139 110 = some (110, .iload 5, 2, 0, 0, 0, 0, 0) := rfl
set_option maxRecDepth 20000 in
theorem gk_f139_112 : gd_fetch 139 112 = some (112, .iconst 5, 1, 0, 0, 0, 0, 0) := rfl
set_option maxRecDepth 20000 in
theorem gk_f139_113 : gd_fetch 139 113 = some (113, .if_icmp .ge 55, 3, 0, 0, 0, 0, 0) := rfl
set_option maxRecDepth 20000 in
theorem gk_f139_116 : gd_fetch 139 116 = some (116, .iload 4, 2, 0, 0, 0, 0, 0) := rfl
set_option maxRecDepth 20000 in
theorem gk_f139_118 : gd_fetch 139 118 = some (118, .ifCond .eq 41, 3, 0, 0, 0, 0, 0) := rfl
set_option maxRecDepth 20000 in
theorem gk_f139_121 : gd_fetch 139 121 = some (121, .aload_n 0, 1, 0, 0, 0, 0, 0) := rfl
set_option maxRecDepth 20000 in
theorem gk_f139_122 : gd_fetch 139 122 = some (122, .getfield 19, 3, 1164, 9, 1, 4, 0) := rfl
set_option maxRecDepth 20000 in
theorem gk_f139_125 : gd_fetch 139 125 = some (125, .getfield 274, 3, 1065, 7, 17, 4, 1) := rfl
set_option maxRecDepth 20000 in
theorem gk_f139_128 : gd_fetch 139 128 = some (128, .iload 5, 2, 0, 0, 0, 0, 0) := rfl
set_option maxRecDepth 20000 in
theorem gk_f139_130 : gd_fetch 139 130 = some (130, .iaload, 1, 0, 0, 0, 0, 0) := rfl
set_option maxRecDepth 20000 in
theorem gk_f139_131 : gd_fetch 139 131 = some (131, .iconst (-1), 1, 0, 0, 0, 0, 0) := rfl
set_option maxRecDepth 20000 in
theorem gk_f139_132 : gd_fetch 139 132 = some (132, .if_icmp .eq 23, 3, 0, 0, 0, 0, 0) := rfl
set_option maxRecDepth 20000 in
theorem gk_f139_135 : gd_fetch 139 135 = some (135, .aload_n 0, 1, 0, 0, 0, 0, 0) := rfl
set_option maxRecDepth 20000 in
theorem gk_f139_136 : gd_fetch 139 136 = some (136, .getfield 87, 3, 1198, 9, 35, 4, 1) := rfl
set_option maxRecDepth 20000 in
theorem gk_f139_139 : gd_fetch 139 139 = some (139, .iload 5, 2, 0, 0, 0, 0, 0) := rfl
set_option maxRecDepth 20000 in
theorem gk_f139_141 : gd_fetch 139 141 = some (141, .iaload, 1, 0, 0, 0, 0, 0) := rfl
set_option maxRecDepth 20000 in
theorem gk_f139_142 : gd_fetch 139 142 = some (142, .aload_n 0, 1, 0, 0, 0, 0, 0) := rfl
set_option maxRecDepth 20000 in
theorem gk_f139_143 : gd_fetch 139 143 = some (143, .getfield 19, 3, 1164, 9, 1, 4, 0) := rfl
set_option maxRecDepth 20000 in
theorem gk_f139_146 : gd_fetch 139 146 = some (146, .getfield 274, 3, 1065, 7, 17, 4, 1) := rfl
set_option maxRecDepth 20000 in
theorem gk_f139_149 : gd_fetch 139 149 = some (149, .iload 5, 2, 0, 0, 0, 0, 0) := rfl
set_option maxRecDepth 20000 in
theorem gk_f139_151 : gd_fetch 139 151 = some (151, .iaload, 1, 0, 0, 0, 0, 0) := rfl
set_option maxRecDepth 20000 in
theorem gk_f139_152 : gd_fetch 139 152 = some (152, .if_icmp .gt 7, 3, 0, 0, 0, 0, 0) := rfl
set_option maxRecDepth 20000 in
theorem gk_f139_155 : gd_fetch 139 155 = some (155, .iconst 1, 1, 0, 0, 0, 0, 0) := rfl
set_option maxRecDepth 20000 in
theorem gk_f139_156 : gd_fetch 139 156 = some (156, .goto 4, 3, 0, 0, 0, 0, 0) := rfl
set_option maxRecDepth 20000 in
theorem gk_f139_159 : gd_fetch 139 159 = some (159, .iconst 0, 1, 0, 0, 0, 0, 0) := rfl
set_option maxRecDepth 20000 in
theorem gk_f139_160 : gd_fetch 139 160 = some (160, .istore 4, 2, 0, 0, 0, 0, 0) := rfl
set_option maxRecDepth 20000 in
theorem gk_f139_162 : gd_fetch 139 162 = some (162, .iinc 5 1, 3, 0, 0, 0, 0, 0) := rfl
set_option maxRecDepth 20000 in
theorem gk_f139_165 : gd_fetch 139 165 = some (165, .goto (-55), 3, 0, 0, 0, 0, 0) := rfl
set_option maxRecDepth 20000 in
theorem gk_f139_168 : gd_fetch 139 168 = some (168, .iload 4, 2, 0, 0, 0, 0, 0) := rfl
set_option maxRecDepth 20000 in
theorem gk_f139_170 : gd_fetch 139 170 = some (170, .ireturn, 1, 0, 0, 0, 0, 0) := rfl
set_option maxRecDepth 20000 in
set_option maxHeartbeats 4000000 in
theorem q_Mo_isLawful (r0 : Nat) (x1 : Int32) (x2 : Int32) (m : gd_M) : gd_call 139 [.ref r0, .int x1, .int x2] m = gd_Den (139, 5, [.ref r0, .int x1, .int x2, .int 0, .int 0, .null], [], m) := by
  refine Eq.trans (show gd_call 139 [.ref r0, .int x1, .int x2] m = gd_Den (139, 0, [.ref r0, .int x1, .int x2, .null, .null, .null], [], m) from by unfold gd_call gd_ent; rw [gk_ml139]; rfl) ?_
  refine Eq.trans (D_iconst (x := 0) gk_f139_0 gk_c_0) ?_
  refine Eq.trans (D_istore_n gk_f139_1 gk_st139_3) ?_
  refine Eq.trans (D_iconst (x := 0) gk_f139_2 gk_c_0) ?_
  refine Eq.trans (D_istore gk_f139_3 gk_st139_4) ?_
  rfl
set_option maxRecDepth 20000 in
set_option maxHeartbeats 4000000 in
theorem q_Mo_isLawful_5 (r0 : Nat) (x1 : Int32) (x2 : Int32) (x3 : Int32) (x4 : Int32) (m : gd_M) : gd_Den (139, 5, [.ref r0, .int x1, .int x2, .int x3, .int x4, .null], [], m) = if (x4 < 5 : Prop) then (if gd_ok (gN m) r0 9 = true then (if gd_okA (gN m) (gR m r0 35) 10 x4 = true then (gd_Den (139, 5, [.ref r0, .int x1, .int x2, .int x3, .int (x4 + 1), .null], [], (wI m (gR m r0 35) (x4 : Int32).toNatClampNeg 0))) else none) else none) else (gd_Den (139, 28, [.ref r0, .int x1, .int x2, .int x3, .int 0, .null], [], m)) := by
  refine Eq.trans (D_iload (x := x4) gk_f139_5 rfl) ?_
  refine Eq.trans (D_iconst (x := 5) gk_f139_7 gk_c_5) ?_
  refine Eq.trans (D_ic_ge (t := 25) gk_f139_8 (by decide)) ?_
  refine gd_ite (fun h1 => ?_) (fun h2 => ?_)
  · refine Eq.trans (D_aload_n (x := r0) gk_f139_11 rfl) ?_
    refine Eq.trans (D_gfR gk_f139_12 (by decide)) ?_
    refine gd_ite (fun h3 => ?_) (fun _ => rfl)
    refine Eq.trans (D_iload (x := x4) gk_f139_15 rfl) ?_
    refine Eq.trans (D_iconst (x := 0) gk_f139_17 gk_c_0) ?_
    refine Eq.trans (D_iast gk_f139_18) ?_
    refine gd_ite (fun h4 => ?_) (fun _ => rfl)
    refine Eq.trans (D_iinc (x := x4) (y := 1) gk_f139_19 rfl gk_c_1 gk_st139_4) ?_
    refine Eq.trans (D_goto (t := 5) gk_f139_22 (by decide)) ?_
    rfl
  · refine Eq.trans (D_iconst (x := 0) gk_f139_25 gk_c_0) ?_
    refine Eq.trans (D_istore gk_f139_26 gk_st139_4) ?_
    rfl
set_option maxRecDepth 20000 in
set_option maxHeartbeats 4000000 in
theorem q_Mo_isLawful_28 (r0 : Nat) (x1 : Int32) (x2 : Int32) (x3 : Int32) (x4 : Int32) (m : gd_M) : gd_Den (139, 28, [.ref r0, .int x1, .int x2, .int x3, .int x4, .null], [], m) = if gd_ok (gN m) r0 9 = true then (if gd_okA (gN m) (gR m r0 24) 10 x1 = true then (if (x4 < (gI m (gR m r0 24) (x1 : Int32).toNatClampNeg) : Prop) then (if ((((x2 : Int32) >>> (x4 &&& 31)) &&& 1) = 0 : Prop) then (gd_Den (139, 28, [.ref r0, .int x1, .int x2, .int x3, .int (x4 + 1), .null], [], m)) else (if gd_ok (gN m) (gR m r0 1) 7 = true then (if gd_okA (gN m) (gR m r0 25) 10 ((16 * x1) + x4) = true then (if gd_okA (gN m) (gR m (gR m r0 1) 8) 10 (gI m (gR m r0 25) (((16 * x1) + x4) : Int32).toNatClampNeg) = true then (if gd_okA (gN m) (gR m r0 35) 10 (gI m (gR m (gR m r0 1) 8) ((gI m (gR m r0 25) (((16 * x1) + x4) : Int32).toNatClampNeg) : Int32).toNatClampNeg) = true then (gd_Den (139, 28, [.ref r0, .int x1, .int x2, .int (x3 + 1), .int (x4 + 1), .null], [], (wI m (gR m r0 35) ((gI m (gR m (gR m r0 1) 8) ((gI m (gR m r0 25) (((16 * x1) + x4) : Int32).toNatClampNeg) : Int32).toNatClampNeg) : Int32).toNatClampNeg ((gI m (gR m r0 35) ((gI m (gR m (gR m r0 1) 8) ((gI m (gR m r0 25) (((16 * x1) + x4) : Int32).toNatClampNeg) : Int32).toNatClampNeg) : Int32).toNatClampNeg) + 1)))) else none) else none) else none) else none)) else (if gd_ok (gN m) (gR m r0 1) 7 = true then (if ((gI m (gR m r0 1) 18) < x3 : Prop) then (gd_Den (139, 110, [.ref r0, .int x1, .int x2, .int x3, .int 0, .int 0], [], m)) else (gd_Den (139, 110, [.ref r0, .int x1, .int x2, .int x3, .int 1, .int 0], [], m))) else none)) else none) else none := by
  refine Eq.trans (D_iload (x := x4) gk_f139_28 rfl) ?_
  refine Eq.trans (D_aload_n (x := r0) gk_f139_30 rfl) ?_
  refine Eq.trans (D_gfR gk_f139_31 (by decide)) ?_
  refine gd_ite (fun h1 => ?_) (fun _ => rfl)
  refine Eq.trans (D_iload_n (x := x1) gk_f139_34 rfl) ?_
  refine Eq.trans (D_iald gk_f139_35 gk_n10_139) ?_
  refine gd_ite (fun h2 => ?_) (fun _ => rfl)
  refine Eq.trans (D_ic_ge (t := 89) gk_f139_36 (by decide)) ?_
  refine gd_ite (fun h3 => ?_) (fun h4 => ?_)
  · refine Eq.trans (D_iload_n (x := x2) gk_f139_39 rfl) ?_
    refine Eq.trans (D_iload (x := x4) gk_f139_40 rfl) ?_
    refine Eq.trans (D_ishr gk_f139_42) ?_
    refine Eq.trans (D_iconst (x := 1) gk_f139_43 gk_c_1) ?_
    refine Eq.trans (D_iand gk_f139_44) ?_
    refine Eq.trans (D_if_ne (t := 51) gk_f139_45 (by decide)) ?_
    refine gd_ite (fun h5 => ?_) (fun h6 => ?_)
    · refine Eq.trans (D_goto (t := 83) gk_f139_48 (by decide)) ?_
      refine Eq.trans (D_iinc (x := x4) (y := 1) gk_f139_83 rfl gk_c_1 gk_st139_4) ?_
      refine Eq.trans (D_goto (t := 28) gk_f139_86 (by decide)) ?_
      rfl
    · refine Eq.trans (D_iinc (x := x3) (y := 1) gk_f139_51 rfl gk_c_1 gk_st139_3) ?_
      refine Eq.trans (D_aload_n (x := r0) gk_f139_54 rfl) ?_
      refine Eq.trans (D_gfR gk_f139_55 (by decide)) ?_
      refine Eq.trans (if_pos h1) ?_
      refine Eq.trans (D_aload_n (x := r0) gk_f139_58 rfl) ?_
      refine Eq.trans (D_gfR gk_f139_59 (by decide)) ?_
      refine Eq.trans (if_pos h1) ?_
      refine Eq.trans (D_gfR gk_f139_62 (by decide)) ?_
      refine gd_ite (fun h7 => ?_) (fun _ => rfl)
      refine Eq.trans (D_aload_n (x := r0) gk_f139_65 rfl) ?_
      refine Eq.trans (D_gfR gk_f139_66 (by decide)) ?_
      refine Eq.trans (if_pos h1) ?_
      refine Eq.trans (D_bipush (x := 16) gk_f139_69 gk_b_16) ?_
      refine Eq.trans (D_iload_n (x := x1) gk_f139_71 rfl) ?_
      refine Eq.trans (D_imul gk_f139_72) ?_
      refine Eq.trans (D_iload (x := x4) gk_f139_73 rfl) ?_
      refine Eq.trans (D_iadd gk_f139_75) ?_
      refine Eq.trans (D_iald gk_f139_76 gk_n10_139) ?_
      refine gd_ite (fun h8 => ?_) (fun _ => rfl)
      refine Eq.trans (D_iald gk_f139_77 gk_n10_139) ?_
      refine gd_ite (fun h9 => ?_) (fun _ => rfl)
      refine Eq.trans (D_dup2 gk_f139_78) ?_
      refine Eq.trans (D_iald gk_f139_79 gk_n10_139) ?_
      refine gd_ite (fun h10 => ?_) (fun _ => rfl)
      refine Eq.trans (D_iconst (x := 1) gk_f139_80 gk_c_1) ?_
      refine Eq.trans (D_iadd gk_f139_81) ?_
      refine Eq.trans (D_iast gk_f139_82) ?_
      refine Eq.trans (if_pos h10) ?_
      refine Eq.trans (D_iinc (x := x4) (y := 1) gk_f139_83 rfl gk_c_1 gk_st139_4) ?_
      refine Eq.trans (D_goto (t := 28) gk_f139_86 (by decide)) ?_
      rfl
  · refine Eq.trans (D_iload_n (x := x3) gk_f139_89 rfl) ?_
    refine Eq.trans (D_aload_n (x := r0) gk_f139_90 rfl) ?_
    refine Eq.trans (D_gfR gk_f139_91 (by decide)) ?_
    refine Eq.trans (if_pos h1) ?_
    refine Eq.trans (D_gfI gk_f139_94 (by decide) (by decide) (by decide)) ?_
    refine gd_ite (fun h11 => ?_) (fun _ => rfl)
    refine Eq.trans (D_ic_gt (t := 104) gk_f139_97 (by decide)) ?_
    refine gd_ite (fun h12 => ?_) (fun h13 => ?_)
    · refine Eq.trans (D_iconst (x := 0) gk_f139_104 gk_c_0) ?_
      refine Eq.trans (D_istore gk_f139_105 gk_st139_4) ?_
      refine Eq.trans (D_iconst (x := 0) gk_f139_107 gk_c_0) ?_
      refine Eq.trans (D_istore gk_f139_108 gk_st139_5) ?_
      rfl
    · refine Eq.trans (D_iconst (x := 1) gk_f139_100 gk_c_1) ?_
      refine Eq.trans (D_goto (t := 105) gk_f139_101 (by decide)) ?_
      refine Eq.trans (D_istore gk_f139_105 gk_st139_4) ?_
      refine Eq.trans (D_iconst (x := 0) gk_f139_107 gk_c_0) ?_
      refine Eq.trans (D_istore gk_f139_108 gk_st139_5) ?_
      rfl
set_option maxRecDepth 20000 in
set_option maxHeartbeats 4000000 in
theorem q_Mo_isLawful_110 (r0 : Nat) (x1 : Int32) (x2 : Int32) (x3 : Int32) (x4 : Int32) (x5 : Int32) (m : gd_M) : gd_Den (139, 110, [.ref r0, .int x1, .int x2, .int x3, .int x4, .int x5], [], m) = if (x5 < 5 : Prop) then (if (x4 = 0 : Prop) then (gd_Den (139, 110, [.ref r0, .int x1, .int x2, .int x3, .int 0, .int (x5 + 1)], [], m)) else (if gd_ok (gN m) r0 9 = true then (if gd_ok (gN m) (gR m r0 1) 7 = true then (if gd_okA (gN m) (gR m (gR m r0 1) 17) 10 x5 = true then (if ((gI m (gR m (gR m r0 1) 17) (x5 : Int32).toNatClampNeg) = (-1) : Prop) then (gd_Den (139, 110, [.ref r0, .int x1, .int x2, .int x3, .int 1, .int (x5 + 1)], [], m)) else (if gd_okA (gN m) (gR m r0 35) 10 x5 = true then (if ((gI m (gR m (gR m r0 1) 17) (x5 : Int32).toNatClampNeg) < (gI m (gR m r0 35) (x5 : Int32).toNatClampNeg) : Prop) then (gd_Den (139, 110, [.ref r0, .int x1, .int x2, .int x3, .int 0, .int (x5 + 1)], [], m)) else (gd_Den (139, 110, [.ref r0, .int x1, .int x2, .int x3, .int 1, .int (x5 + 1)], [], m))) else none)) else none) else none) else none)) else (if gd_bo x4 = true then some (.int x4, m) else none) := by
  refine Eq.trans (D_iload (x := x5) gk_f139_110 rfl) ?_
  refine Eq.trans (D_iconst (x := 5) gk_f139_112 gk_c_5) ?_
  refine Eq.trans (D_ic_ge (t := 168) gk_f139_113 (by decide)) ?_
  refine gd_ite (fun h1 => ?_) (fun h2 => ?_)
  · refine Eq.trans (D_iload (x := x4) gk_f139_116 rfl) ?_
    refine Eq.trans (D_if_eq (t := 159) gk_f139_118 (by decide)) ?_
    refine gd_ite (fun h3 => ?_) (fun h4 => ?_)
    · refine Eq.trans (D_iconst (x := 0) gk_f139_159 gk_c_0) ?_
      refine Eq.trans (D_istore gk_f139_160 gk_st139_4) ?_
      refine Eq.trans (D_iinc (x := x5) (y := 1) gk_f139_162 rfl gk_c_1 gk_st139_5) ?_
      refine Eq.trans (D_goto (t := 110) gk_f139_165 (by decide)) ?_
      rfl
    · refine Eq.trans (D_aload_n (x := r0) gk_f139_121 rfl) ?_
      refine Eq.trans (D_gfR gk_f139_122 (by decide)) ?_
      refine gd_ite (fun h5 => ?_) (fun _ => rfl)
      refine Eq.trans (D_gfR gk_f139_125 (by decide)) ?_
      refine gd_ite (fun h6 => ?_) (fun _ => rfl)
      refine Eq.trans (D_iload (x := x5) gk_f139_128 rfl) ?_
      refine Eq.trans (D_iald gk_f139_130 gk_n10_139) ?_
      refine gd_ite (fun h7 => ?_) (fun _ => rfl)
      refine Eq.trans (D_iconst (x := (-1)) gk_f139_131 gk_c_m1) ?_
      refine Eq.trans (D_ic_eq (t := 155) gk_f139_132 (by decide)) ?_
      refine gd_ite (fun h8 => ?_) (fun h9 => ?_)
      · refine Eq.trans (D_iconst (x := 1) gk_f139_155 gk_c_1) ?_
        refine Eq.trans (D_goto (t := 160) gk_f139_156 (by decide)) ?_
        refine Eq.trans (D_istore gk_f139_160 gk_st139_4) ?_
        refine Eq.trans (D_iinc (x := x5) (y := 1) gk_f139_162 rfl gk_c_1 gk_st139_5) ?_
        refine Eq.trans (D_goto (t := 110) gk_f139_165 (by decide)) ?_
        rfl
      · refine Eq.trans (D_aload_n (x := r0) gk_f139_135 rfl) ?_
        refine Eq.trans (D_gfR gk_f139_136 (by decide)) ?_
        refine Eq.trans (if_pos h5) ?_
        refine Eq.trans (D_iload (x := x5) gk_f139_139 rfl) ?_
        refine Eq.trans (D_iald gk_f139_141 gk_n10_139) ?_
        refine gd_ite (fun h10 => ?_) (fun _ => rfl)
        refine Eq.trans (D_aload_n (x := r0) gk_f139_142 rfl) ?_
        refine Eq.trans (D_gfR gk_f139_143 (by decide)) ?_
        refine Eq.trans (if_pos h5) ?_
        refine Eq.trans (D_gfR gk_f139_146 (by decide)) ?_
        refine Eq.trans (if_pos h6) ?_
        refine Eq.trans (D_iload (x := x5) gk_f139_149 rfl) ?_
        refine Eq.trans (D_iald gk_f139_151 gk_n10_139) ?_
        refine Eq.trans (if_pos h7) ?_
        refine Eq.trans (D_ic_gt (t := 159) gk_f139_152 (by decide)) ?_
        refine gd_ite (fun h11 => ?_) (fun h12 => ?_)
        · refine Eq.trans (D_iconst (x := 0) gk_f139_159 gk_c_0) ?_
          refine Eq.trans (D_istore gk_f139_160 gk_st139_4) ?_
          refine Eq.trans (D_iinc (x := x5) (y := 1) gk_f139_162 rfl gk_c_1 gk_st139_5) ?_
          refine Eq.trans (D_goto (t := 110) gk_f139_165 (by decide)) ?_
          rfl
        · refine Eq.trans (D_iconst (x := 1) gk_f139_155 gk_c_1) ?_
          refine Eq.trans (D_goto (t := 160) gk_f139_156 (by decide)) ?_
          refine Eq.trans (D_istore gk_f139_160 gk_st139_4) ?_
          refine Eq.trans (D_iinc (x := x5) (y := 1) gk_f139_162 rfl gk_c_1 gk_st139_5) ?_
          refine Eq.trans (D_goto (t := 110) gk_f139_165 (by decide)) ?_
          rfl
  · refine Eq.trans (D_iload (x := x4) gk_f139_168 rfl) ?_
    refine Eq.trans (D_zreturn gk_f139_170 gk_rk139) ?_
    rfl
/-! GymDeskModel.worthOf (II)I -/
set_option maxRecDepth 20000 in
theorem gk_f140_0 : gd_fetch 140 0 = some (0, .iconst 0, 1, 0, 0, 0, 0, 0) := rfl
set_option maxRecDepth 20000 in
theorem gk_f140_1 : gd_fetch 140 1 = some (1, .istore_n 3, 1, 0, 0, 0, 0, 0) := rfl
set_option maxRecDepth 20000 in
theorem gk_f140_2 : gd_fetch 140 2 = some (2, .iconst 0, 1, 0, 0, 0, 0, 0) := rfl
set_option maxRecDepth 20000 in
theorem gk_f140_3 : gd_fetch 140 3 = some (3, .istore 4, 2, 0, 0, 0, 0, 0) := rfl
set_option maxRecDepth 20000 in
theorem gk_f140_5 : gd_fetch 140 5 = some (5, .iconst 0, 1, 0, 0, 0, 0, 0) := rfl
set_option maxRecDepth 20000 in
theorem gk_f140_6 : gd_fetch 140 6 = some (6, .istore 5, 2, 0, 0, 0, 0, 0) := rfl
set_option maxRecDepth 20000 in
theorem gk_f140_8 : gd_fetch 140 8 = some (8, .iload 5, 2, 0, 0, 0, 0, 0) := rfl
set_option maxRecDepth 20000 in
theorem gk_f140_10 : gd_fetch 140 10 = some (10, .iconst 5, 1, 0, 0, 0, 0, 0) := rfl
set_option maxRecDepth 20000 in
theorem gk_f140_11 : gd_fetch 140 11 = some (11, .if_icmp .ge 17, 3, 0, 0, 0, 0, 0) := rfl
set_option maxRecDepth 20000 in
theorem gk_f140_14 : gd_fetch 140 14 = some (14, .aload_n 0, 1, 0, 0, 0, 0, 0) := rfl
set_option maxRecDepth 20000 in
theorem gk_f140_15 : gd_fetch 140 15 = some (15, .getfield 87, 3, 1198, 9, 35, 4, 1) := rfl
set_option maxRecDepth 20000 in
theorem gk_f140_18 : gd_fetch 140 18 = some (18, .iload 5, 2, 0, 0, 0, 0, 0) := rfl
set_option maxRecDepth 20000 in
theorem gk_f140_20 : gd_fetch 140 20 = some (20, .iconst 0, 1, 0, 0, 0, 0, 0) := rfl
set_option maxRecDepth 20000 in
theorem gk_f140_21 : gd_fetch 140 21 = some (21, .iastore, 1, 0, 0, 0, 0, 0) := rfl
set_option maxRecDepth 20000 in
theorem gk_f140_22 : gd_fetch 140 22 = some (22, .iinc 5 1, 3, 0, 0, 0, 0, 0) := rfl
set_option maxRecDepth 20000 in
theorem gk_f140_25 : gd_fetch 140 25 = some (25, .goto (-17), 3, 0, 0, 0, 0, 0) := rfl
set_option maxRecDepth 20000 in
theorem gk_f140_28 : gd_fetch 140 28 = some (28, .iconst 0, 1, 0, 0, 0, 0, 0) := rfl
set_option maxRecDepth 20000 in
theorem gk_f140_29 : gd_fetch 140 29 = some (29, .istore 5, 2, 0, 0, 0, 0, 0) := rfl
set_option maxRecDepth 20000 in
theorem gk_f140_31 : gd_fetch 140 31 = some (31, .iload 5, 2, 0, 0, 0, 0, 0) := rfl
set_option maxRecDepth 20000 in
theorem gk_f140_33 : gd_fetch 140 33 = some (33, .aload_n 0, 1, 0, 0, 0, 0, 0) := rfl
set_option maxRecDepth 20000 in
theorem gk_f140_34 : gd_fetch 140 34 = some (34, .getfield 54, 3, 1187, 9, 24, 4, 1) := rfl
set_option maxRecDepth 20000 in
theorem gk_f140_37 : gd_fetch 140 37 = some (37, .iload_n 1, 1, 0, 0, 0, 0, 0) := rfl
set_option maxRecDepth 20000 in
theorem gk_f140_38 : gd_fetch 140 38 = some (38, .iaload, 1, 0, 0, 0, 0, 0) := rfl
set_option maxRecDepth 20000 in
theorem gk_f140_39 : gd_fetch 140 39 = some (39, .if_icmp .ge 173, 3, 0, 0, 0, 0, 0) := rfl
set_option maxRecDepth 20000 in
theorem gk_f140_42 : gd_fetch 140 42 = some (42, .iload_n 2, 1, 0, 0, 0, 0, 0) := rfl
set_option maxRecDepth 20000 in
theorem gk_f140_43 : gd_fetch 140 43 = some (43, .iload 5, 2, 0, 0, 0, 0, 0) := rfl
set_option maxRecDepth 20000 in
theorem gk_f140_45 : gd_fetch 140 45 = some (45, .ishr, 1, 0, 0, 0, 0, 0) := rfl
set_option maxRecDepth 20000 in
theorem gk_f140_46 : gd_fetch 140 46 = some (46, .iconst 1, 1, 0, 0, 0, 0, 0) := rfl
set_option maxRecDepth 20000 in
theorem gk_f140_47 : gd_fetch 140 47 = some (47, .iand, 1, 0, 0, 0, 0, 0) := rfl
set_option maxRecDepth 20000 in
theorem gk_f140_48 : gd_fetch 140 48 = some (48, .ifCond .ne 6, 3, 0, 0, 0, 0, 0) := rfl
set_option maxRecDepth 20000 in
theorem gk_f140_51 : gd_fetch 140 51 = some (51, .goto 155, 3, 0, 0, 0, 0, 0) := rfl
set_option maxRecDepth 20000 in
theorem gk_f140_54 : gd_fetch 140 54 = some (54, .aload_n 0, 1, 0, 0, 0, 0, 0) := rfl
set_option maxRecDepth 20000 in
theorem gk_f140_55 : gd_fetch 140 55 = some (55, .getfield 57, 3, 1188, 9, 25, 4, 1) := rfl
set_option maxRecDepth 20000 in
theorem gk_f140_58 : gd_fetch 140 58 = some (58, .bipush 16, 2, 0, 0, 0, 0, 0) := rfl
set_option maxRecDepth 20000 in
theorem gk_f140_60 : gd_fetch 140 60 = some (60, .iload_n 1, 1, 0, 0, 0, 0, 0) := rfl
set_option maxRecDepth 20000 in
theorem gk_f140_61 : gd_fetch 140 61 = some (61, .imul, 1, 0, 0, 0, 0, 0) := rfl
set_option maxRecDepth 20000 in
theorem gk_f140_62 : gd_fetch 140 62 = some (62, .iload 5, 2, 0, 0, 0, 0, 0) := rfl
set_option maxRecDepth 20000 in
theorem gk_f140_64 : gd_fetch 140 64 = some (64, .iadd, 1, 0, 0, 0, 0, 0) := rfl
set_option maxRecDepth 20000 in
theorem gk_f140_65 : gd_fetch 140 65 = some (65, .iaload, 1, 0, 0, 0, 0, 0) := rfl
set_option maxRecDepth 20000 in
theorem gk_f140_66 : gd_fetch 140 66 = some (66, .istore 6, 2, 0, 0, 0, 0, 0) := rfl
set_option maxRecDepth 20000 in
theorem gk_f140_68 : gd_fetch 140 68 = some (68, .iload_n 3, 1, 0, 0, 0, 0, 0) := rfl
set_option maxRecDepth 20000 in
theorem gk_f140_69 : gd_fetch 140 69 = some (69, .aload_n 0, 1, 0, 0, 0, 0, 0) := rfl
set_option maxRecDepth 20000 in
theorem gk_f140_70 : gd_fetch 140 70 = some (70, .getfield 19, 3, 1164, 9, 1, 4, 0) := rfl
set_option maxRecDepth 20000 in
theorem gk_f140_73 : gd_fetch 140 73 = some (73, .getfield 210, 3, 1045, 7, 7, 4, 1) := rfl
set_option maxRecDepth 20000 in
theorem gk_f140_76 : gd_fetch 140 76 = some (76, .iload 6, 2, 0, 0, 0, 0, 0) := rfl
set_option maxRecDepth 20000 in
theorem gk_f140_78 : gd_fetch 140 78 = some (78, .iaload, 1, 0, 0, 0, 0, 0) := rfl
set_option maxRecDepth 20000 in
theorem gk_f140_79 : gd_fetch 140 79 = some (79, .iadd, 1, 0, 0, 0, 0, 0) := rfl
set_option maxRecDepth 20000 in
theorem gk_f140_80 : gd_fetch 140 80 = some (80, .istore_n 3, 1, 0, 0, 0, 0, 0) := rfl
set_option maxRecDepth 20000 in
theorem gk_f140_81 : gd_fetch 140 81 = some (81, .aload_n 0, 1, 0, 0, 0, 0, 0) := rfl
set_option maxRecDepth 20000 in
theorem gk_f140_82 : gd_fetch 140 82 = some (82, .getfield 87, 3, 1198, 9, 35, 4, 1) := rfl
set_option maxRecDepth 20000 in
theorem gk_f140_85 : gd_fetch 140 85 = some (85, .aload_n 0, 1, 0, 0, 0, 0, 0) := rfl
set_option maxRecDepth 20000 in
theorem gk_f140_86 : gd_fetch 140 86 = some (86, .getfield 19, 3, 1164, 9, 1, 4, 0) := rfl
set_option maxRecDepth 20000 in
theorem gk_f140_89 : gd_fetch 140 89 = some (89, .getfield 220, 3, 1047, 7, 8, 4, 1) := rfl
set_option maxRecDepth 20000 in
theorem gk_f140_92 : gd_fetch 140 92 = some (92, .iload 6, 2, 0, 0, 0, 0, 0) := rfl
set_option maxRecDepth 20000 in
theorem gk_f140_94 : gd_fetch 140 94 = some (94, .iaload, 1, 0, 0, 0, 0, 0) := rfl
set_option maxRecDepth 20000 in
theorem gk_f140_95 : gd_fetch 140 95 = some (95, .dup2, 1, 0, 0, 0, 0, 0) := rfl
set_option maxRecDepth 20000 in
theorem gk_f140_96 : gd_fetch 140 96 = some (96, .iaload, 1, 0, 0, 0, 0, 0) := rfl
set_option maxRecDepth 20000 in
theorem gk_f140_97 : gd_fetch 140 97 = some (97, .iconst 1, 1, 0, 0, 0, 0, 0) := rfl
set_option maxRecDepth 20000 in
theorem gk_f140_98 : gd_fetch 140 98 = some (98, .iadd, 1, 0, 0, 0, 0, 0) := rfl
set_option maxRecDepth 20000 in
theorem gk_f140_99 : gd_fetch 140 99 = some (99, .iastore, 1, 0, 0, 0, 0, 0) := rfl
set_option maxRecDepth 20000 in
theorem gk_f140_100 : gd_fetch 140 100 = some (100, .iinc 4 1, 3, 0, 0, 0, 0, 0) := rfl
set_option maxRecDepth 20000 in
theorem gk_f140_103 : gd_fetch 140 103 = some (103, .iload 5, 2, 0, 0, 0, 0, 0) := rfl
set_option maxRecDepth 20000 in
theorem gk_f140_105 : gd_fetch 140 105 = some (105, .ifCond .eq 101, 3, 0, 0, 0, 0, 0) := rfl
set_option maxRecDepth 20000 in
theorem gk_f140_108 : gd_fetch 140 108 = some (108, .iload_n 2, 1, 0, 0, 0, 0, 0) := rfl
set_option maxRecDepth 20000 in
theorem gk_f140_109 : gd_fetch 140 109 = some (109, .iload 5, 2, 0, 0, 0, 0, 0) := rfl
set_option maxRecDepth 20000 in
theorem gk_f140_111 : gd_fetch 140 111 = some (111, .iconst 1, 1, 0, 0, 0, 0, 0) := rfl
set_option maxRecDepth 20000 in
theorem gk_f140_112 : gd_fetch 140 112 = some (112, .isub, 1, 0, 0, 0, 0, 0) := rfl
set_option maxRecDepth 20000 in
theorem gk_f140_113 : gd_fetch 140 113 = some (113, .ishr, 1, 0, 0, 0, 0, 0) := rfl
set_option maxRecDepth 20000 in
theorem gk_f140_114 : gd_fetch 140 114 = some (114, .iconst 1, 1, 0, 0, 0, 0, 0) := rfl
set_option maxRecDepth 20000 in
theorem gk_f140_115 : gd_fetch 140 115 = some (115, .iand, 1, 0, 0, 0, 0, 0) := rfl
set_option maxRecDepth 20000 in
theorem gk_f140_116 : gd_fetch 140 116 = some (116, .ifCond .ne 6, 3, 0, 0, 0, 0, 0) := rfl
set_option maxRecDepth 20000 in
theorem gk_f140_119 : gd_fetch 140 119 = some (119, .goto 87, 3, 0, 0, 0, 0, 0) := rfl
set_option maxRecDepth 20000 in
theorem gk_f140_122 : gd_fetch 140 122 = some (122, .aload_n 0, 1, 0, 0, 0, 0, 0) := rfl
set_option maxRecDepth 20000 in
theorem gk_f140_123 : gd_fetch 140 123 = some (123, .getfield 57, 3, 1188, 9, 25, 4, 1) := rfl
set_option maxRecDepth 20000 in
theorem gk_f140_126 : gd_fetch 140 126 = some (126, .bipush 16, 2, 0, 0, 0, 0, 0) := rfl
set_option maxRecDepth 20000 in
theorem gk_f140_128 : gd_fetch 140 128 = some (128, .iload_n 1, 1, 0, 0, 0, 0, 0) := rfl
set_option maxRecDepth 20000 in
theorem gk_f140_129 : gd_fetch 140 129 = some (129, .imul, 1, 0, 0, 0, 0, 0) := rfl
set_option maxRecDepth 20000 in
theorem gk_f140_130 : gd_fetch 140 130 = some (130, .iload 5, 2, 0, 0, 0, 0, 0) := rfl
set_option maxRecDepth 20000 in
theorem gk_f140_132 : gd_fetch 140 132 = some (132, .iadd, 1, 0, 0, 0, 0, 0) := rfl
set_option maxRecDepth 20000 in
theorem gk_f140_133 : gd_fetch 140 133 = some (133, .iconst 1, 1, 0, 0, 0, 0, 0) := rfl
set_option maxRecDepth 20000 in
theorem gk_f140_134 : gd_fetch 140 134 = some (134, .isub, 1, 0, 0, 0, 0, 0) := rfl
set_option maxRecDepth 20000 in
theorem gk_f140_135 : gd_fetch 140 135 = some (135, .iaload, 1, 0, 0, 0, 0, 0) := rfl
set_option maxRecDepth 20000 in
theorem gk_f140_136 : gd_fetch 140 136 = some (136, .istore 7, 2, 0, 0, 0, 0, 0) := rfl
set_option maxRecDepth 20000 in
theorem gk_f140_138 : gd_fetch 140 138 = some (138, .iconst 0, 1, 0, 0, 0, 0, 0) := rfl
set_option maxRecDepth 20000 in
theorem gk_f140_139 : gd_fetch 140 139 = some (139, .istore 8, 2, 0, 0, 0, 0, 0) := rfl
set_option maxRecDepth 20000 in
theorem gk_f140_141 : gd_fetch 140 141 = some (141, .iload 8, 2, 0, 0, 0, 0, 0) := rfl
set_option maxRecDepth 20000 in
theorem gk_f140_143 : gd_fetch 140 143 = some (143, .aload_n 0, 1, 0, 0, 0, 0, 0) := rfl
set_option maxRecDepth 20000 in
theorem gk_f140_144 : gd_fetch 140 144 = some (144, .getfield 19, 3, 1164, 9, 1, 4, 0) := rfl
set_option maxRecDepth 20000 in
theorem gk_f140_147 : gd_fetch 140 147 = some (147, .getfield 229, 3, 1033, 7, 1, 0, 0) := rfl
set_option maxRecDepth 20000 in
theorem gk_f140_150 : gd_fetch 140 150 = some (150, .if_icmp .ge 56, 3, 0, 0, 0, 0, 0) := rfl
set_option maxRecDepth 20000 in
theorem gk_f140_153 : gd_fetch 140 153 = some (153, .iload_n 3, 1, 0, 0, 0, 0, 0) := rfl
set_option maxRecDepth 20000 in
theorem gk_f140_154 : gd_fetch 140 154 = some (154, .aload_n 0, 1, 0, 0, 0, 0, 0) := rfl
set_option maxRecDepth 20000 in
theorem gk_f140_155 : gd_fetch 140 155 = some (155, .getfield 19, 3, 1164, 9, 1, 4, 0) := rfl
set_option maxRecDepth 20000 in
theorem gk_f140_158 : gd_fetch 140 158 = some (158, .getfield 232, 3, 1051, 7, 10, 4, 1) := rfl
set_option maxRecDepth 20000 in
theorem gk_f140_161 : gd_fetch 140 161 = some (161, .iload 8, 2, 0, 0, 0, 0, 0) := rfl
set_option maxRecDepth 20000 in
theorem gk_f140_163 : gd_fetch 140 163 = some (163, .iaload, 1, 0, 0, 0, 0, 0) := rfl
set_option maxRecDepth 20000 in
theorem gk_f140_164 : gd_fetch 140 164 = some (164, .iload 7, 2, 0, 0, 0, 0, 0) := rfl
set_option maxRecDepth 20000 in
theorem gk_f140_166 : gd_fetch 140 166 = some (166, .if_icmp .ne 31, 3, 0, 0, 0, 0, 0) := rfl
set_option maxRecDepth 20000 in
theorem gk_f140_169 : gd_fetch 140 169 = some (169, .aload_n 0, 1, 0, 0, 0, 0, 0) := rfl
set_option maxRecDepth 20000 in
theorem gk_f140_170 : gd_fetch 140 170 = some (170, .getfield 19, 3, 1164, 9, 1, 4, 0) := rfl
set_option maxRecDepth 20000 in
theorem gk_f140_173 : gd_fetch 140 173 = some (173, .getfield 235, 3, 1053, 7, 11, 4, 1) := rfl
set_option maxRecDepth 20000 in
theorem gk_f140_176 : gd_fetch 140 176 = some (176, .iload 8, 2, 0, 0, 0, 0, 0) := rfl
set_option maxRecDepth 20000 in
theorem gk_f140_178 : gd_fetch 140 178 = some (178, .iaload, 1, 0, 0, 0, 0, 0) := rfl
set_option maxRecDepth 20000 in
theorem gk_f140_179 : gd_fetch 140 179 = some (179, .iload 6, 2, 0, 0, 0, 0, 0) := rfl
set_option maxRecDepth 20000 in
theorem gk_f140_181 : gd_fetch 140 181 = some (181, .if_icmp .ne 16, 3, 0, 0, 0, 0, 0) := rfl
set_option maxRecDepth 20000 in
theorem gk_f140_184 : gd_fetch 140 184 = some (184, .aload_n 0, 1, 0, 0, 0, 0, 0) := rfl
set_option maxRecDepth 20000 in
theorem gk_f140_185 : gd_fetch 140 185 = some (185, .getfield 19, 3, 1164, 9, 1, 4, 0) := rfl
set_option maxRecDepth 20000 in
theorem gk_f140_188 : gd_fetch 140 188 = some (188, .getfield 238, 3, 1055, 7, 12, 4, 1) := rfl
set_option maxRecDepth 20000 in
theorem gk_f140_191 : gd_fetch 140 191 = some (191, .iload 8, 2, 0, 0, 0, 0, 0) := rfl
set_option maxRecDepth 20000 in
theorem gk_f140_193 : gd_fetch 140 193 = some (193, .iaload, 1, 0, 0, 0, 0, 0) := rfl
set_option maxRecDepth 20000 in
theorem gk_f140_194 : gd_fetch 140 194 = some (194, .goto 4, 3, 0, 0, 0, 0, 0) := rfl
set_option maxRecDepth 20000 in
theorem gk_f140_197 : gd_fetch 140 197 = some (197, .iconst 0, 1, 0, 0, 0, 0, 0) := rfl
set_option maxRecDepth 20000 in
theorem gk_f140_198 : gd_fetch 140 198 = some (198, .iadd, 1, 0, 0, 0, 0, 0) := rfl
set_option maxRecDepth 20000 in
theorem gk_f140_199 : gd_fetch 140 199 = some (199, .istore_n 3, 1, 0, 0, 0, 0, 0) := rfl
set_option maxRecDepth 20000 in
theorem gk_f140_200 : gd_fetch 140 200 = some (200, .iinc 8 1, 3, 0, 0, 0, 0, 0) := rfl
set_option maxRecDepth 20000 in
theorem gk_f140_203 : gd_fetch 140 203 = some (203, .goto (-62), 3, 0, 0, 0, 0, 0) := rfl
set_option maxRecDepth 20000 in
theorem gk_f140_206 : gd_fetch 140 206 = some (206, .iinc 5 1, 3, 0, 0, 0, 0, 0) := rfl
set_option maxRecDepth 20000 in
theorem gk_f140_209 : gd_fetch 140 209 = some (209, .goto (-178), 3, 0, 0, 0, 0, 0) := rfl
set_option maxRecDepth 20000 in
theorem gk_f140_212 : gd_fetch 140 212 = some (212, .iconst 0, 1, 0, 0, 0, 0, 0) := rfl
set_option maxRecDepth 20000 in
theorem gk_f140_213 : gd_fetch 140 213 = some (213, .istore 5, 2, 0, 0, 0, 0, 0) := rfl
set_option maxRecDepth 20000 in
theorem gk_f140_215 : gd_fetch 140 215 = some (215, .iload 5, 2, 0, 0, 0, 0, 0) := rfl
set_option maxRecDepth 20000 in
theorem gk_f140_217 : gd_fetch 140 217 = some (217, .iconst 5, 1, 0, 0, 0, 0, 0) := rfl
set_option maxRecDepth 20000 in
theorem gk_f140_218 : gd_fetch 140 218 = some (218, .if_icmp .ge 59, 3, 0, 0, 0, 0, 0) := rfl
set_option maxRecDepth 20000 in
theorem gk_f140_221 : gd_fetch 140 221 = some (221, .iload_n 3, 1, 0, 0, 0, 0, 0) := rfl
set_option maxRecDepth 20000 in
theorem gk_f140_222 : gd_fetch 140 222 = some (222, .aload_n 0, 1, 0, 0, 0, 0, 0) := rfl
set_option maxRecDepth 20000 in
theorem gk_f140_223 : gd_fetch 140 223 = some (223, .getfield 19, 3, 1164, 9, 1, 4, 0) := rfl
set_option maxRecDepth 20000 in
theorem gk_f140_226 : gd_fetch 140 226 = some (226, .getfield 269, 3, 1061, 7, 15, 4, 1) := rfl
set_option maxRecDepth 20000 in
theorem gk_f140_229 : gd_fetch 140 229 = some (229, .iload 5, 2, 0, 0, 0, 0, 0) := rfl
set_option maxRecDepth 20000 in
theorem gk_f140_231 : gd_fetch 140 231 = some (231, .iaload, 1, 0, 0, 0, 0, 0) := rfl
set_option maxRecDepth 20000 in
theorem gk_f140_232 : gd_fetch 140 232 = some (232, .ifCond .le 36, 3, 0, 0, 0, 0, 0) := rfl
set_option maxRecDepth 20000 in
theorem gk_f140_235 : gd_fetch 140 235 = some (235, .aload_n 0, 1, 0, 0, 0, 0, 0) := rfl
set_option maxRecDepth 20000 in
theorem gk_f140_236 : gd_fetch 140 236 = some (236, .getfield 87, 3, 1198, 9, 35, 4, 1) := rfl
set_option maxRecDepth 20000 in
theorem gk_f140_239 : gd_fetch 140 239 = some (239, .iload 5, 2, 0, 0, 0, 0, 0) := rfl
set_option maxRecDepth 20000 in
theorem gk_f140_241 : gd_fetch 140 241 = some (241, .iaload, 1, 0, 0, 0, 0, 0) := rfl
set_option maxRecDepth 20000 in
theorem gk_f140_242 : gd_fetch 140 242 = some (242, .aload_n 0, 1, 0, 0, 0, 0, 0) := rfl
set_option maxRecDepth 20000 in
theorem gk_f140_243 : gd_fetch 140 243 = some (243, .getfield 19, 3, 1164, 9, 1, 4, 0) := rfl
set_option maxRecDepth 20000 in
theorem gk_f140_246 : gd_fetch 140 246 = some (246, .getfield 269, 3, 1061, 7, 15, 4, 1) := rfl
set_option maxRecDepth 20000 in
theorem gk_f140_249 : gd_fetch 140 249 = some (249, .iload 5, 2, 0, 0, 0, 0, 0) := rfl
set_option maxRecDepth 20000 in
theorem gk_f140_251 : gd_fetch 140 251 = some (251, .iaload, 1, 0, 0, 0, 0, 0) := rfl
set_option maxRecDepth 20000 in
theorem gk_f140_252 : gd_fetch 140 252 = some (252, .if_icmp .lt 16, 3, 0, 0, 0, 0, 0) := rfl
set_option maxRecDepth 20000 in
theorem gk_f140_255 : gd_fetch 140 255 = some (255, .aload_n 0, 1, 0, 0, 0, 0, 0) := rfl
set_option maxRecDepth 20000 in
theorem gk_f140_256 : gd_fetch 140 256 = some (256, .getfield 19, 3, 1164, 9, 1, 4, 0) := rfl
set_option maxRecDepth 20000 in
theorem gk_f140_259 : gd_fetch 140 259 = some (259, .getfield 272, 3, 1063, 7, 16, 4, 1) := rfl
set_option maxRecDepth 20000 in
theorem gk_f140_262 : gd_fetch 140 262 = some (262, .iload 5, 2, 0, 0, 0, 0, 0) := rfl
set_option maxRecDepth 20000 in
theorem gk_f140_264 : gd_fetch 140 264 = some (264, .iaload, 1, 0, 0, 0, 0, 0) := rfl
set_option maxRecDepth 20000 in
theorem gk_f140_265 : gd_fetch 140 265 = some (265, .goto 4, 3, 0, 0, 0, 0, 0) := rfl
set_option maxRecDepth 20000 in
theorem gk_f140_268 : gd_fetch 140 268 = some (268, .iconst 0, 1, 0, 0, 0, 0, 0) := rfl
set_option maxRecDepth 20000 in
theorem gk_f140_269 : gd_fetch 140 269 = some (269, .iadd, 1, 0, 0, 0, 0, 0) := rfl
set_option maxRecDepth 20000 in
theorem gk_f140_270 : gd_fetch 140 270 = some (270, .istore_n 3, 1, 0, 0, 0, 0, 0) := rfl
set_option maxRecDepth 20000 in
theorem gk_f140_271 : gd_fetch 140 271 = some (271, .iinc 5 1, 3, 0, 0, 0, 0, 0) := rfl
set_option maxRecDepth 20000 in
theorem gk_f140_274 : gd_fetch 140 274 = some (274, .goto (-59), 3, 0, 0, 0, 0, 0) := rfl
set_option maxRecDepth 20000 in
theorem gk_f140_277 : gd_fetch 140 277 = some (277, .iload 4, 2, 0, 0, 0, 0, 0) := rfl
set_option maxRecDepth 20000 in
theorem gk_f140_279 : gd_fetch 140 279 = some (279, .aload_n 0, 1, 0, 0, 0, 0, 0) := rfl
set_option maxRecDepth 20000 in
theorem gk_f140_280 : gd_fetch 140 280 = some (280, .getfield 19, 3, 1164, 9, 1, 4, 0) := rfl
set_option maxRecDepth 20000 in
theorem gk_f140_283 : gd_fetch 140 283 = some (283, .getfield 291, 3, 1069, 7, 19, 0, 0) := rfl
set_option maxRecDepth 20000 in
theorem gk_f140_286 : gd_fetch 140 286 = some (286, .if_icmp .ge 15, 3, 0, 0, 0, 0, 0) := rfl
set_option maxRecDepth 20000 in
theorem gk_f140_289 : gd_fetch 140 289 = some (289, .iload_n 3, 1, 0, 0, 0, 0, 0) := rfl
set_option maxRecDepth 20000 in
theorem gk_f140_290 : gd_fetch 140 290 = some (290, .aload_n 0, 1, 0, 0, 0, 0, 0) := rfl
set_option maxRecDepth 20000 in
theorem gk_f140_291 : gd_fetch 140 291 = some (291, .getfield 19, 3, 1164, 9, 1, 4, 0) := rfl
set_option maxRecDepth 20000 in
theorem gk_f140_294 : gd_fetch 140 294 = some (294, .getfield 294, 3, 1071, 7, 20, 0, 0) := rfl
set_option maxRecDepth 20000 in
theorem gk_f140_297 : gd_fetch 140 297 = some (297, .isub, 1, 0, 0, 0, 0, 0) := rfl
set_option maxRecDepth 20000 in
theorem gk_f140_298 : gd_fetch 140 298 = some (298, .goto 4, 3, 0, 0, 0, 0, 0) := rfl
set_option maxRecDepth 20000 in
theorem gk_f140_301 : gd_fetch 140 301 = some (301, .iload_n 3, 1, 0, 0, 0, 0, 0) := rfl
set_option maxRecDepth 20000 in
theorem gk_f140_302 : gd_fetch 140 302 = some (302, .ireturn, 1, 0, 0, 0, 0, 0) := rfl
set_option maxRecDepth 20000 in
set_option maxHeartbeats 4000000 in
theorem q_Mo_worthOf (r0 : Nat) (x1 : Int32) (x2 : Int32) (m : gd_M) : gd_call 140 [.ref r0, .int x1, .int x2] m = gd_Den (140, 8, [.ref r0, .int x1, .int x2, .int 0, .int 0, .int 0, .null, .null, .null], [], m) := by
  refine Eq.trans (show gd_call 140 [.ref r0, .int x1, .int x2] m = gd_Den (140, 0, [.ref r0, .int x1, .int x2, .null, .null, .null, .null, .null, .null], [], m) from by unfold gd_call gd_ent; rw [gk_ml140]; rfl) ?_
  refine Eq.trans (D_iconst (x := 0) gk_f140_0 gk_c_0) ?_
  refine Eq.trans (D_istore_n gk_f140_1 gk_st140_3) ?_
  refine Eq.trans (D_iconst (x := 0) gk_f140_2 gk_c_0) ?_
  refine Eq.trans (D_istore gk_f140_3 gk_st140_4) ?_
  refine Eq.trans (D_iconst (x := 0) gk_f140_5 gk_c_0) ?_
  refine Eq.trans (D_istore gk_f140_6 gk_st140_5) ?_
  rfl
set_option maxRecDepth 20000 in
set_option maxHeartbeats 4000000 in
theorem q_Mo_worthOf_8 (r0 : Nat) (x1 : Int32) (x2 : Int32) (x3 : Int32) (x4 : Int32) (x5 : Int32) (m : gd_M) : gd_Den (140, 8, [.ref r0, .int x1, .int x2, .int x3, .int x4, .int x5, .null, .null, .null], [], m) = if (x5 < 5 : Prop) then (if gd_ok (gN m) r0 9 = true then (if gd_okA (gN m) (gR m r0 35) 10 x5 = true then (gd_Den (140, 8, [.ref r0, .int x1, .int x2, .int x3, .int x4, .int (x5 + 1), .null, .null, .null], [], (wI m (gR m r0 35) (x5 : Int32).toNatClampNeg 0))) else none) else none) else (gd_Den (140, 31, [.ref r0, .int x1, .int x2, .int x3, .int x4, .int 0, .null, .null, .null], [], m)) := by
  refine Eq.trans (D_iload (x := x5) gk_f140_8 rfl) ?_
  refine Eq.trans (D_iconst (x := 5) gk_f140_10 gk_c_5) ?_
  refine Eq.trans (D_ic_ge (t := 28) gk_f140_11 (by decide)) ?_
  refine gd_ite (fun h1 => ?_) (fun h2 => ?_)
  · refine Eq.trans (D_aload_n (x := r0) gk_f140_14 rfl) ?_
    refine Eq.trans (D_gfR gk_f140_15 (by decide)) ?_
    refine gd_ite (fun h3 => ?_) (fun _ => rfl)
    refine Eq.trans (D_iload (x := x5) gk_f140_18 rfl) ?_
    refine Eq.trans (D_iconst (x := 0) gk_f140_20 gk_c_0) ?_
    refine Eq.trans (D_iast gk_f140_21) ?_
    refine gd_ite (fun h4 => ?_) (fun _ => rfl)
    refine Eq.trans (D_iinc (x := x5) (y := 1) gk_f140_22 rfl gk_c_1 gk_st140_5) ?_
    refine Eq.trans (D_goto (t := 8) gk_f140_25 (by decide)) ?_
    rfl
  · refine Eq.trans (D_iconst (x := 0) gk_f140_28 gk_c_0) ?_
    refine Eq.trans (D_istore gk_f140_29 gk_st140_5) ?_
    rfl
set_option maxRecDepth 20000 in
set_option maxHeartbeats 4000000 in
theorem q_Mo_worthOf_31 (r0 : Nat) (x1 : Int32) (x2 : Int32) (x3 : Int32) (x4 : Int32) (x5 : Int32) (v6 : Value) (v7 : Value) (v8 : Value) (m : gd_M) : gd_Den (140, 31, [.ref r0, .int x1, .int x2, .int x3, .int x4, .int x5, v6, v7, v8], [], m) = if gd_ok (gN m) r0 9 = true then (if gd_okA (gN m) (gR m r0 24) 10 x1 = true then (if (x5 < (gI m (gR m r0 24) (x1 : Int32).toNatClampNeg) : Prop) then (if ((((x2 : Int32) >>> (x5 &&& 31)) &&& 1) = 0 : Prop) then (gd_Den (140, 31, [.ref r0, .int x1, .int x2, .int x3, .int x4, .int (x5 + 1), v6, v7, v8], [], m)) else (if gd_okA (gN m) (gR m r0 25) 10 ((16 * x1) + x5) = true then (if gd_ok (gN m) (gR m r0 1) 7 = true then (if gd_okA (gN m) (gR m (gR m r0 1) 7) 10 (gI m (gR m r0 25) (((16 * x1) + x5) : Int32).toNatClampNeg) = true then (if gd_okA (gN m) (gR m (gR m r0 1) 8) 10 (gI m (gR m r0 25) (((16 * x1) + x5) : Int32).toNatClampNeg) = true then (if gd_okA (gN m) (gR m r0 35) 10 (gI m (gR m (gR m r0 1) 8) ((gI m (gR m r0 25) (((16 * x1) + x5) : Int32).toNatClampNeg) : Int32).toNatClampNeg) = true then (if (x5 = 0 : Prop) then (gd_Den (140, 31, [.ref r0, .int x1, .int x2, .int (x3 + (gI m (gR m (gR m r0 1) 7) ((gI m (gR m r0 25) (((16 * x1) + x5) : Int32).toNatClampNeg) : Int32).toNatClampNeg)), .int (x4 + 1), .int (x5 + 1), .int (gI m (gR m r0 25) (((16 * x1) + x5) : Int32).toNatClampNeg), v7, v8], [], (wI m (gR m r0 35) ((gI m (gR m (gR m r0 1) 8) ((gI m (gR m r0 25) (((16 * x1) + x5) : Int32).toNatClampNeg) : Int32).toNatClampNeg) : Int32).toNatClampNeg ((gI m (gR m r0 35) ((gI m (gR m (gR m r0 1) 8) ((gI m (gR m r0 25) (((16 * x1) + x5) : Int32).toNatClampNeg) : Int32).toNatClampNeg) : Int32).toNatClampNeg) + 1)))) else (if ((((x2 : Int32) >>> ((x5 - 1) &&& 31)) &&& 1) = 0 : Prop) then (gd_Den (140, 31, [.ref r0, .int x1, .int x2, .int (x3 + (gI m (gR m (gR m r0 1) 7) ((gI m (gR m r0 25) (((16 * x1) + x5) : Int32).toNatClampNeg) : Int32).toNatClampNeg)), .int (x4 + 1), .int (x5 + 1), .int (gI m (gR m r0 25) (((16 * x1) + x5) : Int32).toNatClampNeg), v7, v8], [], (wI m (gR m r0 35) ((gI m (gR m (gR m r0 1) 8) ((gI m (gR m r0 25) (((16 * x1) + x5) : Int32).toNatClampNeg) : Int32).toNatClampNeg) : Int32).toNatClampNeg ((gI m (gR m r0 35) ((gI m (gR m (gR m r0 1) 8) ((gI m (gR m r0 25) (((16 * x1) + x5) : Int32).toNatClampNeg) : Int32).toNatClampNeg) : Int32).toNatClampNeg) + 1)))) else (if gd_okA (gN m) (gR m r0 25) 10 (((16 * x1) + x5) - 1) = true then (gd_Den (140, 141, [.ref r0, .int x1, .int x2, .int (x3 + (gI m (gR m (gR m r0 1) 7) ((gI m (gR m r0 25) (((16 * x1) + x5) : Int32).toNatClampNeg) : Int32).toNatClampNeg)), .int (x4 + 1), .int x5, .int (gI m (gR m r0 25) (((16 * x1) + x5) : Int32).toNatClampNeg), .int (gI (wI m (gR m r0 35) ((gI m (gR m (gR m r0 1) 8) ((gI m (gR m r0 25) (((16 * x1) + x5) : Int32).toNatClampNeg) : Int32).toNatClampNeg) : Int32).toNatClampNeg ((gI m (gR m r0 35) ((gI m (gR m (gR m r0 1) 8) ((gI m (gR m r0 25) (((16 * x1) + x5) : Int32).toNatClampNeg) : Int32).toNatClampNeg) : Int32).toNatClampNeg) + 1)) (gR m r0 25) ((((16 * x1) + x5) - 1) : Int32).toNatClampNeg), .int 0], [], (wI m (gR m r0 35) ((gI m (gR m (gR m r0 1) 8) ((gI m (gR m r0 25) (((16 * x1) + x5) : Int32).toNatClampNeg) : Int32).toNatClampNeg) : Int32).toNatClampNeg ((gI m (gR m r0 35) ((gI m (gR m (gR m r0 1) 8) ((gI m (gR m r0 25) (((16 * x1) + x5) : Int32).toNatClampNeg) : Int32).toNatClampNeg) : Int32).toNatClampNeg) + 1)))) else none))) else none) else none) else none) else none) else none)) else (gd_Den (140, 215, [.ref r0, .int x1, .int x2, .int x3, .int x4, .int 0, v6, v7, v8], [], m))) else none) else none := by
  refine Eq.trans (D_iload (x := x5) gk_f140_31 rfl) ?_
  refine Eq.trans (D_aload_n (x := r0) gk_f140_33 rfl) ?_
  refine Eq.trans (D_gfR gk_f140_34 (by decide)) ?_
  refine gd_ite (fun h1 => ?_) (fun _ => rfl)
  refine Eq.trans (D_iload_n (x := x1) gk_f140_37 rfl) ?_
  refine Eq.trans (D_iald gk_f140_38 gk_n10_140) ?_
  refine gd_ite (fun h2 => ?_) (fun _ => rfl)
  refine Eq.trans (D_ic_ge (t := 212) gk_f140_39 (by decide)) ?_
  refine gd_ite (fun h3 => ?_) (fun h4 => ?_)
  · refine Eq.trans (D_iload_n (x := x2) gk_f140_42 rfl) ?_
    refine Eq.trans (D_iload (x := x5) gk_f140_43 rfl) ?_
    refine Eq.trans (D_ishr gk_f140_45) ?_
    refine Eq.trans (D_iconst (x := 1) gk_f140_46 gk_c_1) ?_
    refine Eq.trans (D_iand gk_f140_47) ?_
    refine Eq.trans (D_if_ne (t := 54) gk_f140_48 (by decide)) ?_
    refine gd_ite (fun h5 => ?_) (fun h6 => ?_)
    · refine Eq.trans (D_goto (t := 206) gk_f140_51 (by decide)) ?_
      refine Eq.trans (D_iinc (x := x5) (y := 1) gk_f140_206 rfl gk_c_1 gk_st140_5) ?_
      refine Eq.trans (D_goto (t := 31) gk_f140_209 (by decide)) ?_
      rfl
    · refine Eq.trans (D_aload_n (x := r0) gk_f140_54 rfl) ?_
      refine Eq.trans (D_gfR gk_f140_55 (by decide)) ?_
      refine Eq.trans (if_pos h1) ?_
      refine Eq.trans (D_bipush (x := 16) gk_f140_58 gk_b_16) ?_
      refine Eq.trans (D_iload_n (x := x1) gk_f140_60 rfl) ?_
      refine Eq.trans (D_imul gk_f140_61) ?_
      refine Eq.trans (D_iload (x := x5) gk_f140_62 rfl) ?_
      refine Eq.trans (D_iadd gk_f140_64) ?_
      refine Eq.trans (D_iald gk_f140_65 gk_n10_140) ?_
      refine gd_ite (fun h7 => ?_) (fun _ => rfl)
      refine Eq.trans (D_istore gk_f140_66 gk_st140_6) ?_
      refine Eq.trans (D_iload_n (x := x3) gk_f140_68 rfl) ?_
      refine Eq.trans (D_aload_n (x := r0) gk_f140_69 rfl) ?_
      refine Eq.trans (D_gfR gk_f140_70 (by decide)) ?_
      refine Eq.trans (if_pos h1) ?_
      refine Eq.trans (D_gfR gk_f140_73 (by decide)) ?_
      refine gd_ite (fun h8 => ?_) (fun _ => rfl)
      refine Eq.trans (D_iload (x := (gI m (gR m r0 25) (((16 * x1) + x5) : Int32).toNatClampNeg)) gk_f140_76 rfl) ?_
      refine Eq.trans (D_iald gk_f140_78 gk_n10_140) ?_
      refine gd_ite (fun h9 => ?_) (fun _ => rfl)
      refine Eq.trans (D_iadd gk_f140_79) ?_
      refine Eq.trans (D_istore_n gk_f140_80 gk_st140_3) ?_
      refine Eq.trans (D_aload_n (x := r0) gk_f140_81 rfl) ?_
      refine Eq.trans (D_gfR gk_f140_82 (by decide)) ?_
      refine Eq.trans (if_pos h1) ?_
      refine Eq.trans (D_aload_n (x := r0) gk_f140_85 rfl) ?_
      refine Eq.trans (D_gfR gk_f140_86 (by decide)) ?_
      refine Eq.trans (if_pos h1) ?_
      refine Eq.trans (D_gfR gk_f140_89 (by decide)) ?_
      refine Eq.trans (if_pos h8) ?_
      refine Eq.trans (D_iload (x := (gI m (gR m r0 25) (((16 * x1) + x5) : Int32).toNatClampNeg)) gk_f140_92 rfl) ?_
      refine Eq.trans (D_iald gk_f140_94 gk_n10_140) ?_
      refine gd_ite (fun h10 => ?_) (fun _ => rfl)
      refine Eq.trans (D_dup2 gk_f140_95) ?_
      refine Eq.trans (D_iald gk_f140_96 gk_n10_140) ?_
      refine gd_ite (fun h11 => ?_) (fun _ => rfl)
      refine Eq.trans (D_iconst (x := 1) gk_f140_97 gk_c_1) ?_
      refine Eq.trans (D_iadd gk_f140_98) ?_
      refine Eq.trans (D_iast gk_f140_99) ?_
      refine Eq.trans (if_pos h11) ?_
      refine Eq.trans (D_iinc (x := x4) (y := 1) gk_f140_100 rfl gk_c_1 gk_st140_4) ?_
      refine Eq.trans (D_iload (x := x5) gk_f140_103 rfl) ?_
      refine Eq.trans (D_if_eq (t := 206) gk_f140_105 (by decide)) ?_
      refine gd_ite (fun h12 => ?_) (fun h13 => ?_)
      · refine Eq.trans (D_iinc (x := x5) (y := 1) gk_f140_206 rfl gk_c_1 gk_st140_5) ?_
        refine Eq.trans (D_goto (t := 31) gk_f140_209 (by decide)) ?_
        rfl
      · refine Eq.trans (D_iload_n (x := x2) gk_f140_108 rfl) ?_
        refine Eq.trans (D_iload (x := x5) gk_f140_109 rfl) ?_
        refine Eq.trans (D_iconst (x := 1) gk_f140_111 gk_c_1) ?_
        refine Eq.trans (D_isub gk_f140_112) ?_
        refine Eq.trans (D_ishr gk_f140_113) ?_
        refine Eq.trans (D_iconst (x := 1) gk_f140_114 gk_c_1) ?_
        refine Eq.trans (D_iand gk_f140_115) ?_
        refine Eq.trans (D_if_ne (t := 122) gk_f140_116 (by decide)) ?_
        refine gd_ite (fun h14 => ?_) (fun h15 => ?_)
        · refine Eq.trans (D_goto (t := 206) gk_f140_119 (by decide)) ?_
          refine Eq.trans (D_iinc (x := x5) (y := 1) gk_f140_206 rfl gk_c_1 gk_st140_5) ?_
          refine Eq.trans (D_goto (t := 31) gk_f140_209 (by decide)) ?_
          rfl
        · refine Eq.trans (D_aload_n (x := r0) gk_f140_122 rfl) ?_
          refine Eq.trans (D_gfR gk_f140_123 (by decide)) ?_
          refine Eq.trans (if_pos h1) ?_
          refine Eq.trans (D_bipush (x := 16) gk_f140_126 gk_b_16) ?_
          refine Eq.trans (D_iload_n (x := x1) gk_f140_128 rfl) ?_
          refine Eq.trans (D_imul gk_f140_129) ?_
          refine Eq.trans (D_iload (x := x5) gk_f140_130 rfl) ?_
          refine Eq.trans (D_iadd gk_f140_132) ?_
          refine Eq.trans (D_iconst (x := 1) gk_f140_133 gk_c_1) ?_
          refine Eq.trans (D_isub gk_f140_134) ?_
          refine Eq.trans (D_iald gk_f140_135 gk_n10_140) ?_
          refine gd_ite (fun h16 => ?_) (fun _ => rfl)
          refine Eq.trans (D_istore gk_f140_136 gk_st140_7) ?_
          refine Eq.trans (D_iconst (x := 0) gk_f140_138 gk_c_0) ?_
          refine Eq.trans (D_istore gk_f140_139 gk_st140_8) ?_
          rfl
  · refine Eq.trans (D_iconst (x := 0) gk_f140_212 gk_c_0) ?_
    refine Eq.trans (D_istore gk_f140_213 gk_st140_5) ?_
    rfl
set_option maxRecDepth 20000 in
set_option maxHeartbeats 4000000 in
theorem q_Mo_worthOf_141 (r0 : Nat) (x1 : Int32) (x2 : Int32) (x3 : Int32) (x4 : Int32) (x5 : Int32) (x6 : Int32) (x7 : Int32) (x8 : Int32) (m : gd_M) : gd_Den (140, 141, [.ref r0, .int x1, .int x2, .int x3, .int x4, .int x5, .int x6, .int x7, .int x8], [], m) = if gd_ok (gN m) r0 9 = true then (if gd_ok (gN m) (gR m r0 1) 7 = true then (if (x8 < (gI m (gR m r0 1) 1) : Prop) then (if gd_okA (gN m) (gR m (gR m r0 1) 10) 10 x8 = true then (if ((gI m (gR m (gR m r0 1) 10) (x8 : Int32).toNatClampNeg) = x7 : Prop) then (if gd_okA (gN m) (gR m (gR m r0 1) 11) 10 x8 = true then (if ((gI m (gR m (gR m r0 1) 11) (x8 : Int32).toNatClampNeg) = x6 : Prop) then (if gd_okA (gN m) (gR m (gR m r0 1) 12) 10 x8 = true then (gd_Den (140, 141, [.ref r0, .int x1, .int x2, .int (x3 + (gI m (gR m (gR m r0 1) 12) (x8 : Int32).toNatClampNeg)), .int x4, .int x5, .int x6, .int x7, .int (x8 + 1)], [], m)) else none) else (gd_Den (140, 141, [.ref r0, .int x1, .int x2, .int (x3 + 0), .int x4, .int x5, .int x6, .int x7, .int (x8 + 1)], [], m))) else none) else (gd_Den (140, 141, [.ref r0, .int x1, .int x2, .int (x3 + 0), .int x4, .int x5, .int x6, .int x7, .int (x8 + 1)], [], m))) else none) else (gd_Den (140, 31, [.ref r0, .int x1, .int x2, .int x3, .int x4, .int (x5 + 1), .int x6, .int x7, .int x8], [], m))) else none) else none := by
  refine Eq.trans (D_iload (x := x8) gk_f140_141 rfl) ?_
  refine Eq.trans (D_aload_n (x := r0) gk_f140_143 rfl) ?_
  refine Eq.trans (D_gfR gk_f140_144 (by decide)) ?_
  refine gd_ite (fun h1 => ?_) (fun _ => rfl)
  refine Eq.trans (D_gfI gk_f140_147 (by decide) (by decide) (by decide)) ?_
  refine gd_ite (fun h2 => ?_) (fun _ => rfl)
  refine Eq.trans (D_ic_ge (t := 206) gk_f140_150 (by decide)) ?_
  refine gd_ite (fun h3 => ?_) (fun h4 => ?_)
  · refine Eq.trans (D_iload_n (x := x3) gk_f140_153 rfl) ?_
    refine Eq.trans (D_aload_n (x := r0) gk_f140_154 rfl) ?_
    refine Eq.trans (D_gfR gk_f140_155 (by decide)) ?_
    refine Eq.trans (if_pos h1) ?_
    refine Eq.trans (D_gfR gk_f140_158 (by decide)) ?_
    refine Eq.trans (if_pos h2) ?_
    refine Eq.trans (D_iload (x := x8) gk_f140_161 rfl) ?_
    refine Eq.trans (D_iald gk_f140_163 gk_n10_140) ?_
    refine gd_ite (fun h5 => ?_) (fun _ => rfl)
    refine Eq.trans (D_iload (x := x7) gk_f140_164 rfl) ?_
    refine Eq.trans (D_ic_ne (t := 197) gk_f140_166 (by decide)) ?_
    refine gd_ite (fun h6 => ?_) (fun h7 => ?_)
    · refine Eq.trans (D_aload_n (x := r0) gk_f140_169 rfl) ?_
      refine Eq.trans (D_gfR gk_f140_170 (by decide)) ?_
      refine Eq.trans (if_pos h1) ?_
      refine Eq.trans (D_gfR gk_f140_173 (by decide)) ?_
      refine Eq.trans (if_pos h2) ?_
      refine Eq.trans (D_iload (x := x8) gk_f140_176 rfl) ?_
      refine Eq.trans (D_iald gk_f140_178 gk_n10_140) ?_
      refine gd_ite (fun h8 => ?_) (fun _ => rfl)
      refine Eq.trans (D_iload (x := x6) gk_f140_179 rfl) ?_
      refine Eq.trans (D_ic_ne (t := 197) gk_f140_181 (by decide)) ?_
      refine gd_ite (fun h9 => ?_) (fun h10 => ?_)
      · refine Eq.trans (D_aload_n (x := r0) gk_f140_184 rfl) ?_
        refine Eq.trans (D_gfR gk_f140_185 (by decide)) ?_
        refine Eq.trans (if_pos h1) ?_
        refine Eq.trans (D_gfR gk_f140_188 (by decide)) ?_
        refine Eq.trans (if_pos h2) ?_
        refine Eq.trans (D_iload (x := x8) gk_f140_191 rfl) ?_
        refine Eq.trans (D_iald gk_f140_193 gk_n10_140) ?_
        refine gd_ite (fun h11 => ?_) (fun _ => rfl)
        refine Eq.trans (D_goto (t := 198) gk_f140_194 (by decide)) ?_
        refine Eq.trans (D_iadd gk_f140_198) ?_
        refine Eq.trans (D_istore_n gk_f140_199 gk_st140_3) ?_
        refine Eq.trans (D_iinc (x := x8) (y := 1) gk_f140_200 rfl gk_c_1 gk_st140_8) ?_
        refine Eq.trans (D_goto (t := 141) gk_f140_203 (by decide)) ?_
        rfl
      · refine Eq.trans (D_iconst (x := 0) gk_f140_197 gk_c_0) ?_
        refine Eq.trans (D_iadd gk_f140_198) ?_
        refine Eq.trans (D_istore_n gk_f140_199 gk_st140_3) ?_
        refine Eq.trans (D_iinc (x := x8) (y := 1) gk_f140_200 rfl gk_c_1 gk_st140_8) ?_
        refine Eq.trans (D_goto (t := 141) gk_f140_203 (by decide)) ?_
        rfl
    · refine Eq.trans (D_iconst (x := 0) gk_f140_197 gk_c_0) ?_
      refine Eq.trans (D_iadd gk_f140_198) ?_
      refine Eq.trans (D_istore_n gk_f140_199 gk_st140_3) ?_
      refine Eq.trans (D_iinc (x := x8) (y := 1) gk_f140_200 rfl gk_c_1 gk_st140_8) ?_
      refine Eq.trans (D_goto (t := 141) gk_f140_203 (by decide)) ?_
      rfl
  · refine Eq.trans (D_iinc (x := x5) (y := 1) gk_f140_206 rfl gk_c_1 gk_st140_5) ?_
    refine Eq.trans (D_goto (t := 31) gk_f140_209 (by decide)) ?_
    rfl
set_option maxRecDepth 20000 in
set_option maxHeartbeats 4000000 in
theorem q_Mo_worthOf_215 (r0 : Nat) (x1 : Int32) (x2 : Int32) (x3 : Int32) (x4 : Int32) (x5 : Int32) (v6 : Value) (v7 : Value) (v8 : Value) (m : gd_M) : gd_Den (140, 215, [.ref r0, .int x1, .int x2, .int x3, .int x4, .int x5, v6, v7, v8], [], m) = if (x5 < 5 : Prop) then (if gd_ok (gN m) r0 9 = true then (if gd_ok (gN m) (gR m r0 1) 7 = true then (if gd_okA (gN m) (gR m (gR m r0 1) 15) 10 x5 = true then (if (0 < (gI m (gR m (gR m r0 1) 15) (x5 : Int32).toNatClampNeg) : Prop) then (if gd_okA (gN m) (gR m r0 35) 10 x5 = true then (if ((gI m (gR m r0 35) (x5 : Int32).toNatClampNeg) < (gI m (gR m (gR m r0 1) 15) (x5 : Int32).toNatClampNeg) : Prop) then (gd_Den (140, 215, [.ref r0, .int x1, .int x2, .int (x3 + 0), .int x4, .int (x5 + 1), v6, v7, v8], [], m)) else (if gd_okA (gN m) (gR m (gR m r0 1) 16) 10 x5 = true then (gd_Den (140, 215, [.ref r0, .int x1, .int x2, .int (x3 + (gI m (gR m (gR m r0 1) 16) (x5 : Int32).toNatClampNeg)), .int x4, .int (x5 + 1), v6, v7, v8], [], m)) else none)) else none) else (gd_Den (140, 215, [.ref r0, .int x1, .int x2, .int (x3 + 0), .int x4, .int (x5 + 1), v6, v7, v8], [], m))) else none) else none) else none) else (if gd_ok (gN m) r0 9 = true then (if gd_ok (gN m) (gR m r0 1) 7 = true then (if (x4 < (gI m (gR m r0 1) 19) : Prop) then (some (.int (x3 - (gI m (gR m r0 1) 20)), m)) else (some (.int x3, m))) else none) else none) := by
  refine Eq.trans (D_iload (x := x5) gk_f140_215 rfl) ?_
  refine Eq.trans (D_iconst (x := 5) gk_f140_217 gk_c_5) ?_
  refine Eq.trans (D_ic_ge (t := 277) gk_f140_218 (by decide)) ?_
  refine gd_ite (fun h1 => ?_) (fun h2 => ?_)
  · refine Eq.trans (D_iload_n (x := x3) gk_f140_221 rfl) ?_
    refine Eq.trans (D_aload_n (x := r0) gk_f140_222 rfl) ?_
    refine Eq.trans (D_gfR gk_f140_223 (by decide)) ?_
    refine gd_ite (fun h3 => ?_) (fun _ => rfl)
    refine Eq.trans (D_gfR gk_f140_226 (by decide)) ?_
    refine gd_ite (fun h4 => ?_) (fun _ => rfl)
    refine Eq.trans (D_iload (x := x5) gk_f140_229 rfl) ?_
    refine Eq.trans (D_iald gk_f140_231 gk_n10_140) ?_
    refine gd_ite (fun h5 => ?_) (fun _ => rfl)
    refine Eq.trans (D_if_le (t := 268) gk_f140_232 (by decide)) ?_
    refine gd_ite (fun h6 => ?_) (fun h7 => ?_)
    · refine Eq.trans (D_aload_n (x := r0) gk_f140_235 rfl) ?_
      refine Eq.trans (D_gfR gk_f140_236 (by decide)) ?_
      refine Eq.trans (if_pos h3) ?_
      refine Eq.trans (D_iload (x := x5) gk_f140_239 rfl) ?_
      refine Eq.trans (D_iald gk_f140_241 gk_n10_140) ?_
      refine gd_ite (fun h8 => ?_) (fun _ => rfl)
      refine Eq.trans (D_aload_n (x := r0) gk_f140_242 rfl) ?_
      refine Eq.trans (D_gfR gk_f140_243 (by decide)) ?_
      refine Eq.trans (if_pos h3) ?_
      refine Eq.trans (D_gfR gk_f140_246 (by decide)) ?_
      refine Eq.trans (if_pos h4) ?_
      refine Eq.trans (D_iload (x := x5) gk_f140_249 rfl) ?_
      refine Eq.trans (D_iald gk_f140_251 gk_n10_140) ?_
      refine Eq.trans (if_pos h5) ?_
      refine Eq.trans (D_ic_lt (t := 268) gk_f140_252 (by decide)) ?_
      refine gd_ite (fun h9 => ?_) (fun h10 => ?_)
      · refine Eq.trans (D_iconst (x := 0) gk_f140_268 gk_c_0) ?_
        refine Eq.trans (D_iadd gk_f140_269) ?_
        refine Eq.trans (D_istore_n gk_f140_270 gk_st140_3) ?_
        refine Eq.trans (D_iinc (x := x5) (y := 1) gk_f140_271 rfl gk_c_1 gk_st140_5) ?_
        refine Eq.trans (D_goto (t := 215) gk_f140_274 (by decide)) ?_
        rfl
      · refine Eq.trans (D_aload_n (x := r0) gk_f140_255 rfl) ?_
        refine Eq.trans (D_gfR gk_f140_256 (by decide)) ?_
        refine Eq.trans (if_pos h3) ?_
        refine Eq.trans (D_gfR gk_f140_259 (by decide)) ?_
        refine Eq.trans (if_pos h4) ?_
        refine Eq.trans (D_iload (x := x5) gk_f140_262 rfl) ?_
        refine Eq.trans (D_iald gk_f140_264 gk_n10_140) ?_
        refine gd_ite (fun h11 => ?_) (fun _ => rfl)
        refine Eq.trans (D_goto (t := 269) gk_f140_265 (by decide)) ?_
        refine Eq.trans (D_iadd gk_f140_269) ?_
        refine Eq.trans (D_istore_n gk_f140_270 gk_st140_3) ?_
        refine Eq.trans (D_iinc (x := x5) (y := 1) gk_f140_271 rfl gk_c_1 gk_st140_5) ?_
        refine Eq.trans (D_goto (t := 215) gk_f140_274 (by decide)) ?_
        rfl
    · refine Eq.trans (D_iconst (x := 0) gk_f140_268 gk_c_0) ?_
      refine Eq.trans (D_iadd gk_f140_269) ?_
      refine Eq.trans (D_istore_n gk_f140_270 gk_st140_3) ?_
      refine Eq.trans (D_iinc (x := x5) (y := 1) gk_f140_271 rfl gk_c_1 gk_st140_5) ?_
      refine Eq.trans (D_goto (t := 215) gk_f140_274 (by decide)) ?_
      rfl
  · refine Eq.trans (D_iload (x := x4) gk_f140_277 rfl) ?_
    refine Eq.trans (D_aload_n (x := r0) gk_f140_279 rfl) ?_
    refine Eq.trans (D_gfR gk_f140_280 (by decide)) ?_
    refine gd_ite (fun h12 => ?_) (fun _ => rfl)
    refine Eq.trans (D_gfI gk_f140_283 (by decide) (by decide) (by decide)) ?_
    refine gd_ite (fun h13 => ?_) (fun _ => rfl)
    refine Eq.trans (D_ic_ge (t := 301) gk_f140_286 (by decide)) ?_
    refine gd_ite (fun h14 => ?_) (fun h15 => ?_)
    · refine Eq.trans (D_iload_n (x := x3) gk_f140_289 rfl) ?_
      refine Eq.trans (D_aload_n (x := r0) gk_f140_290 rfl) ?_
      refine Eq.trans (D_gfR gk_f140_291 (by decide)) ?_
      refine Eq.trans (if_pos h12) ?_
      refine Eq.trans (D_gfI gk_f140_294 (by decide) (by decide) (by decide)) ?_
      refine Eq.trans (if_pos h13) ?_
      refine Eq.trans (D_isub gk_f140_297) ?_
      refine Eq.trans (D_goto (t := 302) gk_f140_298 (by decide)) ?_
      refine Eq.trans (D_ireturn gk_f140_302 gk_rk140) ?_
      rfl
    · refine Eq.trans (D_iload_n (x := x3) gk_f140_301 rfl) ?_
      refine Eq.trans (D_ireturn gk_f140_302 gk_rk140) ?_
      rfl
/-! GymDeskModel.tryAll (I)V -/
set_option maxRecDepth 20000 in
theorem gk_f141_0 : gd_fetch 141 0 = some (0, .aload_n 0, 1, 0, 0, 0, 0, 0) := rfl
set_option maxRecDepth 20000 in
theorem gk_f141_1 : gd_fetch 141 1 = some (1, .getfield 84, 3, 1197, 9, 34, 4, 1) := rfl
set_option maxRecDepth 20000 in
theorem gk_f141_4 : gd_fetch 141 4 = some (4, .iload_n 1, 1, 0, 0, 0, 0, 0) := rfl
set_option maxRecDepth 20000 in
theorem gk_f141_5 : gd_fetch 141 5 = some (5, .baload, 1, 0, 0, 0, 0, 0) := rfl
set_option maxRecDepth 20000 in
theorem gk_f141_6 : gd_fetch 141 6 = some (6, .ifCond .eq 4, 3, 0, 0, 0, 0, 0) := rfl
set_option maxRecDepth 20000 in
theorem gk_f141_9 : gd_fetch 141 9 = some (9, .return_, 1, 0, 0, 0, 0, 0) := rfl
set_option maxRecDepth 20000 in
theorem gk_f141_10 : gd_fetch 141 10 = some (10, .iconst 0, 1, 0, 0, 0, 0, 0) := rfl
set_option maxRecDepth 20000 in
theorem gk_f141_11 : gd_fetch 141 11 = some (11, .istore_n 2, 1, 0, 0, 0, 0, 0) := rfl
set_option maxRecDepth 20000 in
theorem gk_f141_12 : gd_fetch 141 12 = some (12, .iconst 1, 1, 0, 0, 0, 0, 0) := rfl
set_option maxRecDepth 20000 in
theorem gk_f141_13 : gd_fetch 141 13 = some (13, .istore_n 3, 1, 0, 0, 0, 0, 0) := rfl
set_option maxRecDepth 20000 in
theorem gk_f141_14 : gd_fetch 141 14 = some (14, .iconst 0, 1, 0, 0, 0, 0, 0) := rfl
set_option maxRecDepth 20000 in
theorem gk_f141_15 : gd_fetch 141 15 = some (15, .istore 4, 2, 0, 0, 0, 0, 0) := rfl
set_option maxRecDepth 20000 in
theorem gk_f141_17 : gd_fetch 141 17 = some (17, .iload 4, 2, 0, 0, 0, 0, 0) := rfl
set_option maxRecDepth 20000 in
theorem gk_f141_19 : gd_fetch 141 19 = some (19, .aload_n 0, 1, 0, 0, 0, 0, 0) := rfl
set_option maxRecDepth 20000 in
theorem gk_f141_20 : gd_fetch 141 20 = some (20, .getfield 54, 3, 1187, 9, 24, 4, 1) := rfl
set_option maxRecDepth 20000 in
theorem gk_f141_23 : gd_fetch 141 23 = some (23, .iload_n 1, 1, 0, 0, 0, 0, 0) := rfl
set_option maxRecDepth 20000 in
theorem gk_f141_24 : gd_fetch 141 24 = some (24, .iaload, 1, 0, 0, 0, 0, 0) := rfl
set_option maxRecDepth 20000 in
theorem gk_f141_25 : gd_fetch 141 25 = some (25, .if_icmp .ge 60, 3, 0, 0, 0, 0, 0) := rfl
set_option maxRecDepth 20000 in
theorem gk_f141_28 : gd_fetch 141 28 = some (28, .iload_n 3, 1, 0, 0, 0, 0, 0) := rfl
set_option maxRecDepth 20000 in
theorem gk_f141_29 : gd_fetch 141 29 = some (29, .ifCond .eq 23, 3, 0, 0, 0, 0, 0) := rfl
set_option maxRecDepth 20000 in
theorem gk_f141_32 : gd_fetch 141 32 = some (32, .aload_n 0, 1, 0, 0, 0, 0, 0) := rfl
set_option maxRecDepth 20000 in
theorem gk_f141_33 : gd_fetch 141 33 = some (33, .getfield 57, 3, 1188, 9, 25, 4, 1) := rfl
set_option maxRecDepth 20000 in
theorem gk_f141_36 : gd_fetch 141 36 = some (36, .bipush 16, 2, 0, 0, 0, 0, 0) := rfl
set_option maxRecDepth 20000 in
theorem gk_f141_38 : gd_fetch 141 38 = some (38, .iload_n 1, 1, 0, 0, 0, 0, 0) := rfl
set_option maxRecDepth 20000 in
theorem gk_f141_39 : gd_fetch 141 39 = some (39, .imul, 1, 0, 0, 0, 0, 0) := rfl
set_option maxRecDepth 20000 in
theorem gk_f141_40 : gd_fetch 141 40 = some (40, .iload 4, 2, 0, 0, 0, 0, 0) := rfl
set_option maxRecDepth 20000 in
theorem gk_f141_42 : gd_fetch 141 42 = some (42, .iadd, 1, 0, 0, 0, 0, 0) := rfl
set_option maxRecDepth 20000 in
theorem gk_f141_43 : gd_fetch 141 43 = some (43, .iaload, 1, 0, 0, 0, 0, 0) := rfl
set_option maxRecDepth 20000 in
theorem gk_f141_44 : gd_fetch 141 44 = some (44, .iconst (-1), 1, 0, 0, 0, 0, 0) := rfl
set_option maxRecDepth 20000 in
theorem gk_f141_45 : gd_fetch 141 45 = some (45, .if_icmp .eq 7, 3, 0, 0, 0, 0, 0) := rfl
set_option maxRecDepth 20000 in
theorem gk_f141_48 : gd_fetch 141 48 = some (48, .iconst 1, 1, 0, 0, 0, 0, 0) := rfl
set_option maxRecDepth 20000 in
theorem gk_f141_49 : gd_fetch 141 49 = some (49, .goto 4, 3, 0, 0, 0, 0, 0) := rfl
set_option maxRecDepth 20000 in
theorem gk_f141_52 : gd_fetch 141 52 = some (52, .iconst 0, 1, 0, 0, 0, 0, 0) := rfl
set_option maxRecDepth 20000 in
theorem gk_f141_53 : gd_fetch 141 53 = some (53, .istore_n 3, 1, 0, 0, 0, 0, 0) := rfl
set_option maxRecDepth 20000 in
theorem gk_f141_54 : gd_fetch 141 54 = some (54, .iload_n 2, 1, 0, 0, 0, 0, 0) := rfl
set_option maxRecDepth 20000 in
theorem gk_f141_55 : gd_fetch 141 55 = some (55, .iload_n 3, 1, 0, 0, 0, 0, 0) := rfl
set_option maxRecDepth 20000 in
theorem gk_f141_56 : gd_fetch 141 56 = some (56, .ifCond .eq 20, 3, 0, 0, 0, 0, 0) := rfl
set_option maxRecDepth 20000 in
theorem gk_f141_59 : gd_fetch 141 59 = some (59, .aload_n 0, 1, 0, 0, 0, 0, 0) := rfl
set_option maxRecDepth 20000 in
theorem gk_f141_60 : gd_fetch 141 60 = some (60, .iload_n 1, 1, 0, 0, 0, 0, 0) := rfl
set_option maxRecDepth 20000 in
theorem gk_f141_61 : gd_fetch 141 61 = some (61, .iload 4, 2, 0, 0, 0, 0, 0) := rfl
set_option maxRecDepth 20000 in
theorem gk_f141_63 : gd_fetch 141 63 = some (63, .invokevirtual 348, 3, 1459, 138, 2, 0, 0) := rfl
set_option maxRecDepth 20000 in
theorem gk_f141_66 : gd_fetch 141 66 = some (66, .ifCond .ne 10, 3, 0, 0, 0, 0, 0) := rfl
set_option maxRecDepth 20000 in
theorem gk_f141_69 : gd_fetch 141 69 = some (69, .iconst 1, 1, 0, 0, 0, 0, 0) := rfl
set_option maxRecDepth 20000 in
theorem gk_f141_70 : gd_fetch 141 70 = some (70, .iload 4, 2, 0, 0, 0, 0, 0) := rfl
set_option maxRecDepth 20000 in
theorem gk_f141_72 : gd_fetch 141 72 = some (72, .ishl, 1, 0, 0, 0, 0, 0) := rfl
set_option maxRecDepth 20000 in
theorem gk_f141_73 : gd_fetch 141 73 = some (73, .goto 4, 3, 0, 0, 0, 0, 0) := rfl
set_option maxRecDepth 20000 in
theorem gk_f141_76 : gd_fetch 141 76 = some (76, .iconst 0, 1, 0, 0, 0, 0, 0) := rfl
set_option maxRecDepth 20000 in
theorem gk_f141_77 : gd_fetch 141 77 = some (77, .ior, 1, 0, 0, 0, 0, 0) := rfl
set_option maxRecDepth 20000 in
theorem gk_f141_78 : gd_fetch 141 78 = some (78, .istore_n 2, 1, 0, 0, 0, 0, 0) := rfl
set_option maxRecDepth 20000 in
theorem gk_f141_79 : gd_fetch 141 79 = some (79, .iinc 4 1, 3, 0, 0, 0, 0, 0) := rfl
set_option maxRecDepth 20000 in
theorem gk_f141_82 : gd_fetch 141 82 = some (82, .goto (-65), 3, 0, 0, 0, 0, 0) := rfl
set_option maxRecDepth 20000 in
theorem gk_f141_85 : gd_fetch 141 85 = some (85, .aload_n 0, 1, 0, 0, 0, 0, 0) := rfl
set_option maxRecDepth 20000 in
theorem gk_f141_86 : gd_fetch 141 86 = some (86, .getfield 78, 3, 1195, 9, 32, 4, 1) := rfl
set_option maxRecDepth 20000 in
theorem gk_f141_89 : gd_fetch 141 89 = some (89, .iload_n 1, 1, 0, 0, 0, 0, 0) := rfl
set_option maxRecDepth 20000 in
theorem gk_f141_90 : gd_fetch 141 90 = some (90, .ldc_w 353, 3, 1463, 0, 0, 0, (-2147483648)) := rfl
set_option maxRecDepth 20000 in
theorem gk_f141_93 : gd_fetch 141 93 = some (93, .iastore, 1, 0, 0, 0, 0, 0) := rfl
set_option maxRecDepth 20000 in
theorem gk_f141_94 : gd_fetch 141 94 = some (94, .iconst 0, 1, 0, 0, 0, 0, 0) := rfl
set_option maxRecDepth 20000 in
theorem gk_f141_95 : gd_fetch 141 95 = some (95, .istore 4, 2, 0, 0, 0, 0, 0) := rfl
set_option maxRecDepth 20000 in
theorem gk_f141_97 : gd_fetch 141 97 = some (97, .iconst 1, 1, 0, 0, 0, 0, 0) := rfl
set_option maxRecDepth 20000 in
theorem gk_f141_98 : gd_fetch 141 98 = some (98, .istore 5, 2, 0, 0, 0, 0, 0) := rfl
set_option maxRecDepth 20000 in
theorem gk_f141_100 : gd_fetch 141 100 = some (100, .iload 5, 2, 0, 0, 0, 0, 0) := rfl
set_option maxRecDepth 20000 in
theorem gk_f141_102 : gd_fetch 141 102 = some (102, .ifCond .eq 73, 3, 0, 0, 0, 0, 0) := rfl
set_option maxRecDepth 20000 in
theorem gk_f141_105 : gd_fetch 141 105 = some (105, .aload_n 0, 1, 0, 0, 0, 0, 0) := rfl
set_option maxRecDepth 20000 in
theorem gk_f141_106 : gd_fetch 141 106 = some (106, .iload_n 1, 1, 0, 0, 0, 0, 0) := rfl
set_option maxRecDepth 20000 in
theorem gk_f141_107 : gd_fetch 141 107 = some (107, .iload 4, 2, 0, 0, 0, 0, 0) := rfl
set_option maxRecDepth 20000 in
theorem gk_f141_109 : gd_fetch 141 109 = some (109, .invokevirtual 354, 3, 1464, 139, 2, 0, 0) := rfl
set_option maxRecDepth 20000 in
theorem gk_f141_112 : gd_fetch 141 112 = some (112, .ifCond .eq 39, 3, 0, 0, 0, 0, 0) := rfl
set_option maxRecDepth 20000 in
theorem gk_f141_115 : gd_fetch 141 115 = some (115, .aload_n 0, 1, 0, 0, 0, 0, 0) := rfl
set_option maxRecDepth 20000 in
theorem gk_f141_116 : gd_fetch 141 116 = some (116, .iload_n 1, 1, 0, 0, 0, 0, 0) := rfl
set_option maxRecDepth 20000 in
theorem gk_f141_117 : gd_fetch 141 117 = some (117, .iload 4, 2, 0, 0, 0, 0, 0) := rfl
set_option maxRecDepth 20000 in
theorem gk_f141_119 : gd_fetch 141 119 = some (119, .invokevirtual 357, 3, 1468, 140, 2, 0, 0) := rfl
set_option maxRecDepth 20000 in
theorem gk_f141_122 : gd_fetch 141 122 = some (122, .istore 6, 2, 0, 0, 0, 0, 0) := rfl
set_option maxRecDepth 20000 in
theorem gk_f141_124 : gd_fetch 141 124 = some (124, .iload 6, 2, 0, 0, 0, 0, 0) := rfl
set_option maxRecDepth 20000 in
theorem gk_f141_126 : gd_fetch 141 126 = some (126, .aload_n 0, 1, 0, 0, 0, 0, 0) := rfl
set_option maxRecDepth 20000 in
theorem gk_f141_127 : gd_fetch 141 127 = some (127, .getfield 78, 3, 1195, 9, 32, 4, 1) := rfl
set_option maxRecDepth 20000 in
theorem gk_f141_130 : gd_fetch 141 130 = some (130, .iload_n 1, 1, 0, 0, 0, 0, 0) := rfl
set_option maxRecDepth 20000 in
theorem gk_f141_131 : gd_fetch 141 131 = some (131, .iaload, 1, 0, 0, 0, 0, 0) := rfl
set_option maxRecDepth 20000 in
theorem gk_f141_132 : gd_fetch 141 132 = some (132, .if_icmp .le 19, 3, 0, 0, 0, 0, 0) := rfl
set_option maxRecDepth 20000 in
theorem gk_f141_135 : gd_fetch 141 135 = some (135, .aload_n 0, 1, 0, 0, 0, 0, 0) := rfl
set_option maxRecDepth 20000 in
theorem gk_f141_136 : gd_fetch 141 136 = some (136, .getfield 78, 3, 1195, 9, 32, 4, 1) := rfl
set_option maxRecDepth 20000 in
theorem gk_f141_139 : gd_fetch 141 139 = some (139, .iload_n 1, 1, 0, 0, 0, 0, 0) := rfl
set_option maxRecDepth 20000 in
theorem gk_f141_140 : gd_fetch 141 140 = some (140, .iload 6, 2, 0, 0, 0, 0, 0) := rfl
set_option maxRecDepth 20000 in
theorem gk_f141_142 : gd_fetch 141 142 = some (142, .iastore, 1, 0, 0, 0, 0, 0) := rfl
set_option maxRecDepth 20000 in
theorem gk_f141_143 : gd_fetch 141 143 = some (143, .aload_n 0, 1, 0, 0, 0, 0, 0) := rfl
set_option maxRecDepth 20000 in
theorem gk_f141_144 : gd_fetch 141 144 = some (144, .getfield 81, 3, 1196, 9, 33, 4, 1) := rfl
set_option maxRecDepth 20000 in
theorem gk_f141_147 : gd_fetch 141 147 = some (147, .iload_n 1, 1, 0, 0, 0, 0, 0) := rfl
set_option maxRecDepth 20000 in
theorem gk_f141_148 : gd_fetch 141 148 = some (148, .iload 4, 2, 0, 0, 0, 0, 0) := rfl
set_option maxRecDepth 20000 in
theorem gk_f141_150 : gd_fetch 141 150 = some (150, .iastore, 1, 0, 0, 0, 0, 0) := rfl
set_option maxRecDepth 20000 in
theorem gk_f141_151 : gd_fetch 141 151 = some (151, .iload 4, 2, 0, 0, 0, 0, 0) := rfl
set_option maxRecDepth 20000 in
theorem gk_f141_153 : gd_fetch 141 153 = some (153, .iload_n 2, 1, 0, 0, 0, 0, 0) := rfl
set_option maxRecDepth 20000 in
theorem gk_f141_154 : gd_fetch 141 154 = some (154, .if_icmp .eq 7, 3, 0, 0, 0, 0, 0) := rfl
set_option maxRecDepth 20000 in
theorem gk_f141_157 : gd_fetch 141 157 = some (157, .iconst 1, 1, 0, 0, 0, 0, 0) := rfl
set_option maxRecDepth 20000 in
theorem gk_f141_158 : gd_fetch 141 158 = some (158, .goto 4, 3, 0, 0, 0, 0, 0) := rfl
set_option maxRecDepth 20000 in
theorem gk_f141_161 : gd_fetch 141 161 = some (161, .iconst 0, 1, 0, 0, 0, 0, 0) := rfl
set_option maxRecDepth 20000 in
theorem gk_f141_162 : gd_fetch 141 162 = some (162, .istore 5, 2, 0, 0, 0, 0, 0) := rfl
set_option maxRecDepth 20000 in
theorem gk_f141_164 : gd_fetch 141 164 = some (164, .iload 4, 2, 0, 0, 0, 0, 0) := rfl
set_option maxRecDepth 20000 in
theorem gk_f141_166 : gd_fetch 141 166 = some (166, .iload_n 2, 1, 0, 0, 0, 0, 0) := rfl
set_option maxRecDepth 20000 in
theorem gk_f141_167 : gd_fetch 141 167 = some (167, .isub, 1, 0, 0, 0, 0, 0) := rfl
set_option maxRecDepth 20000 in
theorem gk_f141_168 : gd_fetch 141 168 = some (168, .iload_n 2, 1, 0, 0, 0, 0, 0) := rfl
set_option maxRecDepth 20000 in
theorem gk_f141_169 : gd_fetch 141 169 = some (169, .iand, 1, 0, 0, 0, 0, 0) := rfl
set_option maxRecDepth 20000 in
theorem gk_f141_170 : gd_fetch 141 170 = some (170, .istore 4, 2, 0, 0, 0, 0, 0) := rfl
set_option maxRecDepth 20000 in
theorem gk_f141_172 : gd_fetch 141 172 = some (172, .goto (-72), 3, 0, 0, 0, 0, 0) := rfl
set_option maxRecDepth 20000 in
theorem gk_f141_175 : gd_fetch 141 175 = some (175, .aload_n 0, 1, 0, 0, 0, 0, 0) := rfl
set_option maxRecDepth 20000 in
theorem gk_f141_176 : gd_fetch 141 176 = some (176, .getfield 84, 3, 1197, 9, 34, 4, 1) := rfl
set_option maxRecDepth 20000 in
theorem gk_f141_179 : gd_fetch 141 179 = some (179, .iload_n 1, 1, 0, 0, 0, 0, 0) := rfl
set_option maxRecDepth 20000 in
theorem gk_f141_180 : gd_fetch 141 180 = some (180, .iconst 1, 1, 0, 0, 0, 0, 0) := rfl
set_option maxRecDepth 20000 in
theorem gk_f141_181 : gd_fetch 141 181 = some (181, .bastore, 1, 0, 0, 0, 0, 0) := rfl
set_option maxRecDepth 20000 in
theorem gk_f141_182 : gd_fetch 141 182 = some (182, .return_, 1, 0, 0, 0, 0, 0) := rfl
set_option maxRecDepth 20000 in
set_option maxHeartbeats 4000000 in
theorem q_Mo_tryAll (r0 : Nat) (x1 : Int32) (m : gd_M) : gd_call 141 [.ref r0, .int x1] m = if gd_ok (gN m) r0 9 = true then (if gd_okA (gN m) (gR m r0 34) 11 x1 = true then (if ((gI m (gR m r0 34) (x1 : Int32).toNatClampNeg) = 0 : Prop) then (gd_Den (141, 17, [.ref r0, .int x1, .int 0, .int 1, .int 0, .null, .null], [], m)) else (some (.null, m))) else none) else none := by
  refine Eq.trans (show gd_call 141 [.ref r0, .int x1] m = gd_Den (141, 0, [.ref r0, .int x1, .null, .null, .null, .null, .null], [], m) from by unfold gd_call gd_ent; rw [gk_ml141]; rfl) ?_
  refine Eq.trans (D_aload_n (x := r0) gk_f141_0 rfl) ?_
  refine Eq.trans (D_gfR gk_f141_1 (by decide)) ?_
  refine gd_ite (fun h1 => ?_) (fun _ => rfl)
  refine Eq.trans (D_iload_n (x := x1) gk_f141_4 rfl) ?_
  refine Eq.trans (D_bald (kd := 11) gk_f141_5 gk_n12_141 gk_bk141) ?_
  refine gd_ite (fun h2 => ?_) (fun _ => rfl)
  refine Eq.trans (D_if_eq (t := 10) gk_f141_6 (by decide)) ?_
  refine gd_ite (fun h3 => ?_) (fun h4 => ?_)
  · refine Eq.trans (D_iconst (x := 0) gk_f141_10 gk_c_0) ?_
    refine Eq.trans (D_istore_n gk_f141_11 gk_st141_2) ?_
    refine Eq.trans (D_iconst (x := 1) gk_f141_12 gk_c_1) ?_
    refine Eq.trans (D_istore_n gk_f141_13 gk_st141_3) ?_
    refine Eq.trans (D_iconst (x := 0) gk_f141_14 gk_c_0) ?_
    refine Eq.trans (D_istore gk_f141_15 gk_st141_4) ?_
    rfl
  · refine Eq.trans (D_vreturn gk_f141_9 gk_rk141) ?_
    rfl
set_option maxRecDepth 20000 in
set_option maxHeartbeats 4000000 in
theorem q_Mo_tryAll_17 (r0 : Nat) (x1 : Int32) (x2 : Int32) (x3 : Int32) (x4 : Int32) (m : gd_M) : gd_Den (141, 17, [.ref r0, .int x1, .int x2, .int x3, .int x4, .null, .null], [], m) = if gd_ok (gN m) r0 9 = true then (if gd_okA (gN m) (gR m r0 24) 10 x1 = true then (if (x4 < (gI m (gR m r0 24) (x1 : Int32).toNatClampNeg) : Prop) then (if (x3 = 0 : Prop) then (gd_Den (141, 17, [.ref r0, .int x1, .int (x2 ||| 0), .int 0, .int (x4 + 1), .null, .null], [], m)) else (if gd_okA (gN m) (gR m r0 25) 10 ((16 * x1) + x4) = true then (if ((gI m (gR m r0 25) (((16 * x1) + x4) : Int32).toNatClampNeg) = (-1) : Prop) then (gd_Den (141, 17, [.ref r0, .int x1, .int (x2 ||| 0), .int 0, .int (x4 + 1), .null, .null], [], m)) else ((gd_call 138 [.ref r0, .int x1, .int x4] m).bind (gd_kI fun z12 m10 => if (z12 = 0 : Prop) then (gd_Den (141, 17, [.ref r0, .int x1, .int (x2 ||| ((1 : Int32) <<< (x4 &&& 31))), .int 1, .int (x4 + 1), .null, .null], [], m10)) else (gd_Den (141, 17, [.ref r0, .int x1, .int (x2 ||| 0), .int 1, .int (x4 + 1), .null, .null], [], m10))))) else none)) else (if gd_okA (gN m) (gR m r0 32) 10 x1 = true then (gd_Den (141, 100, [.ref r0, .int x1, .int x2, .int x3, .int 0, .int 1, .null], [], (wI m (gR m r0 32) (x1 : Int32).toNatClampNeg (-2147483648)))) else none)) else none) else none := by
  refine Eq.trans (D_iload (x := x4) gk_f141_17 rfl) ?_
  refine Eq.trans (D_aload_n (x := r0) gk_f141_19 rfl) ?_
  refine Eq.trans (D_gfR gk_f141_20 (by decide)) ?_
  refine gd_ite (fun h1 => ?_) (fun _ => rfl)
  refine Eq.trans (D_iload_n (x := x1) gk_f141_23 rfl) ?_
  refine Eq.trans (D_iald gk_f141_24 gk_n10_141) ?_
  refine gd_ite (fun h2 => ?_) (fun _ => rfl)
  refine Eq.trans (D_ic_ge (t := 85) gk_f141_25 (by decide)) ?_
  refine gd_ite (fun h3 => ?_) (fun h4 => ?_)
  · refine Eq.trans (D_iload_n (x := x3) gk_f141_28 rfl) ?_
    refine Eq.trans (D_if_eq (t := 52) gk_f141_29 (by decide)) ?_
    refine gd_ite (fun h5 => ?_) (fun h6 => ?_)
    · refine Eq.trans (D_iconst (x := 0) gk_f141_52 gk_c_0) ?_
      refine Eq.trans (D_istore_n gk_f141_53 gk_st141_3) ?_
      refine Eq.trans (D_iload_n (x := x2) gk_f141_54 rfl) ?_
      refine Eq.trans (D_iload_n (x := 0) gk_f141_55 rfl) ?_
      refine Eq.trans (D_if_eq (t := 76) gk_f141_56 (by decide)) ?_
      refine Eq.trans (if_pos (by decide)) ?_
      refine Eq.trans (D_iconst (x := 0) gk_f141_76 gk_c_0) ?_
      refine Eq.trans (D_ior gk_f141_77) ?_
      refine Eq.trans (D_istore_n gk_f141_78 gk_st141_2) ?_
      refine Eq.trans (D_iinc (x := x4) (y := 1) gk_f141_79 rfl gk_c_1 gk_st141_4) ?_
      refine Eq.trans (D_goto (t := 17) gk_f141_82 (by decide)) ?_
      rfl
    · refine Eq.trans (D_aload_n (x := r0) gk_f141_32 rfl) ?_
      refine Eq.trans (D_gfR gk_f141_33 (by decide)) ?_
      refine Eq.trans (if_pos h1) ?_
      refine Eq.trans (D_bipush (x := 16) gk_f141_36 gk_b_16) ?_
      refine Eq.trans (D_iload_n (x := x1) gk_f141_38 rfl) ?_
      refine Eq.trans (D_imul gk_f141_39) ?_
      refine Eq.trans (D_iload (x := x4) gk_f141_40 rfl) ?_
      refine Eq.trans (D_iadd gk_f141_42) ?_
      refine Eq.trans (D_iald gk_f141_43 gk_n10_141) ?_
      refine gd_ite (fun h7 => ?_) (fun _ => rfl)
      refine Eq.trans (D_iconst (x := (-1)) gk_f141_44 gk_c_m1) ?_
      refine Eq.trans (D_ic_eq (t := 52) gk_f141_45 (by decide)) ?_
      refine gd_ite (fun h8 => ?_) (fun h9 => ?_)
      · refine Eq.trans (D_iconst (x := 0) gk_f141_52 gk_c_0) ?_
        refine Eq.trans (D_istore_n gk_f141_53 gk_st141_3) ?_
        refine Eq.trans (D_iload_n (x := x2) gk_f141_54 rfl) ?_
        refine Eq.trans (D_iload_n (x := 0) gk_f141_55 rfl) ?_
        refine Eq.trans (D_if_eq (t := 76) gk_f141_56 (by decide)) ?_
        refine Eq.trans (if_pos (by decide)) ?_
        refine Eq.trans (D_iconst (x := 0) gk_f141_76 gk_c_0) ?_
        refine Eq.trans (D_ior gk_f141_77) ?_
        refine Eq.trans (D_istore_n gk_f141_78 gk_st141_2) ?_
        refine Eq.trans (D_iinc (x := x4) (y := 1) gk_f141_79 rfl gk_c_1 gk_st141_4) ?_
        refine Eq.trans (D_goto (t := 17) gk_f141_82 (by decide)) ?_
        rfl
      · refine Eq.trans (D_iconst (x := 1) gk_f141_48 gk_c_1) ?_
        refine Eq.trans (D_goto (t := 53) gk_f141_49 (by decide)) ?_
        refine Eq.trans (D_istore_n gk_f141_53 gk_st141_3) ?_
        refine Eq.trans (D_iload_n (x := x2) gk_f141_54 rfl) ?_
        refine Eq.trans (D_iload_n (x := 1) gk_f141_55 rfl) ?_
        refine Eq.trans (D_if_eq (t := 76) gk_f141_56 (by decide)) ?_
        refine Eq.trans (if_neg (by decide)) ?_
        refine Eq.trans (D_aload_n (x := r0) gk_f141_59 rfl) ?_
        refine Eq.trans (D_iload_n (x := x1) gk_f141_60 rfl) ?_
        refine Eq.trans (D_iload (x := x4) gk_f141_61 rfl) ?_
        refine Eq.trans (D_ivZ (cl := 9) (args := [.ref r0, .int x1, .int x4]) (rest := [.int x2]) gk_f141_63 rfl rfl (gd_rmk gk_rm141_138 gk_ln138 gk_ml138 rfl rfl rfl) gk_rk138 (gd_hnd_n gk_nc141) gk_nc138 gk_n11_138 gk_cl138) ?_
        refine Eq.trans (if_pos h1) ?_
        refine gd_bnd (gd_kI_c fun z12 m10 => ?_)
        refine Eq.trans (D_if_ne (t := 76) gk_f141_66 (by decide)) ?_
        refine gd_ite (fun h13 => ?_) (fun h14 => ?_)
        · refine Eq.trans (D_iconst (x := 1) gk_f141_69 gk_c_1) ?_
          refine Eq.trans (D_iload (x := x4) gk_f141_70 rfl) ?_
          refine Eq.trans (D_ishl gk_f141_72) ?_
          refine Eq.trans (D_goto (t := 77) gk_f141_73 (by decide)) ?_
          refine Eq.trans (D_ior gk_f141_77) ?_
          refine Eq.trans (D_istore_n gk_f141_78 gk_st141_2) ?_
          refine Eq.trans (D_iinc (x := x4) (y := 1) gk_f141_79 rfl gk_c_1 gk_st141_4) ?_
          refine Eq.trans (D_goto (t := 17) gk_f141_82 (by decide)) ?_
          rfl
        · refine Eq.trans (D_iconst (x := 0) gk_f141_76 gk_c_0) ?_
          refine Eq.trans (D_ior gk_f141_77) ?_
          refine Eq.trans (D_istore_n gk_f141_78 gk_st141_2) ?_
          refine Eq.trans (D_iinc (x := x4) (y := 1) gk_f141_79 rfl gk_c_1 gk_st141_4) ?_
          refine Eq.trans (D_goto (t := 17) gk_f141_82 (by decide)) ?_
          rfl
  · refine Eq.trans (D_aload_n (x := r0) gk_f141_85 rfl) ?_
    refine Eq.trans (D_gfR gk_f141_86 (by decide)) ?_
    refine Eq.trans (if_pos h1) ?_
    refine Eq.trans (D_iload_n (x := x1) gk_f141_89 rfl) ?_
    refine Eq.trans (D_ldc_w (x := (-2147483648)) gk_f141_90 gk_c_m2147483648) ?_
    refine Eq.trans (D_iast gk_f141_93) ?_
    refine gd_ite (fun h15 => ?_) (fun _ => rfl)
    refine Eq.trans (D_iconst (x := 0) gk_f141_94 gk_c_0) ?_
    refine Eq.trans (D_istore gk_f141_95 gk_st141_4) ?_
    refine Eq.trans (D_iconst (x := 1) gk_f141_97 gk_c_1) ?_
    refine Eq.trans (D_istore gk_f141_98 gk_st141_5) ?_
    rfl
set_option maxRecDepth 20000 in
set_option maxHeartbeats 4000000 in
theorem q_Mo_tryAll_100 (r0 : Nat) (x1 : Int32) (x2 : Int32) (x3 : Int32) (x4 : Int32) (x5 : Int32) (v6 : Value) (m : gd_M) : gd_Den (141, 100, [.ref r0, .int x1, .int x2, .int x3, .int x4, .int x5, v6], [], m) = if (x5 = 0 : Prop) then (if gd_ok (gN m) r0 9 = true then (if gd_okA (gN m) (gR m r0 34) 11 x1 = true then (some (.null, (wI m (gR m r0 34) (x1 : Int32).toNatClampNeg (vp_nar .boolean 1)))) else none) else none) else (if gd_ok (gN m) r0 9 = true then ((gd_call 139 [.ref r0, .int x1, .int x4] m).bind (gd_kI fun z8 m6 => if (z8 = 0 : Prop) then (if (x4 = x2 : Prop) then (gd_Den (141, 100, [.ref r0, .int x1, .int x2, .int x3, .int ((x4 - x2) &&& x2), .int 0, v6], [], m6)) else (gd_Den (141, 100, [.ref r0, .int x1, .int x2, .int x3, .int ((x4 - x2) &&& x2), .int 1, v6], [], m6))) else (if gd_ok (gN m6) r0 9 = true then ((gd_call 140 [.ref r0, .int x1, .int x4] m6).bind (gd_kI fun z16 m14 => if gd_ok (gN m14) r0 9 = true then (if gd_okA (gN m14) (gR m14 r0 32) 10 x1 = true then (if ((gI m14 (gR m14 r0 32) (x1 : Int32).toNatClampNeg) < z16 : Prop) then (if gd_okA (gN m14) (gR m14 r0 33) 10 x1 = true then (if (x4 = x2 : Prop) then (gd_Den (141, 100, [.ref r0, .int x1, .int x2, .int x3, .int ((x4 - x2) &&& x2), .int 0, .int z16], [], (wI (wI m14 (gR m14 r0 32) (x1 : Int32).toNatClampNeg z16) (gR m14 r0 33) (x1 : Int32).toNatClampNeg x4))) else (gd_Den (141, 100, [.ref r0, .int x1, .int x2, .int x3, .int ((x4 - x2) &&& x2), .int 1, .int z16], [], (wI (wI m14 (gR m14 r0 32) (x1 : Int32).toNatClampNeg z16) (gR m14 r0 33) (x1 : Int32).toNatClampNeg x4)))) else none) else (if (x4 = x2 : Prop) then (gd_Den (141, 100, [.ref r0, .int x1, .int x2, .int x3, .int ((x4 - x2) &&& x2), .int 0, .int z16], [], m14)) else (gd_Den (141, 100, [.ref r0, .int x1, .int x2, .int x3, .int ((x4 - x2) &&& x2), .int 1, .int z16], [], m14)))) else none) else none)) else none))) else none) := by
  refine Eq.trans (D_iload (x := x5) gk_f141_100 rfl) ?_
  refine Eq.trans (D_if_eq (t := 175) gk_f141_102 (by decide)) ?_
  refine gd_ite (fun h1 => ?_) (fun h2 => ?_)
  · refine Eq.trans (D_aload_n (x := r0) gk_f141_175 rfl) ?_
    refine Eq.trans (D_gfR gk_f141_176 (by decide)) ?_
    refine gd_ite (fun h3 => ?_) (fun _ => rfl)
    refine Eq.trans (D_iload_n (x := x1) gk_f141_179 rfl) ?_
    refine Eq.trans (D_iconst (x := 1) gk_f141_180 gk_c_1) ?_
    refine Eq.trans (D_bastZ gk_f141_181 gk_b12_141) ?_
    refine gd_ite (fun h4 => ?_) (fun _ => rfl)
    refine Eq.trans (D_vreturn gk_f141_182 gk_rk141) ?_
    rfl
  · refine Eq.trans (D_aload_n (x := r0) gk_f141_105 rfl) ?_
    refine Eq.trans (D_iload_n (x := x1) gk_f141_106 rfl) ?_
    refine Eq.trans (D_iload (x := x4) gk_f141_107 rfl) ?_
    refine Eq.trans (D_ivZ (cl := 9) (args := [.ref r0, .int x1, .int x4]) (rest := []) gk_f141_109 rfl rfl (gd_rmk gk_rm141_139 gk_ln139 gk_ml139 rfl rfl rfl) gk_rk139 (gd_hnd_n gk_nc141) gk_nc139 gk_n11_139 gk_cl139) ?_
    refine gd_ite (fun h5 => ?_) (fun _ => rfl)
    refine gd_bnd (gd_kI_c fun z8 m6 => ?_)
    refine Eq.trans (D_if_eq (t := 151) gk_f141_112 (by decide)) ?_
    refine gd_ite (fun h9 => ?_) (fun h10 => ?_)
    · refine Eq.trans (D_iload (x := x4) gk_f141_151 rfl) ?_
      refine Eq.trans (D_iload_n (x := x2) gk_f141_153 rfl) ?_
      refine Eq.trans (D_ic_eq (t := 161) gk_f141_154 (by decide)) ?_
      refine gd_ite (fun h11 => ?_) (fun h12 => ?_)
      · refine Eq.trans (D_iconst (x := 0) gk_f141_161 gk_c_0) ?_
        refine Eq.trans (D_istore gk_f141_162 gk_st141_5) ?_
        refine Eq.trans (D_iload (x := x4) gk_f141_164 rfl) ?_
        refine Eq.trans (D_iload_n (x := x2) gk_f141_166 rfl) ?_
        refine Eq.trans (D_isub gk_f141_167) ?_
        refine Eq.trans (D_iload_n (x := x2) gk_f141_168 rfl) ?_
        refine Eq.trans (D_iand gk_f141_169) ?_
        refine Eq.trans (D_istore gk_f141_170 gk_st141_4) ?_
        refine Eq.trans (D_goto (t := 100) gk_f141_172 (by decide)) ?_
        rfl
      · refine Eq.trans (D_iconst (x := 1) gk_f141_157 gk_c_1) ?_
        refine Eq.trans (D_goto (t := 162) gk_f141_158 (by decide)) ?_
        refine Eq.trans (D_istore gk_f141_162 gk_st141_5) ?_
        refine Eq.trans (D_iload (x := x4) gk_f141_164 rfl) ?_
        refine Eq.trans (D_iload_n (x := x2) gk_f141_166 rfl) ?_
        refine Eq.trans (D_isub gk_f141_167) ?_
        refine Eq.trans (D_iload_n (x := x2) gk_f141_168 rfl) ?_
        refine Eq.trans (D_iand gk_f141_169) ?_
        refine Eq.trans (D_istore gk_f141_170 gk_st141_4) ?_
        refine Eq.trans (D_goto (t := 100) gk_f141_172 (by decide)) ?_
        rfl
    · refine Eq.trans (D_aload_n (x := r0) gk_f141_115 rfl) ?_
      refine Eq.trans (D_iload_n (x := x1) gk_f141_116 rfl) ?_
      refine Eq.trans (D_iload (x := x4) gk_f141_117 rfl) ?_
      refine Eq.trans (D_ivI (cl := 9) (args := [.ref r0, .int x1, .int x4]) (rest := []) gk_f141_119 rfl rfl (gd_rmk gk_rm141_140 gk_ln140 gk_ml140 rfl rfl rfl) gk_rk140 (gd_hnd_n gk_nc141) gk_nc140 gk_n11_140 gk_cl140) ?_
      refine gd_ite (fun h13 => ?_) (fun _ => rfl)
      refine gd_bnd (gd_kI_c fun z16 m14 => ?_)
      refine Eq.trans (D_istore gk_f141_122 gk_st141_6) ?_
      refine Eq.trans (D_iload (x := z16) gk_f141_124 rfl) ?_
      refine Eq.trans (D_aload_n (x := r0) gk_f141_126 rfl) ?_
      refine Eq.trans (D_gfR gk_f141_127 (by decide)) ?_
      refine gd_ite (fun h17 => ?_) (fun _ => rfl)
      refine Eq.trans (D_iload_n (x := x1) gk_f141_130 rfl) ?_
      refine Eq.trans (D_iald gk_f141_131 gk_n10_141) ?_
      refine gd_ite (fun h18 => ?_) (fun _ => rfl)
      refine Eq.trans (D_ic_le (t := 151) gk_f141_132 (by decide)) ?_
      refine gd_ite (fun h19 => ?_) (fun h20 => ?_)
      · refine Eq.trans (D_aload_n (x := r0) gk_f141_135 rfl) ?_
        refine Eq.trans (D_gfR gk_f141_136 (by decide)) ?_
        refine Eq.trans (if_pos h17) ?_
        refine Eq.trans (D_iload_n (x := x1) gk_f141_139 rfl) ?_
        refine Eq.trans (D_iload (x := z16) gk_f141_140 rfl) ?_
        refine Eq.trans (D_iast gk_f141_142) ?_
        refine Eq.trans (if_pos h18) ?_
        refine Eq.trans (D_aload_n (x := r0) gk_f141_143 rfl) ?_
        refine Eq.trans (D_gfR gk_f141_144 (by decide)) ?_
        refine Eq.trans (if_pos h17) ?_
        refine Eq.trans (D_iload_n (x := x1) gk_f141_147 rfl) ?_
        refine Eq.trans (D_iload (x := x4) gk_f141_148 rfl) ?_
        refine Eq.trans (D_iast gk_f141_150) ?_
        refine gd_ite (fun h21 => ?_) (fun _ => rfl)
        refine Eq.trans (D_iload (x := x4) gk_f141_151 rfl) ?_
        refine Eq.trans (D_iload_n (x := x2) gk_f141_153 rfl) ?_
        refine Eq.trans (D_ic_eq (t := 161) gk_f141_154 (by decide)) ?_
        refine gd_ite (fun h22 => ?_) (fun h23 => ?_)
        · refine Eq.trans (D_iconst (x := 0) gk_f141_161 gk_c_0) ?_
          refine Eq.trans (D_istore gk_f141_162 gk_st141_5) ?_
          refine Eq.trans (D_iload (x := x4) gk_f141_164 rfl) ?_
          refine Eq.trans (D_iload_n (x := x2) gk_f141_166 rfl) ?_
          refine Eq.trans (D_isub gk_f141_167) ?_
          refine Eq.trans (D_iload_n (x := x2) gk_f141_168 rfl) ?_
          refine Eq.trans (D_iand gk_f141_169) ?_
          refine Eq.trans (D_istore gk_f141_170 gk_st141_4) ?_
          refine Eq.trans (D_goto (t := 100) gk_f141_172 (by decide)) ?_
          rfl
        · refine Eq.trans (D_iconst (x := 1) gk_f141_157 gk_c_1) ?_
          refine Eq.trans (D_goto (t := 162) gk_f141_158 (by decide)) ?_
          refine Eq.trans (D_istore gk_f141_162 gk_st141_5) ?_
          refine Eq.trans (D_iload (x := x4) gk_f141_164 rfl) ?_
          refine Eq.trans (D_iload_n (x := x2) gk_f141_166 rfl) ?_
          refine Eq.trans (D_isub gk_f141_167) ?_
          refine Eq.trans (D_iload_n (x := x2) gk_f141_168 rfl) ?_
          refine Eq.trans (D_iand gk_f141_169) ?_
          refine Eq.trans (D_istore gk_f141_170 gk_st141_4) ?_
          refine Eq.trans (D_goto (t := 100) gk_f141_172 (by decide)) ?_
          rfl
      · refine Eq.trans (D_iload (x := x4) gk_f141_151 rfl) ?_
        refine Eq.trans (D_iload_n (x := x2) gk_f141_153 rfl) ?_
        refine Eq.trans (D_ic_eq (t := 161) gk_f141_154 (by decide)) ?_
        refine gd_ite (fun h24 => ?_) (fun h25 => ?_)
        · refine Eq.trans (D_iconst (x := 0) gk_f141_161 gk_c_0) ?_
          refine Eq.trans (D_istore gk_f141_162 gk_st141_5) ?_
          refine Eq.trans (D_iload (x := x4) gk_f141_164 rfl) ?_
          refine Eq.trans (D_iload_n (x := x2) gk_f141_166 rfl) ?_
          refine Eq.trans (D_isub gk_f141_167) ?_
          refine Eq.trans (D_iload_n (x := x2) gk_f141_168 rfl) ?_
          refine Eq.trans (D_iand gk_f141_169) ?_
          refine Eq.trans (D_istore gk_f141_170 gk_st141_4) ?_
          refine Eq.trans (D_goto (t := 100) gk_f141_172 (by decide)) ?_
          rfl
        · refine Eq.trans (D_iconst (x := 1) gk_f141_157 gk_c_1) ?_
          refine Eq.trans (D_goto (t := 162) gk_f141_158 (by decide)) ?_
          refine Eq.trans (D_istore gk_f141_162 gk_st141_5) ?_
          refine Eq.trans (D_iload (x := x4) gk_f141_164 rfl) ?_
          refine Eq.trans (D_iload_n (x := x2) gk_f141_166 rfl) ?_
          refine Eq.trans (D_isub gk_f141_167) ?_
          refine Eq.trans (D_iload_n (x := x2) gk_f141_168 rfl) ?_
          refine Eq.trans (D_iand gk_f141_169) ?_
          refine Eq.trans (D_istore gk_f141_170 gk_st141_4) ?_
          refine Eq.trans (D_goto (t := 100) gk_f141_172 (by decide)) ?_
          rfl
/-! GymDeskModel.difficulty (I)I -/
set_option maxRecDepth 20000 in
theorem gk_f142_0 : gd_fetch 142 0 = some (0, .aload_n 0, 1, 0, 0, 0, 0, 0) := rfl
set_option maxRecDepth 20000 in
theorem gk_f142_1 : gd_fetch 142 1 = some (1, .iload_n 1, 1, 0, 0, 0, 0, 0) := rfl
set_option maxRecDepth 20000 in
theorem gk_f142_2 : gd_fetch 142 2 = some (2, .invokevirtual 360, 3, 1455, 141, 1, 0, 0) := rfl
set_option maxRecDepth 20000 in
theorem gk_f142_5 : gd_fetch 142 5 = some (5, .aload_n 0, 1, 0, 0, 0, 0, 0) := rfl
set_option maxRecDepth 20000 in
theorem gk_f142_6 : gd_fetch 142 6 = some (6, .getfield 78, 3, 1195, 9, 32, 4, 1) := rfl
set_option maxRecDepth 20000 in
theorem gk_f142_9 : gd_fetch 142 9 = some (9, .iload_n 1, 1, 0, 0, 0, 0, 0) := rfl
set_option maxRecDepth 20000 in
theorem gk_f142_10 : gd_fetch 142 10 = some (10, .iaload, 1, 0, 0, 0, 0, 0) := rfl
set_option maxRecDepth 20000 in
theorem gk_f142_11 : gd_fetch 142 11 = some (11, .ifCond .ge 7, 3, 0, 0, 0, 0, 0) := rfl
set_option maxRecDepth 20000 in
theorem gk_f142_14 : gd_fetch 142 14 = some (14, .iconst 0, 1, 0, 0, 0, 0, 0) := rfl
set_option maxRecDepth 20000 in
theorem gk_f142_15 : gd_fetch 142 15 = some (15, .goto 9, 3, 0, 0, 0, 0, 0) := rfl
set_option maxRecDepth 20000 in
theorem gk_f142_18 : gd_fetch 142 18 = some (18, .aload_n 0, 1, 0, 0, 0, 0, 0) := rfl
set_option maxRecDepth 20000 in
theorem gk_f142_19 : gd_fetch 142 19 = some (19, .getfield 78, 3, 1195, 9, 32, 4, 1) := rfl
set_option maxRecDepth 20000 in
theorem gk_f142_22 : gd_fetch 142 22 = some (22, .iload_n 1, 1, 0, 0, 0, 0, 0) := rfl
set_option maxRecDepth 20000 in
theorem gk_f142_23 : gd_fetch 142 23 = some (23, .iaload, 1, 0, 0, 0, 0, 0) := rfl
set_option maxRecDepth 20000 in
theorem gk_f142_24 : gd_fetch 142 24 = some (24, .ireturn, 1, 0, 0, 0, 0, 0) := rfl
set_option maxRecDepth 20000 in
set_option maxHeartbeats 4000000 in
theorem q_Mo_difficulty (r0 : Nat) (x1 : Int32) (m : gd_M) : gd_call 142 [.ref r0, .int x1] m = if gd_ok (gN m) r0 9 = true then ((gd_call 141 [.ref r0, .int x1] m).bind (gd_kV fun m2 => if gd_ok (gN m2) r0 9 = true then (if gd_okA (gN m2) (gR m2 r0 32) 10 x1 = true then (if ((gI m2 (gR m2 r0 32) (x1 : Int32).toNatClampNeg) < 0 : Prop) then (some (.int 0, m2)) else (some (.int (gI m2 (gR m2 r0 32) (x1 : Int32).toNatClampNeg), m2))) else none) else none)) else none := by
  refine Eq.trans (show gd_call 142 [.ref r0, .int x1] m = gd_Den (142, 0, [.ref r0, .int x1], [], m) from by unfold gd_call gd_ent; rw [gk_ml142]; rfl) ?_
  refine Eq.trans (D_aload_n (x := r0) gk_f142_0 rfl) ?_
  refine Eq.trans (D_iload_n (x := x1) gk_f142_1 rfl) ?_
  refine Eq.trans (D_ivV (cl := 9) (args := [.ref r0, .int x1]) (rest := []) gk_f142_2 rfl rfl (gd_rmk gk_rm142_141 gk_ln141 gk_ml141 rfl rfl rfl) gk_rk141 (gd_hnd_n gk_nc142) gk_nc141 gk_n11_141 gk_cl141) ?_
  refine gd_ite (fun h1 => ?_) (fun _ => rfl)
  refine gd_bnd (gd_kV_c fun m2 => ?_)
  refine Eq.trans (D_aload_n (x := r0) gk_f142_5 rfl) ?_
  refine Eq.trans (D_gfR gk_f142_6 (by decide)) ?_
  refine gd_ite (fun h4 => ?_) (fun _ => rfl)
  refine Eq.trans (D_iload_n (x := x1) gk_f142_9 rfl) ?_
  refine Eq.trans (D_iald gk_f142_10 gk_n10_142) ?_
  refine gd_ite (fun h5 => ?_) (fun _ => rfl)
  refine Eq.trans (D_if_ge (t := 18) gk_f142_11 (by decide)) ?_
  refine gd_ite (fun h6 => ?_) (fun h7 => ?_)
  · refine Eq.trans (D_iconst (x := 0) gk_f142_14 gk_c_0) ?_
    refine Eq.trans (D_goto (t := 24) gk_f142_15 (by decide)) ?_
    refine Eq.trans (D_ireturn gk_f142_24 gk_rk142) ?_
    rfl
  · refine Eq.trans (D_aload_n (x := r0) gk_f142_18 rfl) ?_
    refine Eq.trans (D_gfR gk_f142_19 (by decide)) ?_
    refine Eq.trans (if_pos h4) ?_
    refine Eq.trans (D_iload_n (x := x1) gk_f142_22 rfl) ?_
    refine Eq.trans (D_iald gk_f142_23 gk_n10_142) ?_
    refine Eq.trans (if_pos h5) ?_
    refine Eq.trans (D_ireturn gk_f142_24 gk_rk142) ?_
    rfl
/-! GymDeskModel.judged (I)I -/
set_option maxRecDepth 20000 in
theorem gk_f143_0 : gd_fetch 143 0 = some (0, .iconst 0, 1, 0, 0, 0, 0, 0) := rfl
set_option maxRecDepth 20000 in
theorem gk_f143_1 : gd_fetch 143 1 = some (1, .istore_n 2, 1, 0, 0, 0, 0, 0) := rfl
set_option maxRecDepth 20000 in
theorem gk_f143_2 : gd_fetch 143 2 = some (2, .iconst 0, 1, 0, 0, 0, 0, 0) := rfl
set_option maxRecDepth 20000 in
theorem gk_f143_3 : gd_fetch 143 3 = some (3, .istore_n 3, 1, 0, 0, 0, 0, 0) := rfl
set_option maxRecDepth 20000 in
theorem gk_f143_4 : gd_fetch 143 4 = some (4, .bipush 100, 2, 0, 0, 0, 0, 0) := rfl
set_option maxRecDepth 20000 in
theorem gk_f143_6 : gd_fetch 143 6 = some (6, .istore 4, 2, 0, 0, 0, 0, 0) := rfl
set_option maxRecDepth 20000 in
theorem gk_f143_8 : gd_fetch 143 8 = some (8, .iconst 0, 1, 0, 0, 0, 0, 0) := rfl
set_option maxRecDepth 20000 in
theorem gk_f143_9 : gd_fetch 143 9 = some (9, .istore 5, 2, 0, 0, 0, 0, 0) := rfl
set_option maxRecDepth 20000 in
theorem gk_f143_11 : gd_fetch 143 11 = some (11, .iload 5, 2, 0, 0, 0, 0, 0) := rfl
set_option maxRecDepth 20000 in
theorem gk_f143_13 : gd_fetch 143 13 = some (13, .aload_n 0, 1, 0, 0, 0, 0, 0) := rfl
set_option maxRecDepth 20000 in
theorem gk_f143_14 : gd_fetch 143 14 = some (14, .getfield 19, 3, 1164, 9, 1, 4, 0) := rfl
set_option maxRecDepth 20000 in
theorem gk_f143_17 : gd_fetch 143 17 = some (17, .getfield 300, 3, 1073, 7, 21, 0, 0) := rfl
set_option maxRecDepth 20000 in
theorem gk_f143_20 : gd_fetch 143 20 = some (20, .if_icmp .ge 57, 3, 0, 0, 0, 0, 0) := rfl
set_option maxRecDepth 20000 in
theorem gk_f143_23 : gd_fetch 143 23 = some (23, .aload_n 0, 1, 0, 0, 0, 0, 0) := rfl
set_option maxRecDepth 20000 in
theorem gk_f143_24 : gd_fetch 143 24 = some (24, .getfield 60, 3, 1189, 9, 26, 4, 1) := rfl
set_option maxRecDepth 20000 in
theorem gk_f143_27 : gd_fetch 143 27 = some (27, .bipush 6, 2, 0, 0, 0, 0, 0) := rfl
set_option maxRecDepth 20000 in
theorem gk_f143_29 : gd_fetch 143 29 = some (29, .iload_n 1, 1, 0, 0, 0, 0, 0) := rfl
set_option maxRecDepth 20000 in
theorem gk_f143_30 : gd_fetch 143 30 = some (30, .imul, 1, 0, 0, 0, 0, 0) := rfl
set_option maxRecDepth 20000 in
theorem gk_f143_31 : gd_fetch 143 31 = some (31, .iload 5, 2, 0, 0, 0, 0, 0) := rfl
set_option maxRecDepth 20000 in
theorem gk_f143_33 : gd_fetch 143 33 = some (33, .iadd, 1, 0, 0, 0, 0, 0) := rfl
set_option maxRecDepth 20000 in
theorem gk_f143_34 : gd_fetch 143 34 = some (34, .iaload, 1, 0, 0, 0, 0, 0) := rfl
set_option maxRecDepth 20000 in
theorem gk_f143_35 : gd_fetch 143 35 = some (35, .istore 6, 2, 0, 0, 0, 0, 0) := rfl
set_option maxRecDepth 20000 in
theorem gk_f143_37 : gd_fetch 143 37 = some (37, .iload_n 2, 1, 0, 0, 0, 0, 0) := rfl
set_option maxRecDepth 20000 in
theorem gk_f143_38 : gd_fetch 143 38 = some (38, .iload 6, 2, 0, 0, 0, 0, 0) := rfl
set_option maxRecDepth 20000 in
theorem gk_f143_40 : gd_fetch 143 40 = some (40, .iadd, 1, 0, 0, 0, 0, 0) := rfl
set_option maxRecDepth 20000 in
theorem gk_f143_41 : gd_fetch 143 41 = some (41, .istore_n 2, 1, 0, 0, 0, 0, 0) := rfl
set_option maxRecDepth 20000 in
theorem gk_f143_42 : gd_fetch 143 42 = some (42, .iload 6, 2, 0, 0, 0, 0, 0) := rfl
set_option maxRecDepth 20000 in
theorem gk_f143_44 : gd_fetch 143 44 = some (44, .iload_n 3, 1, 0, 0, 0, 0, 0) := rfl
set_option maxRecDepth 20000 in
theorem gk_f143_45 : gd_fetch 143 45 = some (45, .if_icmp .le 8, 3, 0, 0, 0, 0, 0) := rfl
set_option maxRecDepth 20000 in
theorem gk_f143_48 : gd_fetch 143 48 = some (48, .iload 6, 2, 0, 0, 0, 0, 0) := rfl
set_option maxRecDepth 20000 in
theorem gk_f143_50 : gd_fetch 143 50 = some (50, .goto 4, 3, 0, 0, 0, 0, 0) := rfl
set_option maxRecDepth 20000 in
theorem gk_f143_53 : gd_fetch 143 53 = some (53, .iload_n 3, 1, 0, 0, 0, 0, 0) := rfl
set_option maxRecDepth 20000 in
theorem gk_f143_54 : gd_fetch 143 54 = some (54, .istore_n 3, 1, 0, 0, 0, 0, 0) := rfl
set_option maxRecDepth 20000 in
theorem gk_f143_55 : gd_fetch 143 55 = some (55, .iload 6, 2, 0, 0, 0, 0, 0) := rfl
set_option maxRecDepth 20000 in
theorem gk_f143_57 : gd_fetch 143 57 = some (57, .iload 4, 2, 0, 0, 0, 0, 0) := rfl
set_option maxRecDepth 20000 in
theorem gk_f143_59 : gd_fetch 143 59 = some (59, .if_icmp .ge 8, 3, 0, 0, 0, 0, 0) := rfl
set_option maxRecDepth 20000 in
theorem gk_f143_62 : gd_fetch 143 62 = some (62, .iload 6, 2, 0, 0, 0, 0, 0) := rfl
set_option maxRecDepth 20000 in
theorem gk_f143_64 : gd_fetch 143 64 = some (64, .goto 5, 3, 0, 0, 0, 0, 0) := rfl
set_option maxRecDepth 20000 in
theorem gk_f143_67 : gd_fetch 143 67 = some (67, .iload 4, 2, 0, 0, 0, 0, 0) := rfl
set_option maxRecDepth 20000 in
theorem gk_f143_69 : gd_fetch 143 69 = some (69, .istore 4, 2, 0, 0, 0, 0, 0) := rfl
set_option maxRecDepth 20000 in
theorem gk_f143_71 : gd_fetch 143 71 = some (71, .iinc 5 1, 3, 0, 0, 0, 0, 0) := rfl
set_option maxRecDepth 20000 in
theorem gk_f143_74 : gd_fetch 143 74 = some (74, .goto (-63), 3, 0, 0, 0, 0, 0) := rfl
set_option maxRecDepth 20000 in
theorem gk_f143_77 : gd_fetch 143 77 = some (77, .aload_n 0, 1, 0, 0, 0, 0, 0) := rfl
set_option maxRecDepth 20000 in
theorem gk_f143_78 : gd_fetch 143 78 = some (78, .getfield 19, 3, 1164, 9, 1, 4, 0) := rfl
set_option maxRecDepth 20000 in
theorem gk_f143_81 : gd_fetch 143 81 = some (81, .getfield 300, 3, 1073, 7, 21, 0, 0) := rfl
set_option maxRecDepth 20000 in
theorem gk_f143_84 : gd_fetch 143 84 = some (84, .iconst 4, 1, 0, 0, 0, 0, 0) := rfl
set_option maxRecDepth 20000 in
theorem gk_f143_85 : gd_fetch 143 85 = some (85, .if_icmp .ge 18, 3, 0, 0, 0, 0, 0) := rfl
set_option maxRecDepth 20000 in
theorem gk_f143_88 : gd_fetch 143 88 = some (88, .bipush 100, 2, 0, 0, 0, 0, 0) := rfl
set_option maxRecDepth 20000 in
theorem gk_f143_90 : gd_fetch 143 90 = some (90, .iload_n 2, 1, 0, 0, 0, 0, 0) := rfl
set_option maxRecDepth 20000 in
theorem gk_f143_91 : gd_fetch 143 91 = some (91, .imul, 1, 0, 0, 0, 0, 0) := rfl
set_option maxRecDepth 20000 in
theorem gk_f143_92 : gd_fetch 143 92 = some (92, .aload_n 0, 1, 0, 0, 0, 0, 0) := rfl
set_option maxRecDepth 20000 in
theorem gk_f143_93 : gd_fetch 143 93 = some (93, .getfield 19, 3, 1164, 9, 1, 4, 0) := rfl
set_option maxRecDepth 20000 in
theorem gk_f143_96 : gd_fetch 143 96 = some (96, .getfield 300, 3, 1073, 7, 21, 0, 0) := rfl
set_option maxRecDepth 20000 in
theorem gk_f143_99 : gd_fetch 143 99 = some (99, .idiv, 1, 0, 0, 0, 0, 0) := rfl
set_option maxRecDepth 20000 in
theorem gk_f143_100 : gd_fetch 143 100 = some (100, .goto 22, 3, 0, 0, 0, 0, 0) := rfl
set_option maxRecDepth 20000 in
theorem gk_f143_103 : gd_fetch 143 103 = some (103, .bipush 100, 2, 0, 0, 0, 0, 0) := rfl
set_option maxRecDepth 20000 in
theorem gk_f143_105 : gd_fetch 143 105 = some (105, .iload_n 2, 1, 0, 0, 0, 0, 0) := rfl
set_option maxRecDepth 20000 in
theorem gk_f143_106 : gd_fetch 143 106 = some (106, .iload_n 3, 1, 0, 0, 0, 0, 0) := rfl
set_option maxRecDepth 20000 in
theorem gk_f143_107 : gd_fetch 143 107 = some (107, .isub, 1, 0, 0, 0, 0, 0) := rfl
set_option maxRecDepth 20000 in
theorem gk_f143_108 : gd_fetch 143 108 = some (108, .iload 4, 2, 0, 0, 0, 0, 0) := rfl
set_option maxRecDepth 20000 in
theorem gk_f143_110 : gd_fetch 143 110 = some (110, .isub, 1, 0, 0, 0, 0, 0) := rfl
set_option maxRecDepth 20000 in
theorem gk_f143_111 : gd_fetch 143 111 = some (111, .imul, 1, 0, 0, 0, 0, 0) := rfl
set_option maxRecDepth 20000 in
theorem gk_f143_112 : gd_fetch 143 112 = some (112, .aload_n 0, 1, 0, 0, 0, 0, 0) := rfl
set_option maxRecDepth 20000 in
theorem gk_f143_113 : gd_fetch 143 113 = some (113, .getfield 19, 3, 1164, 9, 1, 4, 0) := rfl
set_option maxRecDepth 20000 in
theorem gk_f143_116 : gd_fetch 143 116 = some (116, .getfield 300, 3, 1073, 7, 21, 0, 0) := rfl
set_option maxRecDepth 20000 in
theorem gk_f143_119 : gd_fetch 143 119 = some (119, .iconst 2, 1, 0, 0, 0, 0, 0) := rfl
set_option maxRecDepth 20000 in
theorem gk_f143_120 : gd_fetch 143 120 = some (120, .isub, 1, 0, 0, 0, 0, 0) := rfl
set_option maxRecDepth 20000 in
theorem gk_f143_121 : gd_fetch 143 121 = some (121, .idiv, 1, 0, 0, 0, 0, 0) := rfl
set_option maxRecDepth 20000 in
theorem gk_f143_122 : gd_fetch 143 122 = some (122, .ireturn, 1, 0, 0, 0, 0, 0) := rfl
set_option maxRecDepth 20000 in
set_option maxHeartbeats 4000000 in
theorem q_Mo_judged (r0 : Nat) (x1 : Int32) (m : gd_M) : gd_call 143 [.ref r0, .int x1] m = gd_Den (143, 11, [.ref r0, .int x1, .int 0, .int 0, .int 100, .int 0, .null], [], m) := by
  refine Eq.trans (show gd_call 143 [.ref r0, .int x1] m = gd_Den (143, 0, [.ref r0, .int x1, .null, .null, .null, .null, .null], [], m) from by unfold gd_call gd_ent; rw [gk_ml143]; rfl) ?_
  refine Eq.trans (D_iconst (x := 0) gk_f143_0 gk_c_0) ?_
  refine Eq.trans (D_istore_n gk_f143_1 gk_st143_2) ?_
  refine Eq.trans (D_iconst (x := 0) gk_f143_2 gk_c_0) ?_
  refine Eq.trans (D_istore_n gk_f143_3 gk_st143_3) ?_
  refine Eq.trans (D_bipush (x := 100) gk_f143_4 gk_b_100) ?_
  refine Eq.trans (D_istore gk_f143_6 gk_st143_4) ?_
  refine Eq.trans (D_iconst (x := 0) gk_f143_8 gk_c_0) ?_
  refine Eq.trans (D_istore gk_f143_9 gk_st143_5) ?_
  rfl
set_option maxRecDepth 20000 in
set_option maxHeartbeats 4000000 in
theorem q_Mo_judged_11 (r0 : Nat) (x1 : Int32) (x2 : Int32) (x3 : Int32) (x4 : Int32) (x5 : Int32) (v6 : Value) (m : gd_M) : gd_Den (143, 11, [.ref r0, .int x1, .int x2, .int x3, .int x4, .int x5, v6], [], m) = if gd_ok (gN m) r0 9 = true then (if gd_ok (gN m) (gR m r0 1) 7 = true then (if (x5 < (gI m (gR m r0 1) 21) : Prop) then (if gd_okA (gN m) (gR m r0 26) 10 ((6 * x1) + x5) = true then (if (x3 < (gI m (gR m r0 26) (((6 * x1) + x5) : Int32).toNatClampNeg) : Prop) then (if ((gI m (gR m r0 26) (((6 * x1) + x5) : Int32).toNatClampNeg) < x4 : Prop) then (gd_Den (143, 11, [.ref r0, .int x1, .int (x2 + (gI m (gR m r0 26) (((6 * x1) + x5) : Int32).toNatClampNeg)), .int (gI m (gR m r0 26) (((6 * x1) + x5) : Int32).toNatClampNeg), .int (gI m (gR m r0 26) (((6 * x1) + x5) : Int32).toNatClampNeg), .int (x5 + 1), .int (gI m (gR m r0 26) (((6 * x1) + x5) : Int32).toNatClampNeg)], [], m)) else (gd_Den (143, 11, [.ref r0, .int x1, .int (x2 + (gI m (gR m r0 26) (((6 * x1) + x5) : Int32).toNatClampNeg)), .int (gI m (gR m r0 26) (((6 * x1) + x5) : Int32).toNatClampNeg), .int x4, .int (x5 + 1), .int (gI m (gR m r0 26) (((6 * x1) + x5) : Int32).toNatClampNeg)], [], m))) else (if ((gI m (gR m r0 26) (((6 * x1) + x5) : Int32).toNatClampNeg) < x4 : Prop) then (gd_Den (143, 11, [.ref r0, .int x1, .int (x2 + (gI m (gR m r0 26) (((6 * x1) + x5) : Int32).toNatClampNeg)), .int x3, .int (gI m (gR m r0 26) (((6 * x1) + x5) : Int32).toNatClampNeg), .int (x5 + 1), .int (gI m (gR m r0 26) (((6 * x1) + x5) : Int32).toNatClampNeg)], [], m)) else (gd_Den (143, 11, [.ref r0, .int x1, .int (x2 + (gI m (gR m r0 26) (((6 * x1) + x5) : Int32).toNatClampNeg)), .int x3, .int x4, .int (x5 + 1), .int (gI m (gR m r0 26) (((6 * x1) + x5) : Int32).toNatClampNeg)], [], m)))) else none) else (if ((gI m (gR m r0 1) 21) < 4 : Prop) then (if (gI m (gR m r0 1) 21) = 0 then none else (some (.int ((100 * x2) / (gI m (gR m r0 1) 21)), m))) else (if ((gI m (gR m r0 1) 21) - 2) = 0 then none else (some (.int ((100 * ((x2 - x3) - x4)) / ((gI m (gR m r0 1) 21) - 2)), m))))) else none) else none := by
  refine Eq.trans (D_iload (x := x5) gk_f143_11 rfl) ?_
  refine Eq.trans (D_aload_n (x := r0) gk_f143_13 rfl) ?_
  refine Eq.trans (D_gfR gk_f143_14 (by decide)) ?_
  refine gd_ite (fun h1 => ?_) (fun _ => rfl)
  refine Eq.trans (D_gfI gk_f143_17 (by decide) (by decide) (by decide)) ?_
  refine gd_ite (fun h2 => ?_) (fun _ => rfl)
  refine Eq.trans (D_ic_ge (t := 77) gk_f143_20 (by decide)) ?_
  refine gd_ite (fun h3 => ?_) (fun h4 => ?_)
  · refine Eq.trans (D_aload_n (x := r0) gk_f143_23 rfl) ?_
    refine Eq.trans (D_gfR gk_f143_24 (by decide)) ?_
    refine Eq.trans (if_pos h1) ?_
    refine Eq.trans (D_bipush (x := 6) gk_f143_27 gk_b_6) ?_
    refine Eq.trans (D_iload_n (x := x1) gk_f143_29 rfl) ?_
    refine Eq.trans (D_imul gk_f143_30) ?_
    refine Eq.trans (D_iload (x := x5) gk_f143_31 rfl) ?_
    refine Eq.trans (D_iadd gk_f143_33) ?_
    refine Eq.trans (D_iald gk_f143_34 gk_n10_143) ?_
    refine gd_ite (fun h5 => ?_) (fun _ => rfl)
    refine Eq.trans (D_istore gk_f143_35 gk_st143_6) ?_
    refine Eq.trans (D_iload_n (x := x2) gk_f143_37 rfl) ?_
    refine Eq.trans (D_iload (x := (gI m (gR m r0 26) (((6 * x1) + x5) : Int32).toNatClampNeg)) gk_f143_38 rfl) ?_
    refine Eq.trans (D_iadd gk_f143_40) ?_
    refine Eq.trans (D_istore_n gk_f143_41 gk_st143_2) ?_
    refine Eq.trans (D_iload (x := (gI m (gR m r0 26) (((6 * x1) + x5) : Int32).toNatClampNeg)) gk_f143_42 rfl) ?_
    refine Eq.trans (D_iload_n (x := x3) gk_f143_44 rfl) ?_
    refine Eq.trans (D_ic_le (t := 53) gk_f143_45 (by decide)) ?_
    refine gd_ite (fun h6 => ?_) (fun h7 => ?_)
    · refine Eq.trans (D_iload (x := (gI m (gR m r0 26) (((6 * x1) + x5) : Int32).toNatClampNeg)) gk_f143_48 rfl) ?_
      refine Eq.trans (D_goto (t := 54) gk_f143_50 (by decide)) ?_
      refine Eq.trans (D_istore_n gk_f143_54 gk_st143_3) ?_
      refine Eq.trans (D_iload (x := (gI m (gR m r0 26) (((6 * x1) + x5) : Int32).toNatClampNeg)) gk_f143_55 rfl) ?_
      refine Eq.trans (D_iload (x := x4) gk_f143_57 rfl) ?_
      refine Eq.trans (D_ic_ge (t := 67) gk_f143_59 (by decide)) ?_
      refine gd_ite (fun h8 => ?_) (fun h9 => ?_)
      · refine Eq.trans (D_iload (x := (gI m (gR m r0 26) (((6 * x1) + x5) : Int32).toNatClampNeg)) gk_f143_62 rfl) ?_
        refine Eq.trans (D_goto (t := 69) gk_f143_64 (by decide)) ?_
        refine Eq.trans (D_istore gk_f143_69 gk_st143_4) ?_
        refine Eq.trans (D_iinc (x := x5) (y := 1) gk_f143_71 rfl gk_c_1 gk_st143_5) ?_
        refine Eq.trans (D_goto (t := 11) gk_f143_74 (by decide)) ?_
        rfl
      · refine Eq.trans (D_iload (x := x4) gk_f143_67 rfl) ?_
        refine Eq.trans (D_istore gk_f143_69 gk_st143_4) ?_
        refine Eq.trans (D_iinc (x := x5) (y := 1) gk_f143_71 rfl gk_c_1 gk_st143_5) ?_
        refine Eq.trans (D_goto (t := 11) gk_f143_74 (by decide)) ?_
        rfl
    · refine Eq.trans (D_iload_n (x := x3) gk_f143_53 rfl) ?_
      refine Eq.trans (D_istore_n gk_f143_54 gk_st143_3) ?_
      refine Eq.trans (D_iload (x := (gI m (gR m r0 26) (((6 * x1) + x5) : Int32).toNatClampNeg)) gk_f143_55 rfl) ?_
      refine Eq.trans (D_iload (x := x4) gk_f143_57 rfl) ?_
      refine Eq.trans (D_ic_ge (t := 67) gk_f143_59 (by decide)) ?_
      refine gd_ite (fun h10 => ?_) (fun h11 => ?_)
      · refine Eq.trans (D_iload (x := (gI m (gR m r0 26) (((6 * x1) + x5) : Int32).toNatClampNeg)) gk_f143_62 rfl) ?_
        refine Eq.trans (D_goto (t := 69) gk_f143_64 (by decide)) ?_
        refine Eq.trans (D_istore gk_f143_69 gk_st143_4) ?_
        refine Eq.trans (D_iinc (x := x5) (y := 1) gk_f143_71 rfl gk_c_1 gk_st143_5) ?_
        refine Eq.trans (D_goto (t := 11) gk_f143_74 (by decide)) ?_
        rfl
      · refine Eq.trans (D_iload (x := x4) gk_f143_67 rfl) ?_
        refine Eq.trans (D_istore gk_f143_69 gk_st143_4) ?_
        refine Eq.trans (D_iinc (x := x5) (y := 1) gk_f143_71 rfl gk_c_1 gk_st143_5) ?_
        refine Eq.trans (D_goto (t := 11) gk_f143_74 (by decide)) ?_
        rfl
  · refine Eq.trans (D_aload_n (x := r0) gk_f143_77 rfl) ?_
    refine Eq.trans (D_gfR gk_f143_78 (by decide)) ?_
    refine Eq.trans (if_pos h1) ?_
    refine Eq.trans (D_gfI gk_f143_81 (by decide) (by decide) (by decide)) ?_
    refine Eq.trans (if_pos h2) ?_
    refine Eq.trans (D_iconst (x := 4) gk_f143_84 gk_c_4) ?_
    refine Eq.trans (D_ic_ge (t := 103) gk_f143_85 (by decide)) ?_
    refine gd_ite (fun h12 => ?_) (fun h13 => ?_)
    · refine Eq.trans (D_bipush (x := 100) gk_f143_88 gk_b_100) ?_
      refine Eq.trans (D_iload_n (x := x2) gk_f143_90 rfl) ?_
      refine Eq.trans (D_imul gk_f143_91) ?_
      refine Eq.trans (D_aload_n (x := r0) gk_f143_92 rfl) ?_
      refine Eq.trans (D_gfR gk_f143_93 (by decide)) ?_
      refine Eq.trans (if_pos h1) ?_
      refine Eq.trans (D_gfI gk_f143_96 (by decide) (by decide) (by decide)) ?_
      refine Eq.trans (if_pos h2) ?_
      refine Eq.trans (D_idiv gk_f143_99) ?_
      refine gd_ite (fun _ => rfl) (fun h14 => ?_)
      refine Eq.trans (D_goto (t := 122) gk_f143_100 (by decide)) ?_
      refine Eq.trans (D_ireturn gk_f143_122 gk_rk143) ?_
      rfl
    · refine Eq.trans (D_bipush (x := 100) gk_f143_103 gk_b_100) ?_
      refine Eq.trans (D_iload_n (x := x2) gk_f143_105 rfl) ?_
      refine Eq.trans (D_iload_n (x := x3) gk_f143_106 rfl) ?_
      refine Eq.trans (D_isub gk_f143_107) ?_
      refine Eq.trans (D_iload (x := x4) gk_f143_108 rfl) ?_
      refine Eq.trans (D_isub gk_f143_110) ?_
      refine Eq.trans (D_imul gk_f143_111) ?_
      refine Eq.trans (D_aload_n (x := r0) gk_f143_112 rfl) ?_
      refine Eq.trans (D_gfR gk_f143_113 (by decide)) ?_
      refine Eq.trans (if_pos h1) ?_
      refine Eq.trans (D_gfI gk_f143_116 (by decide) (by decide) (by decide)) ?_
      refine Eq.trans (if_pos h2) ?_
      refine Eq.trans (D_iconst (x := 2) gk_f143_119 gk_c_2) ?_
      refine Eq.trans (D_isub gk_f143_120) ?_
      refine Eq.trans (D_idiv gk_f143_121) ?_
      refine gd_ite (fun _ => rfl) (fun h15 => ?_)
      refine Eq.trans (D_ireturn gk_f143_122 gk_rk143) ?_
      rfl
/-! GymDeskModel.score (I)I -/
set_option maxRecDepth 20000 in
theorem gk_f144_0 : gd_fetch 144 0 = some (0, .bipush 100, 2, 0, 0, 0, 0, 0) := rfl
set_option maxRecDepth 20000 in
theorem gk_f144_2 : gd_fetch 144 2 = some (2, .aload_n 0, 1, 0, 0, 0, 0, 0) := rfl
set_option maxRecDepth 20000 in
theorem gk_f144_3 : gd_fetch 144 3 = some (3, .iload_n 1, 1, 0, 0, 0, 0, 0) := rfl
set_option maxRecDepth 20000 in
theorem gk_f144_4 : gd_fetch 144 4 = some (4, .invokevirtual 363, 3, 1451, 142, 1, 0, 0) := rfl
set_option maxRecDepth 20000 in
theorem gk_f144_7 : gd_fetch 144 7 = some (7, .imul, 1, 0, 0, 0, 0, 0) := rfl
set_option maxRecDepth 20000 in
theorem gk_f144_8 : gd_fetch 144 8 = some (8, .sipush 10000, 3, 0, 0, 0, 0, 0) := rfl
set_option maxRecDepth 20000 in
theorem gk_f144_11 : gd_fetch 144 11 = some (11, .iadd, 1, 0, 0, 0, 0, 0) := rfl
set_option maxRecDepth 20000 in
theorem gk_f144_12 : gd_fetch 144 12 = some (12, .aload_n 0, 1, 0, 0, 0, 0, 0) := rfl
set_option maxRecDepth 20000 in
theorem gk_f144_13 : gd_fetch 144 13 = some (13, .iload_n 1, 1, 0, 0, 0, 0, 0) := rfl
set_option maxRecDepth 20000 in
theorem gk_f144_14 : gd_fetch 144 14 = some (14, .invokevirtual 366, 3, 1472, 143, 1, 0, 0) := rfl
set_option maxRecDepth 20000 in
theorem gk_f144_17 : gd_fetch 144 17 = some (17, .isub, 1, 0, 0, 0, 0, 0) := rfl
set_option maxRecDepth 20000 in
theorem gk_f144_18 : gd_fetch 144 18 = some (18, .bipush 100, 2, 0, 0, 0, 0, 0) := rfl
set_option maxRecDepth 20000 in
theorem gk_f144_20 : gd_fetch 144 20 = some (20, .aload_n 0, 1, 0, 0, 0, 0, 0) := rfl
set_option maxRecDepth 20000 in
theorem gk_f144_21 : gd_fetch 144 21 = some (21, .iload_n 1, 1, 0, 0, 0, 0, 0) := rfl
set_option maxRecDepth 20000 in
theorem gk_f144_22 : gd_fetch 144 22 = some (22, .invokevirtual 345, 3, 1439, 120, 1, 0, 0) := rfl
set_option maxRecDepth 20000 in
theorem gk_f144_25 : gd_fetch 144 25 = some (25, .imul, 1, 0, 0, 0, 0, 0) := rfl
set_option maxRecDepth 20000 in
theorem gk_f144_26 : gd_fetch 144 26 = some (26, .isub, 1, 0, 0, 0, 0, 0) := rfl
set_option maxRecDepth 20000 in
theorem gk_f144_27 : gd_fetch 144 27 = some (27, .istore_n 2, 1, 0, 0, 0, 0, 0) := rfl
set_option maxRecDepth 20000 in
theorem gk_f144_28 : gd_fetch 144 28 = some (28, .iload_n 2, 1, 0, 0, 0, 0, 0) := rfl
set_option maxRecDepth 20000 in
theorem gk_f144_29 : gd_fetch 144 29 = some (29, .ifCond .ge 7, 3, 0, 0, 0, 0, 0) := rfl
set_option maxRecDepth 20000 in
theorem gk_f144_32 : gd_fetch 144 32 = some (32, .iconst 0, 1, 0, 0, 0, 0, 0) := rfl
set_option maxRecDepth 20000 in
theorem gk_f144_33 : gd_fetch 144 33 = some (33, .goto 4, 3, 0, 0, 0, 0, 0) := rfl
set_option maxRecDepth 20000 in
theorem gk_f144_36 : gd_fetch 144 36 = some (36, .iload_n 2, 1, 0, 0, 0, 0, 0) := rfl
set_option maxRecDepth 20000 in
theorem gk_f144_37 : gd_fetch 144 37 = some (37, .ireturn, 1, 0, 0, 0, 0, 0) := rfl
set_option maxRecDepth 20000 in
set_option maxHeartbeats 4000000 in
theorem q_Mo_score (r0 : Nat) (x1 : Int32) (m : gd_M) : gd_call 144 [.ref r0, .int x1] m = if gd_ok (gN m) r0 9 = true then ((gd_call 142 [.ref r0, .int x1] m).bind (gd_kI fun z4 m2 => if gd_ok (gN m2) r0 9 = true then ((gd_call 143 [.ref r0, .int x1] m2).bind (gd_kI fun z8 m6 => if gd_ok (gN m6) r0 9 = true then ((gd_call 120 [.ref r0, .int x1] m6).bind (gd_kI fun z12 m10 => if (((((100 * z4) + 10000) - z8) - (100 * z12)) < 0 : Prop) then (some (.int 0, m10)) else (some (.int ((((100 * z4) + 10000) - z8) - (100 * z12)), m10)))) else none)) else none)) else none := by
  refine Eq.trans (show gd_call 144 [.ref r0, .int x1] m = gd_Den (144, 0, [.ref r0, .int x1, .null], [], m) from by unfold gd_call gd_ent; rw [gk_ml144]; rfl) ?_
  refine Eq.trans (D_bipush (x := 100) gk_f144_0 gk_b_100) ?_
  refine Eq.trans (D_aload_n (x := r0) gk_f144_2 rfl) ?_
  refine Eq.trans (D_iload_n (x := x1) gk_f144_3 rfl) ?_
  refine Eq.trans (D_ivI (cl := 9) (args := [.ref r0, .int x1]) (rest := [.int 100]) gk_f144_4 rfl rfl (gd_rmk gk_rm144_142 gk_ln142 gk_ml142 rfl rfl rfl) gk_rk142 (gd_hnd_n gk_nc144) gk_nc142 gk_n11_142 gk_cl142) ?_
  refine gd_ite (fun h1 => ?_) (fun _ => rfl)
  refine gd_bnd (gd_kI_c fun z4 m2 => ?_)
  refine Eq.trans (D_imul gk_f144_7) ?_
  refine Eq.trans (D_sipush (x := 10000) gk_f144_8 gk_s_10000) ?_
  refine Eq.trans (D_iadd gk_f144_11) ?_
  refine Eq.trans (D_aload_n (x := r0) gk_f144_12 rfl) ?_
  refine Eq.trans (D_iload_n (x := x1) gk_f144_13 rfl) ?_
  refine Eq.trans (D_ivI (cl := 9) (args := [.ref r0, .int x1]) (rest := [.int ((100 * z4) + 10000)]) gk_f144_14 rfl rfl (gd_rmk gk_rm144_143 gk_ln143 gk_ml143 rfl rfl rfl) gk_rk143 (gd_hnd_n gk_nc144) gk_nc143 gk_n11_143 gk_cl143) ?_
  refine gd_ite (fun h5 => ?_) (fun _ => rfl)
  refine gd_bnd (gd_kI_c fun z8 m6 => ?_)
  refine Eq.trans (D_isub gk_f144_17) ?_
  refine Eq.trans (D_bipush (x := 100) gk_f144_18 gk_b_100) ?_
  refine Eq.trans (D_aload_n (x := r0) gk_f144_20 rfl) ?_
  refine Eq.trans (D_iload_n (x := x1) gk_f144_21 rfl) ?_
  refine Eq.trans (D_ivI (cl := 9) (args := [.ref r0, .int x1]) (rest := [.int 100, .int (((100 * z4) + 10000) - z8)]) gk_f144_22 rfl rfl (gd_rmk gk_rm144_120 gk_ln120 gk_ml120 rfl rfl rfl) gk_rk120 (gd_hnd_n gk_nc144) gk_nc120 gk_n11_120 gk_cl120) ?_
  refine gd_ite (fun h9 => ?_) (fun _ => rfl)
  refine gd_bnd (gd_kI_c fun z12 m10 => ?_)
  refine Eq.trans (D_imul gk_f144_25) ?_
  refine Eq.trans (D_isub gk_f144_26) ?_
  refine Eq.trans (D_istore_n gk_f144_27 gk_st144_2) ?_
  refine Eq.trans (D_iload_n (x := ((((100 * z4) + 10000) - z8) - (100 * z12))) gk_f144_28 rfl) ?_
  refine Eq.trans (D_if_ge (t := 36) gk_f144_29 (by decide)) ?_
  refine gd_ite (fun h13 => ?_) (fun h14 => ?_)
  · refine Eq.trans (D_iconst (x := 0) gk_f144_32 gk_c_0) ?_
    refine Eq.trans (D_goto (t := 37) gk_f144_33 (by decide)) ?_
    refine Eq.trans (D_ireturn gk_f144_37 gk_rk144) ?_
    rfl
  · refine Eq.trans (D_iload_n (x := ((((100 * z4) + 10000) - z8) - (100 * z12))) gk_f144_36 rfl) ?_
    refine Eq.trans (D_ireturn gk_f144_37 gk_rk144) ?_
    rfl
/-! GymDeskModel.post (III)I -/
set_option maxRecDepth 20000 in
theorem gk_f145_0 : gd_fetch 145 0 = some (0, .aload_n 0, 1, 0, 0, 0, 0, 0) := rfl
set_option maxRecDepth 20000 in
theorem gk_f145_1 : gd_fetch 145 1 = some (1, .iload_n 1, 1, 0, 0, 0, 0, 0) := rfl
set_option maxRecDepth 20000 in
theorem gk_f145_2 : gd_fetch 145 2 = some (2, .iload_n 2, 1, 0, 0, 0, 0, 0) := rfl
set_option maxRecDepth 20000 in
theorem gk_f145_3 : gd_fetch 145 3 = some (3, .invokevirtual 335, 3, 1407, 98, 2, 0, 0) := rfl
set_option maxRecDepth 20000 in
theorem gk_f145_6 : gd_fetch 145 6 = some (6, .ifCond .eq 11, 3, 0, 0, 0, 0, 0) := rfl
set_option maxRecDepth 20000 in
theorem gk_f145_9 : gd_fetch 145 9 = some (9, .iload_n 3, 1, 0, 0, 0, 0, 0) := rfl
set_option maxRecDepth 20000 in
theorem gk_f145_10 : gd_fetch 145 10 = some (10, .aload_n 0, 1, 0, 0, 0, 0, 0) := rfl
set_option maxRecDepth 20000 in
theorem gk_f145_11 : gd_fetch 145 11 = some (11, .getfield 329, 3, 1182, 9, 19, 0, 0) := rfl
set_option maxRecDepth 20000 in
theorem gk_f145_14 : gd_fetch 145 14 = some (14, .if_icmp .ge 6, 3, 0, 0, 0, 0, 0) := rfl
set_option maxRecDepth 20000 in
theorem gk_f145_17 : gd_fetch 145 17 = some (17, .bipush (-2), 2, 0, 0, 0, 0, 0) := rfl
set_option maxRecDepth 20000 in
theorem gk_f145_19 : gd_fetch 145 19 = some (19, .ireturn, 1, 0, 0, 0, 0, 0) := rfl
set_option maxRecDepth 20000 in
theorem gk_f145_20 : gd_fetch 145 20 = some (20, .iconst 4, 1, 0, 0, 0, 0, 0) := rfl
set_option maxRecDepth 20000 in
theorem gk_f145_21 : gd_fetch 145 21 = some (21, .iload_n 1, 1, 0, 0, 0, 0, 0) := rfl
set_option maxRecDepth 20000 in
theorem gk_f145_22 : gd_fetch 145 22 = some (22, .imul, 1, 0, 0, 0, 0, 0) := rfl
set_option maxRecDepth 20000 in
theorem gk_f145_23 : gd_fetch 145 23 = some (23, .iload_n 2, 1, 0, 0, 0, 0, 0) := rfl
set_option maxRecDepth 20000 in
theorem gk_f145_24 : gd_fetch 145 24 = some (24, .iadd, 1, 0, 0, 0, 0, 0) := rfl
set_option maxRecDepth 20000 in
theorem gk_f145_25 : gd_fetch 145 25 = some (25, .istore 4, 2, 0, 0, 0, 0, 0) := rfl
set_option maxRecDepth 20000 in
theorem gk_f145_27 : gd_fetch 145 27 = some (27, .aload_n 0, 1, 0, 0, 0, 0, 0) := rfl
set_option maxRecDepth 20000 in
theorem gk_f145_28 : gd_fetch 145 28 = some (28, .iload 4, 2, 0, 0, 0, 0, 0) := rfl
set_option maxRecDepth 20000 in
theorem gk_f145_30 : gd_fetch 145 30 = some (30, .invokevirtual 339, 3, 1419, 103, 1, 0, 0) := rfl
set_option maxRecDepth 20000 in
theorem gk_f145_33 : gd_fetch 145 33 = some (33, .ifCond .eq 30, 3, 0, 0, 0, 0, 0) := rfl
set_option maxRecDepth 20000 in
theorem gk_f145_36 : gd_fetch 145 36 = some (36, .aload_n 0, 1, 0, 0, 0, 0, 0) := rfl
set_option maxRecDepth 20000 in
theorem gk_f145_37 : gd_fetch 145 37 = some (37, .getfield 63, 3, 1190, 9, 27, 4, 1) := rfl
set_option maxRecDepth 20000 in
theorem gk_f145_40 : gd_fetch 145 40 = some (40, .iload 4, 2, 0, 0, 0, 0, 0) := rfl
set_option maxRecDepth 20000 in
theorem gk_f145_42 : gd_fetch 145 42 = some (42, .iaload, 1, 0, 0, 0, 0, 0) := rfl
set_option maxRecDepth 20000 in
theorem gk_f145_43 : gd_fetch 145 43 = some (43, .aload_n 0, 1, 0, 0, 0, 0, 0) := rfl
set_option maxRecDepth 20000 in
theorem gk_f145_44 : gd_fetch 145 44 = some (44, .getfield 19, 3, 1164, 9, 1, 4, 0) := rfl
set_option maxRecDepth 20000 in
theorem gk_f145_47 : gd_fetch 145 47 = some (47, .getfield 300, 3, 1073, 7, 21, 0, 0) := rfl
set_option maxRecDepth 20000 in
theorem gk_f145_50 : gd_fetch 145 50 = some (50, .if_icmp .lt 13, 3, 0, 0, 0, 0, 0) := rfl
set_option maxRecDepth 20000 in
theorem gk_f145_53 : gd_fetch 145 53 = some (53, .aload_n 0, 1, 0, 0, 0, 0, 0) := rfl
set_option maxRecDepth 20000 in
theorem gk_f145_54 : gd_fetch 145 54 = some (54, .getfield 66, 3, 1191, 9, 28, 4, 1) := rfl
set_option maxRecDepth 20000 in
theorem gk_f145_57 : gd_fetch 145 57 = some (57, .iload 4, 2, 0, 0, 0, 0, 0) := rfl
set_option maxRecDepth 20000 in
theorem gk_f145_59 : gd_fetch 145 59 = some (59, .iaload, 1, 0, 0, 0, 0, 0) := rfl
set_option maxRecDepth 20000 in
theorem gk_f145_60 : gd_fetch 145 60 = some (60, .ifCond .eq 5, 3, 0, 0, 0, 0, 0) := rfl
set_option maxRecDepth 20000 in
theorem gk_f145_63 : gd_fetch 145 63 = some (63, .iconst (-1), 1, 0, 0, 0, 0, 0) := rfl
set_option maxRecDepth 20000 in
theorem gk_f145_64 : gd_fetch 145 64 = some (64, .ireturn, 1, 0, 0, 0, 0, 0) := rfl
set_option maxRecDepth 20000 in
theorem gk_f145_65 : gd_fetch 145 65 = some (65, .aload_n 0, 1, 0, 0, 0, 0, 0) := rfl
set_option maxRecDepth 20000 in
theorem gk_f145_66 : gd_fetch 145 66 = some (66, .getfield 72, 3, 1193, 9, 30, 4, 1) := rfl
set_option maxRecDepth 20000 in
theorem gk_f145_69 : gd_fetch 145 69 = some (69, .iload 4, 2, 0, 0, 0, 0, 0) := rfl
set_option maxRecDepth 20000 in
theorem gk_f145_71 : gd_fetch 145 71 = some (71, .iload_n 3, 1, 0, 0, 0, 0, 0) := rfl
set_option maxRecDepth 20000 in
theorem gk_f145_72 : gd_fetch 145 72 = some (72, .iastore, 1, 0, 0, 0, 0, 0) := rfl
set_option maxRecDepth 20000 in
theorem gk_f145_73 : gd_fetch 145 73 = some (73, .aload_n 0, 1, 0, 0, 0, 0, 0) := rfl
set_option maxRecDepth 20000 in
theorem gk_f145_74 : gd_fetch 145 74 = some (74, .iload_n 3, 1, 0, 0, 0, 0, 0) := rfl
set_option maxRecDepth 20000 in
theorem gk_f145_75 : gd_fetch 145 75 = some (75, .putfield 329, 3, 1182, 9, 19, 0, 0) := rfl
set_option maxRecDepth 20000 in
theorem gk_f145_78 : gd_fetch 145 78 = some (78, .aload_n 0, 1, 0, 0, 0, 0, 0) := rfl
set_option maxRecDepth 20000 in
theorem gk_f145_79 : gd_fetch 145 79 = some (79, .iload 4, 2, 0, 0, 0, 0, 0) := rfl
set_option maxRecDepth 20000 in
theorem gk_f145_81 : gd_fetch 145 81 = some (81, .invokevirtual 369, 3, 1447, 144, 1, 0, 0) := rfl
set_option maxRecDepth 20000 in
theorem gk_f145_84 : gd_fetch 145 84 = some (84, .ireturn, 1, 0, 0, 0, 0, 0) := rfl
set_option maxRecDepth 20000 in
set_option maxHeartbeats 4000000 in
theorem q_Mo_post (r0 : Nat) (x1 : Int32) (x2 : Int32) (x3 : Int32) (m : gd_M) : gd_call 145 [.ref r0, .int x1, .int x2, .int x3] m = if gd_ok (gN m) r0 9 = true then ((gd_call 98 [.ref r0, .int x1, .int x2] m).bind (gd_kI fun z4 m2 => if (z4 = 0 : Prop) then (some (.int (-2), m2)) else (if gd_ok (gN m2) r0 9 = true then (if (x3 < (gI m2 r0 19) : Prop) then (some (.int (-2), m2)) else ((gd_call 103 [.ref r0, .int ((4 * x1) + x2)] m2).bind (gd_kI fun z12 m10 => if (z12 = 0 : Prop) then (some (.int (-1), m10)) else (if gd_ok (gN m10) r0 9 = true then (if gd_okA (gN m10) (gR m10 r0 27) 10 ((4 * x1) + x2) = true then (if gd_ok (gN m10) (gR m10 r0 1) 7 = true then (if ((gI m10 (gR m10 r0 27) (((4 * x1) + x2) : Int32).toNatClampNeg) < (gI m10 (gR m10 r0 1) 21) : Prop) then (some (.int (-1), m10)) else (if gd_okA (gN m10) (gR m10 r0 28) 10 ((4 * x1) + x2) = true then (if ((gI m10 (gR m10 r0 28) (((4 * x1) + x2) : Int32).toNatClampNeg) = 0 : Prop) then (if gd_okA (gN m10) (gR m10 r0 30) 10 ((4 * x1) + x2) = true then ((gd_call 144 [.ref r0, .int ((4 * x1) + x2)] (wI (wI m10 (gR m10 r0 30) (((4 * x1) + x2) : Int32).toNatClampNeg x3) r0 19 x3)).bind (gd_kI fun z26 m24 => some (.int z26, m24))) else none) else (some (.int (-1), m10))) else none)) else none) else none) else none)))) else none))) else none := by
  refine Eq.trans (show gd_call 145 [.ref r0, .int x1, .int x2, .int x3] m = gd_Den (145, 0, [.ref r0, .int x1, .int x2, .int x3, .null], [], m) from by unfold gd_call gd_ent; rw [gk_ml145]; rfl) ?_
  refine Eq.trans (D_aload_n (x := r0) gk_f145_0 rfl) ?_
  refine Eq.trans (D_iload_n (x := x1) gk_f145_1 rfl) ?_
  refine Eq.trans (D_iload_n (x := x2) gk_f145_2 rfl) ?_
  refine Eq.trans (D_ivZ (cl := 9) (args := [.ref r0, .int x1, .int x2]) (rest := []) gk_f145_3 rfl rfl (gd_rmk gk_rm145_98 gk_ln98 gk_ml98 rfl rfl rfl) gk_rk98 (gd_hnd_n gk_nc145) gk_nc98 gk_n11_98 gk_cl98) ?_
  refine gd_ite (fun h1 => ?_) (fun _ => rfl)
  refine gd_bnd (gd_kI_c fun z4 m2 => ?_)
  refine Eq.trans (D_if_eq (t := 17) gk_f145_6 (by decide)) ?_
  refine gd_ite (fun h5 => ?_) (fun h6 => ?_)
  · refine Eq.trans (D_bipush (x := (-2)) gk_f145_17 gk_b_m2) ?_
    refine Eq.trans (D_ireturn gk_f145_19 gk_rk145) ?_
    rfl
  · refine Eq.trans (D_iload_n (x := x3) gk_f145_9 rfl) ?_
    refine Eq.trans (D_aload_n (x := r0) gk_f145_10 rfl) ?_
    refine Eq.trans (D_gfI gk_f145_11 (by decide) (by decide) (by decide)) ?_
    refine gd_ite (fun h7 => ?_) (fun _ => rfl)
    refine Eq.trans (D_ic_ge (t := 20) gk_f145_14 (by decide)) ?_
    refine gd_ite (fun h8 => ?_) (fun h9 => ?_)
    · refine Eq.trans (D_bipush (x := (-2)) gk_f145_17 gk_b_m2) ?_
      refine Eq.trans (D_ireturn gk_f145_19 gk_rk145) ?_
      rfl
    · refine Eq.trans (D_iconst (x := 4) gk_f145_20 gk_c_4) ?_
      refine Eq.trans (D_iload_n (x := x1) gk_f145_21 rfl) ?_
      refine Eq.trans (D_imul gk_f145_22) ?_
      refine Eq.trans (D_iload_n (x := x2) gk_f145_23 rfl) ?_
      refine Eq.trans (D_iadd gk_f145_24) ?_
      refine Eq.trans (D_istore gk_f145_25 gk_st145_4) ?_
      refine Eq.trans (D_aload_n (x := r0) gk_f145_27 rfl) ?_
      refine Eq.trans (D_iload (x := ((4 * x1) + x2)) gk_f145_28 rfl) ?_
      refine Eq.trans (D_ivZ (cl := 9) (args := [.ref r0, .int ((4 * x1) + x2)]) (rest := []) gk_f145_30 rfl rfl (gd_rmk gk_rm145_103 gk_ln103 gk_ml103 rfl rfl rfl) gk_rk103 (gd_hnd_n gk_nc145) gk_nc103 gk_n11_103 gk_cl103) ?_
      refine Eq.trans (if_pos h7) ?_
      refine gd_bnd (gd_kI_c fun z12 m10 => ?_)
      refine Eq.trans (D_if_eq (t := 63) gk_f145_33 (by decide)) ?_
      refine gd_ite (fun h13 => ?_) (fun h14 => ?_)
      · refine Eq.trans (D_iconst (x := (-1)) gk_f145_63 gk_c_m1) ?_
        refine Eq.trans (D_ireturn gk_f145_64 gk_rk145) ?_
        rfl
      · refine Eq.trans (D_aload_n (x := r0) gk_f145_36 rfl) ?_
        refine Eq.trans (D_gfR gk_f145_37 (by decide)) ?_
        refine gd_ite (fun h15 => ?_) (fun _ => rfl)
        refine Eq.trans (D_iload (x := ((4 * x1) + x2)) gk_f145_40 rfl) ?_
        refine Eq.trans (D_iald gk_f145_42 gk_n10_145) ?_
        refine gd_ite (fun h16 => ?_) (fun _ => rfl)
        refine Eq.trans (D_aload_n (x := r0) gk_f145_43 rfl) ?_
        refine Eq.trans (D_gfR gk_f145_44 (by decide)) ?_
        refine Eq.trans (if_pos h15) ?_
        refine Eq.trans (D_gfI gk_f145_47 (by decide) (by decide) (by decide)) ?_
        refine gd_ite (fun h17 => ?_) (fun _ => rfl)
        refine Eq.trans (D_ic_lt (t := 63) gk_f145_50 (by decide)) ?_
        refine gd_ite (fun h18 => ?_) (fun h19 => ?_)
        · refine Eq.trans (D_iconst (x := (-1)) gk_f145_63 gk_c_m1) ?_
          refine Eq.trans (D_ireturn gk_f145_64 gk_rk145) ?_
          rfl
        · refine Eq.trans (D_aload_n (x := r0) gk_f145_53 rfl) ?_
          refine Eq.trans (D_gfR gk_f145_54 (by decide)) ?_
          refine Eq.trans (if_pos h15) ?_
          refine Eq.trans (D_iload (x := ((4 * x1) + x2)) gk_f145_57 rfl) ?_
          refine Eq.trans (D_iald gk_f145_59 gk_n10_145) ?_
          refine gd_ite (fun h20 => ?_) (fun _ => rfl)
          refine Eq.trans (D_if_eq (t := 65) gk_f145_60 (by decide)) ?_
          refine gd_ite (fun h21 => ?_) (fun h22 => ?_)
          · refine Eq.trans (D_aload_n (x := r0) gk_f145_65 rfl) ?_
            refine Eq.trans (D_gfR gk_f145_66 (by decide)) ?_
            refine Eq.trans (if_pos h15) ?_
            refine Eq.trans (D_iload (x := ((4 * x1) + x2)) gk_f145_69 rfl) ?_
            refine Eq.trans (D_iload_n (x := x3) gk_f145_71 rfl) ?_
            refine Eq.trans (D_iast gk_f145_72) ?_
            refine gd_ite (fun h23 => ?_) (fun _ => rfl)
            refine Eq.trans (D_aload_n (x := r0) gk_f145_73 rfl) ?_
            refine Eq.trans (D_iload_n (x := x3) gk_f145_74 rfl) ?_
            refine Eq.trans (D_pfI gk_f145_75) ?_
            refine Eq.trans (if_pos h15) ?_
            refine Eq.trans (D_aload_n (x := r0) gk_f145_78 rfl) ?_
            refine Eq.trans (D_iload (x := ((4 * x1) + x2)) gk_f145_79 rfl) ?_
            refine Eq.trans (D_ivI (cl := 9) (args := [.ref r0, .int ((4 * x1) + x2)]) (rest := []) gk_f145_81 rfl rfl (gd_rmk gk_rm145_144 gk_ln144 gk_ml144 rfl rfl rfl) gk_rk144 (gd_hnd_n gk_nc145) gk_nc144 gk_n11_144 gk_cl144) ?_
            refine Eq.trans (if_pos h15) ?_
            refine gd_bnd (gd_kI_c fun z26 m24 => ?_)
            refine Eq.trans (D_ireturn gk_f145_84 gk_rk145) ?_
            rfl
          · refine Eq.trans (D_iconst (x := (-1)) gk_f145_63 gk_c_m1) ?_
            refine Eq.trans (D_ireturn gk_f145_64 gk_rk145) ?_
            rfl
/-! GymDesk.ofPosted (LGymDesk$Routine;I)I -/
set_option maxRecDepth 20000 in
theorem gk_f146_0 : gd_fetch 146 0 = some (0, .iload_n 1, 1, 0, 0, 0, 0, 0) := rfl
set_option maxRecDepth 20000 in
theorem gk_f146_1 : gd_fetch 146 1 = some (1, .tableswitch 42 8 10 #[27, 32, 37], 27, 0, 0, 0, 0, 0) := rfl
set_option maxRecDepth 20000 in
theorem gk_f146_28 : gd_fetch 146 28 = some (28, .aload_n 0, 1, 0, 0, 0, 0, 0) := rfl
set_option maxRecDepth 20000 in
theorem gk_f146_29 : gd_fetch 146 29 = some (29, .getfield 185, 3, 424, 4, 12, 0, 0) := rfl
set_option maxRecDepth 20000 in
theorem gk_f146_32 : gd_fetch 146 32 = some (32, .ireturn, 1, 0, 0, 0, 0, 0) := rfl
set_option maxRecDepth 20000 in
theorem gk_f146_33 : gd_fetch 146 33 = some (33, .aload_n 0, 1, 0, 0, 0, 0, 0) := rfl
set_option maxRecDepth 20000 in
theorem gk_f146_34 : gd_fetch 146 34 = some (34, .getfield 233, 3, 422, 4, 11, 0, 0) := rfl
set_option maxRecDepth 20000 in
theorem gk_f146_37 : gd_fetch 146 37 = some (37, .ireturn, 1, 0, 0, 0, 0, 0) := rfl
set_option maxRecDepth 20000 in
theorem gk_f146_38 : gd_fetch 146 38 = some (38, .aload_n 0, 1, 0, 0, 0, 0, 0) := rfl
set_option maxRecDepth 20000 in
theorem gk_f146_39 : gd_fetch 146 39 = some (39, .getfield 236, 3, 426, 4, 13, 0, 0) := rfl
set_option maxRecDepth 20000 in
theorem gk_f146_42 : gd_fetch 146 42 = some (42, .ireturn, 1, 0, 0, 0, 0, 0) := rfl
set_option maxRecDepth 20000 in
theorem gk_f146_43 : gd_fetch 146 43 = some (43, .bipush (-9), 2, 0, 0, 0, 0, 0) := rfl
set_option maxRecDepth 20000 in
theorem gk_f146_45 : gd_fetch 146 45 = some (45, .ireturn, 1, 0, 0, 0, 0, 0) := rfl
set_option maxRecDepth 20000 in
set_option maxHeartbeats 4000000 in
theorem q_X_ofPosted (r0 : Nat) (x1 : Int32) (m : gd_M) : gd_call 146 [.ref r0, .int x1] m = if x1 = 8 then (if gd_ok (gN m) r0 4 = true then (some (.int (gI m r0 12), m)) else none) else if x1 = 9 then (if gd_ok (gN m) r0 4 = true then (some (.int (gI m r0 11), m)) else none) else if x1 = 10 then (if gd_ok (gN m) r0 4 = true then (some (.int (gI m r0 13), m)) else none) else (some (.int (-9), m)) := by
  refine Eq.trans (show gd_call 146 [.ref r0, .int x1] m = gd_Den (146, 0, [.ref r0, .int x1], [], m) from by unfold gd_call gd_ent; rw [gk_ml146]; rfl) ?_
  refine Eq.trans (D_iload_n (x := x1) gk_f146_0 rfl) ?_
  refine Eq.trans (D_tsw (vs := [(8, 28), (9, 33), (10, 38)]) (t := 43) gk_f146_1 (by decide) (by decide)) ?_
  refine gd_ite (fun h1 => ?_) (fun h2 => ?_)
  · refine Eq.trans (D_aload_n (x := r0) gk_f146_28 rfl) ?_
    refine Eq.trans (D_gfI gk_f146_29 (by decide) (by decide) (by decide)) ?_
    refine gd_ite (fun h3 => ?_) (fun _ => rfl)
    refine Eq.trans (D_ireturn gk_f146_32 gk_rk146) ?_
    rfl
  refine gd_ite (fun h4 => ?_) (fun h5 => ?_)
  · refine Eq.trans (D_aload_n (x := r0) gk_f146_33 rfl) ?_
    refine Eq.trans (D_gfI gk_f146_34 (by decide) (by decide) (by decide)) ?_
    refine gd_ite (fun h6 => ?_) (fun _ => rfl)
    refine Eq.trans (D_ireturn gk_f146_37 gk_rk146) ?_
    rfl
  refine gd_ite (fun h7 => ?_) (fun h8 => ?_)
  · refine Eq.trans (D_aload_n (x := r0) gk_f146_38 rfl) ?_
    refine Eq.trans (D_gfI gk_f146_39 (by decide) (by decide) (by decide)) ?_
    refine gd_ite (fun h9 => ?_) (fun _ => rfl)
    refine Eq.trans (D_ireturn gk_f146_42 gk_rk146) ?_
    rfl
  refine Eq.trans (D_bipush (x := (-9)) gk_f146_43 gk_b_m9) ?_
  refine Eq.trans (D_ireturn gk_f146_45 gk_rk146) ?_
  rfl
/-! GymDesk.ofBegun (LGymDesk$Routine;I)I -/
set_option maxRecDepth 20000 in
theorem gk_f147_0 : gd_fetch 147 0 = some (0, .iload_n 2, 1, 0, 0, 0, 0, 0) := rfl
set_option maxRecDepth 20000 in
theorem gk_f147_1 : gd_fetch 147 1 = some (1, .tableswitch 116 0 7 #[47, 52, 62, 72, 81, 94, 99, 104], 47, 0, 0, 0, 0, 0) := rfl
set_option maxRecDepth 20000 in
theorem gk_f147_48 : gd_fetch 147 48 = some (48, .aload_n 1, 1, 0, 0, 0, 0, 0) := rfl
set_option maxRecDepth 20000 in
theorem gk_f147_49 : gd_fetch 147 49 = some (49, .getfield 142, 3, 412, 4, 6, 0, 0) := rfl
set_option maxRecDepth 20000 in
theorem gk_f147_52 : gd_fetch 147 52 = some (52, .ireturn, 1, 0, 0, 0, 0, 0) := rfl
set_option maxRecDepth 20000 in
theorem gk_f147_53 : gd_fetch 147 53 = some (53, .aload_n 0, 1, 0, 0, 0, 0, 0) := rfl
set_option maxRecDepth 20000 in
theorem gk_f147_54 : gd_fetch 147 54 = some (54, .aload_n 1, 1, 0, 0, 0, 0, 0) := rfl
set_option maxRecDepth 20000 in
theorem gk_f147_55 : gd_fetch 147 55 = some (55, .invokevirtual 177, 3, 767, 133, 1, 0, 0) := rfl
set_option maxRecDepth 20000 in
theorem gk_f147_58 : gd_fetch 147 58 = some (58, .aload_n 1, 1, 0, 0, 0, 0, 0) := rfl
set_option maxRecDepth 20000 in
theorem gk_f147_59 : gd_fetch 147 59 = some (59, .getfield 218, 3, 418, 4, 9, 0, 0) := rfl
set_option maxRecDepth 20000 in
theorem gk_f147_62 : gd_fetch 147 62 = some (62, .ireturn, 1, 0, 0, 0, 0, 0) := rfl
set_option maxRecDepth 20000 in
theorem gk_f147_63 : gd_fetch 147 63 = some (63, .aload_n 0, 1, 0, 0, 0, 0, 0) := rfl
set_option maxRecDepth 20000 in
theorem gk_f147_64 : gd_fetch 147 64 = some (64, .aload_n 1, 1, 0, 0, 0, 0, 0) := rfl
set_option maxRecDepth 20000 in
theorem gk_f147_65 : gd_fetch 147 65 = some (65, .invokevirtual 177, 3, 767, 133, 1, 0, 0) := rfl
set_option maxRecDepth 20000 in
theorem gk_f147_68 : gd_fetch 147 68 = some (68, .aload_n 1, 1, 0, 0, 0, 0, 0) := rfl
set_option maxRecDepth 20000 in
theorem gk_f147_69 : gd_fetch 147 69 = some (69, .getfield 221, 3, 420, 4, 10, 0, 0) := rfl
set_option maxRecDepth 20000 in
theorem gk_f147_72 : gd_fetch 147 72 = some (72, .ireturn, 1, 0, 0, 0, 0, 0) := rfl
set_option maxRecDepth 20000 in
theorem gk_f147_73 : gd_fetch 147 73 = some (73, .aload_n 1, 1, 0, 0, 0, 0, 0) := rfl
set_option maxRecDepth 20000 in
theorem gk_f147_74 : gd_fetch 147 74 = some (74, .aload_n 0, 1, 0, 0, 0, 0, 0) := rfl
set_option maxRecDepth 20000 in
theorem gk_f147_75 : gd_fetch 147 75 = some (75, .getfield 56, 3, 469, 6, 9, 4, 0) := rfl
set_option maxRecDepth 20000 in
theorem gk_f147_78 : gd_fetch 147 78 = some (78, .invokevirtual 173, 3, 752, 118, 1, 0, 0) := rfl
set_option maxRecDepth 20000 in
theorem gk_f147_81 : gd_fetch 147 81 = some (81, .ireturn, 1, 0, 0, 0, 0, 0) := rfl
set_option maxRecDepth 20000 in
theorem gk_f147_82 : gd_fetch 147 82 = some (82, .aload_n 1, 1, 0, 0, 0, 0, 0) := rfl
set_option maxRecDepth 20000 in
theorem gk_f147_83 : gd_fetch 147 83 = some (83, .getfield 208, 3, 408, 4, 4, 1, 0) := rfl
set_option maxRecDepth 20000 in
theorem gk_f147_86 : gd_fetch 147 86 = some (86, .ifCond .eq 7, 3, 0, 0, 0, 0, 0) := rfl
set_option maxRecDepth 20000 in
theorem gk_f147_89 : gd_fetch 147 89 = some (89, .iconst 1, 1, 0, 0, 0, 0, 0) := rfl
set_option maxRecDepth 20000 in
theorem gk_f147_90 : gd_fetch 147 90 = some (90, .goto 4, 3, 0, 0, 0, 0, 0) := rfl
set_option maxRecDepth 20000 in
theorem gk_f147_93 : gd_fetch 147 93 = some (93, .iconst 0, 1, 0, 0, 0, 0, 0) := rfl
set_option maxRecDepth 20000 in
theorem gk_f147_94 : gd_fetch 147 94 = some (94, .ireturn, 1, 0, 0, 0, 0, 0) := rfl
set_option maxRecDepth 20000 in
theorem gk_f147_95 : gd_fetch 147 95 = some (95, .aload_n 1, 1, 0, 0, 0, 0, 0) := rfl
set_option maxRecDepth 20000 in
theorem gk_f147_96 : gd_fetch 147 96 = some (96, .getfield 222, 3, 428, 4, 14, 0, 0) := rfl
set_option maxRecDepth 20000 in
theorem gk_f147_99 : gd_fetch 147 99 = some (99, .ireturn, 1, 0, 0, 0, 0, 0) := rfl
set_option maxRecDepth 20000 in
theorem gk_f147_100 : gd_fetch 147 100 = some (100, .aload_n 1, 1, 0, 0, 0, 0, 0) := rfl
set_option maxRecDepth 20000 in
theorem gk_f147_101 : gd_fetch 147 101 = some (101, .getfield 158, 3, 414, 4, 7, 0, 0) := rfl
set_option maxRecDepth 20000 in
theorem gk_f147_104 : gd_fetch 147 104 = some (104, .ireturn, 1, 0, 0, 0, 0, 0) := rfl
set_option maxRecDepth 20000 in
theorem gk_f147_105 : gd_fetch 147 105 = some (105, .aload_n 1, 1, 0, 0, 0, 0, 0) := rfl
set_option maxRecDepth 20000 in
theorem gk_f147_106 : gd_fetch 147 106 = some (106, .aload_n 0, 1, 0, 0, 0, 0, 0) := rfl
set_option maxRecDepth 20000 in
theorem gk_f147_107 : gd_fetch 147 107 = some (107, .getfield 56, 3, 469, 6, 9, 4, 0) := rfl
set_option maxRecDepth 20000 in
theorem gk_f147_110 : gd_fetch 147 110 = some (110, .invokevirtual 225, 3, 846, 123, 1, 0, 0) := rfl
set_option maxRecDepth 20000 in
theorem gk_f147_113 : gd_fetch 147 113 = some (113, .invokestatic 228, 3, 847, 117, 1, 0, 0) := rfl
set_option maxRecDepth 20000 in
theorem gk_f147_116 : gd_fetch 147 116 = some (116, .ireturn, 1, 0, 0, 0, 0, 0) := rfl
set_option maxRecDepth 20000 in
theorem gk_f147_117 : gd_fetch 147 117 = some (117, .bipush (-9), 2, 0, 0, 0, 0, 0) := rfl
set_option maxRecDepth 20000 in
theorem gk_f147_119 : gd_fetch 147 119 = some (119, .ireturn, 1, 0, 0, 0, 0, 0) := rfl
set_option maxRecDepth 20000 in
set_option maxHeartbeats 4000000 in
theorem q_X_ofBegun (r0 : Nat) (r1 : Nat) (x2 : Int32) (m : gd_M) : gd_call 147 [.ref r0, .ref r1, .int x2] m = if x2 = 0 then (if gd_ok (gN m) r1 4 = true then (some (.int (gI m r1 6), m)) else none) else if x2 = 1 then (if gd_ok (gN m) r0 6 = true then ((gd_call 133 [.ref r0, .ref r1] m).bind (gd_kV fun m7 => if gd_ok (gN m7) r1 4 = true then (some (.int (gI m7 r1 9), m7)) else none)) else none) else if x2 = 2 then (if gd_ok (gN m) r0 6 = true then ((gd_call 133 [.ref r0, .ref r1] m).bind (gd_kV fun m13 => if gd_ok (gN m13) r1 4 = true then (some (.int (gI m13 r1 10), m13)) else none)) else none) else if x2 = 3 then (if gd_ok (gN m) r0 6 = true then (if gd_ok (gN m) r1 4 = true then ((gd_call 118 [.ref r1, .ref (gR m r0 9)] m).bind (gd_kI fun z22 m20 => some (.int z22, m20))) else none) else none) else if x2 = 4 then (if gd_ok (gN m) r1 4 = true then (if ((gI m r1 4) = 0 : Prop) then (some (.int 0, m)) else (some (.int 1, m))) else none) else if x2 = 5 then (if gd_ok (gN m) r1 4 = true then (some (.int (gI m r1 14), m)) else none) else if x2 = 6 then (if gd_ok (gN m) r1 4 = true then (some (.int (gI m r1 7), m)) else none) else if x2 = 7 then (if gd_ok (gN m) r0 6 = true then (if gd_ok (gN m) r1 4 = true then ((gd_call 123 [.ref r1, .ref (gR m r0 9)] m).bind (gd_kI fun z40 m38 => (gd_call 117 [.int z40] m38).bind (gd_k0I fun z43 m41 => some (.int z43, m41)))) else none) else none) else (some (.int (-9), m)) := by
  refine Eq.trans (show gd_call 147 [.ref r0, .ref r1, .int x2] m = gd_Den (147, 0, [.ref r0, .ref r1, .int x2], [], m) from by unfold gd_call gd_ent; rw [gk_ml147]; rfl) ?_
  refine Eq.trans (D_iload_n (x := x2) gk_f147_0 rfl) ?_
  refine Eq.trans (D_tsw (vs := [(0, 48), (1, 53), (2, 63), (3, 73), (4, 82), (5, 95), (6, 100), (7, 105)]) (t := 117) gk_f147_1 (by decide) (by decide)) ?_
  refine gd_ite (fun h1 => ?_) (fun h2 => ?_)
  · refine Eq.trans (D_aload_n (x := r1) gk_f147_48 rfl) ?_
    refine Eq.trans (D_gfI gk_f147_49 (by decide) (by decide) (by decide)) ?_
    refine gd_ite (fun h3 => ?_) (fun _ => rfl)
    refine Eq.trans (D_ireturn gk_f147_52 gk_rk147) ?_
    rfl
  refine gd_ite (fun h4 => ?_) (fun h5 => ?_)
  · refine Eq.trans (D_aload_n (x := r0) gk_f147_53 rfl) ?_
    refine Eq.trans (D_aload_n (x := r1) gk_f147_54 rfl) ?_
    refine Eq.trans (D_ivV (cl := 6) (args := [.ref r0, .ref r1]) (rest := []) gk_f147_55 rfl rfl (gd_rmk gk_rm147_133 gk_ln133 gk_ml133 rfl rfl rfl) gk_rk133 (gd_hnd_n gk_nc147) gk_nc133 gk_n11_133 gk_cl133) ?_
    refine gd_ite (fun h6 => ?_) (fun _ => rfl)
    refine gd_bnd (gd_kV_c fun m7 => ?_)
    refine Eq.trans (D_aload_n (x := r1) gk_f147_58 rfl) ?_
    refine Eq.trans (D_gfI gk_f147_59 (by decide) (by decide) (by decide)) ?_
    refine gd_ite (fun h9 => ?_) (fun _ => rfl)
    refine Eq.trans (D_ireturn gk_f147_62 gk_rk147) ?_
    rfl
  refine gd_ite (fun h10 => ?_) (fun h11 => ?_)
  · refine Eq.trans (D_aload_n (x := r0) gk_f147_63 rfl) ?_
    refine Eq.trans (D_aload_n (x := r1) gk_f147_64 rfl) ?_
    refine Eq.trans (D_ivV (cl := 6) (args := [.ref r0, .ref r1]) (rest := []) gk_f147_65 rfl rfl (gd_rmk gk_rm147_133 gk_ln133 gk_ml133 rfl rfl rfl) gk_rk133 (gd_hnd_n gk_nc147) gk_nc133 gk_n11_133 gk_cl133) ?_
    refine gd_ite (fun h12 => ?_) (fun _ => rfl)
    refine gd_bnd (gd_kV_c fun m13 => ?_)
    refine Eq.trans (D_aload_n (x := r1) gk_f147_68 rfl) ?_
    refine Eq.trans (D_gfI gk_f147_69 (by decide) (by decide) (by decide)) ?_
    refine gd_ite (fun h15 => ?_) (fun _ => rfl)
    refine Eq.trans (D_ireturn gk_f147_72 gk_rk147) ?_
    rfl
  refine gd_ite (fun h16 => ?_) (fun h17 => ?_)
  · refine Eq.trans (D_aload_n (x := r1) gk_f147_73 rfl) ?_
    refine Eq.trans (D_aload_n (x := r0) gk_f147_74 rfl) ?_
    refine Eq.trans (D_gfR gk_f147_75 (by decide)) ?_
    refine gd_ite (fun h18 => ?_) (fun _ => rfl)
    refine Eq.trans (D_ivI (cl := 4) (args := [.ref r1, .ref (gR m r0 9)]) (rest := []) gk_f147_78 rfl rfl (gd_rmk gk_rm147_118 gk_ln118 gk_ml118 rfl rfl rfl) gk_rk118 (gd_hnd_n gk_nc147) gk_nc118 gk_n11_118 gk_cl118) ?_
    refine gd_ite (fun h19 => ?_) (fun _ => rfl)
    refine gd_bnd (gd_kI_c fun z22 m20 => ?_)
    refine Eq.trans (D_ireturn gk_f147_81 gk_rk147) ?_
    rfl
  refine gd_ite (fun h23 => ?_) (fun h24 => ?_)
  · refine Eq.trans (D_aload_n (x := r1) gk_f147_82 rfl) ?_
    refine Eq.trans (D_gfI gk_f147_83 (by decide) (by decide) (by decide)) ?_
    refine gd_ite (fun h25 => ?_) (fun _ => rfl)
    refine Eq.trans (D_if_eq (t := 93) gk_f147_86 (by decide)) ?_
    refine gd_ite (fun h26 => ?_) (fun h27 => ?_)
    · refine Eq.trans (D_iconst (x := 0) gk_f147_93 gk_c_0) ?_
      refine Eq.trans (D_ireturn gk_f147_94 gk_rk147) ?_
      rfl
    · refine Eq.trans (D_iconst (x := 1) gk_f147_89 gk_c_1) ?_
      refine Eq.trans (D_goto (t := 94) gk_f147_90 (by decide)) ?_
      refine Eq.trans (D_ireturn gk_f147_94 gk_rk147) ?_
      rfl
  refine gd_ite (fun h28 => ?_) (fun h29 => ?_)
  · refine Eq.trans (D_aload_n (x := r1) gk_f147_95 rfl) ?_
    refine Eq.trans (D_gfI gk_f147_96 (by decide) (by decide) (by decide)) ?_
    refine gd_ite (fun h30 => ?_) (fun _ => rfl)
    refine Eq.trans (D_ireturn gk_f147_99 gk_rk147) ?_
    rfl
  refine gd_ite (fun h31 => ?_) (fun h32 => ?_)
  · refine Eq.trans (D_aload_n (x := r1) gk_f147_100 rfl) ?_
    refine Eq.trans (D_gfI gk_f147_101 (by decide) (by decide) (by decide)) ?_
    refine gd_ite (fun h33 => ?_) (fun _ => rfl)
    refine Eq.trans (D_ireturn gk_f147_104 gk_rk147) ?_
    rfl
  refine gd_ite (fun h34 => ?_) (fun h35 => ?_)
  · refine Eq.trans (D_aload_n (x := r1) gk_f147_105 rfl) ?_
    refine Eq.trans (D_aload_n (x := r0) gk_f147_106 rfl) ?_
    refine Eq.trans (D_gfR gk_f147_107 (by decide)) ?_
    refine gd_ite (fun h36 => ?_) (fun _ => rfl)
    refine Eq.trans (D_ivI (cl := 4) (args := [.ref r1, .ref (gR m r0 9)]) (rest := []) gk_f147_110 rfl rfl (gd_rmk gk_rm147_123 gk_ln123 gk_ml123 rfl rfl rfl) gk_rk123 (gd_hnd_n gk_nc147) gk_nc123 gk_n11_123 gk_cl123) ?_
    refine gd_ite (fun h37 => ?_) (fun _ => rfl)
    refine gd_bnd (gd_kI_c fun z40 m38 => ?_)
    refine Eq.trans (D_isI (args := [.int z40]) (rest := []) gk_f147_113 rfl rfl rfl (gd_rmk gk_rm147_117 gk_ln117 gk_ml117 rfl rfl rfl) gk_rk117 (gd_hnd_n gk_nc147)) ?_
    refine gd_bnd (gd_k0I_c fun z43 m41 => ?_)
    refine Eq.trans (D_ireturn gk_f147_116 gk_rk147) ?_
    rfl
  refine Eq.trans (D_bipush (x := (-9)) gk_f147_117 gk_b_m9) ?_
  refine Eq.trans (D_ireturn gk_f147_119 gk_rk147) ?_
  rfl
/-! GymDesk.routine (III)I -/
set_option maxRecDepth 20000 in
theorem gk_f148_0 : gd_fetch 148 0 = some (0, .aload_n 0, 1, 0, 0, 0, 0, 0) := rfl
set_option maxRecDepth 20000 in
theorem gk_f148_1 : gd_fetch 148 1 = some (1, .iload_n 1, 1, 0, 0, 0, 0, 0) := rfl
set_option maxRecDepth 20000 in
theorem gk_f148_2 : gd_fetch 148 2 = some (2, .iload_n 2, 1, 0, 0, 0, 0, 0) := rfl
set_option maxRecDepth 20000 in
theorem gk_f148_3 : gd_fetch 148 3 = some (3, .invokevirtual 124, 3, 685, 93, 2, 0, 0) := rfl
set_option maxRecDepth 20000 in
theorem gk_f148_6 : gd_fetch 148 6 = some (6, .astore 4, 2, 0, 0, 0, 0, 0) := rfl
set_option maxRecDepth 20000 in
theorem gk_f148_8 : gd_fetch 148 8 = some (8, .aload 4, 2, 0, 0, 0, 0, 0) := rfl
set_option maxRecDepth 20000 in
theorem gk_f148_10 : gd_fetch 148 10 = some (10, .ifnull 11, 3, 0, 0, 0, 0, 0) := rfl
set_option maxRecDepth 20000 in
theorem gk_f148_13 : gd_fetch 148 13 = some (13, .aload 4, 2, 0, 0, 0, 0, 0) := rfl
set_option maxRecDepth 20000 in
theorem gk_f148_15 : gd_fetch 148 15 = some (15, .getfield 82, 3, 406, 4, 3, 1, 0) := rfl
set_option maxRecDepth 20000 in
theorem gk_f148_18 : gd_fetch 148 18 = some (18, .ifCond .ne 6, 3, 0, 0, 0, 0, 0) := rfl
set_option maxRecDepth 20000 in
theorem gk_f148_21 : gd_fetch 148 21 = some (21, .bipush (-9), 2, 0, 0, 0, 0, 0) := rfl
set_option maxRecDepth 20000 in
theorem gk_f148_23 : gd_fetch 148 23 = some (23, .ireturn, 1, 0, 0, 0, 0, 0) := rfl
set_option maxRecDepth 20000 in
theorem gk_f148_24 : gd_fetch 148 24 = some (24, .iload_n 3, 1, 0, 0, 0, 0, 0) := rfl
set_option maxRecDepth 20000 in
theorem gk_f148_25 : gd_fetch 148 25 = some (25, .bipush 20, 2, 0, 0, 0, 0, 0) := rfl
set_option maxRecDepth 20000 in
theorem gk_f148_27 : gd_fetch 148 27 = some (27, .if_icmp .lt 31, 3, 0, 0, 0, 0, 0) := rfl
set_option maxRecDepth 20000 in
theorem gk_f148_30 : gd_fetch 148 30 = some (30, .aload 4, 2, 0, 0, 0, 0, 0) := rfl
set_option maxRecDepth 20000 in
theorem gk_f148_32 : gd_fetch 148 32 = some (32, .iload_n 3, 1, 0, 0, 0, 0, 0) := rfl
set_option maxRecDepth 20000 in
theorem gk_f148_33 : gd_fetch 148 33 = some (33, .bipush 20, 2, 0, 0, 0, 0, 0) := rfl
set_option maxRecDepth 20000 in
theorem gk_f148_35 : gd_fetch 148 35 = some (35, .isub, 1, 0, 0, 0, 0, 0) := rfl
set_option maxRecDepth 20000 in
theorem gk_f148_36 : gd_fetch 148 36 = some (36, .invokevirtual 167, 3, 748, 116, 1, 0, 0) := rfl
set_option maxRecDepth 20000 in
theorem gk_f148_39 : gd_fetch 148 39 = some (39, .ifCond .eq 16, 3, 0, 0, 0, 0, 0) := rfl
set_option maxRecDepth 20000 in
theorem gk_f148_42 : gd_fetch 148 42 = some (42, .aload 4, 2, 0, 0, 0, 0, 0) := rfl
set_option maxRecDepth 20000 in
theorem gk_f148_44 : gd_fetch 148 44 = some (44, .getfield 205, 3, 401, 4, 0, 4, 1) := rfl
set_option maxRecDepth 20000 in
theorem gk_f148_47 : gd_fetch 148 47 = some (47, .iload_n 3, 1, 0, 0, 0, 0, 0) := rfl
set_option maxRecDepth 20000 in
theorem gk_f148_48 : gd_fetch 148 48 = some (48, .bipush 20, 2, 0, 0, 0, 0, 0) := rfl
set_option maxRecDepth 20000 in
theorem gk_f148_50 : gd_fetch 148 50 = some (50, .isub, 1, 0, 0, 0, 0, 0) := rfl
set_option maxRecDepth 20000 in
theorem gk_f148_51 : gd_fetch 148 51 = some (51, .iaload, 1, 0, 0, 0, 0, 0) := rfl
set_option maxRecDepth 20000 in
theorem gk_f148_52 : gd_fetch 148 52 = some (52, .goto 5, 3, 0, 0, 0, 0, 0) := rfl
set_option maxRecDepth 20000 in
theorem gk_f148_55 : gd_fetch 148 55 = some (55, .bipush (-9), 2, 0, 0, 0, 0, 0) := rfl
set_option maxRecDepth 20000 in
theorem gk_f148_57 : gd_fetch 148 57 = some (57, .ireturn, 1, 0, 0, 0, 0, 0) := rfl
set_option maxRecDepth 20000 in
theorem gk_f148_58 : gd_fetch 148 58 = some (58, .iload_n 3, 1, 0, 0, 0, 0, 0) := rfl
set_option maxRecDepth 20000 in
theorem gk_f148_59 : gd_fetch 148 59 = some (59, .bipush 8, 2, 0, 0, 0, 0, 0) := rfl
set_option maxRecDepth 20000 in
theorem gk_f148_61 : gd_fetch 148 61 = some (61, .if_icmp .lt 23, 3, 0, 0, 0, 0, 0) := rfl
set_option maxRecDepth 20000 in
theorem gk_f148_64 : gd_fetch 148 64 = some (64, .aload 4, 2, 0, 0, 0, 0, 0) := rfl
set_option maxRecDepth 20000 in
theorem gk_f148_66 : gd_fetch 148 66 = some (66, .getfield 208, 3, 408, 4, 4, 1, 0) := rfl
set_option maxRecDepth 20000 in
theorem gk_f148_69 : gd_fetch 148 69 = some (69, .ifCond .eq 12, 3, 0, 0, 0, 0, 0) := rfl
set_option maxRecDepth 20000 in
theorem gk_f148_72 : gd_fetch 148 72 = some (72, .aload 4, 2, 0, 0, 0, 0, 0) := rfl
set_option maxRecDepth 20000 in
theorem gk_f148_74 : gd_fetch 148 74 = some (74, .iload_n 3, 1, 0, 0, 0, 0, 0) := rfl
set_option maxRecDepth 20000 in
theorem gk_f148_75 : gd_fetch 148 75 = some (75, .invokestatic 211, 3, 839, 146, 2, 0, 0) := rfl
set_option maxRecDepth 20000 in
theorem gk_f148_78 : gd_fetch 148 78 = some (78, .goto 5, 3, 0, 0, 0, 0, 0) := rfl
set_option maxRecDepth 20000 in
theorem gk_f148_81 : gd_fetch 148 81 = some (81, .bipush (-9), 2, 0, 0, 0, 0, 0) := rfl
set_option maxRecDepth 20000 in
theorem gk_f148_83 : gd_fetch 148 83 = some (83, .ireturn, 1, 0, 0, 0, 0, 0) := rfl
set_option maxRecDepth 20000 in
theorem gk_f148_84 : gd_fetch 148 84 = some (84, .aload_n 0, 1, 0, 0, 0, 0, 0) := rfl
set_option maxRecDepth 20000 in
theorem gk_f148_85 : gd_fetch 148 85 = some (85, .aload 4, 2, 0, 0, 0, 0, 0) := rfl
set_option maxRecDepth 20000 in
theorem gk_f148_87 : gd_fetch 148 87 = some (87, .iload_n 3, 1, 0, 0, 0, 0, 0) := rfl
set_option maxRecDepth 20000 in
theorem gk_f148_88 : gd_fetch 148 88 = some (88, .invokevirtual 215, 3, 842, 147, 2, 0, 0) := rfl
set_option maxRecDepth 20000 in
theorem gk_f148_91 : gd_fetch 148 91 = some (91, .ireturn, 1, 0, 0, 0, 0, 0) := rfl
set_option maxRecDepth 20000 in
set_option maxHeartbeats 4000000 in
theorem q_X_routine (r0 : Nat) (x1 : Int32) (x2 : Int32) (x3 : Int32) (m : gd_M) : gd_call 148 [.ref r0, .int x1, .int x2, .int x3] m = if gd_ok (gN m) r0 6 = true then ((gd_call 93 [.ref r0, .int x1, .int x2] m).bind (gd_kR fun o4 m2 => if o4 = 0 then (some (.int (-9), m2)) else if 8 ≤ o4 then (if gd_ok (gN m2) o4 4 = true then (if ((gI m2 o4 3) = 0 : Prop) then (some (.int (-9), m2)) else (if (x3 < 20 : Prop) then (if (x3 < 8 : Prop) then (if gd_ok (gN m2) r0 6 = true then ((gd_call 147 [.ref r0, .ref o4, .int x3] m2).bind (gd_kI fun z18 m16 => some (.int z18, m16))) else none) else (if ((gI m2 o4 4) = 0 : Prop) then (some (.int (-9), m2)) else ((gd_call 146 [.ref o4, .int x3] m2).bind (gd_k0I fun z23 m21 => some (.int z23, m21))))) else ((gd_call 116 [.ref o4, .int (x3 - 20)] m2).bind (gd_kI fun z26 m24 => if (z26 = 0 : Prop) then (some (.int (-9), m24)) else (if gd_ok (gN m24) o4 4 = true then (if gd_okA (gN m24) (gR m24 o4 0) 10 (x3 - 20) = true then (some (.int (gI m24 (gR m24 o4 0) ((x3 - 20) : Int32).toNatClampNeg), m24)) else none) else none))))) else none) else none)) else none := by
  refine Eq.trans (show gd_call 148 [.ref r0, .int x1, .int x2, .int x3] m = gd_Den (148, 0, [.ref r0, .int x1, .int x2, .int x3, .null], [], m) from by unfold gd_call gd_ent; rw [gk_ml148]; rfl) ?_
  refine Eq.trans (D_aload_n (x := r0) gk_f148_0 rfl) ?_
  refine Eq.trans (D_iload_n (x := x1) gk_f148_1 rfl) ?_
  refine Eq.trans (D_iload_n (x := x2) gk_f148_2 rfl) ?_
  refine Eq.trans (D_ivR (cl := 6) (args := [.ref r0, .int x1, .int x2]) (rest := []) gk_f148_3 rfl rfl (gd_rmk gk_rm148_93 gk_ln93 gk_ml93 rfl rfl rfl) gk_rk93 (gd_hnd_n gk_nc148) gk_nc93 gk_n11_93 gk_cl93) ?_
  refine gd_ite (fun h1 => ?_) (fun _ => rfl)
  refine gd_bnd (gd_kR_c fun o4 m2 => ?_)
  refine Eq.trans (D_astore gk_f148_6 gk_st148_4) ?_
  refine Eq.trans (D_aload (x := o4) gk_f148_8 rfl) ?_
  refine Eq.trans (D_ifnull (t := 21) gk_f148_10 (by decide)) ?_
  refine gd_ite (fun h5 => ?_) (fun h6 => gd_ite (fun h7 => ?_) (fun _ => rfl))
  · refine Eq.trans (D_bipush (x := (-9)) gk_f148_21 gk_b_m9) ?_
    refine Eq.trans (D_ireturn gk_f148_23 gk_rk148) ?_
    rfl
  · refine Eq.trans (D_aload (x := o4) gk_f148_13 rfl) ?_
    refine Eq.trans (D_gfI gk_f148_15 (by decide) (by decide) (by decide)) ?_
    refine gd_ite (fun h8 => ?_) (fun _ => rfl)
    refine Eq.trans (D_if_ne (t := 24) gk_f148_18 (by decide)) ?_
    refine gd_ite (fun h9 => ?_) (fun h10 => ?_)
    · refine Eq.trans (D_bipush (x := (-9)) gk_f148_21 gk_b_m9) ?_
      refine Eq.trans (D_ireturn gk_f148_23 gk_rk148) ?_
      rfl
    · refine Eq.trans (D_iload_n (x := x3) gk_f148_24 rfl) ?_
      refine Eq.trans (D_bipush (x := 20) gk_f148_25 gk_b_20) ?_
      refine Eq.trans (D_ic_lt (t := 58) gk_f148_27 (by decide)) ?_
      refine gd_ite (fun h11 => ?_) (fun h12 => ?_)
      · refine Eq.trans (D_iload_n (x := x3) gk_f148_58 rfl) ?_
        refine Eq.trans (D_bipush (x := 8) gk_f148_59 gk_b_8) ?_
        refine Eq.trans (D_ic_lt (t := 84) gk_f148_61 (by decide)) ?_
        refine gd_ite (fun h13 => ?_) (fun h14 => ?_)
        · refine Eq.trans (D_aload_n (x := r0) gk_f148_84 rfl) ?_
          refine Eq.trans (D_aload (x := o4) gk_f148_85 rfl) ?_
          refine Eq.trans (D_iload_n (x := x3) gk_f148_87 rfl) ?_
          refine Eq.trans (D_ivI (cl := 6) (args := [.ref r0, .ref o4, .int x3]) (rest := []) gk_f148_88 rfl rfl (gd_rmk gk_rm148_147 gk_ln147 gk_ml147 rfl rfl rfl) gk_rk147 (gd_hnd_n gk_nc148) gk_nc147 gk_n11_147 gk_cl147) ?_
          refine gd_ite (fun h15 => ?_) (fun _ => rfl)
          refine gd_bnd (gd_kI_c fun z18 m16 => ?_)
          refine Eq.trans (D_ireturn gk_f148_91 gk_rk148) ?_
          rfl
        · refine Eq.trans (D_aload (x := o4) gk_f148_64 rfl) ?_
          refine Eq.trans (D_gfI gk_f148_66 (by decide) (by decide) (by decide)) ?_
          refine Eq.trans (if_pos h8) ?_
          refine Eq.trans (D_if_eq (t := 81) gk_f148_69 (by decide)) ?_
          refine gd_ite (fun h19 => ?_) (fun h20 => ?_)
          · refine Eq.trans (D_bipush (x := (-9)) gk_f148_81 gk_b_m9) ?_
            refine Eq.trans (D_ireturn gk_f148_83 gk_rk148) ?_
            rfl
          · refine Eq.trans (D_aload (x := o4) gk_f148_72 rfl) ?_
            refine Eq.trans (D_iload_n (x := x3) gk_f148_74 rfl) ?_
            refine Eq.trans (D_isI (args := [.ref o4, .int x3]) (rest := []) gk_f148_75 rfl rfl rfl (gd_rmk gk_rm148_146 gk_ln146 gk_ml146 rfl rfl rfl) gk_rk146 (gd_hnd_n gk_nc148)) ?_
            refine gd_bnd (gd_k0I_c fun z23 m21 => ?_)
            refine Eq.trans (D_goto (t := 83) gk_f148_78 (by decide)) ?_
            refine Eq.trans (D_ireturn gk_f148_83 gk_rk148) ?_
            rfl
      · refine Eq.trans (D_aload (x := o4) gk_f148_30 rfl) ?_
        refine Eq.trans (D_iload_n (x := x3) gk_f148_32 rfl) ?_
        refine Eq.trans (D_bipush (x := 20) gk_f148_33 gk_b_20) ?_
        refine Eq.trans (D_isub gk_f148_35) ?_
        refine Eq.trans (D_ivZ (cl := 4) (args := [.ref o4, .int (x3 - 20)]) (rest := []) gk_f148_36 rfl rfl (gd_rmk gk_rm148_116 gk_ln116 gk_ml116 rfl rfl rfl) gk_rk116 (gd_hnd_n gk_nc148) gk_nc116 gk_n11_116 gk_cl116) ?_
        refine Eq.trans (if_pos h8) ?_
        refine gd_bnd (gd_kI_c fun z26 m24 => ?_)
        refine Eq.trans (D_if_eq (t := 55) gk_f148_39 (by decide)) ?_
        refine gd_ite (fun h27 => ?_) (fun h28 => ?_)
        · refine Eq.trans (D_bipush (x := (-9)) gk_f148_55 gk_b_m9) ?_
          refine Eq.trans (D_ireturn gk_f148_57 gk_rk148) ?_
          rfl
        · refine Eq.trans (D_aload (x := o4) gk_f148_42 rfl) ?_
          refine Eq.trans (D_gfR gk_f148_44 (by decide)) ?_
          refine gd_ite (fun h29 => ?_) (fun _ => rfl)
          refine Eq.trans (D_iload_n (x := x3) gk_f148_47 rfl) ?_
          refine Eq.trans (D_bipush (x := 20) gk_f148_48 gk_b_20) ?_
          refine Eq.trans (D_isub gk_f148_50) ?_
          refine Eq.trans (D_iald gk_f148_51 gk_n10_148) ?_
          refine gd_ite (fun h30 => ?_) (fun _ => rfl)
          refine Eq.trans (D_goto (t := 57) gk_f148_52 (by decide)) ?_
          refine Eq.trans (D_ireturn gk_f148_57 gk_rk148) ?_
          rfl
/-! GymDeskModel.isPosted (I)Z -/
set_option maxRecDepth 20000 in
theorem gk_f149_0 : gd_fetch 149 0 = some (0, .aload_n 0, 1, 0, 0, 0, 0, 0) := rfl
set_option maxRecDepth 20000 in
theorem gk_f149_1 : gd_fetch 149 1 = some (1, .getfield 51, 3, 1186, 9, 23, 4, 1) := rfl
set_option maxRecDepth 20000 in
theorem gk_f149_4 : gd_fetch 149 4 = some (4, .iload_n 1, 1, 0, 0, 0, 0, 0) := rfl
set_option maxRecDepth 20000 in
theorem gk_f149_5 : gd_fetch 149 5 = some (5, .baload, 1, 0, 0, 0, 0, 0) := rfl
set_option maxRecDepth 20000 in
theorem gk_f149_6 : gd_fetch 149 6 = some (6, .ifCond .eq 17, 3, 0, 0, 0, 0, 0) := rfl
set_option maxRecDepth 20000 in
theorem gk_f149_9 : gd_fetch 149 9 = some (9, .aload_n 0, 1, 0, 0, 0, 0, 0) := rfl
set_option maxRecDepth 20000 in
theorem gk_f149_10 : gd_fetch 149 10 = some (10, .getfield 72, 3, 1193, 9, 30, 4, 1) := rfl
set_option maxRecDepth 20000 in
theorem gk_f149_13 : gd_fetch 149 13 = some (13, .iload_n 1, 1, 0, 0, 0, 0, 0) := rfl
set_option maxRecDepth 20000 in
theorem gk_f149_14 : gd_fetch 149 14 = some (14, .iaload, 1, 0, 0, 0, 0, 0) := rfl
set_option maxRecDepth 20000 in
theorem gk_f149_15 : gd_fetch 149 15 = some (15, .iconst (-1), 1, 0, 0, 0, 0, 0) := rfl
set_option maxRecDepth 20000 in
theorem gk_f149_16 : gd_fetch 149 16 = some (16, .if_icmp .eq 7, 3, 0, 0, 0, 0, 0) := rfl
set_option maxRecDepth 20000 in
theorem gk_f149_19 : gd_fetch 149 19 = some (19, .iconst 1, 1, 0, 0, 0, 0, 0) := rfl
set_option maxRecDepth 20000 in
theorem gk_f149_20 : gd_fetch 149 20 = some (20, .goto 4, 3, 0, 0, 0, 0, 0) := rfl
set_option maxRecDepth 20000 in
theorem gk_f149_23 : gd_fetch 149 23 = some (23, .iconst 0, 1, 0, 0, 0, 0, 0) := rfl
set_option maxRecDepth 20000 in
theorem gk_f149_24 : gd_fetch 149 24 = some (24, .ireturn, 1, 0, 0, 0, 0, 0) := rfl
set_option maxRecDepth 20000 in
set_option maxHeartbeats 4000000 in
theorem q_Mo_isPosted (r0 : Nat) (x1 : Int32) (m : gd_M) : gd_call 149 [.ref r0, .int x1] m = if gd_ok (gN m) r0 9 = true then (if gd_okA (gN m) (gR m r0 23) 11 x1 = true then (if ((gI m (gR m r0 23) (x1 : Int32).toNatClampNeg) = 0 : Prop) then (some (.int 0, m)) else (if gd_okA (gN m) (gR m r0 30) 10 x1 = true then (if ((gI m (gR m r0 30) (x1 : Int32).toNatClampNeg) = (-1) : Prop) then (some (.int 0, m)) else (some (.int 1, m))) else none)) else none) else none := by
  refine Eq.trans (show gd_call 149 [.ref r0, .int x1] m = gd_Den (149, 0, [.ref r0, .int x1], [], m) from by unfold gd_call gd_ent; rw [gk_ml149]; rfl) ?_
  refine Eq.trans (D_aload_n (x := r0) gk_f149_0 rfl) ?_
  refine Eq.trans (D_gfR gk_f149_1 (by decide)) ?_
  refine gd_ite (fun h1 => ?_) (fun _ => rfl)
  refine Eq.trans (D_iload_n (x := x1) gk_f149_4 rfl) ?_
  refine Eq.trans (D_bald (kd := 11) gk_f149_5 gk_n12_149 gk_bk149) ?_
  refine gd_ite (fun h2 => ?_) (fun _ => rfl)
  refine Eq.trans (D_if_eq (t := 23) gk_f149_6 (by decide)) ?_
  refine gd_ite (fun h3 => ?_) (fun h4 => ?_)
  · refine Eq.trans (D_iconst (x := 0) gk_f149_23 gk_c_0) ?_
    refine Eq.trans (D_zreturn gk_f149_24 gk_rk149) ?_
    exact if_pos rfl
  · refine Eq.trans (D_aload_n (x := r0) gk_f149_9 rfl) ?_
    refine Eq.trans (D_gfR gk_f149_10 (by decide)) ?_
    refine Eq.trans (if_pos h1) ?_
    refine Eq.trans (D_iload_n (x := x1) gk_f149_13 rfl) ?_
    refine Eq.trans (D_iald gk_f149_14 gk_n10_149) ?_
    refine gd_ite (fun h5 => ?_) (fun _ => rfl)
    refine Eq.trans (D_iconst (x := (-1)) gk_f149_15 gk_c_m1) ?_
    refine Eq.trans (D_ic_eq (t := 23) gk_f149_16 (by decide)) ?_
    refine gd_ite (fun h6 => ?_) (fun h7 => ?_)
    · refine Eq.trans (D_iconst (x := 0) gk_f149_23 gk_c_0) ?_
      refine Eq.trans (D_zreturn gk_f149_24 gk_rk149) ?_
      exact if_pos rfl
    · refine Eq.trans (D_iconst (x := 1) gk_f149_19 gk_c_1) ?_
      refine Eq.trans (D_goto (t := 24) gk_f149_20 (by decide)) ?_
      refine Eq.trans (D_zreturn gk_f149_24 gk_rk149) ?_
      exact if_pos rfl
/-! GymDeskModel.routine (III)I -/
set_option maxRecDepth 20000 in
theorem gk_f150_0 : gd_fetch 150 0 = some (0, .aload_n 0, 1, 0, 0, 0, 0, 0) := rfl
set_option maxRecDepth 20000 in
theorem gk_f150_1 : gd_fetch 150 1 = some (1, .iload_n 1, 1, 0, 0, 0, 0, 0) := rfl
set_option maxRecDepth 20000 in
theorem gk_f150_2 : gd_fetch 150 2 = some (2, .iload_n 2, 1, 0, 0, 0, 0, 0) := rfl
set_option maxRecDepth 20000 in
theorem gk_f150_3 : gd_fetch 150 3 = some (3, .invokevirtual 335, 3, 1407, 98, 2, 0, 0) := rfl
set_option maxRecDepth 20000 in
theorem gk_f150_6 : gd_fetch 150 6 = some (6, .ifCond .eq 16, 3, 0, 0, 0, 0, 0) := rfl
set_option maxRecDepth 20000 in
theorem gk_f150_9 : gd_fetch 150 9 = some (9, .aload_n 0, 1, 0, 0, 0, 0, 0) := rfl
set_option maxRecDepth 20000 in
theorem gk_f150_10 : gd_fetch 150 10 = some (10, .getfield 51, 3, 1186, 9, 23, 4, 1) := rfl
set_option maxRecDepth 20000 in
theorem gk_f150_13 : gd_fetch 150 13 = some (13, .iconst 4, 1, 0, 0, 0, 0, 0) := rfl
set_option maxRecDepth 20000 in
theorem gk_f150_14 : gd_fetch 150 14 = some (14, .iload_n 1, 1, 0, 0, 0, 0, 0) := rfl
set_option maxRecDepth 20000 in
theorem gk_f150_15 : gd_fetch 150 15 = some (15, .imul, 1, 0, 0, 0, 0, 0) := rfl
set_option maxRecDepth 20000 in
theorem gk_f150_16 : gd_fetch 150 16 = some (16, .iload_n 2, 1, 0, 0, 0, 0, 0) := rfl
set_option maxRecDepth 20000 in
theorem gk_f150_17 : gd_fetch 150 17 = some (17, .iadd, 1, 0, 0, 0, 0, 0) := rfl
set_option maxRecDepth 20000 in
theorem gk_f150_18 : gd_fetch 150 18 = some (18, .baload, 1, 0, 0, 0, 0, 0) := rfl
set_option maxRecDepth 20000 in
theorem gk_f150_19 : gd_fetch 150 19 = some (19, .ifCond .ne 6, 3, 0, 0, 0, 0, 0) := rfl
set_option maxRecDepth 20000 in
theorem gk_f150_22 : gd_fetch 150 22 = some (22, .bipush (-9), 2, 0, 0, 0, 0, 0) := rfl
set_option maxRecDepth 20000 in
theorem gk_f150_24 : gd_fetch 150 24 = some (24, .ireturn, 1, 0, 0, 0, 0, 0) := rfl
set_option maxRecDepth 20000 in
theorem gk_f150_25 : gd_fetch 150 25 = some (25, .iconst 4, 1, 0, 0, 0, 0, 0) := rfl
set_option maxRecDepth 20000 in
theorem gk_f150_26 : gd_fetch 150 26 = some (26, .iload_n 1, 1, 0, 0, 0, 0, 0) := rfl
set_option maxRecDepth 20000 in
theorem gk_f150_27 : gd_fetch 150 27 = some (27, .imul, 1, 0, 0, 0, 0, 0) := rfl
set_option maxRecDepth 20000 in
theorem gk_f150_28 : gd_fetch 150 28 = some (28, .iload_n 2, 1, 0, 0, 0, 0, 0) := rfl
set_option maxRecDepth 20000 in
theorem gk_f150_29 : gd_fetch 150 29 = some (29, .iadd, 1, 0, 0, 0, 0, 0) := rfl
set_option maxRecDepth 20000 in
theorem gk_f150_30 : gd_fetch 150 30 = some (30, .istore 4, 2, 0, 0, 0, 0, 0) := rfl
set_option maxRecDepth 20000 in
theorem gk_f150_32 : gd_fetch 150 32 = some (32, .iconst 0, 1, 0, 0, 0, 0, 0) := rfl
set_option maxRecDepth 20000 in
theorem gk_f150_33 : gd_fetch 150 33 = some (33, .istore 5, 2, 0, 0, 0, 0, 0) := rfl
set_option maxRecDepth 20000 in
theorem gk_f150_35 : gd_fetch 150 35 = some (35, .iload_n 3, 1, 0, 0, 0, 0, 0) := rfl
set_option maxRecDepth 20000 in
theorem gk_f150_36 : gd_fetch 150 36 = some (36, .tableswitch 236 0 10 #[60, 68, 75, 89, 96, 111, 119, 127, 172, 193, 214], 60, 0, 0, 0, 0, 0) := rfl
set_option maxRecDepth 20000 in
theorem gk_f150_96 : gd_fetch 150 96 = some (96, .aload_n 0, 1, 0, 0, 0, 0, 0) := rfl
set_option maxRecDepth 20000 in
theorem gk_f150_97 : gd_fetch 150 97 = some (97, .getfield 54, 3, 1187, 9, 24, 4, 1) := rfl
set_option maxRecDepth 20000 in
theorem gk_f150_100 : gd_fetch 150 100 = some (100, .iload 4, 2, 0, 0, 0, 0, 0) := rfl
set_option maxRecDepth 20000 in
theorem gk_f150_102 : gd_fetch 150 102 = some (102, .iaload, 1, 0, 0, 0, 0, 0) := rfl
set_option maxRecDepth 20000 in
theorem gk_f150_103 : gd_fetch 150 103 = some (103, .ireturn, 1, 0, 0, 0, 0, 0) := rfl
set_option maxRecDepth 20000 in
theorem gk_f150_104 : gd_fetch 150 104 = some (104, .aload_n 0, 1, 0, 0, 0, 0, 0) := rfl
set_option maxRecDepth 20000 in
theorem gk_f150_105 : gd_fetch 150 105 = some (105, .iload 4, 2, 0, 0, 0, 0, 0) := rfl
set_option maxRecDepth 20000 in
theorem gk_f150_107 : gd_fetch 150 107 = some (107, .invokevirtual 363, 3, 1451, 142, 1, 0, 0) := rfl
set_option maxRecDepth 20000 in
theorem gk_f150_110 : gd_fetch 150 110 = some (110, .ireturn, 1, 0, 0, 0, 0, 0) := rfl
set_option maxRecDepth 20000 in
theorem gk_f150_111 : gd_fetch 150 111 = some (111, .aload_n 0, 1, 0, 0, 0, 0, 0) := rfl
set_option maxRecDepth 20000 in
theorem gk_f150_112 : gd_fetch 150 112 = some (112, .iload 4, 2, 0, 0, 0, 0, 0) := rfl
set_option maxRecDepth 20000 in
theorem gk_f150_114 : gd_fetch 150 114 = some (114, .invokevirtual 360, 3, 1455, 141, 1, 0, 0) := rfl
set_option maxRecDepth 20000 in
theorem gk_f150_117 : gd_fetch 150 117 = some (117, .aload_n 0, 1, 0, 0, 0, 0, 0) := rfl
set_option maxRecDepth 20000 in
theorem gk_f150_118 : gd_fetch 150 118 = some (118, .getfield 81, 3, 1196, 9, 33, 4, 1) := rfl
set_option maxRecDepth 20000 in
theorem gk_f150_121 : gd_fetch 150 121 = some (121, .iload 4, 2, 0, 0, 0, 0, 0) := rfl
set_option maxRecDepth 20000 in
theorem gk_f150_123 : gd_fetch 150 123 = some (123, .iaload, 1, 0, 0, 0, 0, 0) := rfl
set_option maxRecDepth 20000 in
theorem gk_f150_124 : gd_fetch 150 124 = some (124, .ireturn, 1, 0, 0, 0, 0, 0) := rfl
set_option maxRecDepth 20000 in
theorem gk_f150_125 : gd_fetch 150 125 = some (125, .aload_n 0, 1, 0, 0, 0, 0, 0) := rfl
set_option maxRecDepth 20000 in
theorem gk_f150_126 : gd_fetch 150 126 = some (126, .iload 4, 2, 0, 0, 0, 0, 0) := rfl
set_option maxRecDepth 20000 in
theorem gk_f150_128 : gd_fetch 150 128 = some (128, .invokevirtual 345, 3, 1439, 120, 1, 0, 0) := rfl
set_option maxRecDepth 20000 in
theorem gk_f150_131 : gd_fetch 150 131 = some (131, .ireturn, 1, 0, 0, 0, 0, 0) := rfl
set_option maxRecDepth 20000 in
theorem gk_f150_132 : gd_fetch 150 132 = some (132, .aload_n 0, 1, 0, 0, 0, 0, 0) := rfl
set_option maxRecDepth 20000 in
theorem gk_f150_133 : gd_fetch 150 133 = some (133, .iload 4, 2, 0, 0, 0, 0, 0) := rfl
set_option maxRecDepth 20000 in
theorem gk_f150_135 : gd_fetch 150 135 = some (135, .invokevirtual 372, 3, 1480, 149, 1, 0, 0) := rfl
set_option maxRecDepth 20000 in
theorem gk_f150_138 : gd_fetch 150 138 = some (138, .ifCond .eq 7, 3, 0, 0, 0, 0, 0) := rfl
set_option maxRecDepth 20000 in
theorem gk_f150_141 : gd_fetch 150 141 = some (141, .iconst 1, 1, 0, 0, 0, 0, 0) := rfl
set_option maxRecDepth 20000 in
theorem gk_f150_142 : gd_fetch 150 142 = some (142, .goto 4, 3, 0, 0, 0, 0, 0) := rfl
set_option maxRecDepth 20000 in
theorem gk_f150_145 : gd_fetch 150 145 = some (145, .iconst 0, 1, 0, 0, 0, 0, 0) := rfl
set_option maxRecDepth 20000 in
theorem gk_f150_146 : gd_fetch 150 146 = some (146, .ireturn, 1, 0, 0, 0, 0, 0) := rfl
set_option maxRecDepth 20000 in
theorem gk_f150_147 : gd_fetch 150 147 = some (147, .aload_n 0, 1, 0, 0, 0, 0, 0) := rfl
set_option maxRecDepth 20000 in
theorem gk_f150_148 : gd_fetch 150 148 = some (148, .getfield 75, 3, 1194, 9, 31, 4, 1) := rfl
set_option maxRecDepth 20000 in
theorem gk_f150_151 : gd_fetch 150 151 = some (151, .iload 4, 2, 0, 0, 0, 0, 0) := rfl
set_option maxRecDepth 20000 in
theorem gk_f150_153 : gd_fetch 150 153 = some (153, .iaload, 1, 0, 0, 0, 0, 0) := rfl
set_option maxRecDepth 20000 in
theorem gk_f150_154 : gd_fetch 150 154 = some (154, .ireturn, 1, 0, 0, 0, 0, 0) := rfl
set_option maxRecDepth 20000 in
theorem gk_f150_155 : gd_fetch 150 155 = some (155, .aload_n 0, 1, 0, 0, 0, 0, 0) := rfl
set_option maxRecDepth 20000 in
theorem gk_f150_156 : gd_fetch 150 156 = some (156, .getfield 63, 3, 1190, 9, 27, 4, 1) := rfl
set_option maxRecDepth 20000 in
theorem gk_f150_159 : gd_fetch 150 159 = some (159, .iload 4, 2, 0, 0, 0, 0, 0) := rfl
set_option maxRecDepth 20000 in
theorem gk_f150_161 : gd_fetch 150 161 = some (161, .iaload, 1, 0, 0, 0, 0, 0) := rfl
set_option maxRecDepth 20000 in
theorem gk_f150_162 : gd_fetch 150 162 = some (162, .ireturn, 1, 0, 0, 0, 0, 0) := rfl
set_option maxRecDepth 20000 in
theorem gk_f150_163 : gd_fetch 150 163 = some (163, .iconst 0, 1, 0, 0, 0, 0, 0) := rfl
set_option maxRecDepth 20000 in
theorem gk_f150_164 : gd_fetch 150 164 = some (164, .istore 6, 2, 0, 0, 0, 0, 0) := rfl
set_option maxRecDepth 20000 in
theorem gk_f150_166 : gd_fetch 150 166 = some (166, .iload 6, 2, 0, 0, 0, 0, 0) := rfl
set_option maxRecDepth 20000 in
theorem gk_f150_168 : gd_fetch 150 168 = some (168, .aload_n 0, 1, 0, 0, 0, 0, 0) := rfl
set_option maxRecDepth 20000 in
theorem gk_f150_169 : gd_fetch 150 169 = some (169, .getfield 54, 3, 1187, 9, 24, 4, 1) := rfl
set_option maxRecDepth 20000 in
theorem gk_f150_172 : gd_fetch 150 172 = some (172, .iload 4, 2, 0, 0, 0, 0, 0) := rfl
set_option maxRecDepth 20000 in
theorem gk_f150_174 : gd_fetch 150 174 = some (174, .iaload, 1, 0, 0, 0, 0, 0) := rfl
set_option maxRecDepth 20000 in
theorem gk_f150_175 : gd_fetch 150 175 = some (175, .if_icmp .ge 30, 3, 0, 0, 0, 0, 0) := rfl
set_option maxRecDepth 20000 in
theorem gk_f150_178 : gd_fetch 150 178 = some (178, .iload 5, 2, 0, 0, 0, 0, 0) := rfl
set_option maxRecDepth 20000 in
theorem gk_f150_180 : gd_fetch 150 180 = some (180, .aload_n 0, 1, 0, 0, 0, 0, 0) := rfl
set_option maxRecDepth 20000 in
theorem gk_f150_181 : gd_fetch 150 181 = some (181, .iload 4, 2, 0, 0, 0, 0, 0) := rfl
set_option maxRecDepth 20000 in
theorem gk_f150_183 : gd_fetch 150 183 = some (183, .iload 6, 2, 0, 0, 0, 0, 0) := rfl
set_option maxRecDepth 20000 in
theorem gk_f150_185 : gd_fetch 150 185 = some (185, .invokevirtual 348, 3, 1459, 138, 2, 0, 0) := rfl
set_option maxRecDepth 20000 in
theorem gk_f150_188 : gd_fetch 150 188 = some (188, .ifCond .eq 7, 3, 0, 0, 0, 0, 0) := rfl
set_option maxRecDepth 20000 in
theorem gk_f150_191 : gd_fetch 150 191 = some (191, .iconst 1, 1, 0, 0, 0, 0, 0) := rfl
set_option maxRecDepth 20000 in
theorem gk_f150_192 : gd_fetch 150 192 = some (192, .goto 4, 3, 0, 0, 0, 0, 0) := rfl
set_option maxRecDepth 20000 in
theorem gk_f150_195 : gd_fetch 150 195 = some (195, .iconst 0, 1, 0, 0, 0, 0, 0) := rfl
set_option maxRecDepth 20000 in
theorem gk_f150_196 : gd_fetch 150 196 = some (196, .iadd, 1, 0, 0, 0, 0, 0) := rfl
set_option maxRecDepth 20000 in
theorem gk_f150_197 : gd_fetch 150 197 = some (197, .istore 5, 2, 0, 0, 0, 0, 0) := rfl
set_option maxRecDepth 20000 in
theorem gk_f150_199 : gd_fetch 150 199 = some (199, .iinc 6 1, 3, 0, 0, 0, 0, 0) := rfl
set_option maxRecDepth 20000 in
theorem gk_f150_202 : gd_fetch 150 202 = some (202, .goto (-36), 3, 0, 0, 0, 0, 0) := rfl
set_option maxRecDepth 20000 in
theorem gk_f150_205 : gd_fetch 150 205 = some (205, .iload 5, 2, 0, 0, 0, 0, 0) := rfl
set_option maxRecDepth 20000 in
theorem gk_f150_207 : gd_fetch 150 207 = some (207, .ireturn, 1, 0, 0, 0, 0, 0) := rfl
set_option maxRecDepth 20000 in
theorem gk_f150_208 : gd_fetch 150 208 = some (208, .aload_n 0, 1, 0, 0, 0, 0, 0) := rfl
set_option maxRecDepth 20000 in
theorem gk_f150_209 : gd_fetch 150 209 = some (209, .iload 4, 2, 0, 0, 0, 0, 0) := rfl
set_option maxRecDepth 20000 in
theorem gk_f150_211 : gd_fetch 150 211 = some (211, .invokevirtual 372, 3, 1480, 149, 1, 0, 0) := rfl
set_option maxRecDepth 20000 in
theorem gk_f150_214 : gd_fetch 150 214 = some (214, .ifCond .eq 12, 3, 0, 0, 0, 0, 0) := rfl
set_option maxRecDepth 20000 in
theorem gk_f150_217 : gd_fetch 150 217 = some (217, .aload_n 0, 1, 0, 0, 0, 0, 0) := rfl
set_option maxRecDepth 20000 in
theorem gk_f150_218 : gd_fetch 150 218 = some (218, .iload 4, 2, 0, 0, 0, 0, 0) := rfl
set_option maxRecDepth 20000 in
theorem gk_f150_220 : gd_fetch 150 220 = some (220, .invokevirtual 369, 3, 1447, 144, 1, 0, 0) := rfl
set_option maxRecDepth 20000 in
theorem gk_f150_223 : gd_fetch 150 223 = some (223, .goto 5, 3, 0, 0, 0, 0, 0) := rfl
set_option maxRecDepth 20000 in
theorem gk_f150_226 : gd_fetch 150 226 = some (226, .bipush (-9), 2, 0, 0, 0, 0, 0) := rfl
set_option maxRecDepth 20000 in
theorem gk_f150_228 : gd_fetch 150 228 = some (228, .ireturn, 1, 0, 0, 0, 0, 0) := rfl
set_option maxRecDepth 20000 in
theorem gk_f150_229 : gd_fetch 150 229 = some (229, .aload_n 0, 1, 0, 0, 0, 0, 0) := rfl
set_option maxRecDepth 20000 in
theorem gk_f150_230 : gd_fetch 150 230 = some (230, .iload 4, 2, 0, 0, 0, 0, 0) := rfl
set_option maxRecDepth 20000 in
theorem gk_f150_232 : gd_fetch 150 232 = some (232, .invokevirtual 372, 3, 1480, 149, 1, 0, 0) := rfl
set_option maxRecDepth 20000 in
theorem gk_f150_235 : gd_fetch 150 235 = some (235, .ifCond .eq 12, 3, 0, 0, 0, 0, 0) := rfl
set_option maxRecDepth 20000 in
theorem gk_f150_238 : gd_fetch 150 238 = some (238, .aload_n 0, 1, 0, 0, 0, 0, 0) := rfl
set_option maxRecDepth 20000 in
theorem gk_f150_239 : gd_fetch 150 239 = some (239, .iload 4, 2, 0, 0, 0, 0, 0) := rfl
set_option maxRecDepth 20000 in
theorem gk_f150_241 : gd_fetch 150 241 = some (241, .invokevirtual 366, 3, 1472, 143, 1, 0, 0) := rfl
set_option maxRecDepth 20000 in
theorem gk_f150_244 : gd_fetch 150 244 = some (244, .goto 5, 3, 0, 0, 0, 0, 0) := rfl
set_option maxRecDepth 20000 in
theorem gk_f150_247 : gd_fetch 150 247 = some (247, .bipush (-9), 2, 0, 0, 0, 0, 0) := rfl
set_option maxRecDepth 20000 in
theorem gk_f150_249 : gd_fetch 150 249 = some (249, .ireturn, 1, 0, 0, 0, 0, 0) := rfl
set_option maxRecDepth 20000 in
theorem gk_f150_250 : gd_fetch 150 250 = some (250, .aload_n 0, 1, 0, 0, 0, 0, 0) := rfl
set_option maxRecDepth 20000 in
theorem gk_f150_251 : gd_fetch 150 251 = some (251, .iload 4, 2, 0, 0, 0, 0, 0) := rfl
set_option maxRecDepth 20000 in
theorem gk_f150_253 : gd_fetch 150 253 = some (253, .invokevirtual 372, 3, 1480, 149, 1, 0, 0) := rfl
set_option maxRecDepth 20000 in
theorem gk_f150_256 : gd_fetch 150 256 = some (256, .ifCond .eq 13, 3, 0, 0, 0, 0, 0) := rfl
set_option maxRecDepth 20000 in
theorem gk_f150_259 : gd_fetch 150 259 = some (259, .aload_n 0, 1, 0, 0, 0, 0, 0) := rfl
set_option maxRecDepth 20000 in
theorem gk_f150_260 : gd_fetch 150 260 = some (260, .getfield 72, 3, 1193, 9, 30, 4, 1) := rfl
set_option maxRecDepth 20000 in
theorem gk_f150_263 : gd_fetch 150 263 = some (263, .iload 4, 2, 0, 0, 0, 0, 0) := rfl
set_option maxRecDepth 20000 in
theorem gk_f150_265 : gd_fetch 150 265 = some (265, .iaload, 1, 0, 0, 0, 0, 0) := rfl
set_option maxRecDepth 20000 in
theorem gk_f150_266 : gd_fetch 150 266 = some (266, .goto 5, 3, 0, 0, 0, 0, 0) := rfl
set_option maxRecDepth 20000 in
theorem gk_f150_269 : gd_fetch 150 269 = some (269, .bipush (-9), 2, 0, 0, 0, 0, 0) := rfl
set_option maxRecDepth 20000 in
theorem gk_f150_271 : gd_fetch 150 271 = some (271, .ireturn, 1, 0, 0, 0, 0, 0) := rfl
set_option maxRecDepth 20000 in
theorem gk_f150_272 : gd_fetch 150 272 = some (272, .iload_n 3, 1, 0, 0, 0, 0, 0) := rfl
set_option maxRecDepth 20000 in
theorem gk_f150_273 : gd_fetch 150 273 = some (273, .bipush 20, 2, 0, 0, 0, 0, 0) := rfl
set_option maxRecDepth 20000 in
theorem gk_f150_275 : gd_fetch 150 275 = some (275, .bipush 19, 2, 0, 0, 0, 0, 0) := rfl
set_option maxRecDepth 20000 in
theorem gk_f150_277 : gd_fetch 150 277 = some (277, .aload_n 0, 1, 0, 0, 0, 0, 0) := rfl
set_option maxRecDepth 20000 in
theorem gk_f150_278 : gd_fetch 150 278 = some (278, .getfield 54, 3, 1187, 9, 24, 4, 1) := rfl
set_option maxRecDepth 20000 in
theorem gk_f150_281 : gd_fetch 150 281 = some (281, .iload 4, 2, 0, 0, 0, 0, 0) := rfl
set_option maxRecDepth 20000 in
theorem gk_f150_283 : gd_fetch 150 283 = some (283, .iaload, 1, 0, 0, 0, 0, 0) := rfl
set_option maxRecDepth 20000 in
theorem gk_f150_284 : gd_fetch 150 284 = some (284, .iadd, 1, 0, 0, 0, 0, 0) := rfl
set_option maxRecDepth 20000 in
theorem gk_f150_285 : gd_fetch 150 285 = some (285, .invokestatic 192, 3, 1360, 71, 3, 0, 0) := rfl
set_option maxRecDepth 20000 in
theorem gk_f150_288 : gd_fetch 150 288 = some (288, .ifCond .eq 21, 3, 0, 0, 0, 0, 0) := rfl
set_option maxRecDepth 20000 in
theorem gk_f150_291 : gd_fetch 150 291 = some (291, .aload_n 0, 1, 0, 0, 0, 0, 0) := rfl
set_option maxRecDepth 20000 in
theorem gk_f150_292 : gd_fetch 150 292 = some (292, .getfield 57, 3, 1188, 9, 25, 4, 1) := rfl
set_option maxRecDepth 20000 in
theorem gk_f150_295 : gd_fetch 150 295 = some (295, .bipush 16, 2, 0, 0, 0, 0, 0) := rfl
set_option maxRecDepth 20000 in
theorem gk_f150_297 : gd_fetch 150 297 = some (297, .iload 4, 2, 0, 0, 0, 0, 0) := rfl
set_option maxRecDepth 20000 in
theorem gk_f150_299 : gd_fetch 150 299 = some (299, .imul, 1, 0, 0, 0, 0, 0) := rfl
set_option maxRecDepth 20000 in
theorem gk_f150_300 : gd_fetch 150 300 = some (300, .iload_n 3, 1, 0, 0, 0, 0, 0) := rfl
set_option maxRecDepth 20000 in
theorem gk_f150_301 : gd_fetch 150 301 = some (301, .iadd, 1, 0, 0, 0, 0, 0) := rfl
set_option maxRecDepth 20000 in
theorem gk_f150_302 : gd_fetch 150 302 = some (302, .bipush 20, 2, 0, 0, 0, 0, 0) := rfl
set_option maxRecDepth 20000 in
theorem gk_f150_304 : gd_fetch 150 304 = some (304, .isub, 1, 0, 0, 0, 0, 0) := rfl
set_option maxRecDepth 20000 in
theorem gk_f150_305 : gd_fetch 150 305 = some (305, .iaload, 1, 0, 0, 0, 0, 0) := rfl
set_option maxRecDepth 20000 in
theorem gk_f150_306 : gd_fetch 150 306 = some (306, .goto 5, 3, 0, 0, 0, 0, 0) := rfl
set_option maxRecDepth 20000 in
theorem gk_f150_309 : gd_fetch 150 309 = some (309, .bipush (-9), 2, 0, 0, 0, 0, 0) := rfl
set_option maxRecDepth 20000 in
theorem gk_f150_311 : gd_fetch 150 311 = some (311, .ireturn, 1, 0, 0, 0, 0, 0) := rfl
set_option maxRecDepth 20000 in
set_option maxHeartbeats 4000000 in
theorem q_Mo_routine (r0 : Nat) (x1 : Int32) (x2 : Int32) (x3 : Int32) (m : gd_M) : gd_call 150 [.ref r0, .int x1, .int x2, .int x3] m = if gd_ok (gN m) r0 9 = true then ((gd_call 98 [.ref r0, .int x1, .int x2] m).bind (gd_kI fun z4 m2 => if (z4 = 0 : Prop) then (some (.int (-9), m2)) else (if gd_ok (gN m2) r0 9 = true then (if gd_okA (gN m2) (gR m2 r0 23) 11 ((4 * x1) + x2) = true then (if ((gI m2 (gR m2 r0 23) (((4 * x1) + x2) : Int32).toNatClampNeg) = 0 : Prop) then (some (.int (-9), m2)) else (if x3 = 0 then (if gd_okA (gN m2) (gR m2 r0 24) 10 ((4 * x1) + x2) = true then (some (.int (gI m2 (gR m2 r0 24) (((4 * x1) + x2) : Int32).toNatClampNeg), m2)) else none) else if x3 = 1 then ((gd_call 142 [.ref r0, .int ((4 * x1) + x2)] m2).bind (gd_kI fun z18 m16 => some (.int z18, m16))) else if x3 = 2 then ((gd_call 141 [.ref r0, .int ((4 * x1) + x2)] m2).bind (gd_kV fun m21 => if gd_ok (gN m21) r0 9 = true then (if gd_okA (gN m21) (gR m21 r0 33) 10 ((4 * x1) + x2) = true then (some (.int (gI m21 (gR m21 r0 33) (((4 * x1) + x2) : Int32).toNatClampNeg), m21)) else none) else none)) else if x3 = 3 then ((gd_call 120 [.ref r0, .int ((4 * x1) + x2)] m2).bind (gd_kI fun z29 m27 => some (.int z29, m27))) else if x3 = 4 then ((gd_call 149 [.ref r0, .int ((4 * x1) + x2)] m2).bind (gd_kI fun z34 m32 => if (z34 = 0 : Prop) then (some (.int 0, m32)) else (some (.int 1, m32)))) else if x3 = 5 then (if gd_okA (gN m2) (gR m2 r0 31) 10 ((4 * x1) + x2) = true then (some (.int (gI m2 (gR m2 r0 31) (((4 * x1) + x2) : Int32).toNatClampNeg), m2)) else none) else if x3 = 6 then (if gd_okA (gN m2) (gR m2 r0 27) 10 ((4 * x1) + x2) = true then (some (.int (gI m2 (gR m2 r0 27) (((4 * x1) + x2) : Int32).toNatClampNeg), m2)) else none) else if x3 = 7 then (gd_Den (150, 166, [.ref r0, .int x1, .int x2, .int x3, .int ((4 * x1) + x2), .int 0, .int 0], [], m2)) else if x3 = 8 then ((gd_call 149 [.ref r0, .int ((4 * x1) + x2)] m2).bind (gd_kI fun z49 m47 => if (z49 = 0 : Prop) then (some (.int (-9), m47)) else (if gd_ok (gN m47) r0 9 = true then ((gd_call 144 [.ref r0, .int ((4 * x1) + x2)] m47).bind (gd_kI fun z55 m53 => some (.int z55, m53))) else none))) else if x3 = 9 then ((gd_call 149 [.ref r0, .int ((4 * x1) + x2)] m2).bind (gd_kI fun z60 m58 => if (z60 = 0 : Prop) then (some (.int (-9), m58)) else (if gd_ok (gN m58) r0 9 = true then ((gd_call 143 [.ref r0, .int ((4 * x1) + x2)] m58).bind (gd_kI fun z66 m64 => some (.int z66, m64))) else none))) else if x3 = 10 then ((gd_call 149 [.ref r0, .int ((4 * x1) + x2)] m2).bind (gd_kI fun z71 m69 => if (z71 = 0 : Prop) then (some (.int (-9), m69)) else (if gd_ok (gN m69) r0 9 = true then (if gd_okA (gN m69) (gR m69 r0 30) 10 ((4 * x1) + x2) = true then (some (.int (gI m69 (gR m69 r0 30) (((4 * x1) + x2) : Int32).toNatClampNeg), m69)) else none) else none))) else (if gd_okA (gN m2) (gR m2 r0 24) 10 ((4 * x1) + x2) = true then ((gd_call 71 [.int x3, .int 20, .int (19 + (gI m2 (gR m2 r0 24) (((4 * x1) + x2) : Int32).toNatClampNeg))] m2).bind (gd_k0I fun z79 m77 => if (z79 = 0 : Prop) then (some (.int (-9), m77)) else (if gd_ok (gN m77) r0 9 = true then (if gd_okA (gN m77) (gR m77 r0 25) 10 (((16 * ((4 * x1) + x2)) + x3) - 20) = true then (some (.int (gI m77 (gR m77 r0 25) ((((16 * ((4 * x1) + x2)) + x3) - 20) : Int32).toNatClampNeg), m77)) else none) else none))) else none))) else none) else none))) else none := by
  refine Eq.trans (show gd_call 150 [.ref r0, .int x1, .int x2, .int x3] m = gd_Den (150, 0, [.ref r0, .int x1, .int x2, .int x3, .null, .null, .null], [], m) from by unfold gd_call gd_ent; rw [gk_ml150]; rfl) ?_
  refine Eq.trans (D_aload_n (x := r0) gk_f150_0 rfl) ?_
  refine Eq.trans (D_iload_n (x := x1) gk_f150_1 rfl) ?_
  refine Eq.trans (D_iload_n (x := x2) gk_f150_2 rfl) ?_
  refine Eq.trans (D_ivZ (cl := 9) (args := [.ref r0, .int x1, .int x2]) (rest := []) gk_f150_3 rfl rfl (gd_rmk gk_rm150_98 gk_ln98 gk_ml98 rfl rfl rfl) gk_rk98 (gd_hnd_n gk_nc150) gk_nc98 gk_n11_98 gk_cl98) ?_
  refine gd_ite (fun h1 => ?_) (fun _ => rfl)
  refine gd_bnd (gd_kI_c fun z4 m2 => ?_)
  refine Eq.trans (D_if_eq (t := 22) gk_f150_6 (by decide)) ?_
  refine gd_ite (fun h5 => ?_) (fun h6 => ?_)
  · refine Eq.trans (D_bipush (x := (-9)) gk_f150_22 gk_b_m9) ?_
    refine Eq.trans (D_ireturn gk_f150_24 gk_rk150) ?_
    rfl
  · refine Eq.trans (D_aload_n (x := r0) gk_f150_9 rfl) ?_
    refine Eq.trans (D_gfR gk_f150_10 (by decide)) ?_
    refine gd_ite (fun h7 => ?_) (fun _ => rfl)
    refine Eq.trans (D_iconst (x := 4) gk_f150_13 gk_c_4) ?_
    refine Eq.trans (D_iload_n (x := x1) gk_f150_14 rfl) ?_
    refine Eq.trans (D_imul gk_f150_15) ?_
    refine Eq.trans (D_iload_n (x := x2) gk_f150_16 rfl) ?_
    refine Eq.trans (D_iadd gk_f150_17) ?_
    refine Eq.trans (D_bald (kd := 11) gk_f150_18 gk_n12_150 gk_bk150) ?_
    refine gd_ite (fun h8 => ?_) (fun _ => rfl)
    refine Eq.trans (D_if_ne (t := 25) gk_f150_19 (by decide)) ?_
    refine gd_ite (fun h9 => ?_) (fun h10 => ?_)
    · refine Eq.trans (D_bipush (x := (-9)) gk_f150_22 gk_b_m9) ?_
      refine Eq.trans (D_ireturn gk_f150_24 gk_rk150) ?_
      rfl
    · refine Eq.trans (D_iconst (x := 4) gk_f150_25 gk_c_4) ?_
      refine Eq.trans (D_iload_n (x := x1) gk_f150_26 rfl) ?_
      refine Eq.trans (D_imul gk_f150_27) ?_
      refine Eq.trans (D_iload_n (x := x2) gk_f150_28 rfl) ?_
      refine Eq.trans (D_iadd gk_f150_29) ?_
      refine Eq.trans (D_istore gk_f150_30 gk_st150_4) ?_
      refine Eq.trans (D_iconst (x := 0) gk_f150_32 gk_c_0) ?_
      refine Eq.trans (D_istore gk_f150_33 gk_st150_5) ?_
      refine Eq.trans (D_iload_n (x := x3) gk_f150_35 rfl) ?_
      refine Eq.trans (D_tsw (vs := [(0, 96), (1, 104), (2, 111), (3, 125), (4, 132), (5, 147), (6, 155), (7, 163), (8, 208), (9, 229), (10, 250)]) (t := 272) gk_f150_36 (by decide) (by decide)) ?_
      refine gd_ite (fun h11 => ?_) (fun h12 => ?_)
      · refine Eq.trans (D_aload_n (x := r0) gk_f150_96 rfl) ?_
        refine Eq.trans (D_gfR gk_f150_97 (by decide)) ?_
        refine Eq.trans (if_pos h7) ?_
        refine Eq.trans (D_iload (x := ((4 * x1) + x2)) gk_f150_100 rfl) ?_
        refine Eq.trans (D_iald gk_f150_102 gk_n10_150) ?_
        refine gd_ite (fun h13 => ?_) (fun _ => rfl)
        refine Eq.trans (D_ireturn gk_f150_103 gk_rk150) ?_
        rfl
      refine gd_ite (fun h14 => ?_) (fun h15 => ?_)
      · refine Eq.trans (D_aload_n (x := r0) gk_f150_104 rfl) ?_
        refine Eq.trans (D_iload (x := ((4 * x1) + x2)) gk_f150_105 rfl) ?_
        refine Eq.trans (D_ivI (cl := 9) (args := [.ref r0, .int ((4 * x1) + x2)]) (rest := []) gk_f150_107 rfl rfl (gd_rmk gk_rm150_142 gk_ln142 gk_ml142 rfl rfl rfl) gk_rk142 (gd_hnd_n gk_nc150) gk_nc142 gk_n11_142 gk_cl142) ?_
        refine Eq.trans (if_pos h7) ?_
        refine gd_bnd (gd_kI_c fun z18 m16 => ?_)
        refine Eq.trans (D_ireturn gk_f150_110 gk_rk150) ?_
        rfl
      refine gd_ite (fun h19 => ?_) (fun h20 => ?_)
      · refine Eq.trans (D_aload_n (x := r0) gk_f150_111 rfl) ?_
        refine Eq.trans (D_iload (x := ((4 * x1) + x2)) gk_f150_112 rfl) ?_
        refine Eq.trans (D_ivV (cl := 9) (args := [.ref r0, .int ((4 * x1) + x2)]) (rest := []) gk_f150_114 rfl rfl (gd_rmk gk_rm150_141 gk_ln141 gk_ml141 rfl rfl rfl) gk_rk141 (gd_hnd_n gk_nc150) gk_nc141 gk_n11_141 gk_cl141) ?_
        refine Eq.trans (if_pos h7) ?_
        refine gd_bnd (gd_kV_c fun m21 => ?_)
        refine Eq.trans (D_aload_n (x := r0) gk_f150_117 rfl) ?_
        refine Eq.trans (D_gfR gk_f150_118 (by decide)) ?_
        refine gd_ite (fun h23 => ?_) (fun _ => rfl)
        refine Eq.trans (D_iload (x := ((4 * x1) + x2)) gk_f150_121 rfl) ?_
        refine Eq.trans (D_iald gk_f150_123 gk_n10_150) ?_
        refine gd_ite (fun h24 => ?_) (fun _ => rfl)
        refine Eq.trans (D_ireturn gk_f150_124 gk_rk150) ?_
        rfl
      refine gd_ite (fun h25 => ?_) (fun h26 => ?_)
      · refine Eq.trans (D_aload_n (x := r0) gk_f150_125 rfl) ?_
        refine Eq.trans (D_iload (x := ((4 * x1) + x2)) gk_f150_126 rfl) ?_
        refine Eq.trans (D_ivI (cl := 9) (args := [.ref r0, .int ((4 * x1) + x2)]) (rest := []) gk_f150_128 rfl rfl (gd_rmk gk_rm150_120 gk_ln120 gk_ml120 rfl rfl rfl) gk_rk120 (gd_hnd_n gk_nc150) gk_nc120 gk_n11_120 gk_cl120) ?_
        refine Eq.trans (if_pos h7) ?_
        refine gd_bnd (gd_kI_c fun z29 m27 => ?_)
        refine Eq.trans (D_ireturn gk_f150_131 gk_rk150) ?_
        rfl
      refine gd_ite (fun h30 => ?_) (fun h31 => ?_)
      · refine Eq.trans (D_aload_n (x := r0) gk_f150_132 rfl) ?_
        refine Eq.trans (D_iload (x := ((4 * x1) + x2)) gk_f150_133 rfl) ?_
        refine Eq.trans (D_ivZ (cl := 9) (args := [.ref r0, .int ((4 * x1) + x2)]) (rest := []) gk_f150_135 rfl rfl (gd_rmk gk_rm150_149 gk_ln149 gk_ml149 rfl rfl rfl) gk_rk149 (gd_hnd_n gk_nc150) gk_nc149 gk_n11_149 gk_cl149) ?_
        refine Eq.trans (if_pos h7) ?_
        refine gd_bnd (gd_kI_c fun z34 m32 => ?_)
        refine Eq.trans (D_if_eq (t := 145) gk_f150_138 (by decide)) ?_
        refine gd_ite (fun h35 => ?_) (fun h36 => ?_)
        · refine Eq.trans (D_iconst (x := 0) gk_f150_145 gk_c_0) ?_
          refine Eq.trans (D_ireturn gk_f150_146 gk_rk150) ?_
          rfl
        · refine Eq.trans (D_iconst (x := 1) gk_f150_141 gk_c_1) ?_
          refine Eq.trans (D_goto (t := 146) gk_f150_142 (by decide)) ?_
          refine Eq.trans (D_ireturn gk_f150_146 gk_rk150) ?_
          rfl
      refine gd_ite (fun h37 => ?_) (fun h38 => ?_)
      · refine Eq.trans (D_aload_n (x := r0) gk_f150_147 rfl) ?_
        refine Eq.trans (D_gfR gk_f150_148 (by decide)) ?_
        refine Eq.trans (if_pos h7) ?_
        refine Eq.trans (D_iload (x := ((4 * x1) + x2)) gk_f150_151 rfl) ?_
        refine Eq.trans (D_iald gk_f150_153 gk_n10_150) ?_
        refine gd_ite (fun h39 => ?_) (fun _ => rfl)
        refine Eq.trans (D_ireturn gk_f150_154 gk_rk150) ?_
        rfl
      refine gd_ite (fun h40 => ?_) (fun h41 => ?_)
      · refine Eq.trans (D_aload_n (x := r0) gk_f150_155 rfl) ?_
        refine Eq.trans (D_gfR gk_f150_156 (by decide)) ?_
        refine Eq.trans (if_pos h7) ?_
        refine Eq.trans (D_iload (x := ((4 * x1) + x2)) gk_f150_159 rfl) ?_
        refine Eq.trans (D_iald gk_f150_161 gk_n10_150) ?_
        refine gd_ite (fun h42 => ?_) (fun _ => rfl)
        refine Eq.trans (D_ireturn gk_f150_162 gk_rk150) ?_
        rfl
      refine gd_ite (fun h43 => ?_) (fun h44 => ?_)
      · refine Eq.trans (D_iconst (x := 0) gk_f150_163 gk_c_0) ?_
        refine Eq.trans (D_istore gk_f150_164 gk_st150_6) ?_
        rfl
      refine gd_ite (fun h45 => ?_) (fun h46 => ?_)
      · refine Eq.trans (D_aload_n (x := r0) gk_f150_208 rfl) ?_
        refine Eq.trans (D_iload (x := ((4 * x1) + x2)) gk_f150_209 rfl) ?_
        refine Eq.trans (D_ivZ (cl := 9) (args := [.ref r0, .int ((4 * x1) + x2)]) (rest := []) gk_f150_211 rfl rfl (gd_rmk gk_rm150_149 gk_ln149 gk_ml149 rfl rfl rfl) gk_rk149 (gd_hnd_n gk_nc150) gk_nc149 gk_n11_149 gk_cl149) ?_
        refine Eq.trans (if_pos h7) ?_
        refine gd_bnd (gd_kI_c fun z49 m47 => ?_)
        refine Eq.trans (D_if_eq (t := 226) gk_f150_214 (by decide)) ?_
        refine gd_ite (fun h50 => ?_) (fun h51 => ?_)
        · refine Eq.trans (D_bipush (x := (-9)) gk_f150_226 gk_b_m9) ?_
          refine Eq.trans (D_ireturn gk_f150_228 gk_rk150) ?_
          rfl
        · refine Eq.trans (D_aload_n (x := r0) gk_f150_217 rfl) ?_
          refine Eq.trans (D_iload (x := ((4 * x1) + x2)) gk_f150_218 rfl) ?_
          refine Eq.trans (D_ivI (cl := 9) (args := [.ref r0, .int ((4 * x1) + x2)]) (rest := []) gk_f150_220 rfl rfl (gd_rmk gk_rm150_144 gk_ln144 gk_ml144 rfl rfl rfl) gk_rk144 (gd_hnd_n gk_nc150) gk_nc144 gk_n11_144 gk_cl144) ?_
          refine gd_ite (fun h52 => ?_) (fun _ => rfl)
          refine gd_bnd (gd_kI_c fun z55 m53 => ?_)
          refine Eq.trans (D_goto (t := 228) gk_f150_223 (by decide)) ?_
          refine Eq.trans (D_ireturn gk_f150_228 gk_rk150) ?_
          rfl
      refine gd_ite (fun h56 => ?_) (fun h57 => ?_)
      · refine Eq.trans (D_aload_n (x := r0) gk_f150_229 rfl) ?_
        refine Eq.trans (D_iload (x := ((4 * x1) + x2)) gk_f150_230 rfl) ?_
        refine Eq.trans (D_ivZ (cl := 9) (args := [.ref r0, .int ((4 * x1) + x2)]) (rest := []) gk_f150_232 rfl rfl (gd_rmk gk_rm150_149 gk_ln149 gk_ml149 rfl rfl rfl) gk_rk149 (gd_hnd_n gk_nc150) gk_nc149 gk_n11_149 gk_cl149) ?_
        refine Eq.trans (if_pos h7) ?_
        refine gd_bnd (gd_kI_c fun z60 m58 => ?_)
        refine Eq.trans (D_if_eq (t := 247) gk_f150_235 (by decide)) ?_
        refine gd_ite (fun h61 => ?_) (fun h62 => ?_)
        · refine Eq.trans (D_bipush (x := (-9)) gk_f150_247 gk_b_m9) ?_
          refine Eq.trans (D_ireturn gk_f150_249 gk_rk150) ?_
          rfl
        · refine Eq.trans (D_aload_n (x := r0) gk_f150_238 rfl) ?_
          refine Eq.trans (D_iload (x := ((4 * x1) + x2)) gk_f150_239 rfl) ?_
          refine Eq.trans (D_ivI (cl := 9) (args := [.ref r0, .int ((4 * x1) + x2)]) (rest := []) gk_f150_241 rfl rfl (gd_rmk gk_rm150_143 gk_ln143 gk_ml143 rfl rfl rfl) gk_rk143 (gd_hnd_n gk_nc150) gk_nc143 gk_n11_143 gk_cl143) ?_
          refine gd_ite (fun h63 => ?_) (fun _ => rfl)
          refine gd_bnd (gd_kI_c fun z66 m64 => ?_)
          refine Eq.trans (D_goto (t := 249) gk_f150_244 (by decide)) ?_
          refine Eq.trans (D_ireturn gk_f150_249 gk_rk150) ?_
          rfl
      refine gd_ite (fun h67 => ?_) (fun h68 => ?_)
      · refine Eq.trans (D_aload_n (x := r0) gk_f150_250 rfl) ?_
        refine Eq.trans (D_iload (x := ((4 * x1) + x2)) gk_f150_251 rfl) ?_
        refine Eq.trans (D_ivZ (cl := 9) (args := [.ref r0, .int ((4 * x1) + x2)]) (rest := []) gk_f150_253 rfl rfl (gd_rmk gk_rm150_149 gk_ln149 gk_ml149 rfl rfl rfl) gk_rk149 (gd_hnd_n gk_nc150) gk_nc149 gk_n11_149 gk_cl149) ?_
        refine Eq.trans (if_pos h7) ?_
        refine gd_bnd (gd_kI_c fun z71 m69 => ?_)
        refine Eq.trans (D_if_eq (t := 269) gk_f150_256 (by decide)) ?_
        refine gd_ite (fun h72 => ?_) (fun h73 => ?_)
        · refine Eq.trans (D_bipush (x := (-9)) gk_f150_269 gk_b_m9) ?_
          refine Eq.trans (D_ireturn gk_f150_271 gk_rk150) ?_
          rfl
        · refine Eq.trans (D_aload_n (x := r0) gk_f150_259 rfl) ?_
          refine Eq.trans (D_gfR gk_f150_260 (by decide)) ?_
          refine gd_ite (fun h74 => ?_) (fun _ => rfl)
          refine Eq.trans (D_iload (x := ((4 * x1) + x2)) gk_f150_263 rfl) ?_
          refine Eq.trans (D_iald gk_f150_265 gk_n10_150) ?_
          refine gd_ite (fun h75 => ?_) (fun _ => rfl)
          refine Eq.trans (D_goto (t := 271) gk_f150_266 (by decide)) ?_
          refine Eq.trans (D_ireturn gk_f150_271 gk_rk150) ?_
          rfl
      refine Eq.trans (D_iload_n (x := x3) gk_f150_272 rfl) ?_
      refine Eq.trans (D_bipush (x := 20) gk_f150_273 gk_b_20) ?_
      refine Eq.trans (D_bipush (x := 19) gk_f150_275 gk_b_19) ?_
      refine Eq.trans (D_aload_n (x := r0) gk_f150_277 rfl) ?_
      refine Eq.trans (D_gfR gk_f150_278 (by decide)) ?_
      refine Eq.trans (if_pos h7) ?_
      refine Eq.trans (D_iload (x := ((4 * x1) + x2)) gk_f150_281 rfl) ?_
      refine Eq.trans (D_iald gk_f150_283 gk_n10_150) ?_
      refine gd_ite (fun h76 => ?_) (fun _ => rfl)
      refine Eq.trans (D_iadd gk_f150_284) ?_
      refine Eq.trans (D_isZ (args := [.int x3, .int 20, .int (19 + (gI m2 (gR m2 r0 24) (((4 * x1) + x2) : Int32).toNatClampNeg))]) (rest := []) gk_f150_285 rfl rfl rfl (gd_rmk gk_rm150_71 gk_ln71 gk_ml71 rfl rfl rfl) gk_rk71 (gd_hnd_n gk_nc150)) ?_
      refine gd_bnd (gd_k0I_c fun z79 m77 => ?_)
      refine Eq.trans (D_if_eq (t := 309) gk_f150_288 (by decide)) ?_
      refine gd_ite (fun h80 => ?_) (fun h81 => ?_)
      · refine Eq.trans (D_bipush (x := (-9)) gk_f150_309 gk_b_m9) ?_
        refine Eq.trans (D_ireturn gk_f150_311 gk_rk150) ?_
        rfl
      · refine Eq.trans (D_aload_n (x := r0) gk_f150_291 rfl) ?_
        refine Eq.trans (D_gfR gk_f150_292 (by decide)) ?_
        refine gd_ite (fun h82 => ?_) (fun _ => rfl)
        refine Eq.trans (D_bipush (x := 16) gk_f150_295 gk_b_16) ?_
        refine Eq.trans (D_iload (x := ((4 * x1) + x2)) gk_f150_297 rfl) ?_
        refine Eq.trans (D_imul gk_f150_299) ?_
        refine Eq.trans (D_iload_n (x := x3) gk_f150_300 rfl) ?_
        refine Eq.trans (D_iadd gk_f150_301) ?_
        refine Eq.trans (D_bipush (x := 20) gk_f150_302 gk_b_20) ?_
        refine Eq.trans (D_isub gk_f150_304) ?_
        refine Eq.trans (D_iald gk_f150_305 gk_n10_150) ?_
        refine gd_ite (fun h83 => ?_) (fun _ => rfl)
        refine Eq.trans (D_goto (t := 311) gk_f150_306 (by decide)) ?_
        refine Eq.trans (D_ireturn gk_f150_311 gk_rk150) ?_
        rfl
set_option maxRecDepth 20000 in
set_option maxHeartbeats 4000000 in
theorem q_Mo_routine_166 (r0 : Nat) (x1 : Int32) (x2 : Int32) (x3 : Int32) (x4 : Int32) (x5 : Int32) (x6 : Int32) (m : gd_M) : gd_Den (150, 166, [.ref r0, .int x1, .int x2, .int x3, .int x4, .int x5, .int x6], [], m) = if gd_ok (gN m) r0 9 = true then (if gd_okA (gN m) (gR m r0 24) 10 x4 = true then (if (x6 < (gI m (gR m r0 24) (x4 : Int32).toNatClampNeg) : Prop) then ((gd_call 138 [.ref r0, .int x4, .int x6] m).bind (gd_kI fun z7 m5 => if (z7 = 0 : Prop) then (gd_Den (150, 166, [.ref r0, .int x1, .int x2, .int x3, .int x4, .int (x5 + 0), .int (x6 + 1)], [], m5)) else (gd_Den (150, 166, [.ref r0, .int x1, .int x2, .int x3, .int x4, .int (x5 + 1), .int (x6 + 1)], [], m5)))) else (some (.int x5, m))) else none) else none := by
  refine Eq.trans (D_iload (x := x6) gk_f150_166 rfl) ?_
  refine Eq.trans (D_aload_n (x := r0) gk_f150_168 rfl) ?_
  refine Eq.trans (D_gfR gk_f150_169 (by decide)) ?_
  refine gd_ite (fun h1 => ?_) (fun _ => rfl)
  refine Eq.trans (D_iload (x := x4) gk_f150_172 rfl) ?_
  refine Eq.trans (D_iald gk_f150_174 gk_n10_150) ?_
  refine gd_ite (fun h2 => ?_) (fun _ => rfl)
  refine Eq.trans (D_ic_ge (t := 205) gk_f150_175 (by decide)) ?_
  refine gd_ite (fun h3 => ?_) (fun h4 => ?_)
  · refine Eq.trans (D_iload (x := x5) gk_f150_178 rfl) ?_
    refine Eq.trans (D_aload_n (x := r0) gk_f150_180 rfl) ?_
    refine Eq.trans (D_iload (x := x4) gk_f150_181 rfl) ?_
    refine Eq.trans (D_iload (x := x6) gk_f150_183 rfl) ?_
    refine Eq.trans (D_ivZ (cl := 9) (args := [.ref r0, .int x4, .int x6]) (rest := [.int x5]) gk_f150_185 rfl rfl (gd_rmk gk_rm150_138 gk_ln138 gk_ml138 rfl rfl rfl) gk_rk138 (gd_hnd_n gk_nc150) gk_nc138 gk_n11_138 gk_cl138) ?_
    refine Eq.trans (if_pos h1) ?_
    refine gd_bnd (gd_kI_c fun z7 m5 => ?_)
    refine Eq.trans (D_if_eq (t := 195) gk_f150_188 (by decide)) ?_
    refine gd_ite (fun h8 => ?_) (fun h9 => ?_)
    · refine Eq.trans (D_iconst (x := 0) gk_f150_195 gk_c_0) ?_
      refine Eq.trans (D_iadd gk_f150_196) ?_
      refine Eq.trans (D_istore gk_f150_197 gk_st150_5) ?_
      refine Eq.trans (D_iinc (x := x6) (y := 1) gk_f150_199 rfl gk_c_1 gk_st150_6) ?_
      refine Eq.trans (D_goto (t := 166) gk_f150_202 (by decide)) ?_
      rfl
    · refine Eq.trans (D_iconst (x := 1) gk_f150_191 gk_c_1) ?_
      refine Eq.trans (D_goto (t := 196) gk_f150_192 (by decide)) ?_
      refine Eq.trans (D_iadd gk_f150_196) ?_
      refine Eq.trans (D_istore gk_f150_197 gk_st150_5) ?_
      refine Eq.trans (D_iinc (x := x6) (y := 1) gk_f150_199 rfl gk_c_1 gk_st150_6) ?_
      refine Eq.trans (D_goto (t := 166) gk_f150_202 (by decide)) ?_
      rfl
  · refine Eq.trans (D_iload (x := x5) gk_f150_205 rfl) ?_
    refine Eq.trans (D_ireturn gk_f150_207 gk_rk150) ?_
    rfl
/-! GymDesk$Routine.isScored ()Z -/
set_option maxRecDepth 20000 in
theorem gk_f151_0 : gd_fetch 151 0 = some (0, .aload_n 0, 1, 0, 0, 0, 0, 0) := rfl
set_option maxRecDepth 20000 in
theorem gk_f151_1 : gd_fetch 151 1 = some (1, .getfield 21, 3, 405, 4, 3, 1, 0) := rfl
set_option maxRecDepth 20000 in
theorem gk_f151_4 : gd_fetch 151 4 = some (4, .ifCond .eq 14, 3, 0, 0, 0, 0, 0) := rfl
set_option maxRecDepth 20000 in
theorem gk_f151_7 : gd_fetch 151 7 = some (7, .aload_n 0, 1, 0, 0, 0, 0, 0) := rfl
set_option maxRecDepth 20000 in
theorem gk_f151_8 : gd_fetch 151 8 = some (8, .getfield 25, 3, 407, 4, 4, 1, 0) := rfl
set_option maxRecDepth 20000 in
theorem gk_f151_11 : gd_fetch 151 11 = some (11, .ifCond .eq 7, 3, 0, 0, 0, 0, 0) := rfl
set_option maxRecDepth 20000 in
theorem gk_f151_14 : gd_fetch 151 14 = some (14, .iconst 1, 1, 0, 0, 0, 0, 0) := rfl
set_option maxRecDepth 20000 in
theorem gk_f151_15 : gd_fetch 151 15 = some (15, .goto 4, 3, 0, 0, 0, 0, 0) := rfl
set_option maxRecDepth 20000 in
theorem gk_f151_18 : gd_fetch 151 18 = some (18, .iconst 0, 1, 0, 0, 0, 0, 0) := rfl
set_option maxRecDepth 20000 in
theorem gk_f151_19 : gd_fetch 151 19 = some (19, .ireturn, 1, 0, 0, 0, 0, 0) := rfl
set_option maxRecDepth 20000 in
set_option maxHeartbeats 4000000 in
theorem q_Ro_isScored (r0 : Nat) (m : gd_M) : gd_call 151 [.ref r0] m = if gd_ok (gN m) r0 4 = true then (if ((gI m r0 3) = 0 : Prop) then (some (.int 0, m)) else (if ((gI m r0 4) = 0 : Prop) then (some (.int 0, m)) else (some (.int 1, m)))) else none := by
  refine Eq.trans (show gd_call 151 [.ref r0] m = gd_Den (151, 0, [.ref r0], [], m) from by unfold gd_call gd_ent; rw [gk_ml151]; rfl) ?_
  refine Eq.trans (D_aload_n (x := r0) gk_f151_0 rfl) ?_
  refine Eq.trans (D_gfI gk_f151_1 (by decide) (by decide) (by decide)) ?_
  refine gd_ite (fun h1 => ?_) (fun _ => rfl)
  refine Eq.trans (D_if_eq (t := 18) gk_f151_4 (by decide)) ?_
  refine gd_ite (fun h2 => ?_) (fun h3 => ?_)
  · refine Eq.trans (D_iconst (x := 0) gk_f151_18 gk_c_0) ?_
    refine Eq.trans (D_zreturn gk_f151_19 gk_rk151) ?_
    exact if_pos rfl
  · refine Eq.trans (D_aload_n (x := r0) gk_f151_7 rfl) ?_
    refine Eq.trans (D_gfI gk_f151_8 (by decide) (by decide) (by decide)) ?_
    refine Eq.trans (if_pos h1) ?_
    refine Eq.trans (D_if_eq (t := 18) gk_f151_11 (by decide)) ?_
    refine gd_ite (fun h4 => ?_) (fun h5 => ?_)
    · refine Eq.trans (D_iconst (x := 0) gk_f151_18 gk_c_0) ?_
      refine Eq.trans (D_zreturn gk_f151_19 gk_rk151) ?_
      exact if_pos rfl
    · refine Eq.trans (D_iconst (x := 1) gk_f151_14 gk_c_1) ?_
      refine Eq.trans (D_goto (t := 19) gk_f151_15 (by decide)) ?_
      refine Eq.trans (D_zreturn gk_f151_19 gk_rk151) ?_
      exact if_pos rfl
/-! GymDesk.inquire (III)I -/
set_option maxRecDepth 20000 in
theorem gk_f152_0 : gd_fetch 152 0 = some (0, .aload_n 0, 1, 0, 0, 0, 0, 0) := rfl
set_option maxRecDepth 20000 in
theorem gk_f152_1 : gd_fetch 152 1 = some (1, .iload_n 1, 1, 0, 0, 0, 0, 0) := rfl
set_option maxRecDepth 20000 in
theorem gk_f152_2 : gd_fetch 152 2 = some (2, .iload_n 2, 1, 0, 0, 0, 0, 0) := rfl
set_option maxRecDepth 20000 in
theorem gk_f152_3 : gd_fetch 152 3 = some (3, .invokevirtual 124, 3, 685, 93, 2, 0, 0) := rfl
set_option maxRecDepth 20000 in
theorem gk_f152_6 : gd_fetch 152 6 = some (6, .astore 4, 2, 0, 0, 0, 0, 0) := rfl
set_option maxRecDepth 20000 in
theorem gk_f152_8 : gd_fetch 152 8 = some (8, .aload 4, 2, 0, 0, 0, 0, 0) := rfl
set_option maxRecDepth 20000 in
theorem gk_f152_10 : gd_fetch 152 10 = some (10, .ifnull 11, 3, 0, 0, 0, 0, 0) := rfl
set_option maxRecDepth 20000 in
theorem gk_f152_13 : gd_fetch 152 13 = some (13, .iload_n 3, 1, 0, 0, 0, 0, 0) := rfl
set_option maxRecDepth 20000 in
theorem gk_f152_14 : gd_fetch 152 14 = some (14, .aload_n 0, 1, 0, 0, 0, 0, 0) := rfl
set_option maxRecDepth 20000 in
theorem gk_f152_15 : gd_fetch 152 15 = some (15, .getfield 89, 3, 473, 6, 13, 0, 0) := rfl
set_option maxRecDepth 20000 in
theorem gk_f152_18 : gd_fetch 152 18 = some (18, .if_icmp .ge 6, 3, 0, 0, 0, 0, 0) := rfl
set_option maxRecDepth 20000 in
theorem gk_f152_21 : gd_fetch 152 21 = some (21, .bipush (-2), 2, 0, 0, 0, 0, 0) := rfl
set_option maxRecDepth 20000 in
theorem gk_f152_23 : gd_fetch 152 23 = some (23, .ireturn, 1, 0, 0, 0, 0, 0) := rfl
set_option maxRecDepth 20000 in
theorem gk_f152_24 : gd_fetch 152 24 = some (24, .aload 4, 2, 0, 0, 0, 0, 0) := rfl
set_option maxRecDepth 20000 in
theorem gk_f152_26 : gd_fetch 152 26 = some (26, .invokevirtual 239, 3, 852, 151, 0, 0, 0) := rfl
set_option maxRecDepth 20000 in
theorem gk_f152_29 : gd_fetch 152 29 = some (29, .ifCond .eq 22, 3, 0, 0, 0, 0, 0) := rfl
set_option maxRecDepth 20000 in
theorem gk_f152_32 : gd_fetch 152 32 = some (32, .aload 4, 2, 0, 0, 0, 0, 0) := rfl
set_option maxRecDepth 20000 in
theorem gk_f152_34 : gd_fetch 152 34 = some (34, .getfield 222, 3, 428, 4, 14, 0, 0) := rfl
set_option maxRecDepth 20000 in
theorem gk_f152_37 : gd_fetch 152 37 = some (37, .ifCond .ne 14, 3, 0, 0, 0, 0, 0) := rfl
set_option maxRecDepth 20000 in
theorem gk_f152_40 : gd_fetch 152 40 = some (40, .iload_n 3, 1, 0, 0, 0, 0, 0) := rfl
set_option maxRecDepth 20000 in
theorem gk_f152_41 : gd_fetch 152 41 = some (41, .aload 4, 2, 0, 0, 0, 0, 0) := rfl
set_option maxRecDepth 20000 in
theorem gk_f152_43 : gd_fetch 152 43 = some (43, .getfield 236, 3, 426, 4, 13, 0, 0) := rfl
set_option maxRecDepth 20000 in
theorem gk_f152_46 : gd_fetch 152 46 = some (46, .isub, 1, 0, 0, 0, 0, 0) := rfl
set_option maxRecDepth 20000 in
theorem gk_f152_47 : gd_fetch 152 47 = some (47, .iconst 5, 1, 0, 0, 0, 0, 0) := rfl
set_option maxRecDepth 20000 in
theorem gk_f152_48 : gd_fetch 152 48 = some (48, .if_icmp .le 5, 3, 0, 0, 0, 0, 0) := rfl
set_option maxRecDepth 20000 in
theorem gk_f152_51 : gd_fetch 152 51 = some (51, .iconst (-1), 1, 0, 0, 0, 0, 0) := rfl
set_option maxRecDepth 20000 in
theorem gk_f152_52 : gd_fetch 152 52 = some (52, .ireturn, 1, 0, 0, 0, 0, 0) := rfl
set_option maxRecDepth 20000 in
theorem gk_f152_53 : gd_fetch 152 53 = some (53, .aload 4, 2, 0, 0, 0, 0, 0) := rfl
set_option maxRecDepth 20000 in
theorem gk_f152_55 : gd_fetch 152 55 = some (55, .iconst 1, 1, 0, 0, 0, 0, 0) := rfl
set_option maxRecDepth 20000 in
theorem gk_f152_56 : gd_fetch 152 56 = some (56, .putfield 222, 3, 428, 4, 14, 0, 0) := rfl
set_option maxRecDepth 20000 in
theorem gk_f152_59 : gd_fetch 152 59 = some (59, .aload_n 0, 1, 0, 0, 0, 0, 0) := rfl
set_option maxRecDepth 20000 in
theorem gk_f152_60 : gd_fetch 152 60 = some (60, .iload_n 3, 1, 0, 0, 0, 0, 0) := rfl
set_option maxRecDepth 20000 in
theorem gk_f152_61 : gd_fetch 152 61 = some (61, .putfield 89, 3, 473, 6, 13, 0, 0) := rfl
set_option maxRecDepth 20000 in
theorem gk_f152_64 : gd_fetch 152 64 = some (64, .aload_n 0, 1, 0, 0, 0, 0, 0) := rfl
set_option maxRecDepth 20000 in
theorem gk_f152_65 : gd_fetch 152 65 = some (65, .getfield 47, 3, 467, 6, 7, 4, 1) := rfl
set_option maxRecDepth 20000 in
theorem gk_f152_68 : gd_fetch 152 68 = some (68, .aload_n 0, 1, 0, 0, 0, 0, 0) := rfl
set_option maxRecDepth 20000 in
theorem gk_f152_69 : gd_fetch 152 69 = some (69, .getfield 40, 3, 465, 6, 5, 4, 1) := rfl
set_option maxRecDepth 20000 in
theorem gk_f152_72 : gd_fetch 152 72 = some (72, .iload_n 1, 1, 0, 0, 0, 0, 0) := rfl
set_option maxRecDepth 20000 in
theorem gk_f152_73 : gd_fetch 152 73 = some (73, .iaload, 1, 0, 0, 0, 0, 0) := rfl
set_option maxRecDepth 20000 in
theorem gk_f152_74 : gd_fetch 152 74 = some (74, .dup2, 1, 0, 0, 0, 0, 0) := rfl
set_option maxRecDepth 20000 in
theorem gk_f152_75 : gd_fetch 152 75 = some (75, .iaload, 1, 0, 0, 0, 0, 0) := rfl
set_option maxRecDepth 20000 in
theorem gk_f152_76 : gd_fetch 152 76 = some (76, .iconst 1, 1, 0, 0, 0, 0, 0) := rfl
set_option maxRecDepth 20000 in
theorem gk_f152_77 : gd_fetch 152 77 = some (77, .iadd, 1, 0, 0, 0, 0, 0) := rfl
set_option maxRecDepth 20000 in
theorem gk_f152_78 : gd_fetch 152 78 = some (78, .iastore, 1, 0, 0, 0, 0, 0) := rfl
set_option maxRecDepth 20000 in
theorem gk_f152_79 : gd_fetch 152 79 = some (79, .aload_n 0, 1, 0, 0, 0, 0, 0) := rfl
set_option maxRecDepth 20000 in
theorem gk_f152_80 : gd_fetch 152 80 = some (80, .getfield 47, 3, 467, 6, 7, 4, 1) := rfl
set_option maxRecDepth 20000 in
theorem gk_f152_83 : gd_fetch 152 83 = some (83, .aload_n 0, 1, 0, 0, 0, 0, 0) := rfl
set_option maxRecDepth 20000 in
theorem gk_f152_84 : gd_fetch 152 84 = some (84, .getfield 40, 3, 465, 6, 5, 4, 1) := rfl
set_option maxRecDepth 20000 in
theorem gk_f152_87 : gd_fetch 152 87 = some (87, .iload_n 1, 1, 0, 0, 0, 0, 0) := rfl
set_option maxRecDepth 20000 in
theorem gk_f152_88 : gd_fetch 152 88 = some (88, .iaload, 1, 0, 0, 0, 0, 0) := rfl
set_option maxRecDepth 20000 in
theorem gk_f152_89 : gd_fetch 152 89 = some (89, .iaload, 1, 0, 0, 0, 0, 0) := rfl
set_option maxRecDepth 20000 in
theorem gk_f152_90 : gd_fetch 152 90 = some (90, .ireturn, 1, 0, 0, 0, 0, 0) := rfl
set_option maxRecDepth 20000 in
set_option maxHeartbeats 4000000 in
theorem q_X_inquire (r0 : Nat) (x1 : Int32) (x2 : Int32) (x3 : Int32) (m : gd_M) : gd_call 152 [.ref r0, .int x1, .int x2, .int x3] m = if gd_ok (gN m) r0 6 = true then ((gd_call 93 [.ref r0, .int x1, .int x2] m).bind (gd_kR fun o4 m2 => if o4 = 0 then (some (.int (-2), m2)) else if 8 ≤ o4 then (if gd_ok (gN m2) r0 6 = true then (if (x3 < (gI m2 r0 13) : Prop) then (some (.int (-2), m2)) else (if gd_ok (gN m2) o4 4 = true then ((gd_call 151 [.ref o4] m2).bind (gd_kI fun z14 m12 => if (z14 = 0 : Prop) then (some (.int (-1), m12)) else (if gd_ok (gN m12) o4 4 = true then (if ((gI m12 o4 14) = 0 : Prop) then (if (5 < (x3 - (gI m12 o4 13)) : Prop) then (some (.int (-1), m12)) else (if gd_ok (gN m12) r0 6 = true then (if gd_okA (gN m12) (gR m12 r0 5) 10 x1 = true then (if gd_okA (gN m12) (gR m12 r0 7) 10 (gI (wI (wI m12 o4 14 1) r0 13 x3) (gR m12 r0 5) (x1 : Int32).toNatClampNeg) = true then (if gd_okA (gN m12) (gR m12 r0 7) 10 (gI (wI (wI (wI m12 o4 14 1) r0 13 x3) (gR m12 r0 7) ((gI (wI (wI m12 o4 14 1) r0 13 x3) (gR m12 r0 5) (x1 : Int32).toNatClampNeg) : Int32).toNatClampNeg ((gI (wI (wI m12 o4 14 1) r0 13 x3) (gR m12 r0 7) ((gI (wI (wI m12 o4 14 1) r0 13 x3) (gR m12 r0 5) (x1 : Int32).toNatClampNeg) : Int32).toNatClampNeg) + 1)) (gR m12 r0 5) (x1 : Int32).toNatClampNeg) = true then (some (.int (gI (wI (wI (wI m12 o4 14 1) r0 13 x3) (gR m12 r0 7) ((gI (wI (wI m12 o4 14 1) r0 13 x3) (gR m12 r0 5) (x1 : Int32).toNatClampNeg) : Int32).toNatClampNeg ((gI (wI (wI m12 o4 14 1) r0 13 x3) (gR m12 r0 7) ((gI (wI (wI m12 o4 14 1) r0 13 x3) (gR m12 r0 5) (x1 : Int32).toNatClampNeg) : Int32).toNatClampNeg) + 1)) (gR m12 r0 7) ((gI (wI (wI (wI m12 o4 14 1) r0 13 x3) (gR m12 r0 7) ((gI (wI (wI m12 o4 14 1) r0 13 x3) (gR m12 r0 5) (x1 : Int32).toNatClampNeg) : Int32).toNatClampNeg ((gI (wI (wI m12 o4 14 1) r0 13 x3) (gR m12 r0 7) ((gI (wI (wI m12 o4 14 1) r0 13 x3) (gR m12 r0 5) (x1 : Int32).toNatClampNeg) : Int32).toNatClampNeg) + 1)) (gR m12 r0 5) (x1 : Int32).toNatClampNeg) : Int32).toNatClampNeg), (wI (wI (wI m12 o4 14 1) r0 13 x3) (gR m12 r0 7) ((gI (wI (wI m12 o4 14 1) r0 13 x3) (gR m12 r0 5) (x1 : Int32).toNatClampNeg) : Int32).toNatClampNeg ((gI (wI (wI m12 o4 14 1) r0 13 x3) (gR m12 r0 7) ((gI (wI (wI m12 o4 14 1) r0 13 x3) (gR m12 r0 5) (x1 : Int32).toNatClampNeg) : Int32).toNatClampNeg) + 1)))) else none) else none) else none) else none)) else (some (.int (-1), m12))) else none))) else none)) else none) else none)) else none := by
  refine Eq.trans (show gd_call 152 [.ref r0, .int x1, .int x2, .int x3] m = gd_Den (152, 0, [.ref r0, .int x1, .int x2, .int x3, .null], [], m) from by unfold gd_call gd_ent; rw [gk_ml152]; rfl) ?_
  refine Eq.trans (D_aload_n (x := r0) gk_f152_0 rfl) ?_
  refine Eq.trans (D_iload_n (x := x1) gk_f152_1 rfl) ?_
  refine Eq.trans (D_iload_n (x := x2) gk_f152_2 rfl) ?_
  refine Eq.trans (D_ivR (cl := 6) (args := [.ref r0, .int x1, .int x2]) (rest := []) gk_f152_3 rfl rfl (gd_rmk gk_rm152_93 gk_ln93 gk_ml93 rfl rfl rfl) gk_rk93 (gd_hnd_n gk_nc152) gk_nc93 gk_n11_93 gk_cl93) ?_
  refine gd_ite (fun h1 => ?_) (fun _ => rfl)
  refine gd_bnd (gd_kR_c fun o4 m2 => ?_)
  refine Eq.trans (D_astore gk_f152_6 gk_st152_4) ?_
  refine Eq.trans (D_aload (x := o4) gk_f152_8 rfl) ?_
  refine Eq.trans (D_ifnull (t := 21) gk_f152_10 (by decide)) ?_
  refine gd_ite (fun h5 => ?_) (fun h6 => gd_ite (fun h7 => ?_) (fun _ => rfl))
  · refine Eq.trans (D_bipush (x := (-2)) gk_f152_21 gk_b_m2) ?_
    refine Eq.trans (D_ireturn gk_f152_23 gk_rk152) ?_
    rfl
  · refine Eq.trans (D_iload_n (x := x3) gk_f152_13 rfl) ?_
    refine Eq.trans (D_aload_n (x := r0) gk_f152_14 rfl) ?_
    refine Eq.trans (D_gfI gk_f152_15 (by decide) (by decide) (by decide)) ?_
    refine gd_ite (fun h8 => ?_) (fun _ => rfl)
    refine Eq.trans (D_ic_ge (t := 24) gk_f152_18 (by decide)) ?_
    refine gd_ite (fun h9 => ?_) (fun h10 => ?_)
    · refine Eq.trans (D_bipush (x := (-2)) gk_f152_21 gk_b_m2) ?_
      refine Eq.trans (D_ireturn gk_f152_23 gk_rk152) ?_
      rfl
    · refine Eq.trans (D_aload (x := o4) gk_f152_24 rfl) ?_
      refine Eq.trans (D_ivZ (cl := 4) (args := [.ref o4]) (rest := []) gk_f152_26 rfl rfl (gd_rmk gk_rm152_151 gk_ln151 gk_ml151 rfl rfl rfl) gk_rk151 (gd_hnd_n gk_nc152) gk_nc151 gk_n11_151 gk_cl151) ?_
      refine gd_ite (fun h11 => ?_) (fun _ => rfl)
      refine gd_bnd (gd_kI_c fun z14 m12 => ?_)
      refine Eq.trans (D_if_eq (t := 51) gk_f152_29 (by decide)) ?_
      refine gd_ite (fun h15 => ?_) (fun h16 => ?_)
      · refine Eq.trans (D_iconst (x := (-1)) gk_f152_51 gk_c_m1) ?_
        refine Eq.trans (D_ireturn gk_f152_52 gk_rk152) ?_
        rfl
      · refine Eq.trans (D_aload (x := o4) gk_f152_32 rfl) ?_
        refine Eq.trans (D_gfI gk_f152_34 (by decide) (by decide) (by decide)) ?_
        refine gd_ite (fun h17 => ?_) (fun _ => rfl)
        refine Eq.trans (D_if_ne (t := 51) gk_f152_37 (by decide)) ?_
        refine gd_ite (fun h18 => ?_) (fun h19 => ?_)
        · refine Eq.trans (D_iload_n (x := x3) gk_f152_40 rfl) ?_
          refine Eq.trans (D_aload (x := o4) gk_f152_41 rfl) ?_
          refine Eq.trans (D_gfI gk_f152_43 (by decide) (by decide) (by decide)) ?_
          refine Eq.trans (if_pos h17) ?_
          refine Eq.trans (D_isub gk_f152_46) ?_
          refine Eq.trans (D_iconst (x := 5) gk_f152_47 gk_c_5) ?_
          refine Eq.trans (D_ic_le (t := 53) gk_f152_48 (by decide)) ?_
          refine gd_ite (fun h20 => ?_) (fun h21 => ?_)
          · refine Eq.trans (D_iconst (x := (-1)) gk_f152_51 gk_c_m1) ?_
            refine Eq.trans (D_ireturn gk_f152_52 gk_rk152) ?_
            rfl
          · refine Eq.trans (D_aload (x := o4) gk_f152_53 rfl) ?_
            refine Eq.trans (D_iconst (x := 1) gk_f152_55 gk_c_1) ?_
            refine Eq.trans (D_pfI gk_f152_56) ?_
            refine Eq.trans (if_pos h17) ?_
            refine Eq.trans (D_aload_n (x := r0) gk_f152_59 rfl) ?_
            refine Eq.trans (D_iload_n (x := x3) gk_f152_60 rfl) ?_
            refine Eq.trans (D_pfI gk_f152_61) ?_
            refine gd_ite (fun h22 => ?_) (fun _ => rfl)
            refine Eq.trans (D_aload_n (x := r0) gk_f152_64 rfl) ?_
            refine Eq.trans (D_gfR gk_f152_65 (by decide)) ?_
            refine Eq.trans (if_pos h22) ?_
            refine Eq.trans (D_aload_n (x := r0) gk_f152_68 rfl) ?_
            refine Eq.trans (D_gfR gk_f152_69 (by decide)) ?_
            refine Eq.trans (if_pos h22) ?_
            refine Eq.trans (D_iload_n (x := x1) gk_f152_72 rfl) ?_
            refine Eq.trans (D_iald gk_f152_73 gk_n10_152) ?_
            refine gd_ite (fun h23 => ?_) (fun _ => rfl)
            refine Eq.trans (D_dup2 gk_f152_74) ?_
            refine Eq.trans (D_iald gk_f152_75 gk_n10_152) ?_
            refine gd_ite (fun h24 => ?_) (fun _ => rfl)
            refine Eq.trans (D_iconst (x := 1) gk_f152_76 gk_c_1) ?_
            refine Eq.trans (D_iadd gk_f152_77) ?_
            refine Eq.trans (D_iast gk_f152_78) ?_
            refine Eq.trans (if_pos h24) ?_
            refine Eq.trans (D_aload_n (x := r0) gk_f152_79 rfl) ?_
            refine Eq.trans (D_gfR gk_f152_80 (by decide)) ?_
            refine Eq.trans (if_pos h22) ?_
            refine Eq.trans (D_aload_n (x := r0) gk_f152_83 rfl) ?_
            refine Eq.trans (D_gfR gk_f152_84 (by decide)) ?_
            refine Eq.trans (if_pos h22) ?_
            refine Eq.trans (D_iload_n (x := x1) gk_f152_87 rfl) ?_
            refine Eq.trans (D_iald gk_f152_88 gk_n10_152) ?_
            refine Eq.trans (if_pos h23) ?_
            refine Eq.trans (D_iald gk_f152_89 gk_n10_152) ?_
            refine gd_ite (fun h25 => ?_) (fun _ => rfl)
            refine Eq.trans (D_ireturn gk_f152_90 gk_rk152) ?_
            rfl
        · refine Eq.trans (D_iconst (x := (-1)) gk_f152_51 gk_c_m1) ?_
          refine Eq.trans (D_ireturn gk_f152_52 gk_rk152) ?_
          rfl
/-! GymDeskModel.inquire (III)I -/
set_option maxRecDepth 20000 in
theorem gk_f153_0 : gd_fetch 153 0 = some (0, .aload_n 0, 1, 0, 0, 0, 0, 0) := rfl
set_option maxRecDepth 20000 in
theorem gk_f153_1 : gd_fetch 153 1 = some (1, .iload_n 1, 1, 0, 0, 0, 0, 0) := rfl
set_option maxRecDepth 20000 in
theorem gk_f153_2 : gd_fetch 153 2 = some (2, .iload_n 2, 1, 0, 0, 0, 0, 0) := rfl
set_option maxRecDepth 20000 in
theorem gk_f153_3 : gd_fetch 153 3 = some (3, .invokevirtual 335, 3, 1407, 98, 2, 0, 0) := rfl
set_option maxRecDepth 20000 in
theorem gk_f153_6 : gd_fetch 153 6 = some (6, .ifCond .eq 11, 3, 0, 0, 0, 0, 0) := rfl
set_option maxRecDepth 20000 in
theorem gk_f153_9 : gd_fetch 153 9 = some (9, .iload_n 3, 1, 0, 0, 0, 0, 0) := rfl
set_option maxRecDepth 20000 in
theorem gk_f153_10 : gd_fetch 153 10 = some (10, .aload_n 0, 1, 0, 0, 0, 0, 0) := rfl
set_option maxRecDepth 20000 in
theorem gk_f153_11 : gd_fetch 153 11 = some (11, .getfield 329, 3, 1182, 9, 19, 0, 0) := rfl
set_option maxRecDepth 20000 in
theorem gk_f153_14 : gd_fetch 153 14 = some (14, .if_icmp .ge 6, 3, 0, 0, 0, 0, 0) := rfl
set_option maxRecDepth 20000 in
theorem gk_f153_17 : gd_fetch 153 17 = some (17, .bipush (-2), 2, 0, 0, 0, 0, 0) := rfl
set_option maxRecDepth 20000 in
theorem gk_f153_19 : gd_fetch 153 19 = some (19, .ireturn, 1, 0, 0, 0, 0, 0) := rfl
set_option maxRecDepth 20000 in
theorem gk_f153_20 : gd_fetch 153 20 = some (20, .iconst 4, 1, 0, 0, 0, 0, 0) := rfl
set_option maxRecDepth 20000 in
theorem gk_f153_21 : gd_fetch 153 21 = some (21, .iload_n 1, 1, 0, 0, 0, 0, 0) := rfl
set_option maxRecDepth 20000 in
theorem gk_f153_22 : gd_fetch 153 22 = some (22, .imul, 1, 0, 0, 0, 0, 0) := rfl
set_option maxRecDepth 20000 in
theorem gk_f153_23 : gd_fetch 153 23 = some (23, .iload_n 2, 1, 0, 0, 0, 0, 0) := rfl
set_option maxRecDepth 20000 in
theorem gk_f153_24 : gd_fetch 153 24 = some (24, .iadd, 1, 0, 0, 0, 0, 0) := rfl
set_option maxRecDepth 20000 in
theorem gk_f153_25 : gd_fetch 153 25 = some (25, .istore 4, 2, 0, 0, 0, 0, 0) := rfl
set_option maxRecDepth 20000 in
theorem gk_f153_27 : gd_fetch 153 27 = some (27, .aload_n 0, 1, 0, 0, 0, 0, 0) := rfl
set_option maxRecDepth 20000 in
theorem gk_f153_28 : gd_fetch 153 28 = some (28, .iload 4, 2, 0, 0, 0, 0, 0) := rfl
set_option maxRecDepth 20000 in
theorem gk_f153_30 : gd_fetch 153 30 = some (30, .invokevirtual 372, 3, 1480, 149, 1, 0, 0) := rfl
set_option maxRecDepth 20000 in
theorem gk_f153_33 : gd_fetch 153 33 = some (33, .ifCond .eq 31, 3, 0, 0, 0, 0, 0) := rfl
set_option maxRecDepth 20000 in
theorem gk_f153_36 : gd_fetch 153 36 = some (36, .iload_n 3, 1, 0, 0, 0, 0, 0) := rfl
set_option maxRecDepth 20000 in
theorem gk_f153_37 : gd_fetch 153 37 = some (37, .i2l, 1, 0, 0, 0, 0, 0) := rfl
set_option maxRecDepth 20000 in
theorem gk_f153_38 : gd_fetch 153 38 = some (38, .aload_n 0, 1, 0, 0, 0, 0, 0) := rfl
set_option maxRecDepth 20000 in
theorem gk_f153_39 : gd_fetch 153 39 = some (39, .getfield 72, 3, 1193, 9, 30, 4, 1) := rfl
set_option maxRecDepth 20000 in
theorem gk_f153_42 : gd_fetch 153 42 = some (42, .iload 4, 2, 0, 0, 0, 0, 0) := rfl
set_option maxRecDepth 20000 in
theorem gk_f153_44 : gd_fetch 153 44 = some (44, .iaload, 1, 0, 0, 0, 0, 0) := rfl
set_option maxRecDepth 20000 in
theorem gk_f153_45 : gd_fetch 153 45 = some (45, .i2l, 1, 0, 0, 0, 0, 0) := rfl
set_option maxRecDepth 20000 in
theorem gk_f153_46 : gd_fetch 153 46 = some (46, .lsub, 1, 0, 0, 0, 0, 0) := rfl
set_option maxRecDepth 20000 in
theorem gk_f153_47 : gd_fetch 153 47 = some (47, .ldc2_w 375, 3, 1488, 0, 0, 0, 5) := rfl
set_option maxRecDepth 20000 in
theorem gk_f153_50 : gd_fetch 153 50 = some (50, .lcmp, 1, 0, 0, 0, 0, 0) := rfl
set_option maxRecDepth 20000 in
theorem gk_f153_51 : gd_fetch 153 51 = some (51, .ifCond .gt 13, 3, 0, 0, 0, 0, 0) := rfl
set_option maxRecDepth 20000 in
theorem gk_f153_54 : gd_fetch 153 54 = some (54, .aload_n 0, 1, 0, 0, 0, 0, 0) := rfl
set_option maxRecDepth 20000 in
theorem gk_f153_55 : gd_fetch 153 55 = some (55, .getfield 75, 3, 1194, 9, 31, 4, 1) := rfl
set_option maxRecDepth 20000 in
theorem gk_f153_58 : gd_fetch 153 58 = some (58, .iload 4, 2, 0, 0, 0, 0, 0) := rfl
set_option maxRecDepth 20000 in
theorem gk_f153_60 : gd_fetch 153 60 = some (60, .iaload, 1, 0, 0, 0, 0, 0) := rfl
set_option maxRecDepth 20000 in
theorem gk_f153_61 : gd_fetch 153 61 = some (61, .ifCond .eq 5, 3, 0, 0, 0, 0, 0) := rfl
set_option maxRecDepth 20000 in
theorem gk_f153_64 : gd_fetch 153 64 = some (64, .iconst (-1), 1, 0, 0, 0, 0, 0) := rfl
set_option maxRecDepth 20000 in
theorem gk_f153_65 : gd_fetch 153 65 = some (65, .ireturn, 1, 0, 0, 0, 0, 0) := rfl
set_option maxRecDepth 20000 in
theorem gk_f153_66 : gd_fetch 153 66 = some (66, .aload_n 0, 1, 0, 0, 0, 0, 0) := rfl
set_option maxRecDepth 20000 in
theorem gk_f153_67 : gd_fetch 153 67 = some (67, .iload_n 3, 1, 0, 0, 0, 0, 0) := rfl
set_option maxRecDepth 20000 in
theorem gk_f153_68 : gd_fetch 153 68 = some (68, .putfield 329, 3, 1182, 9, 19, 0, 0) := rfl
set_option maxRecDepth 20000 in
theorem gk_f153_71 : gd_fetch 153 71 = some (71, .aload_n 0, 1, 0, 0, 0, 0, 0) := rfl
set_option maxRecDepth 20000 in
theorem gk_f153_72 : gd_fetch 153 72 = some (72, .getfield 75, 3, 1194, 9, 31, 4, 1) := rfl
set_option maxRecDepth 20000 in
theorem gk_f153_75 : gd_fetch 153 75 = some (75, .iload 4, 2, 0, 0, 0, 0, 0) := rfl
set_option maxRecDepth 20000 in
theorem gk_f153_77 : gd_fetch 153 77 = some (77, .iconst 1, 1, 0, 0, 0, 0, 0) := rfl
set_option maxRecDepth 20000 in
theorem gk_f153_78 : gd_fetch 153 78 = some (78, .iastore, 1, 0, 0, 0, 0, 0) := rfl
set_option maxRecDepth 20000 in
theorem gk_f153_79 : gd_fetch 153 79 = some (79, .aload_n 0, 1, 0, 0, 0, 0, 0) := rfl
set_option maxRecDepth 20000 in
theorem gk_f153_80 : gd_fetch 153 80 = some (80, .getfield 45, 3, 1184, 9, 21, 4, 1) := rfl
set_option maxRecDepth 20000 in
theorem gk_f153_83 : gd_fetch 153 83 = some (83, .aload_n 0, 1, 0, 0, 0, 0, 0) := rfl
set_option maxRecDepth 20000 in
theorem gk_f153_84 : gd_fetch 153 84 = some (84, .getfield 41, 3, 1183, 9, 20, 4, 1) := rfl
set_option maxRecDepth 20000 in
theorem gk_f153_87 : gd_fetch 153 87 = some (87, .iload_n 1, 1, 0, 0, 0, 0, 0) := rfl
set_option maxRecDepth 20000 in
theorem gk_f153_88 : gd_fetch 153 88 = some (88, .iaload, 1, 0, 0, 0, 0, 0) := rfl
set_option maxRecDepth 20000 in
theorem gk_f153_89 : gd_fetch 153 89 = some (89, .dup2, 1, 0, 0, 0, 0, 0) := rfl
set_option maxRecDepth 20000 in
theorem gk_f153_90 : gd_fetch 153 90 = some (90, .iaload, 1, 0, 0, 0, 0, 0) := rfl
set_option maxRecDepth 20000 in
theorem gk_f153_91 : gd_fetch 153 91 = some (91, .iconst 1, 1, 0, 0, 0, 0, 0) := rfl
set_option maxRecDepth 20000 in
theorem gk_f153_92 : gd_fetch 153 92 = some (92, .iadd, 1, 0, 0, 0, 0, 0) := rfl
set_option maxRecDepth 20000 in
theorem gk_f153_93 : gd_fetch 153 93 = some (93, .iastore, 1, 0, 0, 0, 0, 0) := rfl
set_option maxRecDepth 20000 in
theorem gk_f153_94 : gd_fetch 153 94 = some (94, .aload_n 0, 1, 0, 0, 0, 0, 0) := rfl
set_option maxRecDepth 20000 in
theorem gk_f153_95 : gd_fetch 153 95 = some (95, .getfield 45, 3, 1184, 9, 21, 4, 1) := rfl
set_option maxRecDepth 20000 in
theorem gk_f153_98 : gd_fetch 153 98 = some (98, .aload_n 0, 1, 0, 0, 0, 0, 0) := rfl
set_option maxRecDepth 20000 in
theorem gk_f153_99 : gd_fetch 153 99 = some (99, .getfield 41, 3, 1183, 9, 20, 4, 1) := rfl
set_option maxRecDepth 20000 in
theorem gk_f153_102 : gd_fetch 153 102 = some (102, .iload_n 1, 1, 0, 0, 0, 0, 0) := rfl
set_option maxRecDepth 20000 in
theorem gk_f153_103 : gd_fetch 153 103 = some (103, .iaload, 1, 0, 0, 0, 0, 0) := rfl
set_option maxRecDepth 20000 in
theorem gk_f153_104 : gd_fetch 153 104 = some (104, .iaload, 1, 0, 0, 0, 0, 0) := rfl
set_option maxRecDepth 20000 in
theorem gk_f153_105 : gd_fetch 153 105 = some (105, .ireturn, 1, 0, 0, 0, 0, 0) := rfl
set_option maxRecDepth 20000 in
set_option maxHeartbeats 4000000 in
theorem q_Mo_inquire (r0 : Nat) (x1 : Int32) (x2 : Int32) (x3 : Int32) (m : gd_M) : gd_call 153 [.ref r0, .int x1, .int x2, .int x3] m = if gd_ok (gN m) r0 9 = true then ((gd_call 98 [.ref r0, .int x1, .int x2] m).bind (gd_kI fun z4 m2 => if (z4 = 0 : Prop) then (some (.int (-2), m2)) else (if gd_ok (gN m2) r0 9 = true then (if (x3 < (gI m2 r0 19) : Prop) then (some (.int (-2), m2)) else ((gd_call 149 [.ref r0, .int ((4 * x1) + x2)] m2).bind (gd_kI fun z12 m10 => if (z12 = 0 : Prop) then (some (.int (-1), m10)) else (if gd_ok (gN m10) r0 9 = true then (if gd_okA (gN m10) (gR m10 r0 30) 10 ((4 * x1) + x2) = true then (if (0 < (lg_cmp ((x3 : Int32).toInt64 - ((gI m10 (gR m10 r0 30) (((4 * x1) + x2) : Int32).toNatClampNeg) : Int32).toInt64) 5) : Prop) then (some (.int (-1), m10)) else (if gd_okA (gN m10) (gR m10 r0 31) 10 ((4 * x1) + x2) = true then (if ((gI m10 (gR m10 r0 31) (((4 * x1) + x2) : Int32).toNatClampNeg) = 0 : Prop) then (if gd_okA (gN m10) (gR m10 r0 20) 10 x1 = true then (if gd_okA (gN m10) (gR m10 r0 21) 10 (gI (wI (wI m10 r0 19 x3) (gR m10 r0 31) (((4 * x1) + x2) : Int32).toNatClampNeg 1) (gR m10 r0 20) (x1 : Int32).toNatClampNeg) = true then (if gd_okA (gN m10) (gR m10 r0 21) 10 (gI (wI (wI (wI m10 r0 19 x3) (gR m10 r0 31) (((4 * x1) + x2) : Int32).toNatClampNeg 1) (gR m10 r0 21) ((gI (wI (wI m10 r0 19 x3) (gR m10 r0 31) (((4 * x1) + x2) : Int32).toNatClampNeg 1) (gR m10 r0 20) (x1 : Int32).toNatClampNeg) : Int32).toNatClampNeg ((gI (wI (wI m10 r0 19 x3) (gR m10 r0 31) (((4 * x1) + x2) : Int32).toNatClampNeg 1) (gR m10 r0 21) ((gI (wI (wI m10 r0 19 x3) (gR m10 r0 31) (((4 * x1) + x2) : Int32).toNatClampNeg 1) (gR m10 r0 20) (x1 : Int32).toNatClampNeg) : Int32).toNatClampNeg) + 1)) (gR m10 r0 20) (x1 : Int32).toNatClampNeg) = true then (some (.int (gI (wI (wI (wI m10 r0 19 x3) (gR m10 r0 31) (((4 * x1) + x2) : Int32).toNatClampNeg 1) (gR m10 r0 21) ((gI (wI (wI m10 r0 19 x3) (gR m10 r0 31) (((4 * x1) + x2) : Int32).toNatClampNeg 1) (gR m10 r0 20) (x1 : Int32).toNatClampNeg) : Int32).toNatClampNeg ((gI (wI (wI m10 r0 19 x3) (gR m10 r0 31) (((4 * x1) + x2) : Int32).toNatClampNeg 1) (gR m10 r0 21) ((gI (wI (wI m10 r0 19 x3) (gR m10 r0 31) (((4 * x1) + x2) : Int32).toNatClampNeg 1) (gR m10 r0 20) (x1 : Int32).toNatClampNeg) : Int32).toNatClampNeg) + 1)) (gR m10 r0 21) ((gI (wI (wI (wI m10 r0 19 x3) (gR m10 r0 31) (((4 * x1) + x2) : Int32).toNatClampNeg 1) (gR m10 r0 21) ((gI (wI (wI m10 r0 19 x3) (gR m10 r0 31) (((4 * x1) + x2) : Int32).toNatClampNeg 1) (gR m10 r0 20) (x1 : Int32).toNatClampNeg) : Int32).toNatClampNeg ((gI (wI (wI m10 r0 19 x3) (gR m10 r0 31) (((4 * x1) + x2) : Int32).toNatClampNeg 1) (gR m10 r0 21) ((gI (wI (wI m10 r0 19 x3) (gR m10 r0 31) (((4 * x1) + x2) : Int32).toNatClampNeg 1) (gR m10 r0 20) (x1 : Int32).toNatClampNeg) : Int32).toNatClampNeg) + 1)) (gR m10 r0 20) (x1 : Int32).toNatClampNeg) : Int32).toNatClampNeg), (wI (wI (wI m10 r0 19 x3) (gR m10 r0 31) (((4 * x1) + x2) : Int32).toNatClampNeg 1) (gR m10 r0 21) ((gI (wI (wI m10 r0 19 x3) (gR m10 r0 31) (((4 * x1) + x2) : Int32).toNatClampNeg 1) (gR m10 r0 20) (x1 : Int32).toNatClampNeg) : Int32).toNatClampNeg ((gI (wI (wI m10 r0 19 x3) (gR m10 r0 31) (((4 * x1) + x2) : Int32).toNatClampNeg 1) (gR m10 r0 21) ((gI (wI (wI m10 r0 19 x3) (gR m10 r0 31) (((4 * x1) + x2) : Int32).toNatClampNeg 1) (gR m10 r0 20) (x1 : Int32).toNatClampNeg) : Int32).toNatClampNeg) + 1)))) else none) else none) else none) else (some (.int (-1), m10))) else none)) else none) else none)))) else none))) else none := by
  refine Eq.trans (show gd_call 153 [.ref r0, .int x1, .int x2, .int x3] m = gd_Den (153, 0, [.ref r0, .int x1, .int x2, .int x3, .null], [], m) from by unfold gd_call gd_ent; rw [gk_ml153]; rfl) ?_
  refine Eq.trans (D_aload_n (x := r0) gk_f153_0 rfl) ?_
  refine Eq.trans (D_iload_n (x := x1) gk_f153_1 rfl) ?_
  refine Eq.trans (D_iload_n (x := x2) gk_f153_2 rfl) ?_
  refine Eq.trans (D_ivZ (cl := 9) (args := [.ref r0, .int x1, .int x2]) (rest := []) gk_f153_3 rfl rfl (gd_rmk gk_rm153_98 gk_ln98 gk_ml98 rfl rfl rfl) gk_rk98 (gd_hnd_n gk_nc153) gk_nc98 gk_n11_98 gk_cl98) ?_
  refine gd_ite (fun h1 => ?_) (fun _ => rfl)
  refine gd_bnd (gd_kI_c fun z4 m2 => ?_)
  refine Eq.trans (D_if_eq (t := 17) gk_f153_6 (by decide)) ?_
  refine gd_ite (fun h5 => ?_) (fun h6 => ?_)
  · refine Eq.trans (D_bipush (x := (-2)) gk_f153_17 gk_b_m2) ?_
    refine Eq.trans (D_ireturn gk_f153_19 gk_rk153) ?_
    rfl
  · refine Eq.trans (D_iload_n (x := x3) gk_f153_9 rfl) ?_
    refine Eq.trans (D_aload_n (x := r0) gk_f153_10 rfl) ?_
    refine Eq.trans (D_gfI gk_f153_11 (by decide) (by decide) (by decide)) ?_
    refine gd_ite (fun h7 => ?_) (fun _ => rfl)
    refine Eq.trans (D_ic_ge (t := 20) gk_f153_14 (by decide)) ?_
    refine gd_ite (fun h8 => ?_) (fun h9 => ?_)
    · refine Eq.trans (D_bipush (x := (-2)) gk_f153_17 gk_b_m2) ?_
      refine Eq.trans (D_ireturn gk_f153_19 gk_rk153) ?_
      rfl
    · refine Eq.trans (D_iconst (x := 4) gk_f153_20 gk_c_4) ?_
      refine Eq.trans (D_iload_n (x := x1) gk_f153_21 rfl) ?_
      refine Eq.trans (D_imul gk_f153_22) ?_
      refine Eq.trans (D_iload_n (x := x2) gk_f153_23 rfl) ?_
      refine Eq.trans (D_iadd gk_f153_24) ?_
      refine Eq.trans (D_istore gk_f153_25 gk_st153_4) ?_
      refine Eq.trans (D_aload_n (x := r0) gk_f153_27 rfl) ?_
      refine Eq.trans (D_iload (x := ((4 * x1) + x2)) gk_f153_28 rfl) ?_
      refine Eq.trans (D_ivZ (cl := 9) (args := [.ref r0, .int ((4 * x1) + x2)]) (rest := []) gk_f153_30 rfl rfl (gd_rmk gk_rm153_149 gk_ln149 gk_ml149 rfl rfl rfl) gk_rk149 (gd_hnd_n gk_nc153) gk_nc149 gk_n11_149 gk_cl149) ?_
      refine Eq.trans (if_pos h7) ?_
      refine gd_bnd (gd_kI_c fun z12 m10 => ?_)
      refine Eq.trans (D_if_eq (t := 64) gk_f153_33 (by decide)) ?_
      refine gd_ite (fun h13 => ?_) (fun h14 => ?_)
      · refine Eq.trans (D_iconst (x := (-1)) gk_f153_64 gk_c_m1) ?_
        refine Eq.trans (D_ireturn gk_f153_65 gk_rk153) ?_
        rfl
      · refine Eq.trans (D_iload_n (x := x3) gk_f153_36 rfl) ?_
        refine Eq.trans (D_i2l gk_f153_37) ?_
        refine Eq.trans (D_aload_n (x := r0) gk_f153_38 rfl) ?_
        refine Eq.trans (D_gfR gk_f153_39 (by decide)) ?_
        refine gd_ite (fun h15 => ?_) (fun _ => rfl)
        refine Eq.trans (D_iload (x := ((4 * x1) + x2)) gk_f153_42 rfl) ?_
        refine Eq.trans (D_iald gk_f153_44 gk_n10_153) ?_
        refine gd_ite (fun h16 => ?_) (fun _ => rfl)
        refine Eq.trans (D_i2l gk_f153_45) ?_
        refine Eq.trans (D_lsub gk_f153_46) ?_
        refine Eq.trans (D_ldc2_w (x := 5) gk_f153_47 (by decide)) ?_
        refine Eq.trans (D_lcmp gk_f153_50) ?_
        refine Eq.trans (D_if_gt (t := 64) gk_f153_51 (by decide)) ?_
        refine gd_ite (fun h17 => ?_) (fun h18 => ?_)
        · refine Eq.trans (D_iconst (x := (-1)) gk_f153_64 gk_c_m1) ?_
          refine Eq.trans (D_ireturn gk_f153_65 gk_rk153) ?_
          rfl
        · refine Eq.trans (D_aload_n (x := r0) gk_f153_54 rfl) ?_
          refine Eq.trans (D_gfR gk_f153_55 (by decide)) ?_
          refine Eq.trans (if_pos h15) ?_
          refine Eq.trans (D_iload (x := ((4 * x1) + x2)) gk_f153_58 rfl) ?_
          refine Eq.trans (D_iald gk_f153_60 gk_n10_153) ?_
          refine gd_ite (fun h19 => ?_) (fun _ => rfl)
          refine Eq.trans (D_if_eq (t := 66) gk_f153_61 (by decide)) ?_
          refine gd_ite (fun h20 => ?_) (fun h21 => ?_)
          · refine Eq.trans (D_aload_n (x := r0) gk_f153_66 rfl) ?_
            refine Eq.trans (D_iload_n (x := x3) gk_f153_67 rfl) ?_
            refine Eq.trans (D_pfI gk_f153_68) ?_
            refine Eq.trans (if_pos h15) ?_
            refine Eq.trans (D_aload_n (x := r0) gk_f153_71 rfl) ?_
            refine Eq.trans (D_gfR gk_f153_72 (by decide)) ?_
            refine Eq.trans (if_pos h15) ?_
            refine Eq.trans (D_iload (x := ((4 * x1) + x2)) gk_f153_75 rfl) ?_
            refine Eq.trans (D_iconst (x := 1) gk_f153_77 gk_c_1) ?_
            refine Eq.trans (D_iast gk_f153_78) ?_
            refine Eq.trans (if_pos h19) ?_
            refine Eq.trans (D_aload_n (x := r0) gk_f153_79 rfl) ?_
            refine Eq.trans (D_gfR gk_f153_80 (by decide)) ?_
            refine Eq.trans (if_pos h15) ?_
            refine Eq.trans (D_aload_n (x := r0) gk_f153_83 rfl) ?_
            refine Eq.trans (D_gfR gk_f153_84 (by decide)) ?_
            refine Eq.trans (if_pos h15) ?_
            refine Eq.trans (D_iload_n (x := x1) gk_f153_87 rfl) ?_
            refine Eq.trans (D_iald gk_f153_88 gk_n10_153) ?_
            refine gd_ite (fun h22 => ?_) (fun _ => rfl)
            refine Eq.trans (D_dup2 gk_f153_89) ?_
            refine Eq.trans (D_iald gk_f153_90 gk_n10_153) ?_
            refine gd_ite (fun h23 => ?_) (fun _ => rfl)
            refine Eq.trans (D_iconst (x := 1) gk_f153_91 gk_c_1) ?_
            refine Eq.trans (D_iadd gk_f153_92) ?_
            refine Eq.trans (D_iast gk_f153_93) ?_
            refine Eq.trans (if_pos h23) ?_
            refine Eq.trans (D_aload_n (x := r0) gk_f153_94 rfl) ?_
            refine Eq.trans (D_gfR gk_f153_95 (by decide)) ?_
            refine Eq.trans (if_pos h15) ?_
            refine Eq.trans (D_aload_n (x := r0) gk_f153_98 rfl) ?_
            refine Eq.trans (D_gfR gk_f153_99 (by decide)) ?_
            refine Eq.trans (if_pos h15) ?_
            refine Eq.trans (D_iload_n (x := x1) gk_f153_102 rfl) ?_
            refine Eq.trans (D_iald gk_f153_103 gk_n10_153) ?_
            refine Eq.trans (if_pos h22) ?_
            refine Eq.trans (D_iald gk_f153_104 gk_n10_153) ?_
            refine gd_ite (fun h24 => ?_) (fun _ => rfl)
            refine Eq.trans (D_ireturn gk_f153_105 gk_rk153) ?_
            rfl
          · refine Eq.trans (D_iconst (x := (-1)) gk_f153_64 gk_c_m1) ?_
            refine Eq.trans (D_ireturn gk_f153_65 gk_rk153) ?_
            rfl
/-! GymDesk.answer (IIII)I -/
set_option maxRecDepth 20000 in
theorem gk_f154_0 : gd_fetch 154 0 = some (0, .aload_n 0, 1, 0, 0, 0, 0, 0) := rfl
set_option maxRecDepth 20000 in
theorem gk_f154_1 : gd_fetch 154 1 = some (1, .iload_n 1, 1, 0, 0, 0, 0, 0) := rfl
set_option maxRecDepth 20000 in
theorem gk_f154_2 : gd_fetch 154 2 = some (2, .iload_n 2, 1, 0, 0, 0, 0, 0) := rfl
set_option maxRecDepth 20000 in
theorem gk_f154_3 : gd_fetch 154 3 = some (3, .invokevirtual 124, 3, 685, 93, 2, 0, 0) := rfl
set_option maxRecDepth 20000 in
theorem gk_f154_6 : gd_fetch 154 6 = some (6, .astore 5, 2, 0, 0, 0, 0, 0) := rfl
set_option maxRecDepth 20000 in
theorem gk_f154_8 : gd_fetch 154 8 = some (8, .aload 5, 2, 0, 0, 0, 0, 0) := rfl
set_option maxRecDepth 20000 in
theorem gk_f154_10 : gd_fetch 154 10 = some (10, .ifnull 15, 3, 0, 0, 0, 0, 0) := rfl
set_option maxRecDepth 20000 in
theorem gk_f154_13 : gd_fetch 154 13 = some (13, .aload_n 0, 1, 0, 0, 0, 0, 0) := rfl
set_option maxRecDepth 20000 in
theorem gk_f154_14 : gd_fetch 154 14 = some (14, .getfield 56, 3, 469, 6, 9, 4, 0) := rfl
set_option maxRecDepth 20000 in
theorem gk_f154_17 : gd_fetch 154 17 = some (17, .iload 4, 2, 0, 0, 0, 0, 0) := rfl
set_option maxRecDepth 20000 in
theorem gk_f154_19 : gd_fetch 154 19 = some (19, .invokevirtual 101, 3, 666, 85, 1, 0, 0) := rfl
set_option maxRecDepth 20000 in
theorem gk_f154_22 : gd_fetch 154 22 = some (22, .ifCond .ne 6, 3, 0, 0, 0, 0, 0) := rfl
set_option maxRecDepth 20000 in
theorem gk_f154_25 : gd_fetch 154 25 = some (25, .bipush (-2), 2, 0, 0, 0, 0, 0) := rfl
set_option maxRecDepth 20000 in
theorem gk_f154_27 : gd_fetch 154 27 = some (27, .ireturn, 1, 0, 0, 0, 0, 0) := rfl
set_option maxRecDepth 20000 in
theorem gk_f154_28 : gd_fetch 154 28 = some (28, .aload 5, 2, 0, 0, 0, 0, 0) := rfl
set_option maxRecDepth 20000 in
theorem gk_f154_30 : gd_fetch 154 30 = some (30, .invokevirtual 239, 3, 852, 151, 0, 0, 0) := rfl
set_option maxRecDepth 20000 in
theorem gk_f154_33 : gd_fetch 154 33 = some (33, .ifCond .eq 32, 3, 0, 0, 0, 0, 0) := rfl
set_option maxRecDepth 20000 in
theorem gk_f154_36 : gd_fetch 154 36 = some (36, .aload 5, 2, 0, 0, 0, 0, 0) := rfl
set_option maxRecDepth 20000 in
theorem gk_f154_38 : gd_fetch 154 38 = some (38, .getfield 222, 3, 428, 4, 14, 0, 0) := rfl
set_option maxRecDepth 20000 in
theorem gk_f154_41 : gd_fetch 154 41 = some (41, .iconst 1, 1, 0, 0, 0, 0, 0) := rfl
set_option maxRecDepth 20000 in
theorem gk_f154_42 : gd_fetch 154 42 = some (42, .if_icmp .ne 23, 3, 0, 0, 0, 0, 0) := rfl
set_option maxRecDepth 20000 in
theorem gk_f154_45 : gd_fetch 154 45 = some (45, .aload 5, 2, 0, 0, 0, 0, 0) := rfl
set_option maxRecDepth 20000 in
theorem gk_f154_47 : gd_fetch 154 47 = some (47, .iload_n 3, 1, 0, 0, 0, 0, 0) := rfl
set_option maxRecDepth 20000 in
theorem gk_f154_48 : gd_fetch 154 48 = some (48, .invokevirtual 167, 3, 748, 116, 1, 0, 0) := rfl
set_option maxRecDepth 20000 in
theorem gk_f154_51 : gd_fetch 154 51 = some (51, .ifCond .eq 14, 3, 0, 0, 0, 0, 0) := rfl
set_option maxRecDepth 20000 in
theorem gk_f154_54 : gd_fetch 154 54 = some (54, .aload 5, 2, 0, 0, 0, 0, 0) := rfl
set_option maxRecDepth 20000 in
theorem gk_f154_56 : gd_fetch 154 56 = some (56, .getfield 205, 3, 401, 4, 0, 4, 1) := rfl
set_option maxRecDepth 20000 in
theorem gk_f154_59 : gd_fetch 154 59 = some (59, .iload_n 3, 1, 0, 0, 0, 0, 0) := rfl
set_option maxRecDepth 20000 in
theorem gk_f154_60 : gd_fetch 154 60 = some (60, .iaload, 1, 0, 0, 0, 0, 0) := rfl
set_option maxRecDepth 20000 in
theorem gk_f154_61 : gd_fetch 154 61 = some (61, .iconst (-1), 1, 0, 0, 0, 0, 0) := rfl
set_option maxRecDepth 20000 in
theorem gk_f154_62 : gd_fetch 154 62 = some (62, .if_icmp .ne 5, 3, 0, 0, 0, 0, 0) := rfl
set_option maxRecDepth 20000 in
theorem gk_f154_65 : gd_fetch 154 65 = some (65, .iconst (-1), 1, 0, 0, 0, 0, 0) := rfl
set_option maxRecDepth 20000 in
theorem gk_f154_66 : gd_fetch 154 66 = some (66, .ireturn, 1, 0, 0, 0, 0, 0) := rfl
set_option maxRecDepth 20000 in
theorem gk_f154_67 : gd_fetch 154 67 = some (67, .aload 5, 2, 0, 0, 0, 0, 0) := rfl
set_option maxRecDepth 20000 in
theorem gk_f154_69 : gd_fetch 154 69 = some (69, .getfield 205, 3, 401, 4, 0, 4, 1) := rfl
set_option maxRecDepth 20000 in
theorem gk_f154_72 : gd_fetch 154 72 = some (72, .iload_n 3, 1, 0, 0, 0, 0, 0) := rfl
set_option maxRecDepth 20000 in
theorem gk_f154_73 : gd_fetch 154 73 = some (73, .iaload, 1, 0, 0, 0, 0, 0) := rfl
set_option maxRecDepth 20000 in
theorem gk_f154_74 : gd_fetch 154 74 = some (74, .istore 6, 2, 0, 0, 0, 0, 0) := rfl
set_option maxRecDepth 20000 in
theorem gk_f154_76 : gd_fetch 154 76 = some (76, .aload 5, 2, 0, 0, 0, 0, 0) := rfl
set_option maxRecDepth 20000 in
theorem gk_f154_78 : gd_fetch 154 78 = some (78, .getfield 205, 3, 401, 4, 0, 4, 1) := rfl
set_option maxRecDepth 20000 in
theorem gk_f154_81 : gd_fetch 154 81 = some (81, .iload_n 3, 1, 0, 0, 0, 0, 0) := rfl
set_option maxRecDepth 20000 in
theorem gk_f154_82 : gd_fetch 154 82 = some (82, .iload 4, 2, 0, 0, 0, 0, 0) := rfl
set_option maxRecDepth 20000 in
theorem gk_f154_84 : gd_fetch 154 84 = some (84, .iastore, 1, 0, 0, 0, 0, 0) := rfl
set_option maxRecDepth 20000 in
theorem gk_f154_85 : gd_fetch 154 85 = some (85, .aload_n 0, 1, 0, 0, 0, 0, 0) := rfl
set_option maxRecDepth 20000 in
theorem gk_f154_86 : gd_fetch 154 86 = some (86, .getfield 23, 3, 462, 6, 2, 4, 1) := rfl
set_option maxRecDepth 20000 in
theorem gk_f154_89 : gd_fetch 154 89 = some (89, .aload_n 0, 1, 0, 0, 0, 0, 0) := rfl
set_option maxRecDepth 20000 in
theorem gk_f154_90 : gd_fetch 154 90 = some (90, .getfield 56, 3, 469, 6, 9, 4, 0) := rfl
set_option maxRecDepth 20000 in
theorem gk_f154_93 : gd_fetch 154 93 = some (93, .aload 5, 2, 0, 0, 0, 0, 0) := rfl
set_option maxRecDepth 20000 in
theorem gk_f154_95 : gd_fetch 154 95 = some (95, .invokevirtual 191, 3, 771, 131, 2, 0, 0) := rfl
set_option maxRecDepth 20000 in
theorem gk_f154_98 : gd_fetch 154 98 = some (98, .aload_n 0, 1, 0, 0, 0, 0, 0) := rfl
set_option maxRecDepth 20000 in
theorem gk_f154_99 : gd_fetch 154 99 = some (99, .getfield 23, 3, 462, 6, 2, 4, 1) := rfl
set_option maxRecDepth 20000 in
theorem gk_f154_102 : gd_fetch 154 102 = some (102, .getfield 195, 3, 251, 0, 5, 0, 0) := rfl
set_option maxRecDepth 20000 in
theorem gk_f154_105 : gd_fetch 154 105 = some (105, .aload 5, 2, 0, 0, 0, 0, 0) := rfl
set_option maxRecDepth 20000 in
theorem gk_f154_107 : gd_fetch 154 107 = some (107, .getfield 218, 3, 418, 4, 9, 0, 0) := rfl
set_option maxRecDepth 20000 in
theorem gk_f154_110 : gd_fetch 154 110 = some (110, .if_icmp .gt 20, 3, 0, 0, 0, 0, 0) := rfl
set_option maxRecDepth 20000 in
theorem gk_f154_113 : gd_fetch 154 113 = some (113, .aload 5, 2, 0, 0, 0, 0, 0) := rfl
set_option maxRecDepth 20000 in
theorem gk_f154_115 : gd_fetch 154 115 = some (115, .getfield 205, 3, 401, 4, 0, 4, 1) := rfl
set_option maxRecDepth 20000 in
theorem gk_f154_118 : gd_fetch 154 118 = some (118, .iload_n 3, 1, 0, 0, 0, 0, 0) := rfl
set_option maxRecDepth 20000 in
theorem gk_f154_119 : gd_fetch 154 119 = some (119, .iload 6, 2, 0, 0, 0, 0, 0) := rfl
set_option maxRecDepth 20000 in
theorem gk_f154_121 : gd_fetch 154 121 = some (121, .iastore, 1, 0, 0, 0, 0, 0) := rfl
set_option maxRecDepth 20000 in
theorem gk_f154_122 : gd_fetch 154 122 = some (122, .aload 5, 2, 0, 0, 0, 0, 0) := rfl
set_option maxRecDepth 20000 in
theorem gk_f154_124 : gd_fetch 154 124 = some (124, .iconst 3, 1, 0, 0, 0, 0, 0) := rfl
set_option maxRecDepth 20000 in
theorem gk_f154_125 : gd_fetch 154 125 = some (125, .putfield 222, 3, 428, 4, 14, 0, 0) := rfl
set_option maxRecDepth 20000 in
theorem gk_f154_128 : gd_fetch 154 128 = some (128, .iconst 0, 1, 0, 0, 0, 0, 0) := rfl
set_option maxRecDepth 20000 in
theorem gk_f154_129 : gd_fetch 154 129 = some (129, .ireturn, 1, 0, 0, 0, 0, 0) := rfl
set_option maxRecDepth 20000 in
theorem gk_f154_130 : gd_fetch 154 130 = some (130, .aload 5, 2, 0, 0, 0, 0, 0) := rfl
set_option maxRecDepth 20000 in
theorem gk_f154_132 : gd_fetch 154 132 = some (132, .aload_n 0, 1, 0, 0, 0, 0, 0) := rfl
set_option maxRecDepth 20000 in
theorem gk_f154_133 : gd_fetch 154 133 = some (133, .getfield 23, 3, 462, 6, 2, 4, 1) := rfl
set_option maxRecDepth 20000 in
theorem gk_f154_136 : gd_fetch 154 136 = some (136, .getfield 195, 3, 251, 0, 5, 0, 0) := rfl
set_option maxRecDepth 20000 in
theorem gk_f154_139 : gd_fetch 154 139 = some (139, .aload_n 0, 1, 0, 0, 0, 0, 0) := rfl
set_option maxRecDepth 20000 in
theorem gk_f154_140 : gd_fetch 154 140 = some (140, .getfield 23, 3, 462, 6, 2, 4, 1) := rfl
set_option maxRecDepth 20000 in
theorem gk_f154_143 : gd_fetch 154 143 = some (143, .getfield 198, 3, 253, 0, 6, 0, 0) := rfl
set_option maxRecDepth 20000 in
theorem gk_f154_146 : gd_fetch 154 146 = some (146, .invokevirtual 201, 3, 817, 132, 2, 0, 0) := rfl
set_option maxRecDepth 20000 in
theorem gk_f154_149 : gd_fetch 154 149 = some (149, .aload 5, 2, 0, 0, 0, 0, 0) := rfl
set_option maxRecDepth 20000 in
theorem gk_f154_151 : gd_fetch 154 151 = some (151, .aload_n 0, 1, 0, 0, 0, 0, 0) := rfl
set_option maxRecDepth 20000 in
theorem gk_f154_152 : gd_fetch 154 152 = some (152, .getfield 56, 3, 469, 6, 9, 4, 0) := rfl
set_option maxRecDepth 20000 in
theorem gk_f154_155 : gd_fetch 154 155 = some (155, .invokevirtual 242, 3, 860, 135, 1, 0, 0) := rfl
set_option maxRecDepth 20000 in
theorem gk_f154_158 : gd_fetch 154 158 = some (158, .aload 5, 2, 0, 0, 0, 0, 0) := rfl
set_option maxRecDepth 20000 in
theorem gk_f154_160 : gd_fetch 154 160 = some (160, .iconst 2, 1, 0, 0, 0, 0, 0) := rfl
set_option maxRecDepth 20000 in
theorem gk_f154_161 : gd_fetch 154 161 = some (161, .putfield 222, 3, 428, 4, 14, 0, 0) := rfl
set_option maxRecDepth 20000 in
theorem gk_f154_164 : gd_fetch 154 164 = some (164, .aload_n 0, 1, 0, 0, 0, 0, 0) := rfl
set_option maxRecDepth 20000 in
theorem gk_f154_165 : gd_fetch 154 165 = some (165, .getfield 47, 3, 467, 6, 7, 4, 1) := rfl
set_option maxRecDepth 20000 in
theorem gk_f154_168 : gd_fetch 154 168 = some (168, .aload_n 0, 1, 0, 0, 0, 0, 0) := rfl
set_option maxRecDepth 20000 in
theorem gk_f154_169 : gd_fetch 154 169 = some (169, .getfield 40, 3, 465, 6, 5, 4, 1) := rfl
set_option maxRecDepth 20000 in
theorem gk_f154_172 : gd_fetch 154 172 = some (172, .iload_n 1, 1, 0, 0, 0, 0, 0) := rfl
set_option maxRecDepth 20000 in
theorem gk_f154_173 : gd_fetch 154 173 = some (173, .iaload, 1, 0, 0, 0, 0, 0) := rfl
set_option maxRecDepth 20000 in
theorem gk_f154_174 : gd_fetch 154 174 = some (174, .dup2, 1, 0, 0, 0, 0, 0) := rfl
set_option maxRecDepth 20000 in
theorem gk_f154_175 : gd_fetch 154 175 = some (175, .iaload, 1, 0, 0, 0, 0, 0) := rfl
set_option maxRecDepth 20000 in
theorem gk_f154_176 : gd_fetch 154 176 = some (176, .iconst 1, 1, 0, 0, 0, 0, 0) := rfl
set_option maxRecDepth 20000 in
theorem gk_f154_177 : gd_fetch 154 177 = some (177, .isub, 1, 0, 0, 0, 0, 0) := rfl
set_option maxRecDepth 20000 in
theorem gk_f154_178 : gd_fetch 154 178 = some (178, .iastore, 1, 0, 0, 0, 0, 0) := rfl
set_option maxRecDepth 20000 in
theorem gk_f154_179 : gd_fetch 154 179 = some (179, .aload 5, 2, 0, 0, 0, 0, 0) := rfl
set_option maxRecDepth 20000 in
theorem gk_f154_181 : gd_fetch 154 181 = some (181, .getfield 185, 3, 424, 4, 12, 0, 0) := rfl
set_option maxRecDepth 20000 in
theorem gk_f154_184 : gd_fetch 154 184 = some (184, .ireturn, 1, 0, 0, 0, 0, 0) := rfl
set_option maxRecDepth 20000 in
set_option maxHeartbeats 4000000 in
theorem q_X_answer (r0 : Nat) (x1 : Int32) (x2 : Int32) (x3 : Int32) (x4 : Int32) (m : gd_M) : gd_call 154 [.ref r0, .int x1, .int x2, .int x3, .int x4] m = if gd_ok (gN m) r0 6 = true then ((gd_call 93 [.ref r0, .int x1, .int x2] m).bind (gd_kR fun o4 m2 => if o4 = 0 then (some (.int (-2), m2)) else if 8 ≤ o4 then (if gd_ok (gN m2) r0 6 = true then (if gd_ok (gN m2) (gR m2 r0 9) 1 = true then ((gd_call 85 [.ref (gR m2 r0 9), .int x4] m2).bind (gd_kI fun z12 m10 => if (z12 = 0 : Prop) then (some (.int (-2), m10)) else (if gd_ok (gN m10) o4 4 = true then ((gd_call 151 [.ref o4] m10).bind (gd_kI fun z18 m16 => if (z18 = 0 : Prop) then (some (.int (-1), m16)) else (if gd_ok (gN m16) o4 4 = true then (if ((gI m16 o4 14) = 1 : Prop) then ((gd_call 116 [.ref o4, .int x3] m16).bind (gd_kI fun z26 m24 => if (z26 = 0 : Prop) then (some (.int (-1), m24)) else (if gd_ok (gN m24) o4 4 = true then (if gd_okA (gN m24) (gR m24 o4 0) 10 x3 = true then (if ((gI m24 (gR m24 o4 0) (x3 : Int32).toNatClampNeg) = (-1) : Prop) then (some (.int (-1), m24)) else (if gd_ok (gN m24) r0 6 = true then (if gd_ok (gN m24) (gR m24 r0 2) 0 = true then ((gd_call 131 [.ref (gR m24 r0 2), .ref (gR m24 r0 9), .ref o4] (wI m24 (gR m24 o4 0) (x3 : Int32).toNatClampNeg x4)).bind (gd_kV fun m35 => if gd_ok (gN m35) r0 6 = true then (if gd_ok (gN m35) (gR m35 r0 2) 0 = true then (if gd_ok (gN m35) o4 4 = true then (if ((gI m35 o4 9) < (gI m35 (gR m35 r0 2) 5) : Prop) then ((gd_call 132 [.ref o4, .int (gI m35 (gR m35 r0 2) 5), .int (gI m35 (gR m35 r0 2) 6)] m35).bind (gd_kV fun m42 => if gd_ok (gN m42) r0 6 = true then (if gd_ok (gN m42) o4 4 = true then ((gd_call 135 [.ref o4, .ref (gR m42 r0 9)] m42).bind (gd_kV fun m46 => if gd_ok (gN m46) o4 4 = true then (if gd_ok (gN m46) r0 6 = true then (if gd_okA (gN m46) (gR m46 r0 5) 10 x1 = true then (if gd_okA (gN m46) (gR m46 r0 7) 10 (gI (wI m46 o4 14 2) (gR m46 r0 5) (x1 : Int32).toNatClampNeg) = true then (some (.int (gI (wI (wI m46 o4 14 2) (gR m46 r0 7) ((gI (wI m46 o4 14 2) (gR m46 r0 5) (x1 : Int32).toNatClampNeg) : Int32).toNatClampNeg ((gI (wI m46 o4 14 2) (gR m46 r0 7) ((gI (wI m46 o4 14 2) (gR m46 r0 5) (x1 : Int32).toNatClampNeg) : Int32).toNatClampNeg) - 1)) o4 12), (wI (wI m46 o4 14 2) (gR m46 r0 7) ((gI (wI m46 o4 14 2) (gR m46 r0 5) (x1 : Int32).toNatClampNeg) : Int32).toNatClampNeg ((gI (wI m46 o4 14 2) (gR m46 r0 7) ((gI (wI m46 o4 14 2) (gR m46 r0 5) (x1 : Int32).toNatClampNeg) : Int32).toNatClampNeg) - 1)))) else none) else none) else none) else none)) else none) else none)) else (if gd_okA (gN m35) (gR m35 o4 0) 10 x3 = true then (some (.int 0, (wI (wI m35 (gR m35 o4 0) (x3 : Int32).toNatClampNeg (gI m24 (gR m24 o4 0) (x3 : Int32).toNatClampNeg)) o4 14 3))) else none)) else none) else none) else none)) else none) else none)) else none) else none))) else (some (.int (-1), m16))) else none))) else none))) else none) else none) else none)) else none := by
  refine Eq.trans (show gd_call 154 [.ref r0, .int x1, .int x2, .int x3, .int x4] m = gd_Den (154, 0, [.ref r0, .int x1, .int x2, .int x3, .int x4, .null, .null], [], m) from by unfold gd_call gd_ent; rw [gk_ml154]; rfl) ?_
  refine Eq.trans (D_aload_n (x := r0) gk_f154_0 rfl) ?_
  refine Eq.trans (D_iload_n (x := x1) gk_f154_1 rfl) ?_
  refine Eq.trans (D_iload_n (x := x2) gk_f154_2 rfl) ?_
  refine Eq.trans (D_ivR (cl := 6) (args := [.ref r0, .int x1, .int x2]) (rest := []) gk_f154_3 rfl rfl (gd_rmk gk_rm154_93 gk_ln93 gk_ml93 rfl rfl rfl) gk_rk93 (gd_hnd_n gk_nc154) gk_nc93 gk_n11_93 gk_cl93) ?_
  refine gd_ite (fun h1 => ?_) (fun _ => rfl)
  refine gd_bnd (gd_kR_c fun o4 m2 => ?_)
  refine Eq.trans (D_astore gk_f154_6 gk_st154_5) ?_
  refine Eq.trans (D_aload (x := o4) gk_f154_8 rfl) ?_
  refine Eq.trans (D_ifnull (t := 25) gk_f154_10 (by decide)) ?_
  refine gd_ite (fun h5 => ?_) (fun h6 => gd_ite (fun h7 => ?_) (fun _ => rfl))
  · refine Eq.trans (D_bipush (x := (-2)) gk_f154_25 gk_b_m2) ?_
    refine Eq.trans (D_ireturn gk_f154_27 gk_rk154) ?_
    rfl
  · refine Eq.trans (D_aload_n (x := r0) gk_f154_13 rfl) ?_
    refine Eq.trans (D_gfR gk_f154_14 (by decide)) ?_
    refine gd_ite (fun h8 => ?_) (fun _ => rfl)
    refine Eq.trans (D_iload (x := x4) gk_f154_17 rfl) ?_
    refine Eq.trans (D_ivZ (cl := 1) (args := [.ref (gR m2 r0 9), .int x4]) (rest := []) gk_f154_19 rfl rfl (gd_rmk gk_rm154_85 gk_ln85 gk_ml85 rfl rfl rfl) gk_rk85 (gd_hnd_n gk_nc154) gk_nc85 gk_n11_85 gk_cl85) ?_
    refine gd_ite (fun h9 => ?_) (fun _ => rfl)
    refine gd_bnd (gd_kI_c fun z12 m10 => ?_)
    refine Eq.trans (D_if_ne (t := 28) gk_f154_22 (by decide)) ?_
    refine gd_ite (fun h13 => ?_) (fun h14 => ?_)
    · refine Eq.trans (D_bipush (x := (-2)) gk_f154_25 gk_b_m2) ?_
      refine Eq.trans (D_ireturn gk_f154_27 gk_rk154) ?_
      rfl
    · refine Eq.trans (D_aload (x := o4) gk_f154_28 rfl) ?_
      refine Eq.trans (D_ivZ (cl := 4) (args := [.ref o4]) (rest := []) gk_f154_30 rfl rfl (gd_rmk gk_rm154_151 gk_ln151 gk_ml151 rfl rfl rfl) gk_rk151 (gd_hnd_n gk_nc154) gk_nc151 gk_n11_151 gk_cl151) ?_
      refine gd_ite (fun h15 => ?_) (fun _ => rfl)
      refine gd_bnd (gd_kI_c fun z18 m16 => ?_)
      refine Eq.trans (D_if_eq (t := 65) gk_f154_33 (by decide)) ?_
      refine gd_ite (fun h19 => ?_) (fun h20 => ?_)
      · refine Eq.trans (D_iconst (x := (-1)) gk_f154_65 gk_c_m1) ?_
        refine Eq.trans (D_ireturn gk_f154_66 gk_rk154) ?_
        rfl
      · refine Eq.trans (D_aload (x := o4) gk_f154_36 rfl) ?_
        refine Eq.trans (D_gfI gk_f154_38 (by decide) (by decide) (by decide)) ?_
        refine gd_ite (fun h21 => ?_) (fun _ => rfl)
        refine Eq.trans (D_iconst (x := 1) gk_f154_41 gk_c_1) ?_
        refine Eq.trans (D_ic_ne (t := 65) gk_f154_42 (by decide)) ?_
        refine gd_ite (fun h22 => ?_) (fun h23 => ?_)
        · refine Eq.trans (D_aload (x := o4) gk_f154_45 rfl) ?_
          refine Eq.trans (D_iload_n (x := x3) gk_f154_47 rfl) ?_
          refine Eq.trans (D_ivZ (cl := 4) (args := [.ref o4, .int x3]) (rest := []) gk_f154_48 rfl rfl (gd_rmk gk_rm154_116 gk_ln116 gk_ml116 rfl rfl rfl) gk_rk116 (gd_hnd_n gk_nc154) gk_nc116 gk_n11_116 gk_cl116) ?_
          refine Eq.trans (if_pos h21) ?_
          refine gd_bnd (gd_kI_c fun z26 m24 => ?_)
          refine Eq.trans (D_if_eq (t := 65) gk_f154_51 (by decide)) ?_
          refine gd_ite (fun h27 => ?_) (fun h28 => ?_)
          · refine Eq.trans (D_iconst (x := (-1)) gk_f154_65 gk_c_m1) ?_
            refine Eq.trans (D_ireturn gk_f154_66 gk_rk154) ?_
            rfl
          · refine Eq.trans (D_aload (x := o4) gk_f154_54 rfl) ?_
            refine Eq.trans (D_gfR gk_f154_56 (by decide)) ?_
            refine gd_ite (fun h29 => ?_) (fun _ => rfl)
            refine Eq.trans (D_iload_n (x := x3) gk_f154_59 rfl) ?_
            refine Eq.trans (D_iald gk_f154_60 gk_n10_154) ?_
            refine gd_ite (fun h30 => ?_) (fun _ => rfl)
            refine Eq.trans (D_iconst (x := (-1)) gk_f154_61 gk_c_m1) ?_
            refine Eq.trans (D_ic_ne (t := 67) gk_f154_62 (by decide)) ?_
            refine gd_ite (fun h31 => ?_) (fun h32 => ?_)
            · refine Eq.trans (D_iconst (x := (-1)) gk_f154_65 gk_c_m1) ?_
              refine Eq.trans (D_ireturn gk_f154_66 gk_rk154) ?_
              rfl
            · refine Eq.trans (D_aload (x := o4) gk_f154_67 rfl) ?_
              refine Eq.trans (D_gfR gk_f154_69 (by decide)) ?_
              refine Eq.trans (if_pos h29) ?_
              refine Eq.trans (D_iload_n (x := x3) gk_f154_72 rfl) ?_
              refine Eq.trans (D_iald gk_f154_73 gk_n10_154) ?_
              refine Eq.trans (if_pos h30) ?_
              refine Eq.trans (D_istore gk_f154_74 gk_st154_6) ?_
              refine Eq.trans (D_aload (x := o4) gk_f154_76 rfl) ?_
              refine Eq.trans (D_gfR gk_f154_78 (by decide)) ?_
              refine Eq.trans (if_pos h29) ?_
              refine Eq.trans (D_iload_n (x := x3) gk_f154_81 rfl) ?_
              refine Eq.trans (D_iload (x := x4) gk_f154_82 rfl) ?_
              refine Eq.trans (D_iast gk_f154_84) ?_
              refine Eq.trans (if_pos h30) ?_
              refine Eq.trans (D_aload_n (x := r0) gk_f154_85 rfl) ?_
              refine Eq.trans (D_gfR gk_f154_86 (by decide)) ?_
              refine gd_ite (fun h33 => ?_) (fun _ => rfl)
              refine Eq.trans (D_aload_n (x := r0) gk_f154_89 rfl) ?_
              refine Eq.trans (D_gfR gk_f154_90 (by decide)) ?_
              refine Eq.trans (if_pos h33) ?_
              refine Eq.trans (D_aload (x := o4) gk_f154_93 rfl) ?_
              refine Eq.trans (D_ivV (cl := 0) (args := [.ref (gR m24 r0 2), .ref (gR m24 r0 9), .ref o4]) (rest := []) gk_f154_95 rfl rfl (gd_rmk gk_rm154_131 gk_ln131 gk_ml131 rfl rfl rfl) gk_rk131 (gd_hnd_n gk_nc154) gk_nc131 gk_n11_131 gk_cl131) ?_
              refine gd_ite (fun h34 => ?_) (fun _ => rfl)
              refine gd_bnd (gd_kV_c fun m35 => ?_)
              refine Eq.trans (D_aload_n (x := r0) gk_f154_98 rfl) ?_
              refine Eq.trans (D_gfR gk_f154_99 (by decide)) ?_
              refine gd_ite (fun h37 => ?_) (fun _ => rfl)
              refine Eq.trans (D_gfI gk_f154_102 (by decide) (by decide) (by decide)) ?_
              refine gd_ite (fun h38 => ?_) (fun _ => rfl)
              refine Eq.trans (D_aload (x := o4) gk_f154_105 rfl) ?_
              refine Eq.trans (D_gfI gk_f154_107 (by decide) (by decide) (by decide)) ?_
              refine gd_ite (fun h39 => ?_) (fun _ => rfl)
              refine Eq.trans (D_ic_gt (t := 130) gk_f154_110 (by decide)) ?_
              refine gd_ite (fun h40 => ?_) (fun h41 => ?_)
              · refine Eq.trans (D_aload (x := o4) gk_f154_130 rfl) ?_
                refine Eq.trans (D_aload_n (x := r0) gk_f154_132 rfl) ?_
                refine Eq.trans (D_gfR gk_f154_133 (by decide)) ?_
                refine Eq.trans (if_pos h37) ?_
                refine Eq.trans (D_gfI gk_f154_136 (by decide) (by decide) (by decide)) ?_
                refine Eq.trans (if_pos h38) ?_
                refine Eq.trans (D_aload_n (x := r0) gk_f154_139 rfl) ?_
                refine Eq.trans (D_gfR gk_f154_140 (by decide)) ?_
                refine Eq.trans (if_pos h37) ?_
                refine Eq.trans (D_gfI gk_f154_143 (by decide) (by decide) (by decide)) ?_
                refine Eq.trans (if_pos h38) ?_
                refine Eq.trans (D_ivV (cl := 4) (args := [.ref o4, .int (gI m35 (gR m35 r0 2) 5), .int (gI m35 (gR m35 r0 2) 6)]) (rest := []) gk_f154_146 rfl rfl (gd_rmk gk_rm154_132 gk_ln132 gk_ml132 rfl rfl rfl) gk_rk132 (gd_hnd_n gk_nc154) gk_nc132 gk_n11_132 gk_cl132) ?_
                refine Eq.trans (if_pos h39) ?_
                refine gd_bnd (gd_kV_c fun m42 => ?_)
                refine Eq.trans (D_aload (x := o4) gk_f154_149 rfl) ?_
                refine Eq.trans (D_aload_n (x := r0) gk_f154_151 rfl) ?_
                refine Eq.trans (D_gfR gk_f154_152 (by decide)) ?_
                refine gd_ite (fun h44 => ?_) (fun _ => rfl)
                refine Eq.trans (D_ivV (cl := 4) (args := [.ref o4, .ref (gR m42 r0 9)]) (rest := []) gk_f154_155 rfl rfl (gd_rmk gk_rm154_135 gk_ln135 gk_ml135 rfl rfl rfl) gk_rk135 (gd_hnd_n gk_nc154) gk_nc135 gk_n11_135 gk_cl135) ?_
                refine gd_ite (fun h45 => ?_) (fun _ => rfl)
                refine gd_bnd (gd_kV_c fun m46 => ?_)
                refine Eq.trans (D_aload (x := o4) gk_f154_158 rfl) ?_
                refine Eq.trans (D_iconst (x := 2) gk_f154_160 gk_c_2) ?_
                refine Eq.trans (D_pfI gk_f154_161) ?_
                refine gd_ite (fun h48 => ?_) (fun _ => rfl)
                refine Eq.trans (D_aload_n (x := r0) gk_f154_164 rfl) ?_
                refine Eq.trans (D_gfR gk_f154_165 (by decide)) ?_
                refine gd_ite (fun h49 => ?_) (fun _ => rfl)
                refine Eq.trans (D_aload_n (x := r0) gk_f154_168 rfl) ?_
                refine Eq.trans (D_gfR gk_f154_169 (by decide)) ?_
                refine Eq.trans (if_pos h49) ?_
                refine Eq.trans (D_iload_n (x := x1) gk_f154_172 rfl) ?_
                refine Eq.trans (D_iald gk_f154_173 gk_n10_154) ?_
                refine gd_ite (fun h50 => ?_) (fun _ => rfl)
                refine Eq.trans (D_dup2 gk_f154_174) ?_
                refine Eq.trans (D_iald gk_f154_175 gk_n10_154) ?_
                refine gd_ite (fun h51 => ?_) (fun _ => rfl)
                refine Eq.trans (D_iconst (x := 1) gk_f154_176 gk_c_1) ?_
                refine Eq.trans (D_isub gk_f154_177) ?_
                refine Eq.trans (D_iast gk_f154_178) ?_
                refine Eq.trans (if_pos h51) ?_
                refine Eq.trans (D_aload (x := o4) gk_f154_179 rfl) ?_
                refine Eq.trans (D_gfI gk_f154_181 (by decide) (by decide) (by decide)) ?_
                refine Eq.trans (if_pos h48) ?_
                refine Eq.trans (D_ireturn gk_f154_184 gk_rk154) ?_
                rfl
              · refine Eq.trans (D_aload (x := o4) gk_f154_113 rfl) ?_
                refine Eq.trans (D_gfR gk_f154_115 (by decide)) ?_
                refine Eq.trans (if_pos h39) ?_
                refine Eq.trans (D_iload_n (x := x3) gk_f154_118 rfl) ?_
                refine Eq.trans (D_iload (x := (gI m24 (gR m24 o4 0) (x3 : Int32).toNatClampNeg)) gk_f154_119 rfl) ?_
                refine Eq.trans (D_iast gk_f154_121) ?_
                refine gd_ite (fun h52 => ?_) (fun _ => rfl)
                refine Eq.trans (D_aload (x := o4) gk_f154_122 rfl) ?_
                refine Eq.trans (D_iconst (x := 3) gk_f154_124 gk_c_3) ?_
                refine Eq.trans (D_pfI gk_f154_125) ?_
                refine Eq.trans (if_pos h39) ?_
                refine Eq.trans (D_iconst (x := 0) gk_f154_128 gk_c_0) ?_
                refine Eq.trans (D_ireturn gk_f154_129 gk_rk154) ?_
                rfl
        · refine Eq.trans (D_iconst (x := (-1)) gk_f154_65 gk_c_m1) ?_
          refine Eq.trans (D_ireturn gk_f154_66 gk_rk154) ?_
          rfl
