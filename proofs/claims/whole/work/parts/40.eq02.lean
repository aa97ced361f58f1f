/-! GymDeskModel.readPart ()V -/
set_option maxRecDepth 20000 in
theorem gk_f76_0 : gd_fetch 76 0 = some (0, .aload_n 0, 1, 0, 0, 0, 0, 0) := rfl
set_option maxRecDepth 20000 in
theorem gk_f76_1 : gd_fetch 76 1 = some (1, .aload_n 0, 1, 0, 0, 0, 0, 0) := rfl
set_option maxRecDepth 20000 in
theorem gk_f76_2 : gd_fetch 76 2 = some (2, .getfield 23, 3, 1165, 9, 2, 4, 0) := rfl
set_option maxRecDepth 20000 in
theorem gk_f76_5 : gd_fetch 76 5 = some (5, .getfield 196, 3, 1031, 7, 0, 0, 0) := rfl
set_option maxRecDepth 20000 in
theorem gk_f76_8 : gd_fetch 76 8 = some (8, .bipush 30, 2, 0, 0, 0, 0, 0) := rfl
set_option maxRecDepth 20000 in
theorem gk_f76_10 : gd_fetch 76 10 = some (10, .if_icmp .ge 7, 3, 0, 0, 0, 0, 0) := rfl
set_option maxRecDepth 20000 in
theorem gk_f76_13 : gd_fetch 76 13 = some (13, .iconst 1, 1, 0, 0, 0, 0, 0) := rfl
set_option maxRecDepth 20000 in
theorem gk_f76_14 : gd_fetch 76 14 = some (14, .goto 4, 3, 0, 0, 0, 0, 0) := rfl
set_option maxRecDepth 20000 in
theorem gk_f76_17 : gd_fetch 76 17 = some (17, .iconst 0, 1, 0, 0, 0, 0, 0) := rfl
set_option maxRecDepth 20000 in
theorem gk_f76_18 : gd_fetch 76 18 = some (18, .iconst 4, 1, 0, 0, 0, 0, 0) := rfl
set_option maxRecDepth 20000 in
theorem gk_f76_19 : gd_fetch 76 19 = some (19, .invokevirtual 179, 3, 1340, 68, 2, 0, 0) := rfl
set_option maxRecDepth 20000 in
theorem gk_f76_22 : gd_fetch 76 22 = some (22, .aload_n 0, 1, 0, 0, 0, 0, 0) := rfl
set_option maxRecDepth 20000 in
theorem gk_f76_23 : gd_fetch 76 23 = some (23, .invokevirtual 189, 3, 1348, 69, 0, 0, 0) := rfl
set_option maxRecDepth 20000 in
theorem gk_f76_26 : gd_fetch 76 26 = some (26, .aload_n 0, 1, 0, 0, 0, 0, 0) := rfl
set_option maxRecDepth 20000 in
theorem gk_f76_27 : gd_fetch 76 27 = some (27, .aload_n 0, 1, 0, 0, 0, 0, 0) := rfl
set_option maxRecDepth 20000 in
theorem gk_f76_28 : gd_fetch 76 28 = some (28, .getfield 145, 3, 1169, 9, 6, 0, 0) := rfl
set_option maxRecDepth 20000 in
theorem gk_f76_31 : gd_fetch 76 31 = some (31, .iconst 1, 1, 0, 0, 0, 0, 0) := rfl
set_option maxRecDepth 20000 in
theorem gk_f76_32 : gd_fetch 76 32 = some (32, .if_icmp .ne 7, 3, 0, 0, 0, 0, 0) := rfl
set_option maxRecDepth 20000 in
theorem gk_f76_35 : gd_fetch 76 35 = some (35, .iconst 1, 1, 0, 0, 0, 0, 0) := rfl
set_option maxRecDepth 20000 in
theorem gk_f76_36 : gd_fetch 76 36 = some (36, .goto 4, 3, 0, 0, 0, 0, 0) := rfl
set_option maxRecDepth 20000 in
theorem gk_f76_39 : gd_fetch 76 39 = some (39, .iconst 0, 1, 0, 0, 0, 0, 0) := rfl
set_option maxRecDepth 20000 in
theorem gk_f76_40 : gd_fetch 76 40 = some (40, .iconst 1, 1, 0, 0, 0, 0, 0) := rfl
set_option maxRecDepth 20000 in
theorem gk_f76_41 : gd_fetch 76 41 = some (41, .invokevirtual 179, 3, 1340, 68, 2, 0, 0) := rfl
set_option maxRecDepth 20000 in
theorem gk_f76_44 : gd_fetch 76 44 = some (44, .aload_n 0, 1, 0, 0, 0, 0, 0) := rfl
set_option maxRecDepth 20000 in
theorem gk_f76_45 : gd_fetch 76 45 = some (45, .aload_n 0, 1, 0, 0, 0, 0, 0) := rfl
set_option maxRecDepth 20000 in
theorem gk_f76_46 : gd_fetch 76 46 = some (46, .aload_n 0, 1, 0, 0, 0, 0, 0) := rfl
set_option maxRecDepth 20000 in
theorem gk_f76_47 : gd_fetch 76 47 = some (47, .getfield 166, 3, 1175, 9, 12, 3, 0) := rfl
set_option maxRecDepth 20000 in
theorem gk_f76_50 : gd_fetch 76 50 = some (50, .aload_n 0, 1, 0, 0, 0, 0, 0) := rfl
set_option maxRecDepth 20000 in
theorem gk_f76_51 : gd_fetch 76 51 = some (51, .getfield 170, 3, 1176, 9, 13, 3, 0) := rfl
set_option maxRecDepth 20000 in
theorem gk_f76_54 : gd_fetch 76 54 = some (54, .invokevirtual 206, 3, 1352, 70, 2, 0, 0) := rfl
set_option maxRecDepth 20000 in
theorem gk_f76_57 : gd_fetch 76 57 = some (57, .iconst (-1), 1, 0, 0, 0, 0, 0) := rfl
set_option maxRecDepth 20000 in
theorem gk_f76_58 : gd_fetch 76 58 = some (58, .if_icmp .ne 7, 3, 0, 0, 0, 0, 0) := rfl
set_option maxRecDepth 20000 in
theorem gk_f76_61 : gd_fetch 76 61 = some (61, .iconst 1, 1, 0, 0, 0, 0, 0) := rfl
set_option maxRecDepth 20000 in
theorem gk_f76_62 : gd_fetch 76 62 = some (62, .goto 4, 3, 0, 0, 0, 0, 0) := rfl
set_option maxRecDepth 20000 in
theorem gk_f76_65 : gd_fetch 76 65 = some (65, .iconst 0, 1, 0, 0, 0, 0, 0) := rfl
set_option maxRecDepth 20000 in
theorem gk_f76_66 : gd_fetch 76 66 = some (66, .iconst 2, 1, 0, 0, 0, 0, 0) := rfl
set_option maxRecDepth 20000 in
theorem gk_f76_67 : gd_fetch 76 67 = some (67, .invokevirtual 179, 3, 1340, 68, 2, 0, 0) := rfl
set_option maxRecDepth 20000 in
theorem gk_f76_70 : gd_fetch 76 70 = some (70, .aload_n 0, 1, 0, 0, 0, 0, 0) := rfl
set_option maxRecDepth 20000 in
theorem gk_f76_71 : gd_fetch 76 71 = some (71, .getfield 23, 3, 1165, 9, 2, 4, 0) := rfl
set_option maxRecDepth 20000 in
theorem gk_f76_74 : gd_fetch 76 74 = some (74, .getfield 196, 3, 1031, 7, 0, 0, 0) := rfl
set_option maxRecDepth 20000 in
theorem gk_f76_77 : gd_fetch 76 77 = some (77, .istore_n 1, 1, 0, 0, 0, 0, 0) := rfl
set_option maxRecDepth 20000 in
theorem gk_f76_78 : gd_fetch 76 78 = some (78, .aload_n 0, 1, 0, 0, 0, 0, 0) := rfl
set_option maxRecDepth 20000 in
theorem gk_f76_79 : gd_fetch 76 79 = some (79, .getfield 23, 3, 1165, 9, 2, 4, 0) := rfl
set_option maxRecDepth 20000 in
theorem gk_f76_82 : gd_fetch 76 82 = some (82, .getfield 199, 3, 1037, 7, 3, 4, 1) := rfl
set_option maxRecDepth 20000 in
theorem gk_f76_85 : gd_fetch 76 85 = some (85, .iload_n 1, 1, 0, 0, 0, 0, 0) := rfl
set_option maxRecDepth 20000 in
theorem gk_f76_86 : gd_fetch 76 86 = some (86, .aload_n 0, 1, 0, 0, 0, 0, 0) := rfl
set_option maxRecDepth 20000 in
theorem gk_f76_87 : gd_fetch 76 87 = some (87, .getfield 166, 3, 1175, 9, 12, 3, 0) := rfl
set_option maxRecDepth 20000 in
theorem gk_f76_90 : gd_fetch 76 90 = some (90, .lastore, 1, 0, 0, 0, 0, 0) := rfl
set_option maxRecDepth 20000 in
theorem gk_f76_91 : gd_fetch 76 91 = some (91, .aload_n 0, 1, 0, 0, 0, 0, 0) := rfl
set_option maxRecDepth 20000 in
theorem gk_f76_92 : gd_fetch 76 92 = some (92, .getfield 23, 3, 1165, 9, 2, 4, 0) := rfl
set_option maxRecDepth 20000 in
theorem gk_f76_95 : gd_fetch 76 95 = some (95, .getfield 203, 3, 1039, 7, 4, 4, 1) := rfl
set_option maxRecDepth 20000 in
theorem gk_f76_98 : gd_fetch 76 98 = some (98, .iload_n 1, 1, 0, 0, 0, 0, 0) := rfl
set_option maxRecDepth 20000 in
theorem gk_f76_99 : gd_fetch 76 99 = some (99, .aload_n 0, 1, 0, 0, 0, 0, 0) := rfl
set_option maxRecDepth 20000 in
theorem gk_f76_100 : gd_fetch 76 100 = some (100, .getfield 170, 3, 1176, 9, 13, 3, 0) := rfl
set_option maxRecDepth 20000 in
theorem gk_f76_103 : gd_fetch 76 103 = some (103, .lastore, 1, 0, 0, 0, 0, 0) := rfl
set_option maxRecDepth 20000 in
theorem gk_f76_104 : gd_fetch 76 104 = some (104, .aload_n 0, 1, 0, 0, 0, 0, 0) := rfl
set_option maxRecDepth 20000 in
theorem gk_f76_105 : gd_fetch 76 105 = some (105, .invokevirtual 189, 3, 1348, 69, 0, 0, 0) := rfl
set_option maxRecDepth 20000 in
theorem gk_f76_108 : gd_fetch 76 108 = some (108, .aload_n 0, 1, 0, 0, 0, 0, 0) := rfl
set_option maxRecDepth 20000 in
theorem gk_f76_109 : gd_fetch 76 109 = some (109, .getfield 23, 3, 1165, 9, 2, 4, 0) := rfl
set_option maxRecDepth 20000 in
theorem gk_f76_112 : gd_fetch 76 112 = some (112, .getfield 210, 3, 1045, 7, 7, 4, 1) := rfl
set_option maxRecDepth 20000 in
theorem gk_f76_115 : gd_fetch 76 115 = some (115, .iload_n 1, 1, 0, 0, 0, 0, 0) := rfl
set_option maxRecDepth 20000 in
theorem gk_f76_116 : gd_fetch 76 116 = some (116, .aload_n 0, 1, 0, 0, 0, 0, 0) := rfl
set_option maxRecDepth 20000 in
theorem gk_f76_117 : gd_fetch 76 117 = some (117, .iconst 1, 1, 0, 0, 0, 0, 0) := rfl
set_option maxRecDepth 20000 in
theorem gk_f76_118 : gd_fetch 76 118 = some (118, .bipush 30, 2, 0, 0, 0, 0, 0) := rfl
set_option maxRecDepth 20000 in
theorem gk_f76_120 : gd_fetch 76 120 = some (120, .invokevirtual 213, 3, 1356, 72, 2, 0, 0) := rfl
set_option maxRecDepth 20000 in
theorem gk_f76_123 : gd_fetch 76 123 = some (123, .iastore, 1, 0, 0, 0, 0, 0) := rfl
set_option maxRecDepth 20000 in
theorem gk_f76_124 : gd_fetch 76 124 = some (124, .aload_n 0, 1, 0, 0, 0, 0, 0) := rfl
set_option maxRecDepth 20000 in
theorem gk_f76_125 : gd_fetch 76 125 = some (125, .bipush 10, 2, 0, 0, 0, 0, 0) := rfl
set_option maxRecDepth 20000 in
theorem gk_f76_127 : gd_fetch 76 127 = some (127, .invokevirtual 216, 3, 1363, 74, 1, 0, 0) := rfl
set_option maxRecDepth 20000 in
theorem gk_f76_130 : gd_fetch 76 130 = some (130, .aload_n 0, 1, 0, 0, 0, 0, 0) := rfl
set_option maxRecDepth 20000 in
theorem gk_f76_131 : gd_fetch 76 131 = some (131, .getfield 23, 3, 1165, 9, 2, 4, 0) := rfl
set_option maxRecDepth 20000 in
theorem gk_f76_134 : gd_fetch 76 134 = some (134, .getfield 220, 3, 1047, 7, 8, 4, 1) := rfl
set_option maxRecDepth 20000 in
theorem gk_f76_137 : gd_fetch 76 137 = some (137, .iload_n 1, 1, 0, 0, 0, 0, 0) := rfl
set_option maxRecDepth 20000 in
theorem gk_f76_138 : gd_fetch 76 138 = some (138, .aload_n 0, 1, 0, 0, 0, 0, 0) := rfl
set_option maxRecDepth 20000 in
theorem gk_f76_139 : gd_fetch 76 139 = some (139, .iconst 0, 1, 0, 0, 0, 0, 0) := rfl
set_option maxRecDepth 20000 in
theorem gk_f76_140 : gd_fetch 76 140 = some (140, .iconst 4, 1, 0, 0, 0, 0, 0) := rfl
set_option maxRecDepth 20000 in
theorem gk_f76_141 : gd_fetch 76 141 = some (141, .invokevirtual 213, 3, 1356, 72, 2, 0, 0) := rfl
set_option maxRecDepth 20000 in
theorem gk_f76_144 : gd_fetch 76 144 = some (144, .iastore, 1, 0, 0, 0, 0, 0) := rfl
set_option maxRecDepth 20000 in
theorem gk_f76_145 : gd_fetch 76 145 = some (145, .aload_n 0, 1, 0, 0, 0, 0, 0) := rfl
set_option maxRecDepth 20000 in
theorem gk_f76_146 : gd_fetch 76 146 = some (146, .getfield 23, 3, 1165, 9, 2, 4, 0) := rfl
set_option maxRecDepth 20000 in
theorem gk_f76_149 : gd_fetch 76 149 = some (149, .getfield 223, 3, 1049, 7, 9, 4, 1) := rfl
set_option maxRecDepth 20000 in
theorem gk_f76_152 : gd_fetch 76 152 = some (152, .iload_n 1, 1, 0, 0, 0, 0, 0) := rfl
set_option maxRecDepth 20000 in
theorem gk_f76_153 : gd_fetch 76 153 = some (153, .iload_n 1, 1, 0, 0, 0, 0, 0) := rfl
set_option maxRecDepth 20000 in
theorem gk_f76_154 : gd_fetch 76 154 = some (154, .iastore, 1, 0, 0, 0, 0, 0) := rfl
set_option maxRecDepth 20000 in
theorem gk_f76_155 : gd_fetch 76 155 = some (155, .aload_n 0, 1, 0, 0, 0, 0, 0) := rfl
set_option maxRecDepth 20000 in
theorem gk_f76_156 : gd_fetch 76 156 = some (156, .bipush 11, 2, 0, 0, 0, 0, 0) := rfl
set_option maxRecDepth 20000 in
theorem gk_f76_158 : gd_fetch 76 158 = some (158, .invokevirtual 186, 3, 1367, 73, 1, 0, 0) := rfl
set_option maxRecDepth 20000 in
theorem gk_f76_161 : gd_fetch 76 161 = some (161, .ifCond .eq 32, 3, 0, 0, 0, 0, 0) := rfl
set_option maxRecDepth 20000 in
theorem gk_f76_164 : gd_fetch 76 164 = some (164, .aload_n 0, 1, 0, 0, 0, 0, 0) := rfl
set_option maxRecDepth 20000 in
theorem gk_f76_165 : gd_fetch 76 165 = some (165, .invokevirtual 189, 3, 1348, 69, 0, 0, 0) := rfl
set_option maxRecDepth 20000 in
theorem gk_f76_168 : gd_fetch 76 168 = some (168, .aload_n 0, 1, 0, 0, 0, 0, 0) := rfl
set_option maxRecDepth 20000 in
theorem gk_f76_169 : gd_fetch 76 169 = some (169, .getfield 23, 3, 1165, 9, 2, 4, 0) := rfl
set_option maxRecDepth 20000 in
theorem gk_f76_172 : gd_fetch 76 172 = some (172, .getfield 223, 3, 1049, 7, 9, 4, 1) := rfl
set_option maxRecDepth 20000 in
theorem gk_f76_175 : gd_fetch 76 175 = some (175, .iload_n 1, 1, 0, 0, 0, 0, 0) := rfl
set_option maxRecDepth 20000 in
theorem gk_f76_176 : gd_fetch 76 176 = some (176, .aload_n 0, 1, 0, 0, 0, 0, 0) := rfl
set_option maxRecDepth 20000 in
theorem gk_f76_177 : gd_fetch 76 177 = some (177, .getfield 23, 3, 1165, 9, 2, 4, 0) := rfl
set_option maxRecDepth 20000 in
theorem gk_f76_180 : gd_fetch 76 180 = some (180, .getfield 223, 3, 1049, 7, 9, 4, 1) := rfl
set_option maxRecDepth 20000 in
theorem gk_f76_183 : gd_fetch 76 183 = some (183, .aload_n 0, 1, 0, 0, 0, 0, 0) := rfl
set_option maxRecDepth 20000 in
theorem gk_f76_184 : gd_fetch 76 184 = some (184, .invokevirtual 226, 3, 1371, 75, 0, 0, 0) := rfl
set_option maxRecDepth 20000 in
theorem gk_f76_187 : gd_fetch 76 187 = some (187, .iaload, 1, 0, 0, 0, 0, 0) := rfl
set_option maxRecDepth 20000 in
theorem gk_f76_188 : gd_fetch 76 188 = some (188, .iastore, 1, 0, 0, 0, 0, 0) := rfl
set_option maxRecDepth 20000 in
theorem gk_f76_189 : gd_fetch 76 189 = some (189, .aload_n 0, 1, 0, 0, 0, 0, 0) := rfl
set_option maxRecDepth 20000 in
theorem gk_f76_190 : gd_fetch 76 190 = some (190, .invokevirtual 189, 3, 1348, 69, 0, 0, 0) := rfl
set_option maxRecDepth 20000 in
theorem gk_f76_193 : gd_fetch 76 193 = some (193, .aload_n 0, 1, 0, 0, 0, 0, 0) := rfl
set_option maxRecDepth 20000 in
theorem gk_f76_194 : gd_fetch 76 194 = some (194, .getfield 23, 3, 1165, 9, 2, 4, 0) := rfl
set_option maxRecDepth 20000 in
theorem gk_f76_197 : gd_fetch 76 197 = some (197, .dup, 1, 0, 0, 0, 0, 0) := rfl
set_option maxRecDepth 20000 in
theorem gk_f76_198 : gd_fetch 76 198 = some (198, .getfield 196, 3, 1031, 7, 0, 0, 0) := rfl
set_option maxRecDepth 20000 in
theorem gk_f76_201 : gd_fetch 76 201 = some (201, .iconst 1, 1, 0, 0, 0, 0, 0) := rfl
set_option maxRecDepth 20000 in
theorem gk_f76_202 : gd_fetch 76 202 = some (202, .iadd, 1, 0, 0, 0, 0, 0) := rfl
set_option maxRecDepth 20000 in
theorem gk_f76_203 : gd_fetch 76 203 = some (203, .putfield 196, 3, 1031, 7, 0, 0, 0) := rfl
set_option maxRecDepth 20000 in
theorem gk_f76_206 : gd_fetch 76 206 = some (206, .return_, 1, 0, 0, 0, 0, 0) := rfl
set_option maxRecDepth 20000 in
set_option maxHeartbeats 4000000 in
theorem q_Mo_readPart (r0 : Nat) (m : gd_M) : gd_call 76 [.ref r0] m = if gd_ok (gN m) r0 9 = true then (if gd_ok (gN m) (gR m r0 2) 7 = true then (if ((gI m (gR m r0 2) 0) < 30 : Prop) then ((gd_call 68 [.ref r0, .int 1, .int 4] m).bind (gd_kV fun m5 => if gd_ok (gN m5) r0 9 = true then ((gd_call 69 [.ref r0] m5).bind (gd_kV fun m8 => if gd_ok (gN m8) r0 9 = true then (if ((gI m8 r0 6) = 1 : Prop) then ((gd_call 68 [.ref r0, .int 1, .int 1] m8).bind (gd_kV fun m13 => if gd_ok (gN m13) r0 9 = true then ((gd_call 70 [.ref r0, .long (gJ m13 r0 12), .long (gJ m13 r0 13)] m13).bind (gd_kI fun z18 m16 => if (z18 = (-1) : Prop) then (gd_Den (76, 66, [.ref r0, .null], [.int 1, .ref r0], m16)) else (gd_Den (76, 66, [.ref r0, .null], [.int 0, .ref r0], m16)))) else none)) else ((gd_call 68 [.ref r0, .int 0, .int 1] m8).bind (gd_kV fun m21 => if gd_ok (gN m21) r0 9 = true then ((gd_call 70 [.ref r0, .long (gJ m21 r0 12), .long (gJ m21 r0 13)] m21).bind (gd_kI fun z26 m24 => if (z26 = (-1) : Prop) then (gd_Den (76, 66, [.ref r0, .null], [.int 1, .ref r0], m24)) else (gd_Den (76, 66, [.ref r0, .null], [.int 0, .ref r0], m24)))) else none))) else none)) else none)) else ((gd_call 68 [.ref r0, .int 0, .int 4] m).bind (gd_kV fun m29 => if gd_ok (gN m29) r0 9 = true then ((gd_call 69 [.ref r0] m29).bind (gd_kV fun m32 => if gd_ok (gN m32) r0 9 = true then (if ((gI m32 r0 6) = 1 : Prop) then ((gd_call 68 [.ref r0, .int 1, .int 1] m32).bind (gd_kV fun m37 => if gd_ok (gN m37) r0 9 = true then ((gd_call 70 [.ref r0, .long (gJ m37 r0 12), .long (gJ m37 r0 13)] m37).bind (gd_kI fun z42 m40 => if (z42 = (-1) : Prop) then (gd_Den (76, 66, [.ref r0, .null], [.int 1, .ref r0], m40)) else (gd_Den (76, 66, [.ref r0, .null], [.int 0, .ref r0], m40)))) else none)) else ((gd_call 68 [.ref r0, .int 0, .int 1] m32).bind (gd_kV fun m45 => if gd_ok (gN m45) r0 9 = true then ((gd_call 70 [.ref r0, .long (gJ m45 r0 12), .long (gJ m45 r0 13)] m45).bind (gd_kI fun z50 m48 => if (z50 = (-1) : Prop) then (gd_Den (76, 66, [.ref r0, .null], [.int 1, .ref r0], m48)) else (gd_Den (76, 66, [.ref r0, .null], [.int 0, .ref r0], m48)))) else none))) else none)) else none))) else none) else none := by
  refine Eq.trans (show gd_call 76 [.ref r0] m = gd_Den (76, 0, [.ref r0, .null], [], m) from by unfold gd_call gd_ent; rw [gk_ml76]; rfl) ?_
  refine Eq.trans (D_aload_n (x := r0) gk_f76_0 rfl) ?_
  refine Eq.trans (D_aload_n (x := r0) gk_f76_1 rfl) ?_
  refine Eq.trans (D_gfR gk_f76_2 (by decide)) ?_
  refine gd_ite (fun h1 => ?_) (fun _ => rfl)
  refine Eq.trans (D_gfI gk_f76_5 (by decide) (by decide) (by decide)) ?_
  refine gd_ite (fun h2 => ?_) (fun _ => rfl)
  refine Eq.trans (D_bipush (x := 30) gk_f76_8 gk_b_30) ?_
  refine Eq.trans (D_ic_ge (t := 17) gk_f76_10 (by decide)) ?_
  refine gd_ite (fun h3 => ?_) (fun h4 => ?_)
  · refine Eq.trans (D_iconst (x := 1) gk_f76_13 gk_c_1) ?_
    refine Eq.trans (D_goto (t := 18) gk_f76_14 (by decide)) ?_
    refine Eq.trans (D_iconst (x := 4) gk_f76_18 gk_c_4) ?_
    refine Eq.trans (D_ivV (cl := 9) (args := [.ref r0, .int 1, .int 4]) (rest := []) gk_f76_19 rfl rfl (gd_rmk gk_rm76_68 gk_ln68 gk_ml68 rfl rfl rfl) gk_rk68 (gd_hnd_n gk_nc76) gk_nc68 gk_n11_68 gk_cl68) ?_
    refine Eq.trans (if_pos h1) ?_
    refine gd_bnd (gd_kV_c fun m5 => ?_)
    refine Eq.trans (D_aload_n (x := r0) gk_f76_22 rfl) ?_
    refine Eq.trans (D_ivV (cl := 9) (args := [.ref r0]) (rest := []) gk_f76_23 rfl rfl (gd_rmk gk_rm76_69 gk_ln69 gk_ml69 rfl rfl rfl) gk_rk69 (gd_hnd_n gk_nc76) gk_nc69 gk_n11_69 gk_cl69) ?_
    refine gd_ite (fun h7 => ?_) (fun _ => rfl)
    refine gd_bnd (gd_kV_c fun m8 => ?_)
    refine Eq.trans (D_aload_n (x := r0) gk_f76_26 rfl) ?_
    refine Eq.trans (D_aload_n (x := r0) gk_f76_27 rfl) ?_
    refine Eq.trans (D_gfI gk_f76_28 (by decide) (by decide) (by decide)) ?_
    refine gd_ite (fun h10 => ?_) (fun _ => rfl)
    refine Eq.trans (D_iconst (x := 1) gk_f76_31 gk_c_1) ?_
    refine Eq.trans (D_ic_ne (t := 39) gk_f76_32 (by decide)) ?_
    refine gd_ite (fun h11 => ?_) (fun h12 => ?_)
    · refine Eq.trans (D_iconst (x := 1) gk_f76_35 gk_c_1) ?_
      refine Eq.trans (D_goto (t := 40) gk_f76_36 (by decide)) ?_
      refine Eq.trans (D_iconst (x := 1) gk_f76_40 gk_c_1) ?_
      refine Eq.trans (D_ivV (cl := 9) (args := [.ref r0, .int 1, .int 1]) (rest := []) gk_f76_41 rfl rfl (gd_rmk gk_rm76_68 gk_ln68 gk_ml68 rfl rfl rfl) gk_rk68 (gd_hnd_n gk_nc76) gk_nc68 gk_n11_68 gk_cl68) ?_
      refine Eq.trans (if_pos h10) ?_
      refine gd_bnd (gd_kV_c fun m13 => ?_)
      refine Eq.trans (D_aload_n (x := r0) gk_f76_44 rfl) ?_
      refine Eq.trans (D_aload_n (x := r0) gk_f76_45 rfl) ?_
      refine Eq.trans (D_aload_n (x := r0) gk_f76_46 rfl) ?_
      refine Eq.trans (D_gfJ gk_f76_47 (by decide)) ?_
      refine gd_ite (fun h15 => ?_) (fun _ => rfl)
      refine Eq.trans (D_aload_n (x := r0) gk_f76_50 rfl) ?_
      refine Eq.trans (D_gfJ gk_f76_51 (by decide)) ?_
      refine Eq.trans (if_pos h15) ?_
      refine Eq.trans (D_ivI (cl := 9) (args := [.ref r0, .long (gJ m13 r0 12), .long (gJ m13 r0 13)]) (rest := [.ref r0]) gk_f76_54 rfl rfl (gd_rmk gk_rm76_70 gk_ln70 gk_ml70 rfl rfl rfl) gk_rk70 (gd_hnd_n gk_nc76) gk_nc70 gk_n11_70 gk_cl70) ?_
      refine Eq.trans (if_pos h15) ?_
      refine gd_bnd (gd_kI_c fun z18 m16 => ?_)
      refine Eq.trans (D_iconst (x := (-1)) gk_f76_57 gk_c_m1) ?_
      refine Eq.trans (D_ic_ne (t := 65) gk_f76_58 (by decide)) ?_
      refine gd_ite (fun h19 => ?_) (fun h20 => ?_)
      · refine Eq.trans (D_iconst (x := 1) gk_f76_61 gk_c_1) ?_
        refine Eq.trans (D_goto (t := 66) gk_f76_62 (by decide)) ?_
        rfl
      · refine Eq.trans (D_iconst (x := 0) gk_f76_65 gk_c_0) ?_
        rfl
    · refine Eq.trans (D_iconst (x := 0) gk_f76_39 gk_c_0) ?_
      refine Eq.trans (D_iconst (x := 1) gk_f76_40 gk_c_1) ?_
      refine Eq.trans (D_ivV (cl := 9) (args := [.ref r0, .int 0, .int 1]) (rest := []) gk_f76_41 rfl rfl (gd_rmk gk_rm76_68 gk_ln68 gk_ml68 rfl rfl rfl) gk_rk68 (gd_hnd_n gk_nc76) gk_nc68 gk_n11_68 gk_cl68) ?_
      refine Eq.trans (if_pos h10) ?_
      refine gd_bnd (gd_kV_c fun m21 => ?_)
      refine Eq.trans (D_aload_n (x := r0) gk_f76_44 rfl) ?_
      refine Eq.trans (D_aload_n (x := r0) gk_f76_45 rfl) ?_
      refine Eq.trans (D_aload_n (x := r0) gk_f76_46 rfl) ?_
      refine Eq.trans (D_gfJ gk_f76_47 (by decide)) ?_
      refine gd_ite (fun h23 => ?_) (fun _ => rfl)
      refine Eq.trans (D_aload_n (x := r0) gk_f76_50 rfl) ?_
      refine Eq.trans (D_gfJ gk_f76_51 (by decide)) ?_
      refine Eq.trans (if_pos h23) ?_
      refine Eq.trans (D_ivI (cl := 9) (args := [.ref r0, .long (gJ m21 r0 12), .long (gJ m21 r0 13)]) (rest := [.ref r0]) gk_f76_54 rfl rfl (gd_rmk gk_rm76_70 gk_ln70 gk_ml70 rfl rfl rfl) gk_rk70 (gd_hnd_n gk_nc76) gk_nc70 gk_n11_70 gk_cl70) ?_
      refine Eq.trans (if_pos h23) ?_
      refine gd_bnd (gd_kI_c fun z26 m24 => ?_)
      refine Eq.trans (D_iconst (x := (-1)) gk_f76_57 gk_c_m1) ?_
      refine Eq.trans (D_ic_ne (t := 65) gk_f76_58 (by decide)) ?_
      refine gd_ite (fun h27 => ?_) (fun h28 => ?_)
      · refine Eq.trans (D_iconst (x := 1) gk_f76_61 gk_c_1) ?_
        refine Eq.trans (D_goto (t := 66) gk_f76_62 (by decide)) ?_
        rfl
      · refine Eq.trans (D_iconst (x := 0) gk_f76_65 gk_c_0) ?_
        rfl
  · refine Eq.trans (D_iconst (x := 0) gk_f76_17 gk_c_0) ?_
    refine Eq.trans (D_iconst (x := 4) gk_f76_18 gk_c_4) ?_
    refine Eq.trans (D_ivV (cl := 9) (args := [.ref r0, .int 0, .int 4]) (rest := []) gk_f76_19 rfl rfl (gd_rmk gk_rm76_68 gk_ln68 gk_ml68 rfl rfl rfl) gk_rk68 (gd_hnd_n gk_nc76) gk_nc68 gk_n11_68 gk_cl68) ?_
    refine Eq.trans (if_pos h1) ?_
    refine gd_bnd (gd_kV_c fun m29 => ?_)
    refine Eq.trans (D_aload_n (x := r0) gk_f76_22 rfl) ?_
    refine Eq.trans (D_ivV (cl := 9) (args := [.ref r0]) (rest := []) gk_f76_23 rfl rfl (gd_rmk gk_rm76_69 gk_ln69 gk_ml69 rfl rfl rfl) gk_rk69 (gd_hnd_n gk_nc76) gk_nc69 gk_n11_69 gk_cl69) ?_
    refine gd_ite (fun h31 => ?_) (fun _ => rfl)
    refine gd_bnd (gd_kV_c fun m32 => ?_)
    refine Eq.trans (D_aload_n (x := r0) gk_f76_26 rfl) ?_
    refine Eq.trans (D_aload_n (x := r0) gk_f76_27 rfl) ?_
    refine Eq.trans (D_gfI gk_f76_28 (by decide) (by decide) (by decide)) ?_
    refine gd_ite (fun h34 => ?_) (fun _ => rfl)
    refine Eq.trans (D_iconst (x := 1) gk_f76_31 gk_c_1) ?_
    refine Eq.trans (D_ic_ne (t := 39) gk_f76_32 (by decide)) ?_
    refine gd_ite (fun h35 => ?_) (fun h36 => ?_)
    · refine Eq.trans (D_iconst (x := 1) gk_f76_35 gk_c_1) ?_
      refine Eq.trans (D_goto (t := 40) gk_f76_36 (by decide)) ?_
      refine Eq.trans (D_iconst (x := 1) gk_f76_40 gk_c_1) ?_
      refine Eq.trans (D_ivV (cl := 9) (args := [.ref r0, .int 1, .int 1]) (rest := []) gk_f76_41 rfl rfl (gd_rmk gk_rm76_68 gk_ln68 gk_ml68 rfl rfl rfl) gk_rk68 (gd_hnd_n gk_nc76) gk_nc68 gk_n11_68 gk_cl68) ?_
      refine Eq.trans (if_pos h34) ?_
      refine gd_bnd (gd_kV_c fun m37 => ?_)
      refine Eq.trans (D_aload_n (x := r0) gk_f76_44 rfl) ?_
      refine Eq.trans (D_aload_n (x := r0) gk_f76_45 rfl) ?_
      refine Eq.trans (D_aload_n (x := r0) gk_f76_46 rfl) ?_
      refine Eq.trans (D_gfJ gk_f76_47 (by decide)) ?_
      refine gd_ite (fun h39 => ?_) (fun _ => rfl)
      refine Eq.trans (D_aload_n (x := r0) gk_f76_50 rfl) ?_
      refine Eq.trans (D_gfJ gk_f76_51 (by decide)) ?_
      refine Eq.trans (if_pos h39) ?_
      refine Eq.trans (D_ivI (cl := 9) (args := [.ref r0, .long (gJ m37 r0 12), .long (gJ m37 r0 13)]) (rest := [.ref r0]) gk_f76_54 rfl rfl (gd_rmk gk_rm76_70 gk_ln70 gk_ml70 rfl rfl rfl) gk_rk70 (gd_hnd_n gk_nc76) gk_nc70 gk_n11_70 gk_cl70) ?_
      refine Eq.trans (if_pos h39) ?_
      refine gd_bnd (gd_kI_c fun z42 m40 => ?_)
      refine Eq.trans (D_iconst (x := (-1)) gk_f76_57 gk_c_m1) ?_
      refine Eq.trans (D_ic_ne (t := 65) gk_f76_58 (by decide)) ?_
      refine gd_ite (fun h43 => ?_) (fun h44 => ?_)
      · refine Eq.trans (D_iconst (x := 1) gk_f76_61 gk_c_1) ?_
        refine Eq.trans (D_goto (t := 66) gk_f76_62 (by decide)) ?_
        rfl
      · refine Eq.trans (D_iconst (x := 0) gk_f76_65 gk_c_0) ?_
        rfl
    · refine Eq.trans (D_iconst (x := 0) gk_f76_39 gk_c_0) ?_
      refine Eq.trans (D_iconst (x := 1) gk_f76_40 gk_c_1) ?_
      refine Eq.trans (D_ivV (cl := 9) (args := [.ref r0, .int 0, .int 1]) (rest := []) gk_f76_41 rfl rfl (gd_rmk gk_rm76_68 gk_ln68 gk_ml68 rfl rfl rfl) gk_rk68 (gd_hnd_n gk_nc76) gk_nc68 gk_n11_68 gk_cl68) ?_
      refine Eq.trans (if_pos h34) ?_
      refine gd_bnd (gd_kV_c fun m45 => ?_)
      refine Eq.trans (D_aload_n (x := r0) gk_f76_44 rfl) ?_
      refine Eq.trans (D_aload_n (x := r0) gk_f76_45 rfl) ?_
      refine Eq.trans (D_aload_n (x := r0) gk_f76_46 rfl) ?_
      refine Eq.trans (D_gfJ gk_f76_47 (by decide)) ?_
      refine gd_ite (fun h47 => ?_) (fun _ => rfl)
      refine Eq.trans (D_aload_n (x := r0) gk_f76_50 rfl) ?_
      refine Eq.trans (D_gfJ gk_f76_51 (by decide)) ?_
      refine Eq.trans (if_pos h47) ?_
      refine Eq.trans (D_ivI (cl := 9) (args := [.ref r0, .long (gJ m45 r0 12), .long (gJ m45 r0 13)]) (rest := [.ref r0]) gk_f76_54 rfl rfl (gd_rmk gk_rm76_70 gk_ln70 gk_ml70 rfl rfl rfl) gk_rk70 (gd_hnd_n gk_nc76) gk_nc70 gk_n11_70 gk_cl70) ?_
      refine Eq.trans (if_pos h47) ?_
      refine gd_bnd (gd_kI_c fun z50 m48 => ?_)
      refine Eq.trans (D_iconst (x := (-1)) gk_f76_57 gk_c_m1) ?_
      refine Eq.trans (D_ic_ne (t := 65) gk_f76_58 (by decide)) ?_
      refine gd_ite (fun h51 => ?_) (fun h52 => ?_)
      · refine Eq.trans (D_iconst (x := 1) gk_f76_61 gk_c_1) ?_
        refine Eq.trans (D_goto (t := 66) gk_f76_62 (by decide)) ?_
        rfl
      · refine Eq.trans (D_iconst (x := 0) gk_f76_65 gk_c_0) ?_
        rfl
set_option maxRecDepth 20000 in
set_option maxHeartbeats 4000000 in
theorem q_Mo_readPart_66 (r0 : Nat) (sr0 : Nat) (sx1 : Int32) (m : gd_M) : gd_Den (76, 66, [.ref r0, .null], [.int sx1, .ref sr0], m) = if gd_ok (gN m) sr0 9 = true then ((gd_call 68 [.ref sr0, .int sx1, .int 2] m).bind (gd_kV fun m2 => if gd_ok (gN m2) r0 9 = true then (if gd_ok (gN m2) (gR m2 r0 2) 7 = true then (if gd_okA (gN m2) (gR m2 (gR m2 r0 2) 3) 13 (gI m2 (gR m2 r0 2) 0) = true then (if gd_okA (gN m2) (gR m2 (gR m2 r0 2) 4) 13 (gI m2 (gR m2 r0 2) 0) = true then ((gd_call 69 [.ref r0] (wJ (wJ m2 (gR m2 (gR m2 r0 2) 3) ((gI m2 (gR m2 r0 2) 0) : Int32).toNatClampNeg (gJ m2 r0 12)) (gR m2 (gR m2 r0 2) 4) ((gI m2 (gR m2 r0 2) 0) : Int32).toNatClampNeg (gJ (wJ m2 (gR m2 (gR m2 r0 2) 3) ((gI m2 (gR m2 r0 2) 0) : Int32).toNatClampNeg (gJ m2 r0 12)) r0 13))).bind (gd_kV fun m8 => if gd_ok (gN m8) r0 9 = true then (if gd_ok (gN m8) (gR m8 r0 2) 7 = true then ((gd_call 72 [.ref r0, .int 1, .int 30] m8).bind (gd_kI fun z14 m12 => if gd_okA (gN m12) (gR m8 (gR m8 r0 2) 7) 10 (gI m2 (gR m2 r0 2) 0) = true then (if gd_ok (gN m12) r0 9 = true then ((gd_call 74 [.ref r0, .int 10] (wI m12 (gR m8 (gR m8 r0 2) 7) ((gI m2 (gR m2 r0 2) 0) : Int32).toNatClampNeg z14)).bind (gd_kV fun m17 => if gd_ok (gN m17) r0 9 = true then (if gd_ok (gN m17) (gR m17 r0 2) 7 = true then ((gd_call 72 [.ref r0, .int 0, .int 4] m17).bind (gd_kI fun z23 m21 => if gd_okA (gN m21) (gR m17 (gR m17 r0 2) 8) 10 (gI m2 (gR m2 r0 2) 0) = true then (if gd_ok (gN m21) r0 9 = true then (if gd_ok (gN m21) (gR m21 r0 2) 7 = true then (if gd_okA (gN m21) (gR m21 (gR m21 r0 2) 9) 10 (gI m2 (gR m2 r0 2) 0) = true then ((gd_call 73 [.ref r0, .int 11] (wI (wI m21 (gR m17 (gR m17 r0 2) 8) ((gI m2 (gR m2 r0 2) 0) : Int32).toNatClampNeg z23) (gR m21 (gR m21 r0 2) 9) ((gI m2 (gR m2 r0 2) 0) : Int32).toNatClampNeg (gI m2 (gR m2 r0 2) 0))).bind (gd_kI fun z30 m28 => if (z30 = 0 : Prop) then (if gd_ok (gN m28) r0 9 = true then (if gd_ok (gN m28) (gR m28 r0 2) 7 = true then (some (.null, (wI m28 (gR m28 r0 2) 0 ((gI m28 (gR m28 r0 2) 0) + 1)))) else none) else none) else (if gd_ok (gN m28) r0 9 = true then ((gd_call 69 [.ref r0] m28).bind (gd_kV fun m36 => if gd_ok (gN m36) r0 9 = true then (if gd_ok (gN m36) (gR m36 r0 2) 7 = true then ((gd_call 75 [.ref r0] m36).bind (gd_kI fun z42 m40 => if gd_okA (gN m40) (gR m36 (gR m36 r0 2) 9) 10 z42 = true then (if gd_okA (gN m40) (gR m36 (gR m36 r0 2) 9) 10 (gI m2 (gR m2 r0 2) 0) = true then (if gd_ok (gN m40) r0 9 = true then ((gd_call 69 [.ref r0] (wI m40 (gR m36 (gR m36 r0 2) 9) ((gI m2 (gR m2 r0 2) 0) : Int32).toNatClampNeg (gI m40 (gR m36 (gR m36 r0 2) 9) (z42 : Int32).toNatClampNeg))).bind (gd_kV fun m46 => if gd_ok (gN m46) r0 9 = true then (if gd_ok (gN m46) (gR m46 r0 2) 7 = true then (some (.null, (wI m46 (gR m46 r0 2) 0 ((gI m46 (gR m46 r0 2) 0) + 1)))) else none) else none)) else none) else none) else none)) else none) else none)) else none))) else none) else none) else none) else none)) else none) else none)) else none) else none)) else none) else none)) else none) else none) else none) else none)) else none := by
  refine Eq.trans (D_iconst (x := 2) gk_f76_66 gk_c_2) ?_
  refine Eq.trans (D_ivV (cl := 9) (args := [.ref sr0, .int sx1, .int 2]) (rest := []) gk_f76_67 rfl rfl (gd_rmk gk_rm76_68 gk_ln68 gk_ml68 rfl rfl rfl) gk_rk68 (gd_hnd_n gk_nc76) gk_nc68 gk_n11_68 gk_cl68) ?_
  refine gd_ite (fun h1 => ?_) (fun _ => rfl)
  refine gd_bnd (gd_kV_c fun m2 => ?_)
  refine Eq.trans (D_aload_n (x := r0) gk_f76_70 rfl) ?_
  refine Eq.trans (D_gfR gk_f76_71 (by decide)) ?_
  refine gd_ite (fun h4 => ?_) (fun _ => rfl)
  refine Eq.trans (D_gfI gk_f76_74 (by decide) (by decide) (by decide)) ?_
  refine gd_ite (fun h5 => ?_) (fun _ => rfl)
  refine Eq.trans (D_istore_n gk_f76_77 gk_st76_1) ?_
  refine Eq.trans (D_aload_n (x := r0) gk_f76_78 rfl) ?_
  refine Eq.trans (D_gfR gk_f76_79 (by decide)) ?_
  refine Eq.trans (if_pos h4) ?_
  refine Eq.trans (D_gfR gk_f76_82 (by decide)) ?_
  refine Eq.trans (if_pos h5) ?_
  refine Eq.trans (D_iload_n (x := (gI m2 (gR m2 r0 2) 0)) gk_f76_85 rfl) ?_
  refine Eq.trans (D_aload_n (x := r0) gk_f76_86 rfl) ?_
  refine Eq.trans (D_gfJ gk_f76_87 (by decide)) ?_
  refine Eq.trans (if_pos h4) ?_
  refine Eq.trans (D_last gk_f76_90) ?_
  refine gd_ite (fun h6 => ?_) (fun _ => rfl)
  refine Eq.trans (D_aload_n (x := r0) gk_f76_91 rfl) ?_
  refine Eq.trans (D_gfR gk_f76_92 (by decide)) ?_
  refine Eq.trans (if_pos h4) ?_
  refine Eq.trans (D_gfR gk_f76_95 (by decide)) ?_
  refine Eq.trans (if_pos h5) ?_
  refine Eq.trans (D_iload_n (x := (gI m2 (gR m2 r0 2) 0)) gk_f76_98 rfl) ?_
  refine Eq.trans (D_aload_n (x := r0) gk_f76_99 rfl) ?_
  refine Eq.trans (D_gfJ gk_f76_100 (by decide)) ?_
  refine Eq.trans (if_pos h4) ?_
  refine Eq.trans (D_last gk_f76_103) ?_
  refine gd_ite (fun h7 => ?_) (fun _ => rfl)
  refine Eq.trans (D_aload_n (x := r0) gk_f76_104 rfl) ?_
  refine Eq.trans (D_ivV (cl := 9) (args := [.ref r0]) (rest := []) gk_f76_105 rfl rfl (gd_rmk gk_rm76_69 gk_ln69 gk_ml69 rfl rfl rfl) gk_rk69 (gd_hnd_n gk_nc76) gk_nc69 gk_n11_69 gk_cl69) ?_
  refine Eq.trans (if_pos h4) ?_
  refine gd_bnd (gd_kV_c fun m8 => ?_)
  refine Eq.trans (D_aload_n (x := r0) gk_f76_108 rfl) ?_
  refine Eq.trans (D_gfR gk_f76_109 (by decide)) ?_
  refine gd_ite (fun h10 => ?_) (fun _ => rfl)
  refine Eq.trans (D_gfR gk_f76_112 (by decide)) ?_
  refine gd_ite (fun h11 => ?_) (fun _ => rfl)
  refine Eq.trans (D_iload_n (x := (gI m2 (gR m2 r0 2) 0)) gk_f76_115 rfl) ?_
  refine Eq.trans (D_aload_n (x := r0) gk_f76_116 rfl) ?_
  refine Eq.trans (D_iconst (x := 1) gk_f76_117 gk_c_1) ?_
  refine Eq.trans (D_bipush (x := 30) gk_f76_118 gk_b_30) ?_
  refine Eq.trans (D_ivI (cl := 9) (args := [.ref r0, .int 1, .int 30]) (rest := [.int (gI m2 (gR m2 r0 2) 0), .ref (gR m8 (gR m8 r0 2) 7)]) gk_f76_120 rfl rfl (gd_rmk gk_rm76_72 gk_ln72 gk_ml72 rfl rfl rfl) gk_rk72 (gd_hnd_n gk_nc76) gk_nc72 gk_n11_72 gk_cl72) ?_
  refine Eq.trans (if_pos h10) ?_
  refine gd_bnd (gd_kI_c fun z14 m12 => ?_)
  refine Eq.trans (D_iast gk_f76_123) ?_
  refine gd_ite (fun h15 => ?_) (fun _ => rfl)
  refine Eq.trans (D_aload_n (x := r0) gk_f76_124 rfl) ?_
  refine Eq.trans (D_bipush (x := 10) gk_f76_125 gk_b_10) ?_
  refine Eq.trans (D_ivV (cl := 9) (args := [.ref r0, .int 10]) (rest := []) gk_f76_127 rfl rfl (gd_rmk gk_rm76_74 gk_ln74 gk_ml74 rfl rfl rfl) gk_rk74 (gd_hnd_n gk_nc76) gk_nc74 gk_n11_74 gk_cl74) ?_
  refine gd_ite (fun h16 => ?_) (fun _ => rfl)
  refine gd_bnd (gd_kV_c fun m17 => ?_)
  refine Eq.trans (D_aload_n (x := r0) gk_f76_130 rfl) ?_
  refine Eq.trans (D_gfR gk_f76_131 (by decide)) ?_
  refine gd_ite (fun h19 => ?_) (fun _ => rfl)
  refine Eq.trans (D_gfR gk_f76_134 (by decide)) ?_
  refine gd_ite (fun h20 => ?_) (fun _ => rfl)
  refine Eq.trans (D_iload_n (x := (gI m2 (gR m2 r0 2) 0)) gk_f76_137 rfl) ?_
  refine Eq.trans (D_aload_n (x := r0) gk_f76_138 rfl) ?_
  refine Eq.trans (D_iconst (x := 0) gk_f76_139 gk_c_0) ?_
  refine Eq.trans (D_iconst (x := 4) gk_f76_140 gk_c_4) ?_
  refine Eq.trans (D_ivI (cl := 9) (args := [.ref r0, .int 0, .int 4]) (rest := [.int (gI m2 (gR m2 r0 2) 0), .ref (gR m17 (gR m17 r0 2) 8)]) gk_f76_141 rfl rfl (gd_rmk gk_rm76_72 gk_ln72 gk_ml72 rfl rfl rfl) gk_rk72 (gd_hnd_n gk_nc76) gk_nc72 gk_n11_72 gk_cl72) ?_
  refine Eq.trans (if_pos h19) ?_
  refine gd_bnd (gd_kI_c fun z23 m21 => ?_)
  refine Eq.trans (D_iast gk_f76_144) ?_
  refine gd_ite (fun h24 => ?_) (fun _ => rfl)
  refine Eq.trans (D_aload_n (x := r0) gk_f76_145 rfl) ?_
  refine Eq.trans (D_gfR gk_f76_146 (by decide)) ?_
  refine gd_ite (fun h25 => ?_) (fun _ => rfl)
  refine Eq.trans (D_gfR gk_f76_149 (by decide)) ?_
  refine gd_ite (fun h26 => ?_) (fun _ => rfl)
  refine Eq.trans (D_iload_n (x := (gI m2 (gR m2 r0 2) 0)) gk_f76_152 rfl) ?_
  refine Eq.trans (D_iload_n (x := (gI m2 (gR m2 r0 2) 0)) gk_f76_153 rfl) ?_
  refine Eq.trans (D_iast gk_f76_154) ?_
  refine gd_ite (fun h27 => ?_) (fun _ => rfl)
  refine Eq.trans (D_aload_n (x := r0) gk_f76_155 rfl) ?_
  refine Eq.trans (D_bipush (x := 11) gk_f76_156 gk_b_11) ?_
  refine Eq.trans (D_ivZ (cl := 9) (args := [.ref r0, .int 11]) (rest := []) gk_f76_158 rfl rfl (gd_rmk gk_rm76_73 gk_ln73 gk_ml73 rfl rfl rfl) gk_rk73 (gd_hnd_n gk_nc76) gk_nc73 gk_n11_73 gk_cl73) ?_
  refine Eq.trans (if_pos h25) ?_
  refine gd_bnd (gd_kI_c fun z30 m28 => ?_)
  refine Eq.trans (D_if_eq (t := 193) gk_f76_161 (by decide)) ?_
  refine gd_ite (fun h31 => ?_) (fun h32 => ?_)
  · refine Eq.trans (D_aload_n (x := r0) gk_f76_193 rfl) ?_
    refine Eq.trans (D_gfR gk_f76_194 (by decide)) ?_
    refine gd_ite (fun h33 => ?_) (fun _ => rfl)
    refine Eq.trans (D_dupR gk_f76_197) ?_
    refine Eq.trans (D_gfI gk_f76_198 (by decide) (by decide) (by decide)) ?_
    refine gd_ite (fun h34 => ?_) (fun _ => rfl)
    refine Eq.trans (D_iconst (x := 1) gk_f76_201 gk_c_1) ?_
    refine Eq.trans (D_iadd gk_f76_202) ?_
    refine Eq.trans (D_pfI gk_f76_203) ?_
    refine Eq.trans (if_pos h34) ?_
    refine Eq.trans (D_vreturn gk_f76_206 gk_rk76) ?_
    rfl
  · refine Eq.trans (D_aload_n (x := r0) gk_f76_164 rfl) ?_
    refine Eq.trans (D_ivV (cl := 9) (args := [.ref r0]) (rest := []) gk_f76_165 rfl rfl (gd_rmk gk_rm76_69 gk_ln69 gk_ml69 rfl rfl rfl) gk_rk69 (gd_hnd_n gk_nc76) gk_nc69 gk_n11_69 gk_cl69) ?_
    refine gd_ite (fun h35 => ?_) (fun _ => rfl)
    refine gd_bnd (gd_kV_c fun m36 => ?_)
    refine Eq.trans (D_aload_n (x := r0) gk_f76_168 rfl) ?_
    refine Eq.trans (D_gfR gk_f76_169 (by decide)) ?_
    refine gd_ite (fun h38 => ?_) (fun _ => rfl)
    refine Eq.trans (D_gfR gk_f76_172 (by decide)) ?_
    refine gd_ite (fun h39 => ?_) (fun _ => rfl)
    refine Eq.trans (D_iload_n (x := (gI m2 (gR m2 r0 2) 0)) gk_f76_175 rfl) ?_
    refine Eq.trans (D_aload_n (x := r0) gk_f76_176 rfl) ?_
    refine Eq.trans (D_gfR gk_f76_177 (by decide)) ?_
    refine Eq.trans (if_pos h38) ?_
    refine Eq.trans (D_gfR gk_f76_180 (by decide)) ?_
    refine Eq.trans (if_pos h39) ?_
    refine Eq.trans (D_aload_n (x := r0) gk_f76_183 rfl) ?_
    refine Eq.trans (D_ivI (cl := 9) (args := [.ref r0]) (rest := [.ref (gR m36 (gR m36 r0 2) 9), .int (gI m2 (gR m2 r0 2) 0), .ref (gR m36 (gR m36 r0 2) 9)]) gk_f76_184 rfl rfl (gd_rmk gk_rm76_75 gk_ln75 gk_ml75 rfl rfl rfl) gk_rk75 (gd_hnd_n gk_nc76) gk_nc75 gk_n11_75 gk_cl75) ?_
    refine Eq.trans (if_pos h38) ?_
    refine gd_bnd (gd_kI_c fun z42 m40 => ?_)
    refine Eq.trans (D_iald gk_f76_187 gk_n10_76) ?_
    refine gd_ite (fun h43 => ?_) (fun _ => rfl)
    refine Eq.trans (D_iast gk_f76_188) ?_
    refine gd_ite (fun h44 => ?_) (fun _ => rfl)
    refine Eq.trans (D_aload_n (x := r0) gk_f76_189 rfl) ?_
    refine Eq.trans (D_ivV (cl := 9) (args := [.ref r0]) (rest := []) gk_f76_190 rfl rfl (gd_rmk gk_rm76_69 gk_ln69 gk_ml69 rfl rfl rfl) gk_rk69 (gd_hnd_n gk_nc76) gk_nc69 gk_n11_69 gk_cl69) ?_
    refine gd_ite (fun h45 => ?_) (fun _ => rfl)
    refine gd_bnd (gd_kV_c fun m46 => ?_)
    refine Eq.trans (D_aload_n (x := r0) gk_f76_193 rfl) ?_
    refine Eq.trans (D_gfR gk_f76_194 (by decide)) ?_
    refine gd_ite (fun h48 => ?_) (fun _ => rfl)
    refine Eq.trans (D_dupR gk_f76_197) ?_
    refine Eq.trans (D_gfI gk_f76_198 (by decide) (by decide) (by decide)) ?_
    refine gd_ite (fun h49 => ?_) (fun _ => rfl)
    refine Eq.trans (D_iconst (x := 1) gk_f76_201 gk_c_1) ?_
    refine Eq.trans (D_iadd gk_f76_202) ?_
    refine Eq.trans (D_pfI gk_f76_203) ?_
    refine Eq.trans (if_pos h49) ?_
    refine Eq.trans (D_vreturn gk_f76_206 gk_rk76) ?_
    rfl
/-! GymDeskModel.readLink ()V -/
set_option maxRecDepth 20000 in
theorem gk_f77_0 : gd_fetch 77 0 = some (0, .aload_n 0, 1, 0, 0, 0, 0, 0) := rfl
set_option maxRecDepth 20000 in
theorem gk_f77_1 : gd_fetch 77 1 = some (1, .aload_n 0, 1, 0, 0, 0, 0, 0) := rfl
set_option maxRecDepth 20000 in
theorem gk_f77_2 : gd_fetch 77 2 = some (2, .getfield 23, 3, 1165, 9, 2, 4, 0) := rfl
set_option maxRecDepth 20000 in
theorem gk_f77_5 : gd_fetch 77 5 = some (5, .getfield 229, 3, 1033, 7, 1, 0, 0) := rfl
set_option maxRecDepth 20000 in
theorem gk_f77_8 : gd_fetch 77 8 = some (8, .bipush 20, 2, 0, 0, 0, 0, 0) := rfl
set_option maxRecDepth 20000 in
theorem gk_f77_10 : gd_fetch 77 10 = some (10, .if_icmp .ge 7, 3, 0, 0, 0, 0, 0) := rfl
set_option maxRecDepth 20000 in
theorem gk_f77_13 : gd_fetch 77 13 = some (13, .iconst 1, 1, 0, 0, 0, 0, 0) := rfl
set_option maxRecDepth 20000 in
theorem gk_f77_14 : gd_fetch 77 14 = some (14, .goto 4, 3, 0, 0, 0, 0, 0) := rfl
set_option maxRecDepth 20000 in
theorem gk_f77_17 : gd_fetch 77 17 = some (17, .iconst 0, 1, 0, 0, 0, 0, 0) := rfl
set_option maxRecDepth 20000 in
theorem gk_f77_18 : gd_fetch 77 18 = some (18, .iconst 4, 1, 0, 0, 0, 0, 0) := rfl
set_option maxRecDepth 20000 in
theorem gk_f77_19 : gd_fetch 77 19 = some (19, .invokevirtual 179, 3, 1340, 68, 2, 0, 0) := rfl
set_option maxRecDepth 20000 in
theorem gk_f77_22 : gd_fetch 77 22 = some (22, .aload_n 0, 1, 0, 0, 0, 0, 0) := rfl
set_option maxRecDepth 20000 in
theorem gk_f77_23 : gd_fetch 77 23 = some (23, .invokevirtual 189, 3, 1348, 69, 0, 0, 0) := rfl
set_option maxRecDepth 20000 in
theorem gk_f77_26 : gd_fetch 77 26 = some (26, .aload_n 0, 1, 0, 0, 0, 0, 0) := rfl
set_option maxRecDepth 20000 in
theorem gk_f77_27 : gd_fetch 77 27 = some (27, .getfield 23, 3, 1165, 9, 2, 4, 0) := rfl
set_option maxRecDepth 20000 in
theorem gk_f77_30 : gd_fetch 77 30 = some (30, .getfield 229, 3, 1033, 7, 1, 0, 0) := rfl
set_option maxRecDepth 20000 in
theorem gk_f77_33 : gd_fetch 77 33 = some (33, .istore_n 1, 1, 0, 0, 0, 0, 0) := rfl
set_option maxRecDepth 20000 in
theorem gk_f77_34 : gd_fetch 77 34 = some (34, .aload_n 0, 1, 0, 0, 0, 0, 0) := rfl
set_option maxRecDepth 20000 in
theorem gk_f77_35 : gd_fetch 77 35 = some (35, .getfield 23, 3, 1165, 9, 2, 4, 0) := rfl
set_option maxRecDepth 20000 in
theorem gk_f77_38 : gd_fetch 77 38 = some (38, .getfield 232, 3, 1051, 7, 10, 4, 1) := rfl
set_option maxRecDepth 20000 in
theorem gk_f77_41 : gd_fetch 77 41 = some (41, .iload_n 1, 1, 0, 0, 0, 0, 0) := rfl
set_option maxRecDepth 20000 in
theorem gk_f77_42 : gd_fetch 77 42 = some (42, .aload_n 0, 1, 0, 0, 0, 0, 0) := rfl
set_option maxRecDepth 20000 in
theorem gk_f77_43 : gd_fetch 77 43 = some (43, .invokevirtual 226, 3, 1371, 75, 0, 0, 0) := rfl
set_option maxRecDepth 20000 in
theorem gk_f77_46 : gd_fetch 77 46 = some (46, .iastore, 1, 0, 0, 0, 0, 0) := rfl
set_option maxRecDepth 20000 in
theorem gk_f77_47 : gd_fetch 77 47 = some (47, .aload_n 0, 1, 0, 0, 0, 0, 0) := rfl
set_option maxRecDepth 20000 in
theorem gk_f77_48 : gd_fetch 77 48 = some (48, .invokevirtual 189, 3, 1348, 69, 0, 0, 0) := rfl
set_option maxRecDepth 20000 in
theorem gk_f77_51 : gd_fetch 77 51 = some (51, .aload_n 0, 1, 0, 0, 0, 0, 0) := rfl
set_option maxRecDepth 20000 in
theorem gk_f77_52 : gd_fetch 77 52 = some (52, .getfield 23, 3, 1165, 9, 2, 4, 0) := rfl
set_option maxRecDepth 20000 in
theorem gk_f77_55 : gd_fetch 77 55 = some (55, .getfield 235, 3, 1053, 7, 11, 4, 1) := rfl
set_option maxRecDepth 20000 in
theorem gk_f77_58 : gd_fetch 77 58 = some (58, .iload_n 1, 1, 0, 0, 0, 0, 0) := rfl
set_option maxRecDepth 20000 in
theorem gk_f77_59 : gd_fetch 77 59 = some (59, .aload_n 0, 1, 0, 0, 0, 0, 0) := rfl
set_option maxRecDepth 20000 in
theorem gk_f77_60 : gd_fetch 77 60 = some (60, .invokevirtual 226, 3, 1371, 75, 0, 0, 0) := rfl
set_option maxRecDepth 20000 in
theorem gk_f77_63 : gd_fetch 77 63 = some (63, .iastore, 1, 0, 0, 0, 0, 0) := rfl
set_option maxRecDepth 20000 in
theorem gk_f77_64 : gd_fetch 77 64 = some (64, .aload_n 0, 1, 0, 0, 0, 0, 0) := rfl
set_option maxRecDepth 20000 in
theorem gk_f77_65 : gd_fetch 77 65 = some (65, .aload_n 0, 1, 0, 0, 0, 0, 0) := rfl
set_option maxRecDepth 20000 in
theorem gk_f77_66 : gd_fetch 77 66 = some (66, .getfield 148, 3, 1174, 9, 11, 0, 0) := rfl
set_option maxRecDepth 20000 in
theorem gk_f77_69 : gd_fetch 77 69 = some (69, .sipush 700, 3, 0, 0, 0, 0, 0) := rfl
set_option maxRecDepth 20000 in
theorem gk_f77_72 : gd_fetch 77 72 = some (72, .if_icmp .gt 7, 3, 0, 0, 0, 0, 0) := rfl
set_option maxRecDepth 20000 in
theorem gk_f77_75 : gd_fetch 77 75 = some (75, .iconst 1, 1, 0, 0, 0, 0, 0) := rfl
set_option maxRecDepth 20000 in
theorem gk_f77_76 : gd_fetch 77 76 = some (76, .goto 4, 3, 0, 0, 0, 0, 0) := rfl
set_option maxRecDepth 20000 in
theorem gk_f77_79 : gd_fetch 77 79 = some (79, .iconst 0, 1, 0, 0, 0, 0, 0) := rfl
set_option maxRecDepth 20000 in
theorem gk_f77_80 : gd_fetch 77 80 = some (80, .iconst 4, 1, 0, 0, 0, 0, 0) := rfl
set_option maxRecDepth 20000 in
theorem gk_f77_81 : gd_fetch 77 81 = some (81, .invokevirtual 179, 3, 1340, 68, 2, 0, 0) := rfl
set_option maxRecDepth 20000 in
theorem gk_f77_84 : gd_fetch 77 84 = some (84, .iconst 0, 1, 0, 0, 0, 0, 0) := rfl
set_option maxRecDepth 20000 in
theorem gk_f77_85 : gd_fetch 77 85 = some (85, .istore_n 2, 1, 0, 0, 0, 0, 0) := rfl
set_option maxRecDepth 20000 in
theorem gk_f77_86 : gd_fetch 77 86 = some (86, .iload_n 2, 1, 0, 0, 0, 0, 0) := rfl
set_option maxRecDepth 20000 in
theorem gk_f77_87 : gd_fetch 77 87 = some (87, .iload_n 1, 1, 0, 0, 0, 0, 0) := rfl
set_option maxRecDepth 20000 in
theorem gk_f77_88 : gd_fetch 77 88 = some (88, .if_icmp .ge 61, 3, 0, 0, 0, 0, 0) := rfl
set_option maxRecDepth 20000 in
theorem gk_f77_91 : gd_fetch 77 91 = some (91, .aload_n 0, 1, 0, 0, 0, 0, 0) := rfl
set_option maxRecDepth 20000 in
theorem gk_f77_92 : gd_fetch 77 92 = some (92, .aload_n 0, 1, 0, 0, 0, 0, 0) := rfl
set_option maxRecDepth 20000 in
theorem gk_f77_93 : gd_fetch 77 93 = some (93, .getfield 23, 3, 1165, 9, 2, 4, 0) := rfl
set_option maxRecDepth 20000 in
theorem gk_f77_96 : gd_fetch 77 96 = some (96, .getfield 232, 3, 1051, 7, 10, 4, 1) := rfl
set_option maxRecDepth 20000 in
theorem gk_f77_99 : gd_fetch 77 99 = some (99, .iload_n 2, 1, 0, 0, 0, 0, 0) := rfl
set_option maxRecDepth 20000 in
theorem gk_f77_100 : gd_fetch 77 100 = some (100, .iaload, 1, 0, 0, 0, 0, 0) := rfl
set_option maxRecDepth 20000 in
theorem gk_f77_101 : gd_fetch 77 101 = some (101, .aload_n 0, 1, 0, 0, 0, 0, 0) := rfl
set_option maxRecDepth 20000 in
theorem gk_f77_102 : gd_fetch 77 102 = some (102, .getfield 23, 3, 1165, 9, 2, 4, 0) := rfl
set_option maxRecDepth 20000 in
theorem gk_f77_105 : gd_fetch 77 105 = some (105, .getfield 232, 3, 1051, 7, 10, 4, 1) := rfl
set_option maxRecDepth 20000 in
theorem gk_f77_108 : gd_fetch 77 108 = some (108, .iload_n 1, 1, 0, 0, 0, 0, 0) := rfl
set_option maxRecDepth 20000 in
theorem gk_f77_109 : gd_fetch 77 109 = some (109, .iaload, 1, 0, 0, 0, 0, 0) := rfl
set_option maxRecDepth 20000 in
theorem gk_f77_110 : gd_fetch 77 110 = some (110, .if_icmp .ne 24, 3, 0, 0, 0, 0, 0) := rfl
set_option maxRecDepth 20000 in
theorem gk_f77_113 : gd_fetch 77 113 = some (113, .aload_n 0, 1, 0, 0, 0, 0, 0) := rfl
set_option maxRecDepth 20000 in
theorem gk_f77_114 : gd_fetch 77 114 = some (114, .getfield 23, 3, 1165, 9, 2, 4, 0) := rfl
set_option maxRecDepth 20000 in
theorem gk_f77_117 : gd_fetch 77 117 = some (117, .getfield 235, 3, 1053, 7, 11, 4, 1) := rfl
set_option maxRecDepth 20000 in
theorem gk_f77_120 : gd_fetch 77 120 = some (120, .iload_n 2, 1, 0, 0, 0, 0, 0) := rfl
set_option maxRecDepth 20000 in
theorem gk_f77_121 : gd_fetch 77 121 = some (121, .iaload, 1, 0, 0, 0, 0, 0) := rfl
set_option maxRecDepth 20000 in
theorem gk_f77_122 : gd_fetch 77 122 = some (122, .aload_n 0, 1, 0, 0, 0, 0, 0) := rfl
set_option maxRecDepth 20000 in
theorem gk_f77_123 : gd_fetch 77 123 = some (123, .getfield 23, 3, 1165, 9, 2, 4, 0) := rfl
set_option maxRecDepth 20000 in
theorem gk_f77_126 : gd_fetch 77 126 = some (126, .getfield 235, 3, 1053, 7, 11, 4, 1) := rfl
set_option maxRecDepth 20000 in
theorem gk_f77_129 : gd_fetch 77 129 = some (129, .iload_n 1, 1, 0, 0, 0, 0, 0) := rfl
set_option maxRecDepth 20000 in
theorem gk_f77_130 : gd_fetch 77 130 = some (130, .iaload, 1, 0, 0, 0, 0, 0) := rfl
set_option maxRecDepth 20000 in
theorem gk_f77_131 : gd_fetch 77 131 = some (131, .if_icmp .eq 7, 3, 0, 0, 0, 0, 0) := rfl
set_option maxRecDepth 20000 in
theorem gk_f77_134 : gd_fetch 77 134 = some (134, .iconst 1, 1, 0, 0, 0, 0, 0) := rfl
set_option maxRecDepth 20000 in
theorem gk_f77_135 : gd_fetch 77 135 = some (135, .goto 4, 3, 0, 0, 0, 0, 0) := rfl
set_option maxRecDepth 20000 in
theorem gk_f77_138 : gd_fetch 77 138 = some (138, .iconst 0, 1, 0, 0, 0, 0, 0) := rfl
set_option maxRecDepth 20000 in
theorem gk_f77_139 : gd_fetch 77 139 = some (139, .iconst 5, 1, 0, 0, 0, 0, 0) := rfl
set_option maxRecDepth 20000 in
theorem gk_f77_140 : gd_fetch 77 140 = some (140, .invokevirtual 179, 3, 1340, 68, 2, 0, 0) := rfl
set_option maxRecDepth 20000 in
theorem gk_f77_143 : gd_fetch 77 143 = some (143, .iinc 2 1, 3, 0, 0, 0, 0, 0) := rfl
set_option maxRecDepth 20000 in
theorem gk_f77_146 : gd_fetch 77 146 = some (146, .goto (-60), 3, 0, 0, 0, 0, 0) := rfl
set_option maxRecDepth 20000 in
theorem gk_f77_149 : gd_fetch 77 149 = some (149, .aload_n 0, 1, 0, 0, 0, 0, 0) := rfl
set_option maxRecDepth 20000 in
theorem gk_f77_150 : gd_fetch 77 150 = some (150, .invokevirtual 189, 3, 1348, 69, 0, 0, 0) := rfl
set_option maxRecDepth 20000 in
theorem gk_f77_153 : gd_fetch 77 153 = some (153, .aload_n 0, 1, 0, 0, 0, 0, 0) := rfl
set_option maxRecDepth 20000 in
theorem gk_f77_154 : gd_fetch 77 154 = some (154, .getfield 23, 3, 1165, 9, 2, 4, 0) := rfl
set_option maxRecDepth 20000 in
theorem gk_f77_157 : gd_fetch 77 157 = some (157, .getfield 238, 3, 1055, 7, 12, 4, 1) := rfl
set_option maxRecDepth 20000 in
theorem gk_f77_160 : gd_fetch 77 160 = some (160, .iload_n 1, 1, 0, 0, 0, 0, 0) := rfl
set_option maxRecDepth 20000 in
theorem gk_f77_161 : gd_fetch 77 161 = some (161, .aload_n 0, 1, 0, 0, 0, 0, 0) := rfl
set_option maxRecDepth 20000 in
theorem gk_f77_162 : gd_fetch 77 162 = some (162, .iconst 1, 1, 0, 0, 0, 0, 0) := rfl
set_option maxRecDepth 20000 in
theorem gk_f77_163 : gd_fetch 77 163 = some (163, .bipush 9, 2, 0, 0, 0, 0, 0) := rfl
set_option maxRecDepth 20000 in
theorem gk_f77_165 : gd_fetch 77 165 = some (165, .invokevirtual 213, 3, 1356, 72, 2, 0, 0) := rfl
set_option maxRecDepth 20000 in
theorem gk_f77_168 : gd_fetch 77 168 = some (168, .iastore, 1, 0, 0, 0, 0, 0) := rfl
set_option maxRecDepth 20000 in
theorem gk_f77_169 : gd_fetch 77 169 = some (169, .aload_n 0, 1, 0, 0, 0, 0, 0) := rfl
set_option maxRecDepth 20000 in
theorem gk_f77_170 : gd_fetch 77 170 = some (170, .getfield 23, 3, 1165, 9, 2, 4, 0) := rfl
set_option maxRecDepth 20000 in
theorem gk_f77_173 : gd_fetch 77 173 = some (173, .dup, 1, 0, 0, 0, 0, 0) := rfl
set_option maxRecDepth 20000 in
theorem gk_f77_174 : gd_fetch 77 174 = some (174, .getfield 229, 3, 1033, 7, 1, 0, 0) := rfl
set_option maxRecDepth 20000 in
theorem gk_f77_177 : gd_fetch 77 177 = some (177, .iconst 1, 1, 0, 0, 0, 0, 0) := rfl
set_option maxRecDepth 20000 in
theorem gk_f77_178 : gd_fetch 77 178 = some (178, .iadd, 1, 0, 0, 0, 0, 0) := rfl
set_option maxRecDepth 20000 in
theorem gk_f77_179 : gd_fetch 77 179 = some (179, .putfield 229, 3, 1033, 7, 1, 0, 0) := rfl
set_option maxRecDepth 20000 in
theorem gk_f77_182 : gd_fetch 77 182 = some (182, .return_, 1, 0, 0, 0, 0, 0) := rfl
set_option maxRecDepth 20000 in
set_option maxHeartbeats 4000000 in
theorem q_Mo_readLink (r0 : Nat) (m : gd_M) : gd_call 77 [.ref r0] m = if gd_ok (gN m) r0 9 = true then (if gd_ok (gN m) (gR m r0 2) 7 = true then (if ((gI m (gR m r0 2) 1) < 20 : Prop) then ((gd_call 68 [.ref r0, .int 1, .int 4] m).bind (gd_kV fun m5 => if gd_ok (gN m5) r0 9 = true then ((gd_call 69 [.ref r0] m5).bind (gd_kV fun m8 => if gd_ok (gN m8) r0 9 = true then (if gd_ok (gN m8) (gR m8 r0 2) 7 = true then ((gd_call 75 [.ref r0] m8).bind (gd_kI fun z14 m12 => if gd_okA (gN m12) (gR m8 (gR m8 r0 2) 10) 10 (gI m8 (gR m8 r0 2) 1) = true then (if gd_ok (gN m12) r0 9 = true then ((gd_call 69 [.ref r0] (wI m12 (gR m8 (gR m8 r0 2) 10) ((gI m8 (gR m8 r0 2) 1) : Int32).toNatClampNeg z14)).bind (gd_kV fun m17 => if gd_ok (gN m17) r0 9 = true then (if gd_ok (gN m17) (gR m17 r0 2) 7 = true then ((gd_call 75 [.ref r0] m17).bind (gd_kI fun z23 m21 => if gd_okA (gN m21) (gR m17 (gR m17 r0 2) 11) 10 (gI m8 (gR m8 r0 2) 1) = true then (if gd_ok (gN m21) r0 9 = true then (if (700 < (gI (wI m21 (gR m17 (gR m17 r0 2) 11) ((gI m8 (gR m8 r0 2) 1) : Int32).toNatClampNeg z23) r0 11) : Prop) then ((gd_call 68 [.ref r0, .int 0, .int 4] (wI m21 (gR m17 (gR m17 r0 2) 11) ((gI m8 (gR m8 r0 2) 1) : Int32).toNatClampNeg z23)).bind (gd_kV fun m28 => gd_Den (77, 86, [.ref r0, .int (gI m8 (gR m8 r0 2) 1), .int 0], [], m28))) else ((gd_call 68 [.ref r0, .int 1, .int 4] (wI m21 (gR m17 (gR m17 r0 2) 11) ((gI m8 (gR m8 r0 2) 1) : Int32).toNatClampNeg z23)).bind (gd_kV fun m30 => gd_Den (77, 86, [.ref r0, .int (gI m8 (gR m8 r0 2) 1), .int 0], [], m30)))) else none) else none)) else none) else none)) else none) else none)) else none) else none)) else none)) else ((gd_call 68 [.ref r0, .int 0, .int 4] m).bind (gd_kV fun m32 => if gd_ok (gN m32) r0 9 = true then ((gd_call 69 [.ref r0] m32).bind (gd_kV fun m35 => if gd_ok (gN m35) r0 9 = true then (if gd_ok (gN m35) (gR m35 r0 2) 7 = true then ((gd_call 75 [.ref r0] m35).bind (gd_kI fun z41 m39 => if gd_okA (gN m39) (gR m35 (gR m35 r0 2) 10) 10 (gI m35 (gR m35 r0 2) 1) = true then (if gd_ok (gN m39) r0 9 = true then ((gd_call 69 [.ref r0] (wI m39 (gR m35 (gR m35 r0 2) 10) ((gI m35 (gR m35 r0 2) 1) : Int32).toNatClampNeg z41)).bind (gd_kV fun m44 => if gd_ok (gN m44) r0 9 = true then (if gd_ok (gN m44) (gR m44 r0 2) 7 = true then ((gd_call 75 [.ref r0] m44).bind (gd_kI fun z50 m48 => if gd_okA (gN m48) (gR m44 (gR m44 r0 2) 11) 10 (gI m35 (gR m35 r0 2) 1) = true then (if gd_ok (gN m48) r0 9 = true then (if (700 < (gI (wI m48 (gR m44 (gR m44 r0 2) 11) ((gI m35 (gR m35 r0 2) 1) : Int32).toNatClampNeg z50) r0 11) : Prop) then ((gd_call 68 [.ref r0, .int 0, .int 4] (wI m48 (gR m44 (gR m44 r0 2) 11) ((gI m35 (gR m35 r0 2) 1) : Int32).toNatClampNeg z50)).bind (gd_kV fun m55 => gd_Den (77, 86, [.ref r0, .int (gI m35 (gR m35 r0 2) 1), .int 0], [], m55))) else ((gd_call 68 [.ref r0, .int 1, .int 4] (wI m48 (gR m44 (gR m44 r0 2) 11) ((gI m35 (gR m35 r0 2) 1) : Int32).toNatClampNeg z50)).bind (gd_kV fun m57 => gd_Den (77, 86, [.ref r0, .int (gI m35 (gR m35 r0 2) 1), .int 0], [], m57)))) else none) else none)) else none) else none)) else none) else none)) else none) else none)) else none))) else none) else none := by
  refine Eq.trans (show gd_call 77 [.ref r0] m = gd_Den (77, 0, [.ref r0, .null, .null], [], m) from by unfold gd_call gd_ent; rw [gk_ml77]; rfl) ?_
  refine Eq.trans (D_aload_n (x := r0) gk_f77_0 rfl) ?_
  refine Eq.trans (D_aload_n (x := r0) gk_f77_1 rfl) ?_
  refine Eq.trans (D_gfR gk_f77_2 (by decide)) ?_
  refine gd_ite (fun h1 => ?_) (fun _ => rfl)
  refine Eq.trans (D_gfI gk_f77_5 (by decide) (by decide) (by decide)) ?_
  refine gd_ite (fun h2 => ?_) (fun _ => rfl)
  refine Eq.trans (D_bipush (x := 20) gk_f77_8 gk_b_20) ?_
  refine Eq.trans (D_ic_ge (t := 17) gk_f77_10 (by decide)) ?_
  refine gd_ite (fun h3 => ?_) (fun h4 => ?_)
  · refine Eq.trans (D_iconst (x := 1) gk_f77_13 gk_c_1) ?_
    refine Eq.trans (D_goto (t := 18) gk_f77_14 (by decide)) ?_
    refine Eq.trans (D_iconst (x := 4) gk_f77_18 gk_c_4) ?_
    refine Eq.trans (D_ivV (cl := 9) (args := [.ref r0, .int 1, .int 4]) (rest := []) gk_f77_19 rfl rfl (gd_rmk gk_rm77_68 gk_ln68 gk_ml68 rfl rfl rfl) gk_rk68 (gd_hnd_n gk_nc77) gk_nc68 gk_n11_68 gk_cl68) ?_
    refine Eq.trans (if_pos h1) ?_
    refine gd_bnd (gd_kV_c fun m5 => ?_)
    refine Eq.trans (D_aload_n (x := r0) gk_f77_22 rfl) ?_
    refine Eq.trans (D_ivV (cl := 9) (args := [.ref r0]) (rest := []) gk_f77_23 rfl rfl (gd_rmk gk_rm77_69 gk_ln69 gk_ml69 rfl rfl rfl) gk_rk69 (gd_hnd_n gk_nc77) gk_nc69 gk_n11_69 gk_cl69) ?_
    refine gd_ite (fun h7 => ?_) (fun _ => rfl)
    refine gd_bnd (gd_kV_c fun m8 => ?_)
    refine Eq.trans (D_aload_n (x := r0) gk_f77_26 rfl) ?_
    refine Eq.trans (D_gfR gk_f77_27 (by decide)) ?_
    refine gd_ite (fun h10 => ?_) (fun _ => rfl)
    refine Eq.trans (D_gfI gk_f77_30 (by decide) (by decide) (by decide)) ?_
    refine gd_ite (fun h11 => ?_) (fun _ => rfl)
    refine Eq.trans (D_istore_n gk_f77_33 gk_st77_1) ?_
    refine Eq.trans (D_aload_n (x := r0) gk_f77_34 rfl) ?_
    refine Eq.trans (D_gfR gk_f77_35 (by decide)) ?_
    refine Eq.trans (if_pos h10) ?_
    refine Eq.trans (D_gfR gk_f77_38 (by decide)) ?_
    refine Eq.trans (if_pos h11) ?_
    refine Eq.trans (D_iload_n (x := (gI m8 (gR m8 r0 2) 1)) gk_f77_41 rfl) ?_
    refine Eq.trans (D_aload_n (x := r0) gk_f77_42 rfl) ?_
    refine Eq.trans (D_ivI (cl := 9) (args := [.ref r0]) (rest := [.int (gI m8 (gR m8 r0 2) 1), .ref (gR m8 (gR m8 r0 2) 10)]) gk_f77_43 rfl rfl (gd_rmk gk_rm77_75 gk_ln75 gk_ml75 rfl rfl rfl) gk_rk75 (gd_hnd_n gk_nc77) gk_nc75 gk_n11_75 gk_cl75) ?_
    refine Eq.trans (if_pos h10) ?_
    refine gd_bnd (gd_kI_c fun z14 m12 => ?_)
    refine Eq.trans (D_iast gk_f77_46) ?_
    refine gd_ite (fun h15 => ?_) (fun _ => rfl)
    refine Eq.trans (D_aload_n (x := r0) gk_f77_47 rfl) ?_
    refine Eq.trans (D_ivV (cl := 9) (args := [.ref r0]) (rest := []) gk_f77_48 rfl rfl (gd_rmk gk_rm77_69 gk_ln69 gk_ml69 rfl rfl rfl) gk_rk69 (gd_hnd_n gk_nc77) gk_nc69 gk_n11_69 gk_cl69) ?_
    refine gd_ite (fun h16 => ?_) (fun _ => rfl)
    refine gd_bnd (gd_kV_c fun m17 => ?_)
    refine Eq.trans (D_aload_n (x := r0) gk_f77_51 rfl) ?_
    refine Eq.trans (D_gfR gk_f77_52 (by decide)) ?_
    refine gd_ite (fun h19 => ?_) (fun _ => rfl)
    refine Eq.trans (D_gfR gk_f77_55 (by decide)) ?_
    refine gd_ite (fun h20 => ?_) (fun _ => rfl)
    refine Eq.trans (D_iload_n (x := (gI m8 (gR m8 r0 2) 1)) gk_f77_58 rfl) ?_
    refine Eq.trans (D_aload_n (x := r0) gk_f77_59 rfl) ?_
    refine Eq.trans (D_ivI (cl := 9) (args := [.ref r0]) (rest := [.int (gI m8 (gR m8 r0 2) 1), .ref (gR m17 (gR m17 r0 2) 11)]) gk_f77_60 rfl rfl (gd_rmk gk_rm77_75 gk_ln75 gk_ml75 rfl rfl rfl) gk_rk75 (gd_hnd_n gk_nc77) gk_nc75 gk_n11_75 gk_cl75) ?_
    refine Eq.trans (if_pos h19) ?_
    refine gd_bnd (gd_kI_c fun z23 m21 => ?_)
    refine Eq.trans (D_iast gk_f77_63) ?_
    refine gd_ite (fun h24 => ?_) (fun _ => rfl)
    refine Eq.trans (D_aload_n (x := r0) gk_f77_64 rfl) ?_
    refine Eq.trans (D_aload_n (x := r0) gk_f77_65 rfl) ?_
    refine Eq.trans (D_gfI gk_f77_66 (by decide) (by decide) (by decide)) ?_
    refine gd_ite (fun h25 => ?_) (fun _ => rfl)
    refine Eq.trans (D_sipush (x := 700) gk_f77_69 gk_s_700) ?_
    refine Eq.trans (D_ic_gt (t := 79) gk_f77_72 (by decide)) ?_
    refine gd_ite (fun h26 => ?_) (fun h27 => ?_)
    · refine Eq.trans (D_iconst (x := 0) gk_f77_79 gk_c_0) ?_
      refine Eq.trans (D_iconst (x := 4) gk_f77_80 gk_c_4) ?_
      refine Eq.trans (D_ivV (cl := 9) (args := [.ref r0, .int 0, .int 4]) (rest := []) gk_f77_81 rfl rfl (gd_rmk gk_rm77_68 gk_ln68 gk_ml68 rfl rfl rfl) gk_rk68 (gd_hnd_n gk_nc77) gk_nc68 gk_n11_68 gk_cl68) ?_
      refine Eq.trans (if_pos h25) ?_
      refine gd_bnd (gd_kV_c fun m28 => ?_)
      refine Eq.trans (D_iconst (x := 0) gk_f77_84 gk_c_0) ?_
      refine Eq.trans (D_istore_n gk_f77_85 gk_st77_2) ?_
      rfl
    · refine Eq.trans (D_iconst (x := 1) gk_f77_75 gk_c_1) ?_
      refine Eq.trans (D_goto (t := 80) gk_f77_76 (by decide)) ?_
      refine Eq.trans (D_iconst (x := 4) gk_f77_80 gk_c_4) ?_
      refine Eq.trans (D_ivV (cl := 9) (args := [.ref r0, .int 1, .int 4]) (rest := []) gk_f77_81 rfl rfl (gd_rmk gk_rm77_68 gk_ln68 gk_ml68 rfl rfl rfl) gk_rk68 (gd_hnd_n gk_nc77) gk_nc68 gk_n11_68 gk_cl68) ?_
      refine Eq.trans (if_pos h25) ?_
      refine gd_bnd (gd_kV_c fun m30 => ?_)
      refine Eq.trans (D_iconst (x := 0) gk_f77_84 gk_c_0) ?_
      refine Eq.trans (D_istore_n gk_f77_85 gk_st77_2) ?_
      rfl
  · refine Eq.trans (D_iconst (x := 0) gk_f77_17 gk_c_0) ?_
    refine Eq.trans (D_iconst (x := 4) gk_f77_18 gk_c_4) ?_
    refine Eq.trans (D_ivV (cl := 9) (args := [.ref r0, .int 0, .int 4]) (rest := []) gk_f77_19 rfl rfl (gd_rmk gk_rm77_68 gk_ln68 gk_ml68 rfl rfl rfl) gk_rk68 (gd_hnd_n gk_nc77) gk_nc68 gk_n11_68 gk_cl68) ?_
    refine Eq.trans (if_pos h1) ?_
    refine gd_bnd (gd_kV_c fun m32 => ?_)
    refine Eq.trans (D_aload_n (x := r0) gk_f77_22 rfl) ?_
    refine Eq.trans (D_ivV (cl := 9) (args := [.ref r0]) (rest := []) gk_f77_23 rfl rfl (gd_rmk gk_rm77_69 gk_ln69 gk_ml69 rfl rfl rfl) gk_rk69 (gd_hnd_n gk_nc77) gk_nc69 gk_n11_69 gk_cl69) ?_
    refine gd_ite (fun h34 => ?_) (fun _ => rfl)
    refine gd_bnd (gd_kV_c fun m35 => ?_)
    refine Eq.trans (D_aload_n (x := r0) gk_f77_26 rfl) ?_
    refine Eq.trans (D_gfR gk_f77_27 (by decide)) ?_
    refine gd_ite (fun h37 => ?_) (fun _ => rfl)
    refine Eq.trans (D_gfI gk_f77_30 (by decide) (by decide) (by decide)) ?_
    refine gd_ite (fun h38 => ?_) (fun _ => rfl)
    refine Eq.trans (D_istore_n gk_f77_33 gk_st77_1) ?_
    refine Eq.trans (D_aload_n (x := r0) gk_f77_34 rfl) ?_
    refine Eq.trans (D_gfR gk_f77_35 (by decide)) ?_
    refine Eq.trans (if_pos h37) ?_
    refine Eq.trans (D_gfR gk_f77_38 (by decide)) ?_
    refine Eq.trans (if_pos h38) ?_
    refine Eq.trans (D_iload_n (x := (gI m35 (gR m35 r0 2) 1)) gk_f77_41 rfl) ?_
    refine Eq.trans (D_aload_n (x := r0) gk_f77_42 rfl) ?_
    refine Eq.trans (D_ivI (cl := 9) (args := [.ref r0]) (rest := [.int (gI m35 (gR m35 r0 2) 1), .ref (gR m35 (gR m35 r0 2) 10)]) gk_f77_43 rfl rfl (gd_rmk gk_rm77_75 gk_ln75 gk_ml75 rfl rfl rfl) gk_rk75 (gd_hnd_n gk_nc77) gk_nc75 gk_n11_75 gk_cl75) ?_
    refine Eq.trans (if_pos h37) ?_
    refine gd_bnd (gd_kI_c fun z41 m39 => ?_)
    refine Eq.trans (D_iast gk_f77_46) ?_
    refine gd_ite (fun h42 => ?_) (fun _ => rfl)
    refine Eq.trans (D_aload_n (x := r0) gk_f77_47 rfl) ?_
    refine Eq.trans (D_ivV (cl := 9) (args := [.ref r0]) (rest := []) gk_f77_48 rfl rfl (gd_rmk gk_rm77_69 gk_ln69 gk_ml69 rfl rfl rfl) gk_rk69 (gd_hnd_n gk_nc77) gk_nc69 gk_n11_69 gk_cl69) ?_
    refine gd_ite (fun h43 => ?_) (fun _ => rfl)
    refine gd_bnd (gd_kV_c fun m44 => ?_)
    refine Eq.trans (D_aload_n (x := r0) gk_f77_51 rfl) ?_
    refine Eq.trans (D_gfR gk_f77_52 (by decide)) ?_
    refine gd_ite (fun h46 => ?_) (fun _ => rfl)
    refine Eq.trans (D_gfR gk_f77_55 (by decide)) ?_
    refine gd_ite (fun h47 => ?_) (fun _ => rfl)
    refine Eq.trans (D_iload_n (x := (gI m35 (gR m35 r0 2) 1)) gk_f77_58 rfl) ?_
    refine Eq.trans (D_aload_n (x := r0) gk_f77_59 rfl) ?_
    refine Eq.trans (D_ivI (cl := 9) (args := [.ref r0]) (rest := [.int (gI m35 (gR m35 r0 2) 1), .ref (gR m44 (gR m44 r0 2) 11)]) gk_f77_60 rfl rfl (gd_rmk gk_rm77_75 gk_ln75 gk_ml75 rfl rfl rfl) gk_rk75 (gd_hnd_n gk_nc77) gk_nc75 gk_n11_75 gk_cl75) ?_
    refine Eq.trans (if_pos h46) ?_
    refine gd_bnd (gd_kI_c fun z50 m48 => ?_)
    refine Eq.trans (D_iast gk_f77_63) ?_
    refine gd_ite (fun h51 => ?_) (fun _ => rfl)
    refine Eq.trans (D_aload_n (x := r0) gk_f77_64 rfl) ?_
    refine Eq.trans (D_aload_n (x := r0) gk_f77_65 rfl) ?_
    refine Eq.trans (D_gfI gk_f77_66 (by decide) (by decide) (by decide)) ?_
    refine gd_ite (fun h52 => ?_) (fun _ => rfl)
    refine Eq.trans (D_sipush (x := 700) gk_f77_69 gk_s_700) ?_
    refine Eq.trans (D_ic_gt (t := 79) gk_f77_72 (by decide)) ?_
    refine gd_ite (fun h53 => ?_) (fun h54 => ?_)
    · refine Eq.trans (D_iconst (x := 0) gk_f77_79 gk_c_0) ?_
      refine Eq.trans (D_iconst (x := 4) gk_f77_80 gk_c_4) ?_
      refine Eq.trans (D_ivV (cl := 9) (args := [.ref r0, .int 0, .int 4]) (rest := []) gk_f77_81 rfl rfl (gd_rmk gk_rm77_68 gk_ln68 gk_ml68 rfl rfl rfl) gk_rk68 (gd_hnd_n gk_nc77) gk_nc68 gk_n11_68 gk_cl68) ?_
      refine Eq.trans (if_pos h52) ?_
      refine gd_bnd (gd_kV_c fun m55 => ?_)
      refine Eq.trans (D_iconst (x := 0) gk_f77_84 gk_c_0) ?_
      refine Eq.trans (D_istore_n gk_f77_85 gk_st77_2) ?_
      rfl
    · refine Eq.trans (D_iconst (x := 1) gk_f77_75 gk_c_1) ?_
      refine Eq.trans (D_goto (t := 80) gk_f77_76 (by decide)) ?_
      refine Eq.trans (D_iconst (x := 4) gk_f77_80 gk_c_4) ?_
      refine Eq.trans (D_ivV (cl := 9) (args := [.ref r0, .int 1, .int 4]) (rest := []) gk_f77_81 rfl rfl (gd_rmk gk_rm77_68 gk_ln68 gk_ml68 rfl rfl rfl) gk_rk68 (gd_hnd_n gk_nc77) gk_nc68 gk_n11_68 gk_cl68) ?_
      refine Eq.trans (if_pos h52) ?_
      refine gd_bnd (gd_kV_c fun m57 => ?_)
      refine Eq.trans (D_iconst (x := 0) gk_f77_84 gk_c_0) ?_
      refine Eq.trans (D_istore_n gk_f77_85 gk_st77_2) ?_
      rfl
set_option maxRecDepth 20000 in
set_option maxHeartbeats 4000000 in
theorem q_Mo_readLink_86 (r0 : Nat) (x1 : Int32) (x2 : Int32) (m : gd_M) : gd_Den (77, 86, [.ref r0, .int x1, .int x2], [], m) = if (x2 < x1 : Prop) then (if gd_ok (gN m) r0 9 = true then (if gd_ok (gN m) (gR m r0 2) 7 = true then (if gd_okA (gN m) (gR m (gR m r0 2) 10) 10 x2 = true then (if gd_okA (gN m) (gR m (gR m r0 2) 10) 10 x1 = true then (if ((gI m (gR m (gR m r0 2) 10) (x2 : Int32).toNatClampNeg) = (gI m (gR m (gR m r0 2) 10) (x1 : Int32).toNatClampNeg) : Prop) then (if gd_okA (gN m) (gR m (gR m r0 2) 11) 10 x2 = true then (if gd_okA (gN m) (gR m (gR m r0 2) 11) 10 x1 = true then (if ((gI m (gR m (gR m r0 2) 11) (x2 : Int32).toNatClampNeg) = (gI m (gR m (gR m r0 2) 11) (x1 : Int32).toNatClampNeg) : Prop) then ((gd_call 68 [.ref r0, .int 0, .int 5] m).bind (gd_kV fun m13 => gd_Den (77, 86, [.ref r0, .int x1, .int (x2 + 1)], [], m13))) else ((gd_call 68 [.ref r0, .int 1, .int 5] m).bind (gd_kV fun m15 => gd_Den (77, 86, [.ref r0, .int x1, .int (x2 + 1)], [], m15)))) else none) else none) else ((gd_call 68 [.ref r0, .int 1, .int 5] m).bind (gd_kV fun m17 => gd_Den (77, 86, [.ref r0, .int x1, .int (x2 + 1)], [], m17)))) else none) else none) else none) else none) else (if gd_ok (gN m) r0 9 = true then ((gd_call 69 [.ref r0] m).bind (gd_kV fun m20 => if gd_ok (gN m20) r0 9 = true then (if gd_ok (gN m20) (gR m20 r0 2) 7 = true then ((gd_call 72 [.ref r0, .int 1, .int 9] m20).bind (gd_kI fun z26 m24 => if gd_okA (gN m24) (gR m20 (gR m20 r0 2) 12) 10 x1 = true then (if gd_ok (gN m24) r0 9 = true then (if gd_ok (gN m24) (gR m24 r0 2) 7 = true then (some (.null, (wI (wI m24 (gR m20 (gR m20 r0 2) 12) (x1 : Int32).toNatClampNeg z26) (gR m24 r0 2) 1 ((gI (wI m24 (gR m20 (gR m20 r0 2) 12) (x1 : Int32).toNatClampNeg z26) (gR m24 r0 2) 1) + 1)))) else none) else none) else none)) else none) else none)) else none) := by
  refine Eq.trans (D_iload_n (x := x2) gk_f77_86 rfl) ?_
  refine Eq.trans (D_iload_n (x := x1) gk_f77_87 rfl) ?_
  refine Eq.trans (D_ic_ge (t := 149) gk_f77_88 (by decide)) ?_
  refine gd_ite (fun h1 => ?_) (fun h2 => ?_)
  · refine Eq.trans (D_aload_n (x := r0) gk_f77_91 rfl) ?_
    refine Eq.trans (D_aload_n (x := r0) gk_f77_92 rfl) ?_
    refine Eq.trans (D_gfR gk_f77_93 (by decide)) ?_
    refine gd_ite (fun h3 => ?_) (fun _ => rfl)
    refine Eq.trans (D_gfR gk_f77_96 (by decide)) ?_
    refine gd_ite (fun h4 => ?_) (fun _ => rfl)
    refine Eq.trans (D_iload_n (x := x2) gk_f77_99 rfl) ?_
    refine Eq.trans (D_iald gk_f77_100 gk_n10_77) ?_
    refine gd_ite (fun h5 => ?_) (fun _ => rfl)
    refine Eq.trans (D_aload_n (x := r0) gk_f77_101 rfl) ?_
    refine Eq.trans (D_gfR gk_f77_102 (by decide)) ?_
    refine Eq.trans (if_pos h3) ?_
    refine Eq.trans (D_gfR gk_f77_105 (by decide)) ?_
    refine Eq.trans (if_pos h4) ?_
    refine Eq.trans (D_iload_n (x := x1) gk_f77_108 rfl) ?_
    refine Eq.trans (D_iald gk_f77_109 gk_n10_77) ?_
    refine gd_ite (fun h6 => ?_) (fun _ => rfl)
    refine Eq.trans (D_ic_ne (t := 134) gk_f77_110 (by decide)) ?_
    refine gd_ite (fun h7 => ?_) (fun h8 => ?_)
    · refine Eq.trans (D_aload_n (x := r0) gk_f77_113 rfl) ?_
      refine Eq.trans (D_gfR gk_f77_114 (by decide)) ?_
      refine Eq.trans (if_pos h3) ?_
      refine Eq.trans (D_gfR gk_f77_117 (by decide)) ?_
      refine Eq.trans (if_pos h4) ?_
      refine Eq.trans (D_iload_n (x := x2) gk_f77_120 rfl) ?_
      refine Eq.trans (D_iald gk_f77_121 gk_n10_77) ?_
      refine gd_ite (fun h9 => ?_) (fun _ => rfl)
      refine Eq.trans (D_aload_n (x := r0) gk_f77_122 rfl) ?_
      refine Eq.trans (D_gfR gk_f77_123 (by decide)) ?_
      refine Eq.trans (if_pos h3) ?_
      refine Eq.trans (D_gfR gk_f77_126 (by decide)) ?_
      refine Eq.trans (if_pos h4) ?_
      refine Eq.trans (D_iload_n (x := x1) gk_f77_129 rfl) ?_
      refine Eq.trans (D_iald gk_f77_130 gk_n10_77) ?_
      refine gd_ite (fun h10 => ?_) (fun _ => rfl)
      refine Eq.trans (D_ic_eq (t := 138) gk_f77_131 (by decide)) ?_
      refine gd_ite (fun h11 => ?_) (fun h12 => ?_)
      · refine Eq.trans (D_iconst (x := 0) gk_f77_138 gk_c_0) ?_
        refine Eq.trans (D_iconst (x := 5) gk_f77_139 gk_c_5) ?_
        refine Eq.trans (D_ivV (cl := 9) (args := [.ref r0, .int 0, .int 5]) (rest := []) gk_f77_140 rfl rfl (gd_rmk gk_rm77_68 gk_ln68 gk_ml68 rfl rfl rfl) gk_rk68 (gd_hnd_n gk_nc77) gk_nc68 gk_n11_68 gk_cl68) ?_
        refine Eq.trans (if_pos h3) ?_
        refine gd_bnd (gd_kV_c fun m13 => ?_)
        refine Eq.trans (D_iinc (x := x2) (y := 1) gk_f77_143 rfl gk_c_1 gk_st77_2) ?_
        refine Eq.trans (D_goto (t := 86) gk_f77_146 (by decide)) ?_
        rfl
      · refine Eq.trans (D_iconst (x := 1) gk_f77_134 gk_c_1) ?_
        refine Eq.trans (D_goto (t := 139) gk_f77_135 (by decide)) ?_
        refine Eq.trans (D_iconst (x := 5) gk_f77_139 gk_c_5) ?_
        refine Eq.trans (D_ivV (cl := 9) (args := [.ref r0, .int 1, .int 5]) (rest := []) gk_f77_140 rfl rfl (gd_rmk gk_rm77_68 gk_ln68 gk_ml68 rfl rfl rfl) gk_rk68 (gd_hnd_n gk_nc77) gk_nc68 gk_n11_68 gk_cl68) ?_
        refine Eq.trans (if_pos h3) ?_
        refine gd_bnd (gd_kV_c fun m15 => ?_)
        refine Eq.trans (D_iinc (x := x2) (y := 1) gk_f77_143 rfl gk_c_1 gk_st77_2) ?_
        refine Eq.trans (D_goto (t := 86) gk_f77_146 (by decide)) ?_
        rfl
    · refine Eq.trans (D_iconst (x := 1) gk_f77_134 gk_c_1) ?_
      refine Eq.trans (D_goto (t := 139) gk_f77_135 (by decide)) ?_
      refine Eq.trans (D_iconst (x := 5) gk_f77_139 gk_c_5) ?_
      refine Eq.trans (D_ivV (cl := 9) (args := [.ref r0, .int 1, .int 5]) (rest := []) gk_f77_140 rfl rfl (gd_rmk gk_rm77_68 gk_ln68 gk_ml68 rfl rfl rfl) gk_rk68 (gd_hnd_n gk_nc77) gk_nc68 gk_n11_68 gk_cl68) ?_
      refine Eq.trans (if_pos h3) ?_
      refine gd_bnd (gd_kV_c fun m17 => ?_)
      refine Eq.trans (D_iinc (x := x2) (y := 1) gk_f77_143 rfl gk_c_1 gk_st77_2) ?_
      refine Eq.trans (D_goto (t := 86) gk_f77_146 (by decide)) ?_
      rfl
  · refine Eq.trans (D_aload_n (x := r0) gk_f77_149 rfl) ?_
    refine Eq.trans (D_ivV (cl := 9) (args := [.ref r0]) (rest := []) gk_f77_150 rfl rfl (gd_rmk gk_rm77_69 gk_ln69 gk_ml69 rfl rfl rfl) gk_rk69 (gd_hnd_n gk_nc77) gk_nc69 gk_n11_69 gk_cl69) ?_
    refine gd_ite (fun h19 => ?_) (fun _ => rfl)
    refine gd_bnd (gd_kV_c fun m20 => ?_)
    refine Eq.trans (D_aload_n (x := r0) gk_f77_153 rfl) ?_
    refine Eq.trans (D_gfR gk_f77_154 (by decide)) ?_
    refine gd_ite (fun h22 => ?_) (fun _ => rfl)
    refine Eq.trans (D_gfR gk_f77_157 (by decide)) ?_
    refine gd_ite (fun h23 => ?_) (fun _ => rfl)
    refine Eq.trans (D_iload_n (x := x1) gk_f77_160 rfl) ?_
    refine Eq.trans (D_aload_n (x := r0) gk_f77_161 rfl) ?_
    refine Eq.trans (D_iconst (x := 1) gk_f77_162 gk_c_1) ?_
    refine Eq.trans (D_bipush (x := 9) gk_f77_163 gk_b_9) ?_
    refine Eq.trans (D_ivI (cl := 9) (args := [.ref r0, .int 1, .int 9]) (rest := [.int x1, .ref (gR m20 (gR m20 r0 2) 12)]) gk_f77_165 rfl rfl (gd_rmk gk_rm77_72 gk_ln72 gk_ml72 rfl rfl rfl) gk_rk72 (gd_hnd_n gk_nc77) gk_nc72 gk_n11_72 gk_cl72) ?_
    refine Eq.trans (if_pos h22) ?_
    refine gd_bnd (gd_kI_c fun z26 m24 => ?_)
    refine Eq.trans (D_iast gk_f77_168) ?_
    refine gd_ite (fun h27 => ?_) (fun _ => rfl)
    refine Eq.trans (D_aload_n (x := r0) gk_f77_169 rfl) ?_
    refine Eq.trans (D_gfR gk_f77_170 (by decide)) ?_
    refine gd_ite (fun h28 => ?_) (fun _ => rfl)
    refine Eq.trans (D_dupR gk_f77_173) ?_
    refine Eq.trans (D_gfI gk_f77_174 (by decide) (by decide) (by decide)) ?_
    refine gd_ite (fun h29 => ?_) (fun _ => rfl)
    refine Eq.trans (D_iconst (x := 1) gk_f77_177 gk_c_1) ?_
    refine Eq.trans (D_iadd gk_f77_178) ?_
    refine Eq.trans (D_pfI gk_f77_179) ?_
    refine Eq.trans (if_pos h29) ?_
    refine Eq.trans (D_vreturn gk_f77_182 gk_rk77) ?_
    rfl
/-! GymDeskModel.readFault ()V -/
set_option maxRecDepth 20000 in
theorem gk_f78_0 : gd_fetch 78 0 = some (0, .aload_n 0, 1, 0, 0, 0, 0, 0) := rfl
set_option maxRecDepth 20000 in
theorem gk_f78_1 : gd_fetch 78 1 = some (1, .aload_n 0, 1, 0, 0, 0, 0, 0) := rfl
set_option maxRecDepth 20000 in
theorem gk_f78_2 : gd_fetch 78 2 = some (2, .getfield 23, 3, 1165, 9, 2, 4, 0) := rfl
set_option maxRecDepth 20000 in
theorem gk_f78_5 : gd_fetch 78 5 = some (5, .getfield 241, 3, 1035, 7, 2, 0, 0) := rfl
set_option maxRecDepth 20000 in
theorem gk_f78_8 : gd_fetch 78 8 = some (8, .bipush 10, 2, 0, 0, 0, 0, 0) := rfl
set_option maxRecDepth 20000 in
theorem gk_f78_10 : gd_fetch 78 10 = some (10, .if_icmp .ge 7, 3, 0, 0, 0, 0, 0) := rfl
set_option maxRecDepth 20000 in
theorem gk_f78_13 : gd_fetch 78 13 = some (13, .iconst 1, 1, 0, 0, 0, 0, 0) := rfl
set_option maxRecDepth 20000 in
theorem gk_f78_14 : gd_fetch 78 14 = some (14, .goto 4, 3, 0, 0, 0, 0, 0) := rfl
set_option maxRecDepth 20000 in
theorem gk_f78_17 : gd_fetch 78 17 = some (17, .iconst 0, 1, 0, 0, 0, 0, 0) := rfl
set_option maxRecDepth 20000 in
theorem gk_f78_18 : gd_fetch 78 18 = some (18, .iconst 4, 1, 0, 0, 0, 0, 0) := rfl
set_option maxRecDepth 20000 in
theorem gk_f78_19 : gd_fetch 78 19 = some (19, .invokevirtual 179, 3, 1340, 68, 2, 0, 0) := rfl
set_option maxRecDepth 20000 in
theorem gk_f78_22 : gd_fetch 78 22 = some (22, .aload_n 0, 1, 0, 0, 0, 0, 0) := rfl
set_option maxRecDepth 20000 in
theorem gk_f78_23 : gd_fetch 78 23 = some (23, .invokevirtual 189, 3, 1348, 69, 0, 0, 0) := rfl
set_option maxRecDepth 20000 in
theorem gk_f78_26 : gd_fetch 78 26 = some (26, .aload_n 0, 1, 0, 0, 0, 0, 0) := rfl
set_option maxRecDepth 20000 in
theorem gk_f78_27 : gd_fetch 78 27 = some (27, .aload_n 0, 1, 0, 0, 0, 0, 0) := rfl
set_option maxRecDepth 20000 in
theorem gk_f78_28 : gd_fetch 78 28 = some (28, .getfield 145, 3, 1169, 9, 6, 0, 0) := rfl
set_option maxRecDepth 20000 in
theorem gk_f78_31 : gd_fetch 78 31 = some (31, .iconst 1, 1, 0, 0, 0, 0, 0) := rfl
set_option maxRecDepth 20000 in
theorem gk_f78_32 : gd_fetch 78 32 = some (32, .if_icmp .ne 7, 3, 0, 0, 0, 0, 0) := rfl
set_option maxRecDepth 20000 in
theorem gk_f78_35 : gd_fetch 78 35 = some (35, .iconst 1, 1, 0, 0, 0, 0, 0) := rfl
set_option maxRecDepth 20000 in
theorem gk_f78_36 : gd_fetch 78 36 = some (36, .goto 4, 3, 0, 0, 0, 0, 0) := rfl
set_option maxRecDepth 20000 in
theorem gk_f78_39 : gd_fetch 78 39 = some (39, .iconst 0, 1, 0, 0, 0, 0, 0) := rfl
set_option maxRecDepth 20000 in
theorem gk_f78_40 : gd_fetch 78 40 = some (40, .iconst 1, 1, 0, 0, 0, 0, 0) := rfl
set_option maxRecDepth 20000 in
theorem gk_f78_41 : gd_fetch 78 41 = some (41, .invokevirtual 179, 3, 1340, 68, 2, 0, 0) := rfl
set_option maxRecDepth 20000 in
theorem gk_f78_44 : gd_fetch 78 44 = some (44, .aload_n 0, 1, 0, 0, 0, 0, 0) := rfl
set_option maxRecDepth 20000 in
theorem gk_f78_45 : gd_fetch 78 45 = some (45, .getfield 23, 3, 1165, 9, 2, 4, 0) := rfl
set_option maxRecDepth 20000 in
theorem gk_f78_48 : gd_fetch 78 48 = some (48, .getfield 241, 3, 1035, 7, 2, 0, 0) := rfl
set_option maxRecDepth 20000 in
theorem gk_f78_51 : gd_fetch 78 51 = some (51, .istore_n 1, 1, 0, 0, 0, 0, 0) := rfl
set_option maxRecDepth 20000 in
theorem gk_f78_52 : gd_fetch 78 52 = some (52, .iconst 0, 1, 0, 0, 0, 0, 0) := rfl
set_option maxRecDepth 20000 in
theorem gk_f78_53 : gd_fetch 78 53 = some (53, .istore_n 2, 1, 0, 0, 0, 0, 0) := rfl
set_option maxRecDepth 20000 in
theorem gk_f78_54 : gd_fetch 78 54 = some (54, .iload_n 2, 1, 0, 0, 0, 0, 0) := rfl
set_option maxRecDepth 20000 in
theorem gk_f78_55 : gd_fetch 78 55 = some (55, .iload_n 1, 1, 0, 0, 0, 0, 0) := rfl
set_option maxRecDepth 20000 in
theorem gk_f78_56 : gd_fetch 78 56 = some (56, .if_icmp .ge 53, 3, 0, 0, 0, 0, 0) := rfl
set_option maxRecDepth 20000 in
theorem gk_f78_59 : gd_fetch 78 59 = some (59, .aload_n 0, 1, 0, 0, 0, 0, 0) := rfl
set_option maxRecDepth 20000 in
theorem gk_f78_60 : gd_fetch 78 60 = some (60, .aload_n 0, 1, 0, 0, 0, 0, 0) := rfl
set_option maxRecDepth 20000 in
theorem gk_f78_61 : gd_fetch 78 61 = some (61, .getfield 23, 3, 1165, 9, 2, 4, 0) := rfl
set_option maxRecDepth 20000 in
theorem gk_f78_64 : gd_fetch 78 64 = some (64, .getfield 244, 3, 1041, 7, 5, 4, 1) := rfl
set_option maxRecDepth 20000 in
theorem gk_f78_67 : gd_fetch 78 67 = some (67, .iload_n 2, 1, 0, 0, 0, 0, 0) := rfl
set_option maxRecDepth 20000 in
theorem gk_f78_68 : gd_fetch 78 68 = some (68, .laload, 1, 0, 0, 0, 0, 0) := rfl
set_option maxRecDepth 20000 in
theorem gk_f78_69 : gd_fetch 78 69 = some (69, .aload_n 0, 1, 0, 0, 0, 0, 0) := rfl
set_option maxRecDepth 20000 in
theorem gk_f78_70 : gd_fetch 78 70 = some (70, .getfield 166, 3, 1175, 9, 12, 3, 0) := rfl
set_option maxRecDepth 20000 in
theorem gk_f78_73 : gd_fetch 78 73 = some (73, .lcmp, 1, 0, 0, 0, 0, 0) := rfl
set_option maxRecDepth 20000 in
theorem gk_f78_74 : gd_fetch 78 74 = some (74, .ifCond .ne 20, 3, 0, 0, 0, 0, 0) := rfl
set_option maxRecDepth 20000 in
theorem gk_f78_77 : gd_fetch 78 77 = some (77, .aload_n 0, 1, 0, 0, 0, 0, 0) := rfl
set_option maxRecDepth 20000 in
theorem gk_f78_78 : gd_fetch 78 78 = some (78, .getfield 23, 3, 1165, 9, 2, 4, 0) := rfl
set_option maxRecDepth 20000 in
theorem gk_f78_81 : gd_fetch 78 81 = some (81, .getfield 247, 3, 1043, 7, 6, 4, 1) := rfl
set_option maxRecDepth 20000 in
theorem gk_f78_84 : gd_fetch 78 84 = some (84, .iload_n 2, 1, 0, 0, 0, 0, 0) := rfl
set_option maxRecDepth 20000 in
theorem gk_f78_85 : gd_fetch 78 85 = some (85, .laload, 1, 0, 0, 0, 0, 0) := rfl
set_option maxRecDepth 20000 in
theorem gk_f78_86 : gd_fetch 78 86 = some (86, .aload_n 0, 1, 0, 0, 0, 0, 0) := rfl
set_option maxRecDepth 20000 in
theorem gk_f78_87 : gd_fetch 78 87 = some (87, .getfield 170, 3, 1176, 9, 13, 3, 0) := rfl
set_option maxRecDepth 20000 in
theorem gk_f78_90 : gd_fetch 78 90 = some (90, .lcmp, 1, 0, 0, 0, 0, 0) := rfl
set_option maxRecDepth 20000 in
theorem gk_f78_91 : gd_fetch 78 91 = some (91, .ifCond .eq 7, 3, 0, 0, 0, 0, 0) := rfl
set_option maxRecDepth 20000 in
theorem gk_f78_94 : gd_fetch 78 94 = some (94, .iconst 1, 1, 0, 0, 0, 0, 0) := rfl
set_option maxRecDepth 20000 in
theorem gk_f78_95 : gd_fetch 78 95 = some (95, .goto 4, 3, 0, 0, 0, 0, 0) := rfl
set_option maxRecDepth 20000 in
theorem gk_f78_98 : gd_fetch 78 98 = some (98, .iconst 0, 1, 0, 0, 0, 0, 0) := rfl
set_option maxRecDepth 20000 in
theorem gk_f78_99 : gd_fetch 78 99 = some (99, .iconst 2, 1, 0, 0, 0, 0, 0) := rfl
set_option maxRecDepth 20000 in
theorem gk_f78_100 : gd_fetch 78 100 = some (100, .invokevirtual 179, 3, 1340, 68, 2, 0, 0) := rfl
set_option maxRecDepth 20000 in
theorem gk_f78_103 : gd_fetch 78 103 = some (103, .iinc 2 1, 3, 0, 0, 0, 0, 0) := rfl
set_option maxRecDepth 20000 in
theorem gk_f78_106 : gd_fetch 78 106 = some (106, .goto (-52), 3, 0, 0, 0, 0, 0) := rfl
set_option maxRecDepth 20000 in
theorem gk_f78_109 : gd_fetch 78 109 = some (109, .aload_n 0, 1, 0, 0, 0, 0, 0) := rfl
set_option maxRecDepth 20000 in
theorem gk_f78_110 : gd_fetch 78 110 = some (110, .getfield 23, 3, 1165, 9, 2, 4, 0) := rfl
set_option maxRecDepth 20000 in
theorem gk_f78_113 : gd_fetch 78 113 = some (113, .getfield 244, 3, 1041, 7, 5, 4, 1) := rfl
set_option maxRecDepth 20000 in
theorem gk_f78_116 : gd_fetch 78 116 = some (116, .iload_n 1, 1, 0, 0, 0, 0, 0) := rfl
set_option maxRecDepth 20000 in
theorem gk_f78_117 : gd_fetch 78 117 = some (117, .aload_n 0, 1, 0, 0, 0, 0, 0) := rfl
set_option maxRecDepth 20000 in
theorem gk_f78_118 : gd_fetch 78 118 = some (118, .getfield 166, 3, 1175, 9, 12, 3, 0) := rfl
set_option maxRecDepth 20000 in
theorem gk_f78_121 : gd_fetch 78 121 = some (121, .lastore, 1, 0, 0, 0, 0, 0) := rfl
set_option maxRecDepth 20000 in
theorem gk_f78_122 : gd_fetch 78 122 = some (122, .aload_n 0, 1, 0, 0, 0, 0, 0) := rfl
set_option maxRecDepth 20000 in
theorem gk_f78_123 : gd_fetch 78 123 = some (123, .getfield 23, 3, 1165, 9, 2, 4, 0) := rfl
set_option maxRecDepth 20000 in
theorem gk_f78_126 : gd_fetch 78 126 = some (126, .getfield 247, 3, 1043, 7, 6, 4, 1) := rfl
set_option maxRecDepth 20000 in
theorem gk_f78_129 : gd_fetch 78 129 = some (129, .iload_n 1, 1, 0, 0, 0, 0, 0) := rfl
set_option maxRecDepth 20000 in
theorem gk_f78_130 : gd_fetch 78 130 = some (130, .aload_n 0, 1, 0, 0, 0, 0, 0) := rfl
set_option maxRecDepth 20000 in
theorem gk_f78_131 : gd_fetch 78 131 = some (131, .getfield 170, 3, 1176, 9, 13, 3, 0) := rfl
set_option maxRecDepth 20000 in
theorem gk_f78_134 : gd_fetch 78 134 = some (134, .lastore, 1, 0, 0, 0, 0, 0) := rfl
set_option maxRecDepth 20000 in
theorem gk_f78_135 : gd_fetch 78 135 = some (135, .aload_n 0, 1, 0, 0, 0, 0, 0) := rfl
set_option maxRecDepth 20000 in
theorem gk_f78_136 : gd_fetch 78 136 = some (136, .invokevirtual 189, 3, 1348, 69, 0, 0, 0) := rfl
set_option maxRecDepth 20000 in
theorem gk_f78_139 : gd_fetch 78 139 = some (139, .aload_n 0, 1, 0, 0, 0, 0, 0) := rfl
set_option maxRecDepth 20000 in
theorem gk_f78_140 : gd_fetch 78 140 = some (140, .getfield 23, 3, 1165, 9, 2, 4, 0) := rfl
set_option maxRecDepth 20000 in
theorem gk_f78_143 : gd_fetch 78 143 = some (143, .getfield 250, 3, 1057, 7, 13, 4, 1) := rfl
set_option maxRecDepth 20000 in
theorem gk_f78_146 : gd_fetch 78 146 = some (146, .iload_n 1, 1, 0, 0, 0, 0, 0) := rfl
set_option maxRecDepth 20000 in
theorem gk_f78_147 : gd_fetch 78 147 = some (147, .aload_n 0, 1, 0, 0, 0, 0, 0) := rfl
set_option maxRecDepth 20000 in
theorem gk_f78_148 : gd_fetch 78 148 = some (148, .iconst 1, 1, 0, 0, 0, 0, 0) := rfl
set_option maxRecDepth 20000 in
theorem gk_f78_149 : gd_fetch 78 149 = some (149, .bipush 50, 2, 0, 0, 0, 0, 0) := rfl
set_option maxRecDepth 20000 in
theorem gk_f78_151 : gd_fetch 78 151 = some (151, .invokevirtual 213, 3, 1356, 72, 2, 0, 0) := rfl
set_option maxRecDepth 20000 in
theorem gk_f78_154 : gd_fetch 78 154 = some (154, .iastore, 1, 0, 0, 0, 0, 0) := rfl
set_option maxRecDepth 20000 in
theorem gk_f78_155 : gd_fetch 78 155 = some (155, .aload_n 0, 1, 0, 0, 0, 0, 0) := rfl
set_option maxRecDepth 20000 in
theorem gk_f78_156 : gd_fetch 78 156 = some (156, .getfield 23, 3, 1165, 9, 2, 4, 0) := rfl
set_option maxRecDepth 20000 in
theorem gk_f78_159 : gd_fetch 78 159 = some (159, .getfield 253, 3, 1059, 7, 14, 4, 1) := rfl
set_option maxRecDepth 20000 in
theorem gk_f78_162 : gd_fetch 78 162 = some (162, .iload_n 1, 1, 0, 0, 0, 0, 0) := rfl
set_option maxRecDepth 20000 in
theorem gk_f78_163 : gd_fetch 78 163 = some (163, .aload_n 0, 1, 0, 0, 0, 0, 0) := rfl
set_option maxRecDepth 20000 in
theorem gk_f78_164 : gd_fetch 78 164 = some (164, .bipush 16, 2, 0, 0, 0, 0, 0) := rfl
set_option maxRecDepth 20000 in
theorem gk_f78_166 : gd_fetch 78 166 = some (166, .invokevirtual 186, 3, 1367, 73, 1, 0, 0) := rfl
set_option maxRecDepth 20000 in
theorem gk_f78_169 : gd_fetch 78 169 = some (169, .bastore, 1, 0, 0, 0, 0, 0) := rfl
set_option maxRecDepth 20000 in
theorem gk_f78_170 : gd_fetch 78 170 = some (170, .aload_n 0, 1, 0, 0, 0, 0, 0) := rfl
set_option maxRecDepth 20000 in
theorem gk_f78_171 : gd_fetch 78 171 = some (171, .getfield 23, 3, 1165, 9, 2, 4, 0) := rfl
set_option maxRecDepth 20000 in
theorem gk_f78_174 : gd_fetch 78 174 = some (174, .getfield 253, 3, 1059, 7, 14, 4, 1) := rfl
set_option maxRecDepth 20000 in
theorem gk_f78_177 : gd_fetch 78 177 = some (177, .iload_n 1, 1, 0, 0, 0, 0, 0) := rfl
set_option maxRecDepth 20000 in
theorem gk_f78_178 : gd_fetch 78 178 = some (178, .baload, 1, 0, 0, 0, 0, 0) := rfl
set_option maxRecDepth 20000 in
theorem gk_f78_179 : gd_fetch 78 179 = some (179, .ifCond .eq 7, 3, 0, 0, 0, 0, 0) := rfl
set_option maxRecDepth 20000 in
theorem gk_f78_182 : gd_fetch 78 182 = some (182, .aload_n 0, 1, 0, 0, 0, 0, 0) := rfl
set_option maxRecDepth 20000 in
theorem gk_f78_183 : gd_fetch 78 183 = some (183, .invokevirtual 189, 3, 1348, 69, 0, 0, 0) := rfl
set_option maxRecDepth 20000 in
theorem gk_f78_186 : gd_fetch 78 186 = some (186, .aload_n 0, 1, 0, 0, 0, 0, 0) := rfl
set_option maxRecDepth 20000 in
theorem gk_f78_187 : gd_fetch 78 187 = some (187, .getfield 23, 3, 1165, 9, 2, 4, 0) := rfl
set_option maxRecDepth 20000 in
theorem gk_f78_190 : gd_fetch 78 190 = some (190, .dup, 1, 0, 0, 0, 0, 0) := rfl
set_option maxRecDepth 20000 in
theorem gk_f78_191 : gd_fetch 78 191 = some (191, .getfield 241, 3, 1035, 7, 2, 0, 0) := rfl
set_option maxRecDepth 20000 in
theorem gk_f78_194 : gd_fetch 78 194 = some (194, .iconst 1, 1, 0, 0, 0, 0, 0) := rfl
set_option maxRecDepth 20000 in
theorem gk_f78_195 : gd_fetch 78 195 = some (195, .iadd, 1, 0, 0, 0, 0, 0) := rfl
set_option maxRecDepth 20000 in
theorem gk_f78_196 : gd_fetch 78 196 = some (196, .putfield 241, 3, 1035, 7, 2, 0, 0) := rfl
set_option maxRecDepth 20000 in
theorem gk_f78_199 : gd_fetch 78 199 = some (199, .return_, 1, 0, 0, 0, 0, 0) := rfl
set_option maxRecDepth 20000 in
set_option maxHeartbeats 4000000 in
theorem q_Mo_readFault (r0 : Nat) (m : gd_M) : gd_call 78 [.ref r0] m = if gd_ok (gN m) r0 9 = true then (if gd_ok (gN m) (gR m r0 2) 7 = true then (if ((gI m (gR m r0 2) 2) < 10 : Prop) then ((gd_call 68 [.ref r0, .int 1, .int 4] m).bind (gd_kV fun m5 => if gd_ok (gN m5) r0 9 = true then ((gd_call 69 [.ref r0] m5).bind (gd_kV fun m8 => if gd_ok (gN m8) r0 9 = true then (if ((gI m8 r0 6) = 1 : Prop) then ((gd_call 68 [.ref r0, .int 1, .int 1] m8).bind (gd_kV fun m13 => if gd_ok (gN m13) r0 9 = true then (if gd_ok (gN m13) (gR m13 r0 2) 7 = true then (gd_Den (78, 54, [.ref r0, .int (gI m13 (gR m13 r0 2) 2), .int 0], [], m13)) else none) else none)) else ((gd_call 68 [.ref r0, .int 0, .int 1] m8).bind (gd_kV fun m17 => if gd_ok (gN m17) r0 9 = true then (if gd_ok (gN m17) (gR m17 r0 2) 7 = true then (gd_Den (78, 54, [.ref r0, .int (gI m17 (gR m17 r0 2) 2), .int 0], [], m17)) else none) else none))) else none)) else none)) else ((gd_call 68 [.ref r0, .int 0, .int 4] m).bind (gd_kV fun m21 => if gd_ok (gN m21) r0 9 = true then ((gd_call 69 [.ref r0] m21).bind (gd_kV fun m24 => if gd_ok (gN m24) r0 9 = true then (if ((gI m24 r0 6) = 1 : Prop) then ((gd_call 68 [.ref r0, .int 1, .int 1] m24).bind (gd_kV fun m29 => if gd_ok (gN m29) r0 9 = true then (if gd_ok (gN m29) (gR m29 r0 2) 7 = true then (gd_Den (78, 54, [.ref r0, .int (gI m29 (gR m29 r0 2) 2), .int 0], [], m29)) else none) else none)) else ((gd_call 68 [.ref r0, .int 0, .int 1] m24).bind (gd_kV fun m33 => if gd_ok (gN m33) r0 9 = true then (if gd_ok (gN m33) (gR m33 r0 2) 7 = true then (gd_Den (78, 54, [.ref r0, .int (gI m33 (gR m33 r0 2) 2), .int 0], [], m33)) else none) else none))) else none)) else none))) else none) else none := by
  refine Eq.trans (show gd_call 78 [.ref r0] m = gd_Den (78, 0, [.ref r0, .null, .null], [], m) from by unfold gd_call gd_ent; rw [gk_ml78]; rfl) ?_
  refine Eq.trans (D_aload_n (x := r0) gk_f78_0 rfl) ?_
  refine Eq.trans (D_aload_n (x := r0) gk_f78_1 rfl) ?_
  refine Eq.trans (D_gfR gk_f78_2 (by decide)) ?_
  refine gd_ite (fun h1 => ?_) (fun _ => rfl)
  refine Eq.trans (D_gfI gk_f78_5 (by decide) (by decide) (by decide)) ?_
  refine gd_ite (fun h2 => ?_) (fun _ => rfl)
  refine Eq.trans (D_bipush (x := 10) gk_f78_8 gk_b_10) ?_
  refine Eq.trans (D_ic_ge (t := 17) gk_f78_10 (by decide)) ?_
  refine gd_ite (fun h3 => ?_) (fun h4 => ?_)
  · refine Eq.trans (D_iconst (x := 1) gk_f78_13 gk_c_1) ?_
    refine Eq.trans (D_goto (t := 18) gk_f78_14 (by decide)) ?_
    refine Eq.trans (D_iconst (x := 4) gk_f78_18 gk_c_4) ?_
    refine Eq.trans (D_ivV (cl := 9) (args := [.ref r0, .int 1, .int 4]) (rest := []) gk_f78_19 rfl rfl (gd_rmk gk_rm78_68 gk_ln68 gk_ml68 rfl rfl rfl) gk_rk68 (gd_hnd_n gk_nc78) gk_nc68 gk_n11_68 gk_cl68) ?_
    refine Eq.trans (if_pos h1) ?_
    refine gd_bnd (gd_kV_c fun m5 => ?_)
    refine Eq.trans (D_aload_n (x := r0) gk_f78_22 rfl) ?_
    refine Eq.trans (D_ivV (cl := 9) (args := [.ref r0]) (rest := []) gk_f78_23 rfl rfl (gd_rmk gk_rm78_69 gk_ln69 gk_ml69 rfl rfl rfl) gk_rk69 (gd_hnd_n gk_nc78) gk_nc69 gk_n11_69 gk_cl69) ?_
    refine gd_ite (fun h7 => ?_) (fun _ => rfl)
    refine gd_bnd (gd_kV_c fun m8 => ?_)
    refine Eq.trans (D_aload_n (x := r0) gk_f78_26 rfl) ?_
    refine Eq.trans (D_aload_n (x := r0) gk_f78_27 rfl) ?_
    refine Eq.trans (D_gfI gk_f78_28 (by decide) (by decide) (by decide)) ?_
    refine gd_ite (fun h10 => ?_) (fun _ => rfl)
    refine Eq.trans (D_iconst (x := 1) gk_f78_31 gk_c_1) ?_
    refine Eq.trans (D_ic_ne (t := 39) gk_f78_32 (by decide)) ?_
    refine gd_ite (fun h11 => ?_) (fun h12 => ?_)
    · refine Eq.trans (D_iconst (x := 1) gk_f78_35 gk_c_1) ?_
      refine Eq.trans (D_goto (t := 40) gk_f78_36 (by decide)) ?_
      refine Eq.trans (D_iconst (x := 1) gk_f78_40 gk_c_1) ?_
      refine Eq.trans (D_ivV (cl := 9) (args := [.ref r0, .int 1, .int 1]) (rest := []) gk_f78_41 rfl rfl (gd_rmk gk_rm78_68 gk_ln68 gk_ml68 rfl rfl rfl) gk_rk68 (gd_hnd_n gk_nc78) gk_nc68 gk_n11_68 gk_cl68) ?_
      refine Eq.trans (if_pos h10) ?_
      refine gd_bnd (gd_kV_c fun m13 => ?_)
      refine Eq.trans (D_aload_n (x := r0) gk_f78_44 rfl) ?_
      refine Eq.trans (D_gfR gk_f78_45 (by decide)) ?_
      refine gd_ite (fun h15 => ?_) (fun _ => rfl)
      refine Eq.trans (D_gfI gk_f78_48 (by decide) (by decide) (by decide)) ?_
      refine gd_ite (fun h16 => ?_) (fun _ => rfl)
      refine Eq.trans (D_istore_n gk_f78_51 gk_st78_1) ?_
      refine Eq.trans (D_iconst (x := 0) gk_f78_52 gk_c_0) ?_
      refine Eq.trans (D_istore_n gk_f78_53 gk_st78_2) ?_
      rfl
    · refine Eq.trans (D_iconst (x := 0) gk_f78_39 gk_c_0) ?_
      refine Eq.trans (D_iconst (x := 1) gk_f78_40 gk_c_1) ?_
      refine Eq.trans (D_ivV (cl := 9) (args := [.ref r0, .int 0, .int 1]) (rest := []) gk_f78_41 rfl rfl (gd_rmk gk_rm78_68 gk_ln68 gk_ml68 rfl rfl rfl) gk_rk68 (gd_hnd_n gk_nc78) gk_nc68 gk_n11_68 gk_cl68) ?_
      refine Eq.trans (if_pos h10) ?_
      refine gd_bnd (gd_kV_c fun m17 => ?_)
      refine Eq.trans (D_aload_n (x := r0) gk_f78_44 rfl) ?_
      refine Eq.trans (D_gfR gk_f78_45 (by decide)) ?_
      refine gd_ite (fun h19 => ?_) (fun _ => rfl)
      refine Eq.trans (D_gfI gk_f78_48 (by decide) (by decide) (by decide)) ?_
      refine gd_ite (fun h20 => ?_) (fun _ => rfl)
      refine Eq.trans (D_istore_n gk_f78_51 gk_st78_1) ?_
      refine Eq.trans (D_iconst (x := 0) gk_f78_52 gk_c_0) ?_
      refine Eq.trans (D_istore_n gk_f78_53 gk_st78_2) ?_
      rfl
  · refine Eq.trans (D_iconst (x := 0) gk_f78_17 gk_c_0) ?_
    refine Eq.trans (D_iconst (x := 4) gk_f78_18 gk_c_4) ?_
    refine Eq.trans (D_ivV (cl := 9) (args := [.ref r0, .int 0, .int 4]) (rest := []) gk_f78_19 rfl rfl (gd_rmk gk_rm78_68 gk_ln68 gk_ml68 rfl rfl rfl) gk_rk68 (gd_hnd_n gk_nc78) gk_nc68 gk_n11_68 gk_cl68) ?_
    refine Eq.trans (if_pos h1) ?_
    refine gd_bnd (gd_kV_c fun m21 => ?_)
    refine Eq.trans (D_aload_n (x := r0) gk_f78_22 rfl) ?_
    refine Eq.trans (D_ivV (cl := 9) (args := [.ref r0]) (rest := []) gk_f78_23 rfl rfl (gd_rmk gk_rm78_69 gk_ln69 gk_ml69 rfl rfl rfl) gk_rk69 (gd_hnd_n gk_nc78) gk_nc69 gk_n11_69 gk_cl69) ?_
    refine gd_ite (fun h23 => ?_) (fun _ => rfl)
    refine gd_bnd (gd_kV_c fun m24 => ?_)
    refine Eq.trans (D_aload_n (x := r0) gk_f78_26 rfl) ?_
    refine Eq.trans (D_aload_n (x := r0) gk_f78_27 rfl) ?_
    refine Eq.trans (D_gfI gk_f78_28 (by decide) (by decide) (by decide)) ?_
    refine gd_ite (fun h26 => ?_) (fun _ => rfl)
    refine Eq.trans (D_iconst (x := 1) gk_f78_31 gk_c_1) ?_
    refine Eq.trans (D_ic_ne (t := 39) gk_f78_32 (by decide)) ?_
    refine gd_ite (fun h27 => ?_) (fun h28 => ?_)
    · refine Eq.trans (D_iconst (x := 1) gk_f78_35 gk_c_1) ?_
      refine Eq.trans (D_goto (t := 40) gk_f78_36 (by decide)) ?_
      refine Eq.trans (D_iconst (x := 1) gk_f78_40 gk_c_1) ?_
      refine Eq.trans (D_ivV (cl := 9) (args := [.ref r0, .int 1, .int 1]) (rest := []) gk_f78_41 rfl rfl (gd_rmk gk_rm78_68 gk_ln68 gk_ml68 rfl rfl rfl) gk_rk68 (gd_hnd_n gk_nc78) gk_nc68 gk_n11_68 gk_cl68) ?_
      refine Eq.trans (if_pos h26) ?_
      refine gd_bnd (gd_kV_c fun m29 => ?_)
      refine Eq.trans (D_aload_n (x := r0) gk_f78_44 rfl) ?_
      refine Eq.trans (D_gfR gk_f78_45 (by decide)) ?_
      refine gd_ite (fun h31 => ?_) (fun _ => rfl)
      refine Eq.trans (D_gfI gk_f78_48 (by decide) (by decide) (by decide)) ?_
      refine gd_ite (fun h32 => ?_) (fun _ => rfl)
      refine Eq.trans (D_istore_n gk_f78_51 gk_st78_1) ?_
      refine Eq.trans (D_iconst (x := 0) gk_f78_52 gk_c_0) ?_
      refine Eq.trans (D_istore_n gk_f78_53 gk_st78_2) ?_
      rfl
    · refine Eq.trans (D_iconst (x := 0) gk_f78_39 gk_c_0) ?_
      refine Eq.trans (D_iconst (x := 1) gk_f78_40 gk_c_1) ?_
      refine Eq.trans (D_ivV (cl := 9) (args := [.ref r0, .int 0, .int 1]) (rest := []) gk_f78_41 rfl rfl (gd_rmk gk_rm78_68 gk_ln68 gk_ml68 rfl rfl rfl) gk_rk68 (gd_hnd_n gk_nc78) gk_nc68 gk_n11_68 gk_cl68) ?_
      refine Eq.trans (if_pos h26) ?_
      refine gd_bnd (gd_kV_c fun m33 => ?_)
      refine Eq.trans (D_aload_n (x := r0) gk_f78_44 rfl) ?_
      refine Eq.trans (D_gfR gk_f78_45 (by decide)) ?_
      refine gd_ite (fun h35 => ?_) (fun _ => rfl)
      refine Eq.trans (D_gfI gk_f78_48 (by decide) (by decide) (by decide)) ?_
      refine gd_ite (fun h36 => ?_) (fun _ => rfl)
      refine Eq.trans (D_istore_n gk_f78_51 gk_st78_1) ?_
      refine Eq.trans (D_iconst (x := 0) gk_f78_52 gk_c_0) ?_
      refine Eq.trans (D_istore_n gk_f78_53 gk_st78_2) ?_
      rfl
set_option maxRecDepth 20000 in
set_option maxHeartbeats 4000000 in
theorem q_Mo_readFault_54 (r0 : Nat) (x1 : Int32) (x2 : Int32) (m : gd_M) : gd_Den (78, 54, [.ref r0, .int x1, .int x2], [], m) = if (x2 < x1 : Prop) then (if gd_ok (gN m) r0 9 = true then (if gd_ok (gN m) (gR m r0 2) 7 = true then (if gd_okA (gN m) (gR m (gR m r0 2) 5) 13 x2 = true then (if ((lg_cmp (gJ m (gR m (gR m r0 2) 5) (x2 : Int32).toNatClampNeg) (gJ m r0 12)) = 0 : Prop) then (if gd_okA (gN m) (gR m (gR m r0 2) 6) 13 x2 = true then (if ((lg_cmp (gJ m (gR m (gR m r0 2) 6) (x2 : Int32).toNatClampNeg) (gJ m r0 13)) = 0 : Prop) then ((gd_call 68 [.ref r0, .int 0, .int 2] m).bind (gd_kV fun m11 => gd_Den (78, 54, [.ref r0, .int x1, .int (x2 + 1)], [], m11))) else ((gd_call 68 [.ref r0, .int 1, .int 2] m).bind (gd_kV fun m13 => gd_Den (78, 54, [.ref r0, .int x1, .int (x2 + 1)], [], m13)))) else none) else ((gd_call 68 [.ref r0, .int 1, .int 2] m).bind (gd_kV fun m15 => gd_Den (78, 54, [.ref r0, .int x1, .int (x2 + 1)], [], m15)))) else none) else none) else none) else (if gd_ok (gN m) r0 9 = true then (if gd_ok (gN m) (gR m r0 2) 7 = true then (if gd_okA (gN m) (gR m (gR m r0 2) 5) 13 x1 = true then (if gd_okA (gN m) (gR m (gR m r0 2) 6) 13 x1 = true then ((gd_call 69 [.ref r0] (wJ (wJ m (gR m (gR m r0 2) 5) (x1 : Int32).toNatClampNeg (gJ m r0 12)) (gR m (gR m r0 2) 6) (x1 : Int32).toNatClampNeg (gJ (wJ m (gR m (gR m r0 2) 5) (x1 : Int32).toNatClampNeg (gJ m r0 12)) r0 13))).bind (gd_kV fun m21 => if gd_ok (gN m21) r0 9 = true then (if gd_ok (gN m21) (gR m21 r0 2) 7 = true then ((gd_call 72 [.ref r0, .int 1, .int 50] m21).bind (gd_kI fun z27 m25 => if gd_okA (gN m25) (gR m21 (gR m21 r0 2) 13) 10 x1 = true then (if gd_ok (gN m25) r0 9 = true then (if gd_ok (gN m25) (gR m25 r0 2) 7 = true then ((gd_call 73 [.ref r0, .int 16] (wI m25 (gR m21 (gR m21 r0 2) 13) (x1 : Int32).toNatClampNeg z27)).bind (gd_kI fun z33 m31 => if gd_okA (gN m31) (gR m25 (gR m25 r0 2) 14) 11 x1 = true then (if gd_ok (gN m31) r0 9 = true then (if gd_ok (gN m31) (gR m31 r0 2) 7 = true then (if gd_okA (gN m31) (gR m31 (gR m31 r0 2) 14) 11 x1 = true then (if ((gI (wI m31 (gR m25 (gR m25 r0 2) 14) (x1 : Int32).toNatClampNeg (vp_nar .boolean z33)) (gR m31 (gR m31 r0 2) 14) (x1 : Int32).toNatClampNeg) = 0 : Prop) then (some (.null, (wI (wI m31 (gR m25 (gR m25 r0 2) 14) (x1 : Int32).toNatClampNeg (vp_nar .boolean z33)) (gR m31 r0 2) 2 ((gI (wI m31 (gR m25 (gR m25 r0 2) 14) (x1 : Int32).toNatClampNeg (vp_nar .boolean z33)) (gR m31 r0 2) 2) + 1)))) else ((gd_call 69 [.ref r0] (wI m31 (gR m25 (gR m25 r0 2) 14) (x1 : Int32).toNatClampNeg (vp_nar .boolean z33))).bind (gd_kV fun m40 => if gd_ok (gN m40) r0 9 = true then (if gd_ok (gN m40) (gR m40 r0 2) 7 = true then (some (.null, (wI m40 (gR m40 r0 2) 2 ((gI m40 (gR m40 r0 2) 2) + 1)))) else none) else none))) else none) else none) else none) else none)) else none) else none) else none)) else none) else none)) else none) else none) else none) else none) := by
  refine Eq.trans (D_iload_n (x := x2) gk_f78_54 rfl) ?_
  refine Eq.trans (D_iload_n (x := x1) gk_f78_55 rfl) ?_
  refine Eq.trans (D_ic_ge (t := 109) gk_f78_56 (by decide)) ?_
  refine gd_ite (fun h1 => ?_) (fun h2 => ?_)
  · refine Eq.trans (D_aload_n (x := r0) gk_f78_59 rfl) ?_
    refine Eq.trans (D_aload_n (x := r0) gk_f78_60 rfl) ?_
    refine Eq.trans (D_gfR gk_f78_61 (by decide)) ?_
    refine gd_ite (fun h3 => ?_) (fun _ => rfl)
    refine Eq.trans (D_gfR gk_f78_64 (by decide)) ?_
    refine gd_ite (fun h4 => ?_) (fun _ => rfl)
    refine Eq.trans (D_iload_n (x := x2) gk_f78_67 rfl) ?_
    refine Eq.trans (D_lald gk_f78_68) ?_
    refine gd_ite (fun h5 => ?_) (fun _ => rfl)
    refine Eq.trans (D_aload_n (x := r0) gk_f78_69 rfl) ?_
    refine Eq.trans (D_gfJ gk_f78_70 (by decide)) ?_
    refine Eq.trans (if_pos h3) ?_
    refine Eq.trans (D_lcmp gk_f78_73) ?_
    refine Eq.trans (D_if_ne (t := 94) gk_f78_74 (by decide)) ?_
    refine gd_ite (fun h6 => ?_) (fun h7 => ?_)
    · refine Eq.trans (D_aload_n (x := r0) gk_f78_77 rfl) ?_
      refine Eq.trans (D_gfR gk_f78_78 (by decide)) ?_
      refine Eq.trans (if_pos h3) ?_
      refine Eq.trans (D_gfR gk_f78_81 (by decide)) ?_
      refine Eq.trans (if_pos h4) ?_
      refine Eq.trans (D_iload_n (x := x2) gk_f78_84 rfl) ?_
      refine Eq.trans (D_lald gk_f78_85) ?_
      refine gd_ite (fun h8 => ?_) (fun _ => rfl)
      refine Eq.trans (D_aload_n (x := r0) gk_f78_86 rfl) ?_
      refine Eq.trans (D_gfJ gk_f78_87 (by decide)) ?_
      refine Eq.trans (if_pos h3) ?_
      refine Eq.trans (D_lcmp gk_f78_90) ?_
      refine Eq.trans (D_if_eq (t := 98) gk_f78_91 (by decide)) ?_
      refine gd_ite (fun h9 => ?_) (fun h10 => ?_)
      · refine Eq.trans (D_iconst (x := 0) gk_f78_98 gk_c_0) ?_
        refine Eq.trans (D_iconst (x := 2) gk_f78_99 gk_c_2) ?_
        refine Eq.trans (D_ivV (cl := 9) (args := [.ref r0, .int 0, .int 2]) (rest := []) gk_f78_100 rfl rfl (gd_rmk gk_rm78_68 gk_ln68 gk_ml68 rfl rfl rfl) gk_rk68 (gd_hnd_n gk_nc78) gk_nc68 gk_n11_68 gk_cl68) ?_
        refine Eq.trans (if_pos h3) ?_
        refine gd_bnd (gd_kV_c fun m11 => ?_)
        refine Eq.trans (D_iinc (x := x2) (y := 1) gk_f78_103 rfl gk_c_1 gk_st78_2) ?_
        refine Eq.trans (D_goto (t := 54) gk_f78_106 (by decide)) ?_
        rfl
      · refine Eq.trans (D_iconst (x := 1) gk_f78_94 gk_c_1) ?_
        refine Eq.trans (D_goto (t := 99) gk_f78_95 (by decide)) ?_
        refine Eq.trans (D_iconst (x := 2) gk_f78_99 gk_c_2) ?_
        refine Eq.trans (D_ivV (cl := 9) (args := [.ref r0, .int 1, .int 2]) (rest := []) gk_f78_100 rfl rfl (gd_rmk gk_rm78_68 gk_ln68 gk_ml68 rfl rfl rfl) gk_rk68 (gd_hnd_n gk_nc78) gk_nc68 gk_n11_68 gk_cl68) ?_
        refine Eq.trans (if_pos h3) ?_
        refine gd_bnd (gd_kV_c fun m13 => ?_)
        refine Eq.trans (D_iinc (x := x2) (y := 1) gk_f78_103 rfl gk_c_1 gk_st78_2) ?_
        refine Eq.trans (D_goto (t := 54) gk_f78_106 (by decide)) ?_
        rfl
    · refine Eq.trans (D_iconst (x := 1) gk_f78_94 gk_c_1) ?_
      refine Eq.trans (D_goto (t := 99) gk_f78_95 (by decide)) ?_
      refine Eq.trans (D_iconst (x := 2) gk_f78_99 gk_c_2) ?_
      refine Eq.trans (D_ivV (cl := 9) (args := [.ref r0, .int 1, .int 2]) (rest := []) gk_f78_100 rfl rfl (gd_rmk gk_rm78_68 gk_ln68 gk_ml68 rfl rfl rfl) gk_rk68 (gd_hnd_n gk_nc78) gk_nc68 gk_n11_68 gk_cl68) ?_
      refine Eq.trans (if_pos h3) ?_
      refine gd_bnd (gd_kV_c fun m15 => ?_)
      refine Eq.trans (D_iinc (x := x2) (y := 1) gk_f78_103 rfl gk_c_1 gk_st78_2) ?_
      refine Eq.trans (D_goto (t := 54) gk_f78_106 (by decide)) ?_
      rfl
  · refine Eq.trans (D_aload_n (x := r0) gk_f78_109 rfl) ?_
    refine Eq.trans (D_gfR gk_f78_110 (by decide)) ?_
    refine gd_ite (fun h17 => ?_) (fun _ => rfl)
    refine Eq.trans (D_gfR gk_f78_113 (by decide)) ?_
    refine gd_ite (fun h18 => ?_) (fun _ => rfl)
    refine Eq.trans (D_iload_n (x := x1) gk_f78_116 rfl) ?_
    refine Eq.trans (D_aload_n (x := r0) gk_f78_117 rfl) ?_
    refine Eq.trans (D_gfJ gk_f78_118 (by decide)) ?_
    refine Eq.trans (if_pos h17) ?_
    refine Eq.trans (D_last gk_f78_121) ?_
    refine gd_ite (fun h19 => ?_) (fun _ => rfl)
    refine Eq.trans (D_aload_n (x := r0) gk_f78_122 rfl) ?_
    refine Eq.trans (D_gfR gk_f78_123 (by decide)) ?_
    refine Eq.trans (if_pos h17) ?_
    refine Eq.trans (D_gfR gk_f78_126 (by decide)) ?_
    refine Eq.trans (if_pos h18) ?_
    refine Eq.trans (D_iload_n (x := x1) gk_f78_129 rfl) ?_
    refine Eq.trans (D_aload_n (x := r0) gk_f78_130 rfl) ?_
    refine Eq.trans (D_gfJ gk_f78_131 (by decide)) ?_
    refine Eq.trans (if_pos h17) ?_
    refine Eq.trans (D_last gk_f78_134) ?_
    refine gd_ite (fun h20 => ?_) (fun _ => rfl)
    refine Eq.trans (D_aload_n (x := r0) gk_f78_135 rfl) ?_
    refine Eq.trans (D_ivV (cl := 9) (args := [.ref r0]) (rest := []) gk_f78_136 rfl rfl (gd_rmk gk_rm78_69 gk_ln69 gk_ml69 rfl rfl rfl) gk_rk69 (gd_hnd_n gk_nc78) gk_nc69 gk_n11_69 gk_cl69) ?_
    refine Eq.trans (if_pos h17) ?_
    refine gd_bnd (gd_kV_c fun m21 => ?_)
    refine Eq.trans (D_aload_n (x := r0) gk_f78_139 rfl) ?_
    refine Eq.trans (D_gfR gk_f78_140 (by decide)) ?_
    refine gd_ite (fun h23 => ?_) (fun _ => rfl)
    refine Eq.trans (D_gfR gk_f78_143 (by decide)) ?_
    refine gd_ite (fun h24 => ?_) (fun _ => rfl)
    refine Eq.trans (D_iload_n (x := x1) gk_f78_146 rfl) ?_
    refine Eq.trans (D_aload_n (x := r0) gk_f78_147 rfl) ?_
    refine Eq.trans (D_iconst (x := 1) gk_f78_148 gk_c_1) ?_
    refine Eq.trans (D_bipush (x := 50) gk_f78_149 gk_b_50) ?_
    refine Eq.trans (D_ivI (cl := 9) (args := [.ref r0, .int 1, .int 50]) (rest := [.int x1, .ref (gR m21 (gR m21 r0 2) 13)]) gk_f78_151 rfl rfl (gd_rmk gk_rm78_72 gk_ln72 gk_ml72 rfl rfl rfl) gk_rk72 (gd_hnd_n gk_nc78) gk_nc72 gk_n11_72 gk_cl72) ?_
    refine Eq.trans (if_pos h23) ?_
    refine gd_bnd (gd_kI_c fun z27 m25 => ?_)
    refine Eq.trans (D_iast gk_f78_154) ?_
    refine gd_ite (fun h28 => ?_) (fun _ => rfl)
    refine Eq.trans (D_aload_n (x := r0) gk_f78_155 rfl) ?_
    refine Eq.trans (D_gfR gk_f78_156 (by decide)) ?_
    refine gd_ite (fun h29 => ?_) (fun _ => rfl)
    refine Eq.trans (D_gfR gk_f78_159 (by decide)) ?_
    refine gd_ite (fun h30 => ?_) (fun _ => rfl)
    refine Eq.trans (D_iload_n (x := x1) gk_f78_162 rfl) ?_
    refine Eq.trans (D_aload_n (x := r0) gk_f78_163 rfl) ?_
    refine Eq.trans (D_bipush (x := 16) gk_f78_164 gk_b_16) ?_
    refine Eq.trans (D_ivZ (cl := 9) (args := [.ref r0, .int 16]) (rest := [.int x1, .ref (gR m25 (gR m25 r0 2) 14)]) gk_f78_166 rfl rfl (gd_rmk gk_rm78_73 gk_ln73 gk_ml73 rfl rfl rfl) gk_rk73 (gd_hnd_n gk_nc78) gk_nc73 gk_n11_73 gk_cl73) ?_
    refine Eq.trans (if_pos h29) ?_
    refine gd_bnd (gd_kI_c fun z33 m31 => ?_)
    refine Eq.trans (D_bastZ gk_f78_169 gk_b12_78) ?_
    refine gd_ite (fun h34 => ?_) (fun _ => rfl)
    refine Eq.trans (D_aload_n (x := r0) gk_f78_170 rfl) ?_
    refine Eq.trans (D_gfR gk_f78_171 (by decide)) ?_
    refine gd_ite (fun h35 => ?_) (fun _ => rfl)
    refine Eq.trans (D_gfR gk_f78_174 (by decide)) ?_
    refine gd_ite (fun h36 => ?_) (fun _ => rfl)
    refine Eq.trans (D_iload_n (x := x1) gk_f78_177 rfl) ?_
    refine Eq.trans (D_bald (kd := 11) gk_f78_178 gk_n12_78 gk_bk78) ?_
    refine gd_ite (fun h37 => ?_) (fun _ => rfl)
    refine Eq.trans (D_if_eq (t := 186) gk_f78_179 (by decide)) ?_
    refine gd_ite (fun h38 => ?_) (fun h39 => ?_)
    · refine Eq.trans (D_aload_n (x := r0) gk_f78_186 rfl) ?_
      refine Eq.trans (D_gfR gk_f78_187 (by decide)) ?_
      refine Eq.trans (if_pos h35) ?_
      refine Eq.trans (D_dupR gk_f78_190) ?_
      refine Eq.trans (D_gfI gk_f78_191 (by decide) (by decide) (by decide)) ?_
      refine Eq.trans (if_pos h36) ?_
      refine Eq.trans (D_iconst (x := 1) gk_f78_194 gk_c_1) ?_
      refine Eq.trans (D_iadd gk_f78_195) ?_
      refine Eq.trans (D_pfI gk_f78_196) ?_
      refine Eq.trans (if_pos h36) ?_
      refine Eq.trans (D_vreturn gk_f78_199 gk_rk78) ?_
      rfl
    · refine Eq.trans (D_aload_n (x := r0) gk_f78_182 rfl) ?_
      refine Eq.trans (D_ivV (cl := 9) (args := [.ref r0]) (rest := []) gk_f78_183 rfl rfl (gd_rmk gk_rm78_69 gk_ln69 gk_ml69 rfl rfl rfl) gk_rk69 (gd_hnd_n gk_nc78) gk_nc69 gk_n11_69 gk_cl69) ?_
      refine Eq.trans (if_pos h35) ?_
      refine gd_bnd (gd_kV_c fun m40 => ?_)
      refine Eq.trans (D_aload_n (x := r0) gk_f78_186 rfl) ?_
      refine Eq.trans (D_gfR gk_f78_187 (by decide)) ?_
      refine gd_ite (fun h42 => ?_) (fun _ => rfl)
      refine Eq.trans (D_dupR gk_f78_190) ?_
      refine Eq.trans (D_gfI gk_f78_191 (by decide) (by decide) (by decide)) ?_
      refine gd_ite (fun h43 => ?_) (fun _ => rfl)
      refine Eq.trans (D_iconst (x := 1) gk_f78_194 gk_c_1) ?_
      refine Eq.trans (D_iadd gk_f78_195) ?_
      refine Eq.trans (D_pfI gk_f78_196) ?_
      refine Eq.trans (if_pos h43) ?_
      refine Eq.trans (D_vreturn gk_f78_199 gk_rk78) ?_
      rfl
/-! GymDeskModel.groupFor ([Z)I -/
set_option maxRecDepth 20000 in
theorem gk_f79_0 : gd_fetch 79 0 = some (0, .aload_n 0, 1, 0, 0, 0, 0, 0) := rfl
set_option maxRecDepth 20000 in
theorem gk_f79_1 : gd_fetch 79 1 = some (1, .aload_n 0, 1, 0, 0, 0, 0, 0) := rfl
set_option maxRecDepth 20000 in
theorem gk_f79_2 : gd_fetch 79 2 = some (2, .getfield 145, 3, 1169, 9, 6, 0, 0) := rfl
set_option maxRecDepth 20000 in
theorem gk_f79_5 : gd_fetch 79 5 = some (5, .iconst 3, 1, 0, 0, 0, 0, 0) := rfl
set_option maxRecDepth 20000 in
theorem gk_f79_6 : gd_fetch 79 6 = some (6, .if_icmp .ne 7, 3, 0, 0, 0, 0, 0) := rfl
set_option maxRecDepth 20000 in
theorem gk_f79_9 : gd_fetch 79 9 = some (9, .iconst 1, 1, 0, 0, 0, 0, 0) := rfl
set_option maxRecDepth 20000 in
theorem gk_f79_10 : gd_fetch 79 10 = some (10, .goto 4, 3, 0, 0, 0, 0, 0) := rfl
set_option maxRecDepth 20000 in
theorem gk_f79_13 : gd_fetch 79 13 = some (13, .iconst 0, 1, 0, 0, 0, 0, 0) := rfl
set_option maxRecDepth 20000 in
theorem gk_f79_14 : gd_fetch 79 14 = some (14, .iconst 1, 1, 0, 0, 0, 0, 0) := rfl
set_option maxRecDepth 20000 in
theorem gk_f79_15 : gd_fetch 79 15 = some (15, .invokevirtual 179, 3, 1340, 68, 2, 0, 0) := rfl
set_option maxRecDepth 20000 in
theorem gk_f79_18 : gd_fetch 79 18 = some (18, .aload_n 0, 1, 0, 0, 0, 0, 0) := rfl
set_option maxRecDepth 20000 in
theorem gk_f79_19 : gd_fetch 79 19 = some (19, .aload_n 0, 1, 0, 0, 0, 0, 0) := rfl
set_option maxRecDepth 20000 in
theorem gk_f79_20 : gd_fetch 79 20 = some (20, .getfield 176, 3, 1173, 9, 10, 0, 0) := rfl
set_option maxRecDepth 20000 in
theorem gk_f79_23 : gd_fetch 79 23 = some (23, .iconst 0, 1, 0, 0, 0, 0, 0) := rfl
set_option maxRecDepth 20000 in
theorem gk_f79_24 : gd_fetch 79 24 = some (24, .iconst 4, 1, 0, 0, 0, 0, 0) := rfl
set_option maxRecDepth 20000 in
theorem gk_f79_25 : gd_fetch 79 25 = some (25, .invokestatic 192, 3, 1360, 71, 3, 0, 0) := rfl
set_option maxRecDepth 20000 in
theorem gk_f79_28 : gd_fetch 79 28 = some (28, .iconst 3, 1, 0, 0, 0, 0, 0) := rfl
set_option maxRecDepth 20000 in
theorem gk_f79_29 : gd_fetch 79 29 = some (29, .invokevirtual 179, 3, 1340, 68, 2, 0, 0) := rfl
set_option maxRecDepth 20000 in
theorem gk_f79_32 : gd_fetch 79 32 = some (32, .aload_n 0, 1, 0, 0, 0, 0, 0) := rfl
set_option maxRecDepth 20000 in
theorem gk_f79_33 : gd_fetch 79 33 = some (33, .aload_n 0, 1, 0, 0, 0, 0, 0) := rfl
set_option maxRecDepth 20000 in
theorem gk_f79_34 : gd_fetch 79 34 = some (34, .getfield 148, 3, 1174, 9, 11, 0, 0) := rfl
set_option maxRecDepth 20000 in
theorem gk_f79_37 : gd_fetch 79 37 = some (37, .sipush 700, 3, 0, 0, 0, 0, 0) := rfl
set_option maxRecDepth 20000 in
theorem gk_f79_40 : gd_fetch 79 40 = some (40, .if_icmp .gt 7, 3, 0, 0, 0, 0, 0) := rfl
set_option maxRecDepth 20000 in
theorem gk_f79_43 : gd_fetch 79 43 = some (43, .iconst 1, 1, 0, 0, 0, 0, 0) := rfl
set_option maxRecDepth 20000 in
theorem gk_f79_44 : gd_fetch 79 44 = some (44, .goto 4, 3, 0, 0, 0, 0, 0) := rfl
set_option maxRecDepth 20000 in
theorem gk_f79_47 : gd_fetch 79 47 = some (47, .iconst 0, 1, 0, 0, 0, 0, 0) := rfl
set_option maxRecDepth 20000 in
theorem gk_f79_48 : gd_fetch 79 48 = some (48, .iconst 4, 1, 0, 0, 0, 0, 0) := rfl
set_option maxRecDepth 20000 in
theorem gk_f79_49 : gd_fetch 79 49 = some (49, .invokevirtual 179, 3, 1340, 68, 2, 0, 0) := rfl
set_option maxRecDepth 20000 in
theorem gk_f79_52 : gd_fetch 79 52 = some (52, .aload_n 0, 1, 0, 0, 0, 0, 0) := rfl
set_option maxRecDepth 20000 in
theorem gk_f79_53 : gd_fetch 79 53 = some (53, .aload_n 1, 1, 0, 0, 0, 0, 0) := rfl
set_option maxRecDepth 20000 in
theorem gk_f79_54 : gd_fetch 79 54 = some (54, .aload_n 0, 1, 0, 0, 0, 0, 0) := rfl
set_option maxRecDepth 20000 in
theorem gk_f79_55 : gd_fetch 79 55 = some (55, .getfield 176, 3, 1173, 9, 10, 0, 0) := rfl
set_option maxRecDepth 20000 in
theorem gk_f79_58 : gd_fetch 79 58 = some (58, .baload, 1, 0, 0, 0, 0, 0) := rfl
set_option maxRecDepth 20000 in
theorem gk_f79_59 : gd_fetch 79 59 = some (59, .ifCond .ne 7, 3, 0, 0, 0, 0, 0) := rfl
set_option maxRecDepth 20000 in
theorem gk_f79_62 : gd_fetch 79 62 = some (62, .iconst 1, 1, 0, 0, 0, 0, 0) := rfl
set_option maxRecDepth 20000 in
theorem gk_f79_63 : gd_fetch 79 63 = some (63, .goto 4, 3, 0, 0, 0, 0, 0) := rfl
set_option maxRecDepth 20000 in
theorem gk_f79_66 : gd_fetch 79 66 = some (66, .iconst 0, 1, 0, 0, 0, 0, 0) := rfl
set_option maxRecDepth 20000 in
theorem gk_f79_67 : gd_fetch 79 67 = some (67, .iconst 5, 1, 0, 0, 0, 0, 0) := rfl
set_option maxRecDepth 20000 in
theorem gk_f79_68 : gd_fetch 79 68 = some (68, .invokevirtual 179, 3, 1340, 68, 2, 0, 0) := rfl
set_option maxRecDepth 20000 in
theorem gk_f79_71 : gd_fetch 79 71 = some (71, .aload_n 0, 1, 0, 0, 0, 0, 0) := rfl
set_option maxRecDepth 20000 in
theorem gk_f79_72 : gd_fetch 79 72 = some (72, .getfield 176, 3, 1173, 9, 10, 0, 0) := rfl
set_option maxRecDepth 20000 in
theorem gk_f79_75 : gd_fetch 79 75 = some (75, .istore_n 2, 1, 0, 0, 0, 0, 0) := rfl
set_option maxRecDepth 20000 in
theorem gk_f79_76 : gd_fetch 79 76 = some (76, .aload_n 1, 1, 0, 0, 0, 0, 0) := rfl
set_option maxRecDepth 20000 in
theorem gk_f79_77 : gd_fetch 79 77 = some (77, .iload_n 2, 1, 0, 0, 0, 0, 0) := rfl
set_option maxRecDepth 20000 in
theorem gk_f79_78 : gd_fetch 79 78 = some (78, .iconst 1, 1, 0, 0, 0, 0, 0) := rfl
set_option maxRecDepth 20000 in
theorem gk_f79_79 : gd_fetch 79 79 = some (79, .bastore, 1, 0, 0, 0, 0, 0) := rfl
set_option maxRecDepth 20000 in
theorem gk_f79_80 : gd_fetch 79 80 = some (80, .aload_n 0, 1, 0, 0, 0, 0, 0) := rfl
set_option maxRecDepth 20000 in
theorem gk_f79_81 : gd_fetch 79 81 = some (81, .invokevirtual 189, 3, 1348, 69, 0, 0, 0) := rfl
set_option maxRecDepth 20000 in
theorem gk_f79_84 : gd_fetch 79 84 = some (84, .iload_n 2, 1, 0, 0, 0, 0, 0) := rfl
set_option maxRecDepth 20000 in
theorem gk_f79_85 : gd_fetch 79 85 = some (85, .ireturn, 1, 0, 0, 0, 0, 0) := rfl
set_option maxRecDepth 20000 in
set_option maxHeartbeats 4000000 in
theorem q_Mo_groupFor (r0 : Nat) (r1 : Nat) (m : gd_M) : gd_call 79 [.ref r0, .ref r1] m = if gd_ok (gN m) r0 9 = true then (if ((gI m r0 6) = 3 : Prop) then (gd_Den (79, 14, [.ref r0, .ref r1, .null], [.int 1, .ref r0], m)) else (gd_Den (79, 14, [.ref r0, .ref r1, .null], [.int 0, .ref r0], m))) else none := by
  refine Eq.trans (show gd_call 79 [.ref r0, .ref r1] m = gd_Den (79, 0, [.ref r0, .ref r1, .null], [], m) from by unfold gd_call gd_ent; rw [gk_ml79]; rfl) ?_
  refine Eq.trans (D_aload_n (x := r0) gk_f79_0 rfl) ?_
  refine Eq.trans (D_aload_n (x := r0) gk_f79_1 rfl) ?_
  refine Eq.trans (D_gfI gk_f79_2 (by decide) (by decide) (by decide)) ?_
  refine gd_ite (fun h1 => ?_) (fun _ => rfl)
  refine Eq.trans (D_iconst (x := 3) gk_f79_5 gk_c_3) ?_
  refine Eq.trans (D_ic_ne (t := 13) gk_f79_6 (by decide)) ?_
  refine gd_ite (fun h2 => ?_) (fun h3 => ?_)
  · refine Eq.trans (D_iconst (x := 1) gk_f79_9 gk_c_1) ?_
    refine Eq.trans (D_goto (t := 14) gk_f79_10 (by decide)) ?_
    rfl
  · refine Eq.trans (D_iconst (x := 0) gk_f79_13 gk_c_0) ?_
    rfl
set_option maxRecDepth 20000 in
set_option maxHeartbeats 4000000 in
theorem q_Mo_groupFor_14 (r0 : Nat) (r1 : Nat) (sr0 : Nat) (sx1 : Int32) (m : gd_M) : gd_Den (79, 14, [.ref r0, .ref r1, .null], [.int sx1, .ref sr0], m) = if gd_ok (gN m) sr0 9 = true then ((gd_call 68 [.ref sr0, .int sx1, .int 1] m).bind (gd_kV fun m2 => if gd_ok (gN m2) r0 9 = true then ((gd_call 71 [.int (gI m2 r0 10), .int 0, .int 4] m2).bind (gd_k0I fun z7 m5 => if gd_ok (gN m5) r0 9 = true then ((gd_call 68 [.ref r0, .int z7, .int 3] m5).bind (gd_kV fun m9 => if gd_ok (gN m9) r0 9 = true then (if (700 < (gI m9 r0 11) : Prop) then ((gd_call 68 [.ref r0, .int 0, .int 4] m9).bind (gd_kV fun m14 => if gd_ok (gN m14) r0 9 = true then (if gd_okA (gN m14) r1 11 (gI m14 r0 10) = true then (if ((gI m14 r1 ((gI m14 r0 10) : Int32).toNatClampNeg) = 0 : Prop) then ((gd_call 68 [.ref r0, .int 1, .int 5] m14).bind (gd_kV fun m20 => if gd_ok (gN m20) r0 9 = true then (if gd_okA (gN m20) r1 11 (gI m20 r0 10) = true then ((gd_call 69 [.ref r0] (wI m20 r1 ((gI m20 r0 10) : Int32).toNatClampNeg (vp_nar .boolean 1))).bind (gd_kV fun m24 => some (.int (gI m20 r0 10), m24))) else none) else none)) else ((gd_call 68 [.ref r0, .int 0, .int 5] m14).bind (gd_kV fun m26 => if gd_ok (gN m26) r0 9 = true then (if gd_okA (gN m26) r1 11 (gI m26 r0 10) = true then ((gd_call 69 [.ref r0] (wI m26 r1 ((gI m26 r0 10) : Int32).toNatClampNeg (vp_nar .boolean 1))).bind (gd_kV fun m30 => some (.int (gI m26 r0 10), m30))) else none) else none))) else none) else none)) else ((gd_call 68 [.ref r0, .int 1, .int 4] m9).bind (gd_kV fun m32 => if gd_ok (gN m32) r0 9 = true then (if gd_okA (gN m32) r1 11 (gI m32 r0 10) = true then (if ((gI m32 r1 ((gI m32 r0 10) : Int32).toNatClampNeg) = 0 : Prop) then ((gd_call 68 [.ref r0, .int 1, .int 5] m32).bind (gd_kV fun m38 => if gd_ok (gN m38) r0 9 = true then (if gd_okA (gN m38) r1 11 (gI m38 r0 10) = true then ((gd_call 69 [.ref r0] (wI m38 r1 ((gI m38 r0 10) : Int32).toNatClampNeg (vp_nar .boolean 1))).bind (gd_kV fun m42 => some (.int (gI m38 r0 10), m42))) else none) else none)) else ((gd_call 68 [.ref r0, .int 0, .int 5] m32).bind (gd_kV fun m44 => if gd_ok (gN m44) r0 9 = true then (if gd_okA (gN m44) r1 11 (gI m44 r0 10) = true then ((gd_call 69 [.ref r0] (wI m44 r1 ((gI m44 r0 10) : Int32).toNatClampNeg (vp_nar .boolean 1))).bind (gd_kV fun m48 => some (.int (gI m44 r0 10), m48))) else none) else none))) else none) else none))) else none)) else none)) else none)) else none := by
  refine Eq.trans (D_iconst (x := 1) gk_f79_14 gk_c_1) ?_
  refine Eq.trans (D_ivV (cl := 9) (args := [.ref sr0, .int sx1, .int 1]) (rest := []) gk_f79_15 rfl rfl (gd_rmk gk_rm79_68 gk_ln68 gk_ml68 rfl rfl rfl) gk_rk68 (gd_hnd_n gk_nc79) gk_nc68 gk_n11_68 gk_cl68) ?_
  refine gd_ite (fun h1 => ?_) (fun _ => rfl)
  refine gd_bnd (gd_kV_c fun m2 => ?_)
  refine Eq.trans (D_aload_n (x := r0) gk_f79_18 rfl) ?_
  refine Eq.trans (D_aload_n (x := r0) gk_f79_19 rfl) ?_
  refine Eq.trans (D_gfI gk_f79_20 (by decide) (by decide) (by decide)) ?_
  refine gd_ite (fun h4 => ?_) (fun _ => rfl)
  refine Eq.trans (D_iconst (x := 0) gk_f79_23 gk_c_0) ?_
  refine Eq.trans (D_iconst (x := 4) gk_f79_24 gk_c_4) ?_
  refine Eq.trans (D_isZ (args := [.int (gI m2 r0 10), .int 0, .int 4]) (rest := [.ref r0]) gk_f79_25 rfl rfl rfl (gd_rmk gk_rm79_71 gk_ln71 gk_ml71 rfl rfl rfl) gk_rk71 (gd_hnd_n gk_nc79)) ?_
  refine gd_bnd (gd_k0I_c fun z7 m5 => ?_)
  refine Eq.trans (D_iconst (x := 3) gk_f79_28 gk_c_3) ?_
  refine Eq.trans (D_ivV (cl := 9) (args := [.ref r0, .int z7, .int 3]) (rest := []) gk_f79_29 rfl rfl (gd_rmk gk_rm79_68 gk_ln68 gk_ml68 rfl rfl rfl) gk_rk68 (gd_hnd_n gk_nc79) gk_nc68 gk_n11_68 gk_cl68) ?_
  refine gd_ite (fun h8 => ?_) (fun _ => rfl)
  refine gd_bnd (gd_kV_c fun m9 => ?_)
  refine Eq.trans (D_aload_n (x := r0) gk_f79_32 rfl) ?_
  refine Eq.trans (D_aload_n (x := r0) gk_f79_33 rfl) ?_
  refine Eq.trans (D_gfI gk_f79_34 (by decide) (by decide) (by decide)) ?_
  refine gd_ite (fun h11 => ?_) (fun _ => rfl)
  refine Eq.trans (D_sipush (x := 700) gk_f79_37 gk_s_700) ?_
  refine Eq.trans (D_ic_gt (t := 47) gk_f79_40 (by decide)) ?_
  refine gd_ite (fun h12 => ?_) (fun h13 => ?_)
  · refine Eq.trans (D_iconst (x := 0) gk_f79_47 gk_c_0) ?_
    refine Eq.trans (D_iconst (x := 4) gk_f79_48 gk_c_4) ?_
    refine Eq.trans (D_ivV (cl := 9) (args := [.ref r0, .int 0, .int 4]) (rest := []) gk_f79_49 rfl rfl (gd_rmk gk_rm79_68 gk_ln68 gk_ml68 rfl rfl rfl) gk_rk68 (gd_hnd_n gk_nc79) gk_nc68 gk_n11_68 gk_cl68) ?_
    refine Eq.trans (if_pos h11) ?_
    refine gd_bnd (gd_kV_c fun m14 => ?_)
    refine Eq.trans (D_aload_n (x := r0) gk_f79_52 rfl) ?_
    refine Eq.trans (D_aload_n (x := r1) gk_f79_53 rfl) ?_
    refine Eq.trans (D_aload_n (x := r0) gk_f79_54 rfl) ?_
    refine Eq.trans (D_gfI gk_f79_55 (by decide) (by decide) (by decide)) ?_
    refine gd_ite (fun h16 => ?_) (fun _ => rfl)
    refine Eq.trans (D_bald (kd := 11) gk_f79_58 gk_n12_79 gk_bk79) ?_
    refine gd_ite (fun h17 => ?_) (fun _ => rfl)
    refine Eq.trans (D_if_ne (t := 66) gk_f79_59 (by decide)) ?_
    refine gd_ite (fun h18 => ?_) (fun h19 => ?_)
    · refine Eq.trans (D_iconst (x := 1) gk_f79_62 gk_c_1) ?_
      refine Eq.trans (D_goto (t := 67) gk_f79_63 (by decide)) ?_
      refine Eq.trans (D_iconst (x := 5) gk_f79_67 gk_c_5) ?_
      refine Eq.trans (D_ivV (cl := 9) (args := [.ref r0, .int 1, .int 5]) (rest := []) gk_f79_68 rfl rfl (gd_rmk gk_rm79_68 gk_ln68 gk_ml68 rfl rfl rfl) gk_rk68 (gd_hnd_n gk_nc79) gk_nc68 gk_n11_68 gk_cl68) ?_
      refine Eq.trans (if_pos h16) ?_
      refine gd_bnd (gd_kV_c fun m20 => ?_)
      refine Eq.trans (D_aload_n (x := r0) gk_f79_71 rfl) ?_
      refine Eq.trans (D_gfI gk_f79_72 (by decide) (by decide) (by decide)) ?_
      refine gd_ite (fun h22 => ?_) (fun _ => rfl)
      refine Eq.trans (D_istore_n gk_f79_75 gk_st79_2) ?_
      refine Eq.trans (D_aload_n (x := r1) gk_f79_76 rfl) ?_
      refine Eq.trans (D_iload_n (x := (gI m20 r0 10)) gk_f79_77 rfl) ?_
      refine Eq.trans (D_iconst (x := 1) gk_f79_78 gk_c_1) ?_
      refine Eq.trans (D_bastZ gk_f79_79 gk_b12_79) ?_
      refine gd_ite (fun h23 => ?_) (fun _ => rfl)
      refine Eq.trans (D_aload_n (x := r0) gk_f79_80 rfl) ?_
      refine Eq.trans (D_ivV (cl := 9) (args := [.ref r0]) (rest := []) gk_f79_81 rfl rfl (gd_rmk gk_rm79_69 gk_ln69 gk_ml69 rfl rfl rfl) gk_rk69 (gd_hnd_n gk_nc79) gk_nc69 gk_n11_69 gk_cl69) ?_
      refine Eq.trans (if_pos h22) ?_
      refine gd_bnd (gd_kV_c fun m24 => ?_)
      refine Eq.trans (D_iload_n (x := (gI m20 r0 10)) gk_f79_84 rfl) ?_
      refine Eq.trans (D_ireturn gk_f79_85 gk_rk79) ?_
      rfl
    · refine Eq.trans (D_iconst (x := 0) gk_f79_66 gk_c_0) ?_
      refine Eq.trans (D_iconst (x := 5) gk_f79_67 gk_c_5) ?_
      refine Eq.trans (D_ivV (cl := 9) (args := [.ref r0, .int 0, .int 5]) (rest := []) gk_f79_68 rfl rfl (gd_rmk gk_rm79_68 gk_ln68 gk_ml68 rfl rfl rfl) gk_rk68 (gd_hnd_n gk_nc79) gk_nc68 gk_n11_68 gk_cl68) ?_
      refine Eq.trans (if_pos h16) ?_
      refine gd_bnd (gd_kV_c fun m26 => ?_)
      refine Eq.trans (D_aload_n (x := r0) gk_f79_71 rfl) ?_
      refine Eq.trans (D_gfI gk_f79_72 (by decide) (by decide) (by decide)) ?_
      refine gd_ite (fun h28 => ?_) (fun _ => rfl)
      refine Eq.trans (D_istore_n gk_f79_75 gk_st79_2) ?_
      refine Eq.trans (D_aload_n (x := r1) gk_f79_76 rfl) ?_
      refine Eq.trans (D_iload_n (x := (gI m26 r0 10)) gk_f79_77 rfl) ?_
      refine Eq.trans (D_iconst (x := 1) gk_f79_78 gk_c_1) ?_
      refine Eq.trans (D_bastZ gk_f79_79 gk_b12_79) ?_
      refine gd_ite (fun h29 => ?_) (fun _ => rfl)
      refine Eq.trans (D_aload_n (x := r0) gk_f79_80 rfl) ?_
      refine Eq.trans (D_ivV (cl := 9) (args := [.ref r0]) (rest := []) gk_f79_81 rfl rfl (gd_rmk gk_rm79_69 gk_ln69 gk_ml69 rfl rfl rfl) gk_rk69 (gd_hnd_n gk_nc79) gk_nc69 gk_n11_69 gk_cl69) ?_
      refine Eq.trans (if_pos h28) ?_
      refine gd_bnd (gd_kV_c fun m30 => ?_)
      refine Eq.trans (D_iload_n (x := (gI m26 r0 10)) gk_f79_84 rfl) ?_
      refine Eq.trans (D_ireturn gk_f79_85 gk_rk79) ?_
      rfl
  · refine Eq.trans (D_iconst (x := 1) gk_f79_43 gk_c_1) ?_
    refine Eq.trans (D_goto (t := 48) gk_f79_44 (by decide)) ?_
    refine Eq.trans (D_iconst (x := 4) gk_f79_48 gk_c_4) ?_
    refine Eq.trans (D_ivV (cl := 9) (args := [.ref r0, .int 1, .int 4]) (rest := []) gk_f79_49 rfl rfl (gd_rmk gk_rm79_68 gk_ln68 gk_ml68 rfl rfl rfl) gk_rk68 (gd_hnd_n gk_nc79) gk_nc68 gk_n11_68 gk_cl68) ?_
    refine Eq.trans (if_pos h11) ?_
    refine gd_bnd (gd_kV_c fun m32 => ?_)
    refine Eq.trans (D_aload_n (x := r0) gk_f79_52 rfl) ?_
    refine Eq.trans (D_aload_n (x := r1) gk_f79_53 rfl) ?_
    refine Eq.trans (D_aload_n (x := r0) gk_f79_54 rfl) ?_
    refine Eq.trans (D_gfI gk_f79_55 (by decide) (by decide) (by decide)) ?_
    refine gd_ite (fun h34 => ?_) (fun _ => rfl)
    refine Eq.trans (D_bald (kd := 11) gk_f79_58 gk_n12_79 gk_bk79) ?_
    refine gd_ite (fun h35 => ?_) (fun _ => rfl)
    refine Eq.trans (D_if_ne (t := 66) gk_f79_59 (by decide)) ?_
    refine gd_ite (fun h36 => ?_) (fun h37 => ?_)
    · refine Eq.trans (D_iconst (x := 1) gk_f79_62 gk_c_1) ?_
      refine Eq.trans (D_goto (t := 67) gk_f79_63 (by decide)) ?_
      refine Eq.trans (D_iconst (x := 5) gk_f79_67 gk_c_5) ?_
      refine Eq.trans (D_ivV (cl := 9) (args := [.ref r0, .int 1, .int 5]) (rest := []) gk_f79_68 rfl rfl (gd_rmk gk_rm79_68 gk_ln68 gk_ml68 rfl rfl rfl) gk_rk68 (gd_hnd_n gk_nc79) gk_nc68 gk_n11_68 gk_cl68) ?_
      refine Eq.trans (if_pos h34) ?_
      refine gd_bnd (gd_kV_c fun m38 => ?_)
      refine Eq.trans (D_aload_n (x := r0) gk_f79_71 rfl) ?_
      refine Eq.trans (D_gfI gk_f79_72 (by decide) (by decide) (by decide)) ?_
      refine gd_ite (fun h40 => ?_) (fun _ => rfl)
      refine Eq.trans (D_istore_n gk_f79_75 gk_st79_2) ?_
      refine Eq.trans (D_aload_n (x := r1) gk_f79_76 rfl) ?_
      refine Eq.trans (D_iload_n (x := (gI m38 r0 10)) gk_f79_77 rfl) ?_
      refine Eq.trans (D_iconst (x := 1) gk_f79_78 gk_c_1) ?_
      refine Eq.trans (D_bastZ gk_f79_79 gk_b12_79) ?_
      refine gd_ite (fun h41 => ?_) (fun _ => rfl)
      refine Eq.trans (D_aload_n (x := r0) gk_f79_80 rfl) ?_
      refine Eq.trans (D_ivV (cl := 9) (args := [.ref r0]) (rest := []) gk_f79_81 rfl rfl (gd_rmk gk_rm79_69 gk_ln69 gk_ml69 rfl rfl rfl) gk_rk69 (gd_hnd_n gk_nc79) gk_nc69 gk_n11_69 gk_cl69) ?_
      refine Eq.trans (if_pos h40) ?_
      refine gd_bnd (gd_kV_c fun m42 => ?_)
      refine Eq.trans (D_iload_n (x := (gI m38 r0 10)) gk_f79_84 rfl) ?_
      refine Eq.trans (D_ireturn gk_f79_85 gk_rk79) ?_
      rfl
    · refine Eq.trans (D_iconst (x := 0) gk_f79_66 gk_c_0) ?_
      refine Eq.trans (D_iconst (x := 5) gk_f79_67 gk_c_5) ?_
      refine Eq.trans (D_ivV (cl := 9) (args := [.ref r0, .int 0, .int 5]) (rest := []) gk_f79_68 rfl rfl (gd_rmk gk_rm79_68 gk_ln68 gk_ml68 rfl rfl rfl) gk_rk68 (gd_hnd_n gk_nc79) gk_nc68 gk_n11_68 gk_cl68) ?_
      refine Eq.trans (if_pos h34) ?_
      refine gd_bnd (gd_kV_c fun m44 => ?_)
      refine Eq.trans (D_aload_n (x := r0) gk_f79_71 rfl) ?_
      refine Eq.trans (D_gfI gk_f79_72 (by decide) (by decide) (by decide)) ?_
      refine gd_ite (fun h46 => ?_) (fun _ => rfl)
      refine Eq.trans (D_istore_n gk_f79_75 gk_st79_2) ?_
      refine Eq.trans (D_aload_n (x := r1) gk_f79_76 rfl) ?_
      refine Eq.trans (D_iload_n (x := (gI m44 r0 10)) gk_f79_77 rfl) ?_
      refine Eq.trans (D_iconst (x := 1) gk_f79_78 gk_c_1) ?_
      refine Eq.trans (D_bastZ gk_f79_79 gk_b12_79) ?_
      refine gd_ite (fun h47 => ?_) (fun _ => rfl)
      refine Eq.trans (D_aload_n (x := r0) gk_f79_80 rfl) ?_
      refine Eq.trans (D_ivV (cl := 9) (args := [.ref r0]) (rest := []) gk_f79_81 rfl rfl (gd_rmk gk_rm79_69 gk_ln69 gk_ml69 rfl rfl rfl) gk_rk69 (gd_hnd_n gk_nc79) gk_nc69 gk_n11_69 gk_cl69) ?_
      refine Eq.trans (if_pos h46) ?_
      refine gd_bnd (gd_kV_c fun m48 => ?_)
      refine Eq.trans (D_iload_n (x := (gI m44 r0 10)) gk_f79_84 rfl) ?_
      refine Eq.trans (D_ireturn gk_f79_85 gk_rk79) ?_
      rfl
/-! GymDeskModel.once (Z)V -/
set_option maxRecDepth 20000 in
theorem gk_f80_0 : gd_fetch 80 0 = some (0, .aload_n 0, 1, 0, 0, 0, 0, 0) := rfl
set_option maxRecDepth 20000 in
theorem gk_f80_1 : gd_fetch 80 1 = some (1, .aload_n 0, 1, 0, 0, 0, 0, 0) := rfl
set_option maxRecDepth 20000 in
theorem gk_f80_2 : gd_fetch 80 2 = some (2, .getfield 148, 3, 1174, 9, 11, 0, 0) := rfl
set_option maxRecDepth 20000 in
theorem gk_f80_5 : gd_fetch 80 5 = some (5, .sipush 700, 3, 0, 0, 0, 0, 0) := rfl
set_option maxRecDepth 20000 in
theorem gk_f80_8 : gd_fetch 80 8 = some (8, .if_icmp .gt 7, 3, 0, 0, 0, 0, 0) := rfl
set_option maxRecDepth 20000 in
theorem gk_f80_11 : gd_fetch 80 11 = some (11, .iconst 1, 1, 0, 0, 0, 0, 0) := rfl
set_option maxRecDepth 20000 in
theorem gk_f80_12 : gd_fetch 80 12 = some (12, .goto 4, 3, 0, 0, 0, 0, 0) := rfl
set_option maxRecDepth 20000 in
theorem gk_f80_15 : gd_fetch 80 15 = some (15, .iconst 0, 1, 0, 0, 0, 0, 0) := rfl
set_option maxRecDepth 20000 in
theorem gk_f80_16 : gd_fetch 80 16 = some (16, .iconst 4, 1, 0, 0, 0, 0, 0) := rfl
set_option maxRecDepth 20000 in
theorem gk_f80_17 : gd_fetch 80 17 = some (17, .invokevirtual 179, 3, 1340, 68, 2, 0, 0) := rfl
set_option maxRecDepth 20000 in
theorem gk_f80_20 : gd_fetch 80 20 = some (20, .aload_n 0, 1, 0, 0, 0, 0, 0) := rfl
set_option maxRecDepth 20000 in
theorem gk_f80_21 : gd_fetch 80 21 = some (21, .iload_n 1, 1, 0, 0, 0, 0, 0) := rfl
set_option maxRecDepth 20000 in
theorem gk_f80_22 : gd_fetch 80 22 = some (22, .ifCond .ne 7, 3, 0, 0, 0, 0, 0) := rfl
set_option maxRecDepth 20000 in
theorem gk_f80_25 : gd_fetch 80 25 = some (25, .iconst 1, 1, 0, 0, 0, 0, 0) := rfl
set_option maxRecDepth 20000 in
theorem gk_f80_26 : gd_fetch 80 26 = some (26, .goto 4, 3, 0, 0, 0, 0, 0) := rfl
set_option maxRecDepth 20000 in
theorem gk_f80_29 : gd_fetch 80 29 = some (29, .iconst 0, 1, 0, 0, 0, 0, 0) := rfl
set_option maxRecDepth 20000 in
theorem gk_f80_30 : gd_fetch 80 30 = some (30, .iconst 5, 1, 0, 0, 0, 0, 0) := rfl
set_option maxRecDepth 20000 in
theorem gk_f80_31 : gd_fetch 80 31 = some (31, .invokevirtual 179, 3, 1340, 68, 2, 0, 0) := rfl
set_option maxRecDepth 20000 in
theorem gk_f80_34 : gd_fetch 80 34 = some (34, .aload_n 0, 1, 0, 0, 0, 0, 0) := rfl
set_option maxRecDepth 20000 in
theorem gk_f80_35 : gd_fetch 80 35 = some (35, .invokevirtual 189, 3, 1348, 69, 0, 0, 0) := rfl
set_option maxRecDepth 20000 in
theorem gk_f80_38 : gd_fetch 80 38 = some (38, .return_, 1, 0, 0, 0, 0, 0) := rfl
set_option maxRecDepth 20000 in
set_option maxHeartbeats 4000000 in
theorem q_Mo_once (r0 : Nat) (x1 : Int32) (m : gd_M) : gd_call 80 [.ref r0, .int x1] m = if gd_ok (gN m) r0 9 = true then (if (700 < (gI m r0 11) : Prop) then ((gd_call 68 [.ref r0, .int 0, .int 4] m).bind (gd_kV fun m4 => if (x1 = 0 : Prop) then (if gd_ok (gN m4) r0 9 = true then ((gd_call 68 [.ref r0, .int 1, .int 5] m4).bind (gd_kV fun m9 => if gd_ok (gN m9) r0 9 = true then ((gd_call 69 [.ref r0] m9).bind (gd_kV fun m12 => some (.null, m12))) else none)) else none) else (if gd_ok (gN m4) r0 9 = true then ((gd_call 68 [.ref r0, .int 0, .int 5] m4).bind (gd_kV fun m15 => if gd_ok (gN m15) r0 9 = true then ((gd_call 69 [.ref r0] m15).bind (gd_kV fun m18 => some (.null, m18))) else none)) else none))) else ((gd_call 68 [.ref r0, .int 1, .int 4] m).bind (gd_kV fun m20 => if (x1 = 0 : Prop) then (if gd_ok (gN m20) r0 9 = true then ((gd_call 68 [.ref r0, .int 1, .int 5] m20).bind (gd_kV fun m25 => if gd_ok (gN m25) r0 9 = true then ((gd_call 69 [.ref r0] m25).bind (gd_kV fun m28 => some (.null, m28))) else none)) else none) else (if gd_ok (gN m20) r0 9 = true then ((gd_call 68 [.ref r0, .int 0, .int 5] m20).bind (gd_kV fun m31 => if gd_ok (gN m31) r0 9 = true then ((gd_call 69 [.ref r0] m31).bind (gd_kV fun m34 => some (.null, m34))) else none)) else none)))) else none := by
  refine Eq.trans (show gd_call 80 [.ref r0, .int x1] m = gd_Den (80, 0, [.ref r0, .int x1], [], m) from by unfold gd_call gd_ent; rw [gk_ml80]; rfl) ?_
  refine Eq.trans (D_aload_n (x := r0) gk_f80_0 rfl) ?_
  refine Eq.trans (D_aload_n (x := r0) gk_f80_1 rfl) ?_
  refine Eq.trans (D_gfI gk_f80_2 (by decide) (by decide) (by decide)) ?_
  refine gd_ite (fun h1 => ?_) (fun _ => rfl)
  refine Eq.trans (D_sipush (x := 700) gk_f80_5 gk_s_700) ?_
  refine Eq.trans (D_ic_gt (t := 15) gk_f80_8 (by decide)) ?_
  refine gd_ite (fun h2 => ?_) (fun h3 => ?_)
  · refine Eq.trans (D_iconst (x := 0) gk_f80_15 gk_c_0) ?_
    refine Eq.trans (D_iconst (x := 4) gk_f80_16 gk_c_4) ?_
    refine Eq.trans (D_ivV (cl := 9) (args := [.ref r0, .int 0, .int 4]) (rest := []) gk_f80_17 rfl rfl (gd_rmk gk_rm80_68 gk_ln68 gk_ml68 rfl rfl rfl) gk_rk68 (gd_hnd_n gk_nc80) gk_nc68 gk_n11_68 gk_cl68) ?_
    refine Eq.trans (if_pos h1) ?_
    refine gd_bnd (gd_kV_c fun m4 => ?_)
    refine Eq.trans (D_aload_n (x := r0) gk_f80_20 rfl) ?_
    refine Eq.trans (D_iload_n (x := x1) gk_f80_21 rfl) ?_
    refine Eq.trans (D_if_ne (t := 29) gk_f80_22 (by decide)) ?_
    refine gd_ite (fun h6 => ?_) (fun h7 => ?_)
    · refine Eq.trans (D_iconst (x := 1) gk_f80_25 gk_c_1) ?_
      refine Eq.trans (D_goto (t := 30) gk_f80_26 (by decide)) ?_
      refine Eq.trans (D_iconst (x := 5) gk_f80_30 gk_c_5) ?_
      refine Eq.trans (D_ivV (cl := 9) (args := [.ref r0, .int 1, .int 5]) (rest := []) gk_f80_31 rfl rfl (gd_rmk gk_rm80_68 gk_ln68 gk_ml68 rfl rfl rfl) gk_rk68 (gd_hnd_n gk_nc80) gk_nc68 gk_n11_68 gk_cl68) ?_
      refine gd_ite (fun h8 => ?_) (fun _ => rfl)
      refine gd_bnd (gd_kV_c fun m9 => ?_)
      refine Eq.trans (D_aload_n (x := r0) gk_f80_34 rfl) ?_
      refine Eq.trans (D_ivV (cl := 9) (args := [.ref r0]) (rest := []) gk_f80_35 rfl rfl (gd_rmk gk_rm80_69 gk_ln69 gk_ml69 rfl rfl rfl) gk_rk69 (gd_hnd_n gk_nc80) gk_nc69 gk_n11_69 gk_cl69) ?_
      refine gd_ite (fun h11 => ?_) (fun _ => rfl)
      refine gd_bnd (gd_kV_c fun m12 => ?_)
      refine Eq.trans (D_vreturn gk_f80_38 gk_rk80) ?_
      rfl
    · refine Eq.trans (D_iconst (x := 0) gk_f80_29 gk_c_0) ?_
      refine Eq.trans (D_iconst (x := 5) gk_f80_30 gk_c_5) ?_
      refine Eq.trans (D_ivV (cl := 9) (args := [.ref r0, .int 0, .int 5]) (rest := []) gk_f80_31 rfl rfl (gd_rmk gk_rm80_68 gk_ln68 gk_ml68 rfl rfl rfl) gk_rk68 (gd_hnd_n gk_nc80) gk_nc68 gk_n11_68 gk_cl68) ?_
      refine gd_ite (fun h14 => ?_) (fun _ => rfl)
      refine gd_bnd (gd_kV_c fun m15 => ?_)
      refine Eq.trans (D_aload_n (x := r0) gk_f80_34 rfl) ?_
      refine Eq.trans (D_ivV (cl := 9) (args := [.ref r0]) (rest := []) gk_f80_35 rfl rfl (gd_rmk gk_rm80_69 gk_ln69 gk_ml69 rfl rfl rfl) gk_rk69 (gd_hnd_n gk_nc80) gk_nc69 gk_n11_69 gk_cl69) ?_
      refine gd_ite (fun h17 => ?_) (fun _ => rfl)
      refine gd_bnd (gd_kV_c fun m18 => ?_)
      refine Eq.trans (D_vreturn gk_f80_38 gk_rk80) ?_
      rfl
  · refine Eq.trans (D_iconst (x := 1) gk_f80_11 gk_c_1) ?_
    refine Eq.trans (D_goto (t := 16) gk_f80_12 (by decide)) ?_
    refine Eq.trans (D_iconst (x := 4) gk_f80_16 gk_c_4) ?_
    refine Eq.trans (D_ivV (cl := 9) (args := [.ref r0, .int 1, .int 4]) (rest := []) gk_f80_17 rfl rfl (gd_rmk gk_rm80_68 gk_ln68 gk_ml68 rfl rfl rfl) gk_rk68 (gd_hnd_n gk_nc80) gk_nc68 gk_n11_68 gk_cl68) ?_
    refine Eq.trans (if_pos h1) ?_
    refine gd_bnd (gd_kV_c fun m20 => ?_)
    refine Eq.trans (D_aload_n (x := r0) gk_f80_20 rfl) ?_
    refine Eq.trans (D_iload_n (x := x1) gk_f80_21 rfl) ?_
    refine Eq.trans (D_if_ne (t := 29) gk_f80_22 (by decide)) ?_
    refine gd_ite (fun h22 => ?_) (fun h23 => ?_)
    · refine Eq.trans (D_iconst (x := 1) gk_f80_25 gk_c_1) ?_
      refine Eq.trans (D_goto (t := 30) gk_f80_26 (by decide)) ?_
      refine Eq.trans (D_iconst (x := 5) gk_f80_30 gk_c_5) ?_
      refine Eq.trans (D_ivV (cl := 9) (args := [.ref r0, .int 1, .int 5]) (rest := []) gk_f80_31 rfl rfl (gd_rmk gk_rm80_68 gk_ln68 gk_ml68 rfl rfl rfl) gk_rk68 (gd_hnd_n gk_nc80) gk_nc68 gk_n11_68 gk_cl68) ?_
      refine gd_ite (fun h24 => ?_) (fun _ => rfl)
      refine gd_bnd (gd_kV_c fun m25 => ?_)
      refine Eq.trans (D_aload_n (x := r0) gk_f80_34 rfl) ?_
      refine Eq.trans (D_ivV (cl := 9) (args := [.ref r0]) (rest := []) gk_f80_35 rfl rfl (gd_rmk gk_rm80_69 gk_ln69 gk_ml69 rfl rfl rfl) gk_rk69 (gd_hnd_n gk_nc80) gk_nc69 gk_n11_69 gk_cl69) ?_
      refine gd_ite (fun h27 => ?_) (fun _ => rfl)
      refine gd_bnd (gd_kV_c fun m28 => ?_)
      refine Eq.trans (D_vreturn gk_f80_38 gk_rk80) ?_
      rfl
    · refine Eq.trans (D_iconst (x := 0) gk_f80_29 gk_c_0) ?_
      refine Eq.trans (D_iconst (x := 5) gk_f80_30 gk_c_5) ?_
      refine Eq.trans (D_ivV (cl := 9) (args := [.ref r0, .int 0, .int 5]) (rest := []) gk_f80_31 rfl rfl (gd_rmk gk_rm80_68 gk_ln68 gk_ml68 rfl rfl rfl) gk_rk68 (gd_hnd_n gk_nc80) gk_nc68 gk_n11_68 gk_cl68) ?_
      refine gd_ite (fun h30 => ?_) (fun _ => rfl)
      refine gd_bnd (gd_kV_c fun m31 => ?_)
      refine Eq.trans (D_aload_n (x := r0) gk_f80_34 rfl) ?_
      refine Eq.trans (D_ivV (cl := 9) (args := [.ref r0]) (rest := []) gk_f80_35 rfl rfl (gd_rmk gk_rm80_69 gk_ln69 gk_ml69 rfl rfl rfl) gk_rk69 (gd_hnd_n gk_nc80) gk_nc69 gk_n11_69 gk_cl69) ?_
      refine gd_ite (fun h33 => ?_) (fun _ => rfl)
      refine gd_bnd (gd_kV_c fun m34 => ?_)
      refine Eq.trans (D_vreturn gk_f80_38 gk_rk80) ?_
      rfl
/-! GymDeskModel.readLine ()V -/
set_option maxRecDepth 20000 in
theorem gk_f81_0 : gd_fetch 81 0 = some (0, .aload_n 0, 1, 0, 0, 0, 0, 0) := rfl
set_option maxRecDepth 20000 in
theorem gk_f81_1 : gd_fetch 81 1 = some (1, .aload_n 0, 1, 0, 0, 0, 0, 0) := rfl
set_option maxRecDepth 20000 in
theorem gk_f81_2 : gd_fetch 81 2 = some (2, .getfield 145, 3, 1169, 9, 6, 0, 0) := rfl
set_option maxRecDepth 20000 in
theorem gk_f81_5 : gd_fetch 81 5 = some (5, .iconst 2, 1, 0, 0, 0, 0, 0) := rfl
set_option maxRecDepth 20000 in
theorem gk_f81_6 : gd_fetch 81 6 = some (6, .if_icmp .ne 16, 3, 0, 0, 0, 0, 0) := rfl
set_option maxRecDepth 20000 in
theorem gk_f81_9 : gd_fetch 81 9 = some (9, .aload_n 0, 1, 0, 0, 0, 0, 0) := rfl
set_option maxRecDepth 20000 in
theorem gk_f81_10 : gd_fetch 81 10 = some (10, .getfield 159, 3, 1170, 9, 7, 0, 0) := rfl
set_option maxRecDepth 20000 in
theorem gk_f81_13 : gd_fetch 81 13 = some (13, .bipush 9, 2, 0, 0, 0, 0, 0) := rfl
set_option maxRecDepth 20000 in
theorem gk_f81_15 : gd_fetch 81 15 = some (15, .if_icmp .gt 7, 3, 0, 0, 0, 0, 0) := rfl
set_option maxRecDepth 20000 in
theorem gk_f81_18 : gd_fetch 81 18 = some (18, .iconst 1, 1, 0, 0, 0, 0, 0) := rfl
set_option maxRecDepth 20000 in
theorem gk_f81_19 : gd_fetch 81 19 = some (19, .goto 4, 3, 0, 0, 0, 0, 0) := rfl
set_option maxRecDepth 20000 in
theorem gk_f81_22 : gd_fetch 81 22 = some (22, .iconst 0, 1, 0, 0, 0, 0, 0) := rfl
set_option maxRecDepth 20000 in
theorem gk_f81_23 : gd_fetch 81 23 = some (23, .iconst 1, 1, 0, 0, 0, 0, 0) := rfl
set_option maxRecDepth 20000 in
theorem gk_f81_24 : gd_fetch 81 24 = some (24, .invokevirtual 179, 3, 1340, 68, 2, 0, 0) := rfl
set_option maxRecDepth 20000 in
theorem gk_f81_27 : gd_fetch 81 27 = some (27, .aload_n 0, 1, 0, 0, 0, 0, 0) := rfl
set_option maxRecDepth 20000 in
theorem gk_f81_28 : gd_fetch 81 28 = some (28, .getfield 159, 3, 1170, 9, 7, 0, 0) := rfl
set_option maxRecDepth 20000 in
theorem gk_f81_31 : gd_fetch 81 31 = some (31, .tableswitch 377 0 8 #[49, 56, 70, 130, 168, 204, 63, 260, 316], 49, 0, 0, 0, 0, 0) := rfl
set_option maxRecDepth 20000 in
theorem gk_f81_80 : gd_fetch 81 80 = some (80, .aload_n 0, 1, 0, 0, 0, 0, 0) := rfl
set_option maxRecDepth 20000 in
theorem gk_f81_81 : gd_fetch 81 81 = some (81, .invokevirtual 256, 3, 1344, 76, 0, 0, 0) := rfl
set_option maxRecDepth 20000 in
theorem gk_f81_84 : gd_fetch 81 84 = some (84, .goto 377, 3, 0, 0, 0, 0, 0) := rfl
set_option maxRecDepth 20000 in
theorem gk_f81_87 : gd_fetch 81 87 = some (87, .aload_n 0, 1, 0, 0, 0, 0, 0) := rfl
set_option maxRecDepth 20000 in
theorem gk_f81_88 : gd_fetch 81 88 = some (88, .invokevirtual 259, 3, 1375, 77, 0, 0, 0) := rfl
set_option maxRecDepth 20000 in
theorem gk_f81_91 : gd_fetch 81 91 = some (91, .goto 370, 3, 0, 0, 0, 0, 0) := rfl
set_option maxRecDepth 20000 in
theorem gk_f81_94 : gd_fetch 81 94 = some (94, .aload_n 0, 1, 0, 0, 0, 0, 0) := rfl
set_option maxRecDepth 20000 in
theorem gk_f81_95 : gd_fetch 81 95 = some (95, .invokevirtual 262, 3, 1379, 78, 0, 0, 0) := rfl
set_option maxRecDepth 20000 in
theorem gk_f81_98 : gd_fetch 81 98 = some (98, .goto 363, 3, 0, 0, 0, 0, 0) := rfl
set_option maxRecDepth 20000 in
theorem gk_f81_101 : gd_fetch 81 101 = some (101, .aload_n 0, 1, 0, 0, 0, 0, 0) := rfl
set_option maxRecDepth 20000 in
theorem gk_f81_102 : gd_fetch 81 102 = some (102, .invokevirtual 189, 3, 1348, 69, 0, 0, 0) := rfl
set_option maxRecDepth 20000 in
theorem gk_f81_105 : gd_fetch 81 105 = some (105, .aload_n 0, 1, 0, 0, 0, 0, 0) := rfl
set_option maxRecDepth 20000 in
theorem gk_f81_106 : gd_fetch 81 106 = some (106, .aload_n 0, 1, 0, 0, 0, 0, 0) := rfl
set_option maxRecDepth 20000 in
theorem gk_f81_107 : gd_fetch 81 107 = some (107, .getfield 34, 3, 1179, 9, 16, 4, 1) := rfl
set_option maxRecDepth 20000 in
theorem gk_f81_110 : gd_fetch 81 110 = some (110, .invokevirtual 265, 3, 1383, 79, 1, 0, 0) := rfl
set_option maxRecDepth 20000 in
theorem gk_f81_113 : gd_fetch 81 113 = some (113, .istore_n 1, 1, 0, 0, 0, 0, 0) := rfl
set_option maxRecDepth 20000 in
theorem gk_f81_114 : gd_fetch 81 114 = some (114, .aload_n 0, 1, 0, 0, 0, 0, 0) := rfl
set_option maxRecDepth 20000 in
theorem gk_f81_115 : gd_fetch 81 115 = some (115, .bipush 12, 2, 0, 0, 0, 0, 0) := rfl
set_option maxRecDepth 20000 in
theorem gk_f81_117 : gd_fetch 81 117 = some (117, .invokevirtual 216, 3, 1363, 74, 1, 0, 0) := rfl
set_option maxRecDepth 20000 in
theorem gk_f81_120 : gd_fetch 81 120 = some (120, .aload_n 0, 1, 0, 0, 0, 0, 0) := rfl
set_option maxRecDepth 20000 in
theorem gk_f81_121 : gd_fetch 81 121 = some (121, .getfield 23, 3, 1165, 9, 2, 4, 0) := rfl
set_option maxRecDepth 20000 in
theorem gk_f81_124 : gd_fetch 81 124 = some (124, .getfield 269, 3, 1061, 7, 15, 4, 1) := rfl
set_option maxRecDepth 20000 in
theorem gk_f81_127 : gd_fetch 81 127 = some (127, .iload_n 1, 1, 0, 0, 0, 0, 0) := rfl
set_option maxRecDepth 20000 in
theorem gk_f81_128 : gd_fetch 81 128 = some (128, .aload_n 0, 1, 0, 0, 0, 0, 0) := rfl
set_option maxRecDepth 20000 in
theorem gk_f81_129 : gd_fetch 81 129 = some (129, .iconst 1, 1, 0, 0, 0, 0, 0) := rfl
set_option maxRecDepth 20000 in
theorem gk_f81_130 : gd_fetch 81 130 = some (130, .bipush 10, 2, 0, 0, 0, 0, 0) := rfl
set_option maxRecDepth 20000 in
theorem gk_f81_132 : gd_fetch 81 132 = some (132, .invokevirtual 213, 3, 1356, 72, 2, 0, 0) := rfl
set_option maxRecDepth 20000 in
theorem gk_f81_135 : gd_fetch 81 135 = some (135, .iastore, 1, 0, 0, 0, 0, 0) := rfl
set_option maxRecDepth 20000 in
theorem gk_f81_136 : gd_fetch 81 136 = some (136, .aload_n 0, 1, 0, 0, 0, 0, 0) := rfl
set_option maxRecDepth 20000 in
theorem gk_f81_137 : gd_fetch 81 137 = some (137, .bipush 13, 2, 0, 0, 0, 0, 0) := rfl
set_option maxRecDepth 20000 in
theorem gk_f81_139 : gd_fetch 81 139 = some (139, .invokevirtual 216, 3, 1363, 74, 1, 0, 0) := rfl
set_option maxRecDepth 20000 in
theorem gk_f81_142 : gd_fetch 81 142 = some (142, .aload_n 0, 1, 0, 0, 0, 0, 0) := rfl
set_option maxRecDepth 20000 in
theorem gk_f81_143 : gd_fetch 81 143 = some (143, .getfield 23, 3, 1165, 9, 2, 4, 0) := rfl
set_option maxRecDepth 20000 in
theorem gk_f81_146 : gd_fetch 81 146 = some (146, .getfield 272, 3, 1063, 7, 16, 4, 1) := rfl
set_option maxRecDepth 20000 in
theorem gk_f81_149 : gd_fetch 81 149 = some (149, .iload_n 1, 1, 0, 0, 0, 0, 0) := rfl
set_option maxRecDepth 20000 in
theorem gk_f81_150 : gd_fetch 81 150 = some (150, .aload_n 0, 1, 0, 0, 0, 0, 0) := rfl
set_option maxRecDepth 20000 in
theorem gk_f81_151 : gd_fetch 81 151 = some (151, .iconst 1, 1, 0, 0, 0, 0, 0) := rfl
set_option maxRecDepth 20000 in
theorem gk_f81_152 : gd_fetch 81 152 = some (152, .bipush 20, 2, 0, 0, 0, 0, 0) := rfl
set_option maxRecDepth 20000 in
theorem gk_f81_154 : gd_fetch 81 154 = some (154, .invokevirtual 213, 3, 1356, 72, 2, 0, 0) := rfl
set_option maxRecDepth 20000 in
theorem gk_f81_157 : gd_fetch 81 157 = some (157, .iastore, 1, 0, 0, 0, 0, 0) := rfl
set_option maxRecDepth 20000 in
theorem gk_f81_158 : gd_fetch 81 158 = some (158, .goto 303, 3, 0, 0, 0, 0, 0) := rfl
set_option maxRecDepth 20000 in
theorem gk_f81_161 : gd_fetch 81 161 = some (161, .aload_n 0, 1, 0, 0, 0, 0, 0) := rfl
set_option maxRecDepth 20000 in
theorem gk_f81_162 : gd_fetch 81 162 = some (162, .invokevirtual 189, 3, 1348, 69, 0, 0, 0) := rfl
set_option maxRecDepth 20000 in
theorem gk_f81_165 : gd_fetch 81 165 = some (165, .aload_n 0, 1, 0, 0, 0, 0, 0) := rfl
set_option maxRecDepth 20000 in
theorem gk_f81_166 : gd_fetch 81 166 = some (166, .iconst 0, 1, 0, 0, 0, 0, 0) := rfl
set_option maxRecDepth 20000 in
theorem gk_f81_167 : gd_fetch 81 167 = some (167, .bipush 10, 2, 0, 0, 0, 0, 0) := rfl
set_option maxRecDepth 20000 in
theorem gk_f81_169 : gd_fetch 81 169 = some (169, .invokevirtual 213, 3, 1356, 72, 2, 0, 0) := rfl
set_option maxRecDepth 20000 in
theorem gk_f81_172 : gd_fetch 81 172 = some (172, .istore_n 1, 1, 0, 0, 0, 0, 0) := rfl
set_option maxRecDepth 20000 in
theorem gk_f81_173 : gd_fetch 81 173 = some (173, .aload_n 0, 1, 0, 0, 0, 0, 0) := rfl
set_option maxRecDepth 20000 in
theorem gk_f81_174 : gd_fetch 81 174 = some (174, .bipush 14, 2, 0, 0, 0, 0, 0) := rfl
set_option maxRecDepth 20000 in
theorem gk_f81_176 : gd_fetch 81 176 = some (176, .invokevirtual 216, 3, 1363, 74, 1, 0, 0) := rfl
set_option maxRecDepth 20000 in
theorem gk_f81_179 : gd_fetch 81 179 = some (179, .aload_n 0, 1, 0, 0, 0, 0, 0) := rfl
set_option maxRecDepth 20000 in
theorem gk_f81_180 : gd_fetch 81 180 = some (180, .getfield 23, 3, 1165, 9, 2, 4, 0) := rfl
set_option maxRecDepth 20000 in
theorem gk_f81_183 : gd_fetch 81 183 = some (183, .getfield 274, 3, 1065, 7, 17, 4, 1) := rfl
set_option maxRecDepth 20000 in
theorem gk_f81_186 : gd_fetch 81 186 = some (186, .aload_n 0, 1, 0, 0, 0, 0, 0) := rfl
set_option maxRecDepth 20000 in
theorem gk_f81_187 : gd_fetch 81 187 = some (187, .aload_n 0, 1, 0, 0, 0, 0, 0) := rfl
set_option maxRecDepth 20000 in
theorem gk_f81_188 : gd_fetch 81 188 = some (188, .getfield 38, 3, 1180, 9, 17, 4, 1) := rfl
set_option maxRecDepth 20000 in
theorem gk_f81_191 : gd_fetch 81 191 = some (191, .invokevirtual 265, 3, 1383, 79, 1, 0, 0) := rfl
set_option maxRecDepth 20000 in
theorem gk_f81_194 : gd_fetch 81 194 = some (194, .iload_n 1, 1, 0, 0, 0, 0, 0) := rfl
set_option maxRecDepth 20000 in
theorem gk_f81_195 : gd_fetch 81 195 = some (195, .iastore, 1, 0, 0, 0, 0, 0) := rfl
set_option maxRecDepth 20000 in
theorem gk_f81_196 : gd_fetch 81 196 = some (196, .goto 265, 3, 0, 0, 0, 0, 0) := rfl
set_option maxRecDepth 20000 in
theorem gk_f81_199 : gd_fetch 81 199 = some (199, .aload_n 0, 1, 0, 0, 0, 0, 0) := rfl
set_option maxRecDepth 20000 in
theorem gk_f81_200 : gd_fetch 81 200 = some (200, .aload_n 0, 1, 0, 0, 0, 0, 0) := rfl
set_option maxRecDepth 20000 in
theorem gk_f81_201 : gd_fetch 81 201 = some (201, .getfield 23, 3, 1165, 9, 2, 4, 0) := rfl
set_option maxRecDepth 20000 in
theorem gk_f81_204 : gd_fetch 81 204 = some (204, .getfield 277, 3, 1085, 7, 27, 1, 0) := rfl
set_option maxRecDepth 20000 in
theorem gk_f81_207 : gd_fetch 81 207 = some (207, .invokevirtual 281, 3, 1387, 80, 1, 0, 0) := rfl
set_option maxRecDepth 20000 in
theorem gk_f81_210 : gd_fetch 81 210 = some (210, .aload_n 0, 1, 0, 0, 0, 0, 0) := rfl
set_option maxRecDepth 20000 in
theorem gk_f81_211 : gd_fetch 81 211 = some (211, .getfield 23, 3, 1165, 9, 2, 4, 0) := rfl
set_option maxRecDepth 20000 in
theorem gk_f81_214 : gd_fetch 81 214 = some (214, .iconst 1, 1, 0, 0, 0, 0, 0) := rfl
set_option maxRecDepth 20000 in
theorem gk_f81_215 : gd_fetch 81 215 = some (215, .putfield 277, 3, 1085, 7, 27, 1, 0) := rfl
set_option maxRecDepth 20000 in
theorem gk_f81_218 : gd_fetch 81 218 = some (218, .aload_n 0, 1, 0, 0, 0, 0, 0) := rfl
set_option maxRecDepth 20000 in
theorem gk_f81_219 : gd_fetch 81 219 = some (219, .getfield 23, 3, 1165, 9, 2, 4, 0) := rfl
set_option maxRecDepth 20000 in
theorem gk_f81_222 : gd_fetch 81 222 = some (222, .aload_n 0, 1, 0, 0, 0, 0, 0) := rfl
set_option maxRecDepth 20000 in
theorem gk_f81_223 : gd_fetch 81 223 = some (223, .iconst 1, 1, 0, 0, 0, 0, 0) := rfl
set_option maxRecDepth 20000 in
theorem gk_f81_224 : gd_fetch 81 224 = some (224, .bipush 10, 2, 0, 0, 0, 0, 0) := rfl
set_option maxRecDepth 20000 in
theorem gk_f81_226 : gd_fetch 81 226 = some (226, .invokevirtual 213, 3, 1356, 72, 2, 0, 0) := rfl
set_option maxRecDepth 20000 in
theorem gk_f81_229 : gd_fetch 81 229 = some (229, .putfield 285, 3, 1067, 7, 18, 0, 0) := rfl
set_option maxRecDepth 20000 in
theorem gk_f81_232 : gd_fetch 81 232 = some (232, .goto 229, 3, 0, 0, 0, 0, 0) := rfl
set_option maxRecDepth 20000 in
theorem gk_f81_235 : gd_fetch 81 235 = some (235, .aload_n 0, 1, 0, 0, 0, 0, 0) := rfl
set_option maxRecDepth 20000 in
theorem gk_f81_236 : gd_fetch 81 236 = some (236, .aload_n 0, 1, 0, 0, 0, 0, 0) := rfl
set_option maxRecDepth 20000 in
theorem gk_f81_237 : gd_fetch 81 237 = some (237, .getfield 23, 3, 1165, 9, 2, 4, 0) := rfl
set_option maxRecDepth 20000 in
theorem gk_f81_240 : gd_fetch 81 240 = some (240, .getfield 288, 3, 1087, 7, 28, 1, 0) := rfl
set_option maxRecDepth 20000 in
theorem gk_f81_243 : gd_fetch 81 243 = some (243, .invokevirtual 281, 3, 1387, 80, 1, 0, 0) := rfl
set_option maxRecDepth 20000 in
theorem gk_f81_246 : gd_fetch 81 246 = some (246, .aload_n 0, 1, 0, 0, 0, 0, 0) := rfl
set_option maxRecDepth 20000 in
theorem gk_f81_247 : gd_fetch 81 247 = some (247, .getfield 23, 3, 1165, 9, 2, 4, 0) := rfl
set_option maxRecDepth 20000 in
theorem gk_f81_250 : gd_fetch 81 250 = some (250, .iconst 1, 1, 0, 0, 0, 0, 0) := rfl
set_option maxRecDepth 20000 in
theorem gk_f81_251 : gd_fetch 81 251 = some (251, .putfield 288, 3, 1087, 7, 28, 1, 0) := rfl
set_option maxRecDepth 20000 in
theorem gk_f81_254 : gd_fetch 81 254 = some (254, .aload_n 0, 1, 0, 0, 0, 0, 0) := rfl
set_option maxRecDepth 20000 in
theorem gk_f81_255 : gd_fetch 81 255 = some (255, .getfield 23, 3, 1165, 9, 2, 4, 0) := rfl
set_option maxRecDepth 20000 in
theorem gk_f81_258 : gd_fetch 81 258 = some (258, .aload_n 0, 1, 0, 0, 0, 0, 0) := rfl
set_option maxRecDepth 20000 in
theorem gk_f81_259 : gd_fetch 81 259 = some (259, .iconst 1, 1, 0, 0, 0, 0, 0) := rfl
set_option maxRecDepth 20000 in
theorem gk_f81_260 : gd_fetch 81 260 = some (260, .bipush 10, 2, 0, 0, 0, 0, 0) := rfl
set_option maxRecDepth 20000 in
theorem gk_f81_262 : gd_fetch 81 262 = some (262, .invokevirtual 213, 3, 1356, 72, 2, 0, 0) := rfl
set_option maxRecDepth 20000 in
theorem gk_f81_265 : gd_fetch 81 265 = some (265, .putfield 291, 3, 1069, 7, 19, 0, 0) := rfl
set_option maxRecDepth 20000 in
theorem gk_f81_268 : gd_fetch 81 268 = some (268, .aload_n 0, 1, 0, 0, 0, 0, 0) := rfl
set_option maxRecDepth 20000 in
theorem gk_f81_269 : gd_fetch 81 269 = some (269, .bipush 15, 2, 0, 0, 0, 0, 0) := rfl
set_option maxRecDepth 20000 in
theorem gk_f81_271 : gd_fetch 81 271 = some (271, .invokevirtual 216, 3, 1363, 74, 1, 0, 0) := rfl
set_option maxRecDepth 20000 in
theorem gk_f81_274 : gd_fetch 81 274 = some (274, .aload_n 0, 1, 0, 0, 0, 0, 0) := rfl
set_option maxRecDepth 20000 in
theorem gk_f81_275 : gd_fetch 81 275 = some (275, .getfield 23, 3, 1165, 9, 2, 4, 0) := rfl
set_option maxRecDepth 20000 in
theorem gk_f81_278 : gd_fetch 81 278 = some (278, .aload_n 0, 1, 0, 0, 0, 0, 0) := rfl
set_option maxRecDepth 20000 in
theorem gk_f81_279 : gd_fetch 81 279 = some (279, .iconst 1, 1, 0, 0, 0, 0, 0) := rfl
set_option maxRecDepth 20000 in
theorem gk_f81_280 : gd_fetch 81 280 = some (280, .bipush 99, 2, 0, 0, 0, 0, 0) := rfl
set_option maxRecDepth 20000 in
theorem gk_f81_282 : gd_fetch 81 282 = some (282, .invokevirtual 213, 3, 1356, 72, 2, 0, 0) := rfl
set_option maxRecDepth 20000 in
theorem gk_f81_285 : gd_fetch 81 285 = some (285, .putfield 294, 3, 1071, 7, 20, 0, 0) := rfl
set_option maxRecDepth 20000 in
theorem gk_f81_288 : gd_fetch 81 288 = some (288, .goto 173, 3, 0, 0, 0, 0, 0) := rfl
set_option maxRecDepth 20000 in
theorem gk_f81_291 : gd_fetch 81 291 = some (291, .aload_n 0, 1, 0, 0, 0, 0, 0) := rfl
set_option maxRecDepth 20000 in
theorem gk_f81_292 : gd_fetch 81 292 = some (292, .aload_n 0, 1, 0, 0, 0, 0, 0) := rfl
set_option maxRecDepth 20000 in
theorem gk_f81_293 : gd_fetch 81 293 = some (293, .getfield 23, 3, 1165, 9, 2, 4, 0) := rfl
set_option maxRecDepth 20000 in
theorem gk_f81_296 : gd_fetch 81 296 = some (296, .getfield 297, 3, 1089, 7, 29, 1, 0) := rfl
set_option maxRecDepth 20000 in
theorem gk_f81_299 : gd_fetch 81 299 = some (299, .invokevirtual 281, 3, 1387, 80, 1, 0, 0) := rfl
set_option maxRecDepth 20000 in
theorem gk_f81_302 : gd_fetch 81 302 = some (302, .aload_n 0, 1, 0, 0, 0, 0, 0) := rfl
set_option maxRecDepth 20000 in
theorem gk_f81_303 : gd_fetch 81 303 = some (303, .getfield 23, 3, 1165, 9, 2, 4, 0) := rfl
set_option maxRecDepth 20000 in
theorem gk_f81_306 : gd_fetch 81 306 = some (306, .iconst 1, 1, 0, 0, 0, 0, 0) := rfl
set_option maxRecDepth 20000 in
theorem gk_f81_307 : gd_fetch 81 307 = some (307, .putfield 297, 3, 1089, 7, 29, 1, 0) := rfl
set_option maxRecDepth 20000 in
theorem gk_f81_310 : gd_fetch 81 310 = some (310, .aload_n 0, 1, 0, 0, 0, 0, 0) := rfl
set_option maxRecDepth 20000 in
theorem gk_f81_311 : gd_fetch 81 311 = some (311, .getfield 23, 3, 1165, 9, 2, 4, 0) := rfl
set_option maxRecDepth 20000 in
theorem gk_f81_314 : gd_fetch 81 314 = some (314, .aload_n 0, 1, 0, 0, 0, 0, 0) := rfl
set_option maxRecDepth 20000 in
theorem gk_f81_315 : gd_fetch 81 315 = some (315, .iconst 1, 1, 0, 0, 0, 0, 0) := rfl
set_option maxRecDepth 20000 in
theorem gk_f81_316 : gd_fetch 81 316 = some (316, .bipush 6, 2, 0, 0, 0, 0, 0) := rfl
set_option maxRecDepth 20000 in
theorem gk_f81_318 : gd_fetch 81 318 = some (318, .invokevirtual 213, 3, 1356, 72, 2, 0, 0) := rfl
set_option maxRecDepth 20000 in
theorem gk_f81_321 : gd_fetch 81 321 = some (321, .putfield 300, 3, 1073, 7, 21, 0, 0) := rfl
set_option maxRecDepth 20000 in
theorem gk_f81_324 : gd_fetch 81 324 = some (324, .aload_n 0, 1, 0, 0, 0, 0, 0) := rfl
set_option maxRecDepth 20000 in
theorem gk_f81_325 : gd_fetch 81 325 = some (325, .bipush 17, 2, 0, 0, 0, 0, 0) := rfl
set_option maxRecDepth 20000 in
theorem gk_f81_327 : gd_fetch 81 327 = some (327, .invokevirtual 216, 3, 1363, 74, 1, 0, 0) := rfl
set_option maxRecDepth 20000 in
theorem gk_f81_330 : gd_fetch 81 330 = some (330, .aload_n 0, 1, 0, 0, 0, 0, 0) := rfl
set_option maxRecDepth 20000 in
theorem gk_f81_331 : gd_fetch 81 331 = some (331, .getfield 23, 3, 1165, 9, 2, 4, 0) := rfl
set_option maxRecDepth 20000 in
theorem gk_f81_334 : gd_fetch 81 334 = some (334, .aload_n 0, 1, 0, 0, 0, 0, 0) := rfl
set_option maxRecDepth 20000 in
theorem gk_f81_335 : gd_fetch 81 335 = some (335, .iconst 0, 1, 0, 0, 0, 0, 0) := rfl
set_option maxRecDepth 20000 in
theorem gk_f81_336 : gd_fetch 81 336 = some (336, .bipush 50, 2, 0, 0, 0, 0, 0) := rfl
set_option maxRecDepth 20000 in
theorem gk_f81_338 : gd_fetch 81 338 = some (338, .invokevirtual 213, 3, 1356, 72, 2, 0, 0) := rfl
set_option maxRecDepth 20000 in
theorem gk_f81_341 : gd_fetch 81 341 = some (341, .putfield 303, 3, 1075, 7, 22, 0, 0) := rfl
set_option maxRecDepth 20000 in
theorem gk_f81_344 : gd_fetch 81 344 = some (344, .goto 117, 3, 0, 0, 0, 0, 0) := rfl
set_option maxRecDepth 20000 in
theorem gk_f81_347 : gd_fetch 81 347 = some (347, .aload_n 0, 1, 0, 0, 0, 0, 0) := rfl
set_option maxRecDepth 20000 in
theorem gk_f81_348 : gd_fetch 81 348 = some (348, .aload_n 0, 1, 0, 0, 0, 0, 0) := rfl
set_option maxRecDepth 20000 in
theorem gk_f81_349 : gd_fetch 81 349 = some (349, .getfield 23, 3, 1165, 9, 2, 4, 0) := rfl
set_option maxRecDepth 20000 in
theorem gk_f81_352 : gd_fetch 81 352 = some (352, .getfield 306, 3, 1091, 7, 30, 1, 0) := rfl
set_option maxRecDepth 20000 in
theorem gk_f81_355 : gd_fetch 81 355 = some (355, .invokevirtual 281, 3, 1387, 80, 1, 0, 0) := rfl
set_option maxRecDepth 20000 in
theorem gk_f81_358 : gd_fetch 81 358 = some (358, .aload_n 0, 1, 0, 0, 0, 0, 0) := rfl
set_option maxRecDepth 20000 in
theorem gk_f81_359 : gd_fetch 81 359 = some (359, .getfield 23, 3, 1165, 9, 2, 4, 0) := rfl
set_option maxRecDepth 20000 in
theorem gk_f81_362 : gd_fetch 81 362 = some (362, .iconst 1, 1, 0, 0, 0, 0, 0) := rfl
set_option maxRecDepth 20000 in
theorem gk_f81_363 : gd_fetch 81 363 = some (363, .putfield 306, 3, 1091, 7, 30, 1, 0) := rfl
set_option maxRecDepth 20000 in
theorem gk_f81_366 : gd_fetch 81 366 = some (366, .aload_n 0, 1, 0, 0, 0, 0, 0) := rfl
set_option maxRecDepth 20000 in
theorem gk_f81_367 : gd_fetch 81 367 = some (367, .getfield 23, 3, 1165, 9, 2, 4, 0) := rfl
set_option maxRecDepth 20000 in
theorem gk_f81_370 : gd_fetch 81 370 = some (370, .aload_n 0, 1, 0, 0, 0, 0, 0) := rfl
set_option maxRecDepth 20000 in
theorem gk_f81_371 : gd_fetch 81 371 = some (371, .iconst 1, 1, 0, 0, 0, 0, 0) := rfl
set_option maxRecDepth 20000 in
theorem gk_f81_372 : gd_fetch 81 372 = some (372, .bipush 6, 2, 0, 0, 0, 0, 0) := rfl
set_option maxRecDepth 20000 in
theorem gk_f81_374 : gd_fetch 81 374 = some (374, .invokevirtual 213, 3, 1356, 72, 2, 0, 0) := rfl
set_option maxRecDepth 20000 in
theorem gk_f81_377 : gd_fetch 81 377 = some (377, .putfield 309, 3, 1077, 7, 23, 0, 0) := rfl
set_option maxRecDepth 20000 in
theorem gk_f81_380 : gd_fetch 81 380 = some (380, .aload_n 0, 1, 0, 0, 0, 0, 0) := rfl
set_option maxRecDepth 20000 in
theorem gk_f81_381 : gd_fetch 81 381 = some (381, .bipush 14, 2, 0, 0, 0, 0, 0) := rfl
set_option maxRecDepth 20000 in
theorem gk_f81_383 : gd_fetch 81 383 = some (383, .invokevirtual 216, 3, 1363, 74, 1, 0, 0) := rfl
set_option maxRecDepth 20000 in
theorem gk_f81_386 : gd_fetch 81 386 = some (386, .aload_n 0, 1, 0, 0, 0, 0, 0) := rfl
set_option maxRecDepth 20000 in
theorem gk_f81_387 : gd_fetch 81 387 = some (387, .getfield 23, 3, 1165, 9, 2, 4, 0) := rfl
set_option maxRecDepth 20000 in
theorem gk_f81_390 : gd_fetch 81 390 = some (390, .aload_n 0, 1, 0, 0, 0, 0, 0) := rfl
set_option maxRecDepth 20000 in
theorem gk_f81_391 : gd_fetch 81 391 = some (391, .iconst 1, 1, 0, 0, 0, 0, 0) := rfl
set_option maxRecDepth 20000 in
theorem gk_f81_392 : gd_fetch 81 392 = some (392, .aload_n 0, 1, 0, 0, 0, 0, 0) := rfl
set_option maxRecDepth 20000 in
theorem gk_f81_393 : gd_fetch 81 393 = some (393, .getfield 23, 3, 1165, 9, 2, 4, 0) := rfl
set_option maxRecDepth 20000 in
theorem gk_f81_396 : gd_fetch 81 396 = some (396, .getfield 309, 3, 1077, 7, 23, 0, 0) := rfl
set_option maxRecDepth 20000 in
theorem gk_f81_399 : gd_fetch 81 399 = some (399, .invokevirtual 213, 3, 1356, 72, 2, 0, 0) := rfl
set_option maxRecDepth 20000 in
theorem gk_f81_402 : gd_fetch 81 402 = some (402, .putfield 312, 3, 1079, 7, 24, 0, 0) := rfl
set_option maxRecDepth 20000 in
theorem gk_f81_405 : gd_fetch 81 405 = some (405, .goto 56, 3, 0, 0, 0, 0, 0) := rfl
set_option maxRecDepth 20000 in
theorem gk_f81_408 : gd_fetch 81 408 = some (408, .aload_n 0, 1, 0, 0, 0, 0, 0) := rfl
set_option maxRecDepth 20000 in
theorem gk_f81_409 : gd_fetch 81 409 = some (409, .aload_n 0, 1, 0, 0, 0, 0, 0) := rfl
set_option maxRecDepth 20000 in
theorem gk_f81_410 : gd_fetch 81 410 = some (410, .getfield 23, 3, 1165, 9, 2, 4, 0) := rfl
set_option maxRecDepth 20000 in
theorem gk_f81_413 : gd_fetch 81 413 = some (413, .getfield 314, 3, 1093, 7, 31, 1, 0) := rfl
set_option maxRecDepth 20000 in
theorem gk_f81_416 : gd_fetch 81 416 = some (416, .invokevirtual 281, 3, 1387, 80, 1, 0, 0) := rfl
set_option maxRecDepth 20000 in
theorem gk_f81_419 : gd_fetch 81 419 = some (419, .aload_n 0, 1, 0, 0, 0, 0, 0) := rfl
set_option maxRecDepth 20000 in
theorem gk_f81_420 : gd_fetch 81 420 = some (420, .getfield 23, 3, 1165, 9, 2, 4, 0) := rfl
set_option maxRecDepth 20000 in
theorem gk_f81_423 : gd_fetch 81 423 = some (423, .iconst 1, 1, 0, 0, 0, 0, 0) := rfl
set_option maxRecDepth 20000 in
theorem gk_f81_424 : gd_fetch 81 424 = some (424, .putfield 314, 3, 1093, 7, 31, 1, 0) := rfl
set_option maxRecDepth 20000 in
theorem gk_f81_427 : gd_fetch 81 427 = some (427, .aload_n 0, 1, 0, 0, 0, 0, 0) := rfl
set_option maxRecDepth 20000 in
theorem gk_f81_428 : gd_fetch 81 428 = some (428, .getfield 23, 3, 1165, 9, 2, 4, 0) := rfl
set_option maxRecDepth 20000 in
theorem gk_f81_431 : gd_fetch 81 431 = some (431, .aload_n 0, 1, 0, 0, 0, 0, 0) := rfl
set_option maxRecDepth 20000 in
theorem gk_f81_432 : gd_fetch 81 432 = some (432, .iconst 1, 1, 0, 0, 0, 0, 0) := rfl
set_option maxRecDepth 20000 in
theorem gk_f81_433 : gd_fetch 81 433 = some (433, .bipush 10, 2, 0, 0, 0, 0, 0) := rfl
set_option maxRecDepth 20000 in
theorem gk_f81_435 : gd_fetch 81 435 = some (435, .invokevirtual 213, 3, 1356, 72, 2, 0, 0) := rfl
set_option maxRecDepth 20000 in
theorem gk_f81_438 : gd_fetch 81 438 = some (438, .putfield 317, 3, 1081, 7, 25, 0, 0) := rfl
set_option maxRecDepth 20000 in
theorem gk_f81_441 : gd_fetch 81 441 = some (441, .aload_n 0, 1, 0, 0, 0, 0, 0) := rfl
set_option maxRecDepth 20000 in
theorem gk_f81_442 : gd_fetch 81 442 = some (442, .bipush 18, 2, 0, 0, 0, 0, 0) := rfl
set_option maxRecDepth 20000 in
theorem gk_f81_444 : gd_fetch 81 444 = some (444, .invokevirtual 216, 3, 1363, 74, 1, 0, 0) := rfl
set_option maxRecDepth 20000 in
theorem gk_f81_447 : gd_fetch 81 447 = some (447, .aload_n 0, 1, 0, 0, 0, 0, 0) := rfl
set_option maxRecDepth 20000 in
theorem gk_f81_448 : gd_fetch 81 448 = some (448, .getfield 23, 3, 1165, 9, 2, 4, 0) := rfl
set_option maxRecDepth 20000 in
theorem gk_f81_451 : gd_fetch 81 451 = some (451, .aload_n 0, 1, 0, 0, 0, 0, 0) := rfl
set_option maxRecDepth 20000 in
theorem gk_f81_452 : gd_fetch 81 452 = some (452, .iconst 1, 1, 0, 0, 0, 0, 0) := rfl
set_option maxRecDepth 20000 in
theorem gk_f81_453 : gd_fetch 81 453 = some (453, .bipush 10, 2, 0, 0, 0, 0, 0) := rfl
set_option maxRecDepth 20000 in
theorem gk_f81_455 : gd_fetch 81 455 = some (455, .invokevirtual 213, 3, 1356, 72, 2, 0, 0) := rfl
set_option maxRecDepth 20000 in
theorem gk_f81_458 : gd_fetch 81 458 = some (458, .putfield 320, 3, 1083, 7, 26, 0, 0) := rfl
set_option maxRecDepth 20000 in
theorem gk_f81_461 : gd_fetch 81 461 = some (461, .aload_n 0, 1, 0, 0, 0, 0, 0) := rfl
set_option maxRecDepth 20000 in
theorem gk_f81_462 : gd_fetch 81 462 = some (462, .aload_n 0, 1, 0, 0, 0, 0, 0) := rfl
set_option maxRecDepth 20000 in
theorem gk_f81_463 : gd_fetch 81 463 = some (463, .getfield 145, 3, 1169, 9, 6, 0, 0) := rfl
set_option maxRecDepth 20000 in
theorem gk_f81_466 : gd_fetch 81 466 = some (466, .iconst 4, 1, 0, 0, 0, 0, 0) := rfl
set_option maxRecDepth 20000 in
theorem gk_f81_467 : gd_fetch 81 467 = some (467, .if_icmp .ne 7, 3, 0, 0, 0, 0, 0) := rfl
set_option maxRecDepth 20000 in
theorem gk_f81_470 : gd_fetch 81 470 = some (470, .iconst 1, 1, 0, 0, 0, 0, 0) := rfl
set_option maxRecDepth 20000 in
theorem gk_f81_471 : gd_fetch 81 471 = some (471, .goto 4, 3, 0, 0, 0, 0, 0) := rfl
set_option maxRecDepth 20000 in
theorem gk_f81_474 : gd_fetch 81 474 = some (474, .iconst 0, 1, 0, 0, 0, 0, 0) := rfl
set_option maxRecDepth 20000 in
theorem gk_f81_475 : gd_fetch 81 475 = some (475, .iconst 1, 1, 0, 0, 0, 0, 0) := rfl
set_option maxRecDepth 20000 in
theorem gk_f81_476 : gd_fetch 81 476 = some (476, .invokevirtual 179, 3, 1340, 68, 2, 0, 0) := rfl
set_option maxRecDepth 20000 in
theorem gk_f81_479 : gd_fetch 81 479 = some (479, .aload_n 0, 1, 0, 0, 0, 0, 0) := rfl
set_option maxRecDepth 20000 in
theorem gk_f81_480 : gd_fetch 81 480 = some (480, .invokevirtual 189, 3, 1348, 69, 0, 0, 0) := rfl
set_option maxRecDepth 20000 in
theorem gk_f81_483 : gd_fetch 81 483 = some (483, .return_, 1, 0, 0, 0, 0, 0) := rfl
set_option maxRecDepth 20000 in
set_option maxHeartbeats 4000000 in
theorem q_Mo_readLine (r0 : Nat) (m : gd_M) : gd_call 81 [.ref r0] m = if gd_ok (gN m) r0 9 = true then (if ((gI m r0 6) = 2 : Prop) then (if (9 < (gI m r0 7) : Prop) then (gd_Den (81, 23, [.ref r0, .null], [.int 0, .ref r0], m)) else (gd_Den (81, 23, [.ref r0, .null], [.int 1, .ref r0], m))) else (gd_Den (81, 23, [.ref r0, .null], [.int 0, .ref r0], m))) else none := by
  refine Eq.trans (show gd_call 81 [.ref r0] m = gd_Den (81, 0, [.ref r0, .null], [], m) from by unfold gd_call gd_ent; rw [gk_ml81]; rfl) ?_
  refine Eq.trans (D_aload_n (x := r0) gk_f81_0 rfl) ?_
  refine Eq.trans (D_aload_n (x := r0) gk_f81_1 rfl) ?_
  refine Eq.trans (D_gfI gk_f81_2 (by decide) (by decide) (by decide)) ?_
  refine gd_ite (fun h1 => ?_) (fun _ => rfl)
  refine Eq.trans (D_iconst (x := 2) gk_f81_5 gk_c_2) ?_
  refine Eq.trans (D_ic_ne (t := 22) gk_f81_6 (by decide)) ?_
  refine gd_ite (fun h2 => ?_) (fun h3 => ?_)
  · refine Eq.trans (D_aload_n (x := r0) gk_f81_9 rfl) ?_
    refine Eq.trans (D_gfI gk_f81_10 (by decide) (by decide) (by decide)) ?_
    refine Eq.trans (if_pos h1) ?_
    refine Eq.trans (D_bipush (x := 9) gk_f81_13 gk_b_9) ?_
    refine Eq.trans (D_ic_gt (t := 22) gk_f81_15 (by decide)) ?_
    refine gd_ite (fun h4 => ?_) (fun h5 => ?_)
    · refine Eq.trans (D_iconst (x := 0) gk_f81_22 gk_c_0) ?_
      rfl
    · refine Eq.trans (D_iconst (x := 1) gk_f81_18 gk_c_1) ?_
      refine Eq.trans (D_goto (t := 23) gk_f81_19 (by decide)) ?_
      rfl
  · refine Eq.trans (D_iconst (x := 0) gk_f81_22 gk_c_0) ?_
    rfl
set_option maxRecDepth 20000 in
set_option maxHeartbeats 4000000 in
theorem q_Mo_readLine_23 (r0 : Nat) (sr0 : Nat) (sx1 : Int32) (m : gd_M) : gd_Den (81, 23, [.ref r0, .null], [.int sx1, .ref sr0], m) = if gd_ok (gN m) sr0 9 = true then ((gd_call 68 [.ref sr0, .int sx1, .int 1] m).bind (gd_kV fun m2 => if gd_ok (gN m2) r0 9 = true then (if (gI m2 r0 7) = 0 then ((gd_call 76 [.ref r0] m2).bind (gd_kV fun m7 => if gd_ok (gN m7) r0 9 = true then (if ((gI m7 r0 6) = 4 : Prop) then ((gd_call 68 [.ref r0, .int 1, .int 1] m7).bind (gd_kV fun m12 => if gd_ok (gN m12) r0 9 = true then ((gd_call 69 [.ref r0] m12).bind (gd_kV fun m15 => some (.null, m15))) else none)) else ((gd_call 68 [.ref r0, .int 0, .int 1] m7).bind (gd_kV fun m17 => if gd_ok (gN m17) r0 9 = true then ((gd_call 69 [.ref r0] m17).bind (gd_kV fun m20 => some (.null, m20))) else none))) else none)) else if (gI m2 r0 7) = 1 then ((gd_call 77 [.ref r0] m2).bind (gd_kV fun m24 => if gd_ok (gN m24) r0 9 = true then (if ((gI m24 r0 6) = 4 : Prop) then ((gd_call 68 [.ref r0, .int 1, .int 1] m24).bind (gd_kV fun m29 => if gd_ok (gN m29) r0 9 = true then ((gd_call 69 [.ref r0] m29).bind (gd_kV fun m32 => some (.null, m32))) else none)) else ((gd_call 68 [.ref r0, .int 0, .int 1] m24).bind (gd_kV fun m34 => if gd_ok (gN m34) r0 9 = true then ((gd_call 69 [.ref r0] m34).bind (gd_kV fun m37 => some (.null, m37))) else none))) else none)) else if (gI m2 r0 7) = 2 then ((gd_call 69 [.ref r0] m2).bind (gd_kV fun m41 => if gd_ok (gN m41) r0 9 = true then ((gd_call 79 [.ref r0, .ref (gR m41 r0 16)] m41).bind (gd_kI fun z46 m44 => if gd_ok (gN m44) r0 9 = true then ((gd_call 74 [.ref r0, .int 12] m44).bind (gd_kV fun m48 => if gd_ok (gN m48) r0 9 = true then (if gd_ok (gN m48) (gR m48 r0 2) 7 = true then ((gd_call 72 [.ref r0, .int 1, .int 10] m48).bind (gd_kI fun z54 m52 => if gd_okA (gN m52) (gR m48 (gR m48 r0 2) 15) 10 z46 = true then (if gd_ok (gN m52) r0 9 = true then ((gd_call 74 [.ref r0, .int 13] (wI m52 (gR m48 (gR m48 r0 2) 15) (z46 : Int32).toNatClampNeg z54)).bind (gd_kV fun m57 => if gd_ok (gN m57) r0 9 = true then (if gd_ok (gN m57) (gR m57 r0 2) 7 = true then ((gd_call 72 [.ref r0, .int 1, .int 20] m57).bind (gd_kI fun z63 m61 => if gd_okA (gN m61) (gR m57 (gR m57 r0 2) 16) 10 z46 = true then (if gd_ok (gN m61) r0 9 = true then (if ((gI (wI m61 (gR m57 (gR m57 r0 2) 16) (z46 : Int32).toNatClampNeg z63) r0 6) = 4 : Prop) then ((gd_call 68 [.ref r0, .int 1, .int 1] (wI m61 (gR m57 (gR m57 r0 2) 16) (z46 : Int32).toNatClampNeg z63)).bind (gd_kV fun m68 => if gd_ok (gN m68) r0 9 = true then ((gd_call 69 [.ref r0] m68).bind (gd_kV fun m71 => some (.null, m71))) else none)) else ((gd_call 68 [.ref r0, .int 0, .int 1] (wI m61 (gR m57 (gR m57 r0 2) 16) (z46 : Int32).toNatClampNeg z63)).bind (gd_kV fun m73 => if gd_ok (gN m73) r0 9 = true then ((gd_call 69 [.ref r0] m73).bind (gd_kV fun m76 => some (.null, m76))) else none))) else none) else none)) else none) else none)) else none) else none)) else none) else none)) else none)) else none)) else if (gI m2 r0 7) = 3 then ((gd_call 69 [.ref r0] m2).bind (gd_kV fun m80 => if gd_ok (gN m80) r0 9 = true then ((gd_call 72 [.ref r0, .int 0, .int 10] m80).bind (gd_kI fun z85 m83 => if gd_ok (gN m83) r0 9 = true then ((gd_call 74 [.ref r0, .int 14] m83).bind (gd_kV fun m87 => if gd_ok (gN m87) r0 9 = true then (if gd_ok (gN m87) (gR m87 r0 2) 7 = true then ((gd_call 79 [.ref r0, .ref (gR m87 r0 17)] m87).bind (gd_kI fun z93 m91 => if gd_okA (gN m91) (gR m87 (gR m87 r0 2) 17) 10 z93 = true then (if gd_ok (gN m91) r0 9 = true then (if ((gI (wI m91 (gR m87 (gR m87 r0 2) 17) (z93 : Int32).toNatClampNeg z85) r0 6) = 4 : Prop) then ((gd_call 68 [.ref r0, .int 1, .int 1] (wI m91 (gR m87 (gR m87 r0 2) 17) (z93 : Int32).toNatClampNeg z85)).bind (gd_kV fun m98 => if gd_ok (gN m98) r0 9 = true then ((gd_call 69 [.ref r0] m98).bind (gd_kV fun m101 => some (.null, m101))) else none)) else ((gd_call 68 [.ref r0, .int 0, .int 1] (wI m91 (gR m87 (gR m87 r0 2) 17) (z93 : Int32).toNatClampNeg z85)).bind (gd_kV fun m103 => if gd_ok (gN m103) r0 9 = true then ((gd_call 69 [.ref r0] m103).bind (gd_kV fun m106 => some (.null, m106))) else none))) else none) else none)) else none) else none)) else none)) else none)) else if (gI m2 r0 7) = 4 then (if gd_ok (gN m2) (gR m2 r0 2) 7 = true then ((gd_call 80 [.ref r0, .int (gI m2 (gR m2 r0 2) 27)] m2).bind (gd_kV fun m111 => if gd_ok (gN m111) r0 9 = true then (if gd_ok (gN m111) (gR m111 r0 2) 7 = true then ((gd_call 72 [.ref r0, .int 1, .int 10] (wI m111 (gR m111 r0 2) 27 1)).bind (gd_kI fun z117 m115 => if gd_ok (gN m115) (gR m111 r0 2) 7 = true then (if gd_ok (gN m115) r0 9 = true then (if ((gI (wI m115 (gR m111 r0 2) 18 z117) r0 6) = 4 : Prop) then ((gd_call 68 [.ref r0, .int 1, .int 1] (wI m115 (gR m111 r0 2) 18 z117)).bind (gd_kV fun m122 => if gd_ok (gN m122) r0 9 = true then ((gd_call 69 [.ref r0] m122).bind (gd_kV fun m125 => some (.null, m125))) else none)) else ((gd_call 68 [.ref r0, .int 0, .int 1] (wI m115 (gR m111 r0 2) 18 z117)).bind (gd_kV fun m127 => if gd_ok (gN m127) r0 9 = true then ((gd_call 69 [.ref r0] m127).bind (gd_kV fun m130 => some (.null, m130))) else none))) else none) else none)) else none) else none)) else none) else if (gI m2 r0 7) = 5 then (if gd_ok (gN m2) (gR m2 r0 2) 7 = true then ((gd_call 80 [.ref r0, .int (gI m2 (gR m2 r0 2) 28)] m2).bind (gd_kV fun m135 => if gd_ok (gN m135) r0 9 = true then (if gd_ok (gN m135) (gR m135 r0 2) 7 = true then ((gd_call 72 [.ref r0, .int 1, .int 10] (wI m135 (gR m135 r0 2) 28 1)).bind (gd_kI fun z141 m139 => if gd_ok (gN m139) (gR m135 r0 2) 7 = true then (if gd_ok (gN m139) r0 9 = true then ((gd_call 74 [.ref r0, .int 15] (wI m139 (gR m135 r0 2) 19 z141)).bind (gd_kV fun m144 => if gd_ok (gN m144) r0 9 = true then ((gd_call 72 [.ref r0, .int 1, .int 99] m144).bind (gd_kI fun z149 m147 => if gd_ok (gN m147) (gR m144 r0 2) 7 = true then (if gd_ok (gN m147) r0 9 = true then (if ((gI (wI m147 (gR m144 r0 2) 20 z149) r0 6) = 4 : Prop) then ((gd_call 68 [.ref r0, .int 1, .int 1] (wI m147 (gR m144 r0 2) 20 z149)).bind (gd_kV fun m154 => if gd_ok (gN m154) r0 9 = true then ((gd_call 69 [.ref r0] m154).bind (gd_kV fun m157 => some (.null, m157))) else none)) else ((gd_call 68 [.ref r0, .int 0, .int 1] (wI m147 (gR m144 r0 2) 20 z149)).bind (gd_kV fun m159 => if gd_ok (gN m159) r0 9 = true then ((gd_call 69 [.ref r0] m159).bind (gd_kV fun m162 => some (.null, m162))) else none))) else none) else none)) else none)) else none) else none)) else none) else none)) else none) else if (gI m2 r0 7) = 6 then ((gd_call 78 [.ref r0] m2).bind (gd_kV fun m166 => if gd_ok (gN m166) r0 9 = true then (if ((gI m166 r0 6) = 4 : Prop) then ((gd_call 68 [.ref r0, .int 1, .int 1] m166).bind (gd_kV fun m171 => if gd_ok (gN m171) r0 9 = true then ((gd_call 69 [.ref r0] m171).bind (gd_kV fun m174 => some (.null, m174))) else none)) else ((gd_call 68 [.ref r0, .int 0, .int 1] m166).bind (gd_kV fun m176 => if gd_ok (gN m176) r0 9 = true then ((gd_call 69 [.ref r0] m176).bind (gd_kV fun m179 => some (.null, m179))) else none))) else none)) else if (gI m2 r0 7) = 7 then (if gd_ok (gN m2) (gR m2 r0 2) 7 = true then ((gd_call 80 [.ref r0, .int (gI m2 (gR m2 r0 2) 29)] m2).bind (gd_kV fun m184 => if gd_ok (gN m184) r0 9 = true then (if gd_ok (gN m184) (gR m184 r0 2) 7 = true then ((gd_call 72 [.ref r0, .int 1, .int 6] (wI m184 (gR m184 r0 2) 29 1)).bind (gd_kI fun z190 m188 => if gd_ok (gN m188) (gR m184 r0 2) 7 = true then (if gd_ok (gN m188) r0 9 = true then ((gd_call 74 [.ref r0, .int 17] (wI m188 (gR m184 r0 2) 21 z190)).bind (gd_kV fun m193 => if gd_ok (gN m193) r0 9 = true then ((gd_call 72 [.ref r0, .int 0, .int 50] m193).bind (gd_kI fun z198 m196 => if gd_ok (gN m196) (gR m193 r0 2) 7 = true then (if gd_ok (gN m196) r0 9 = true then (if ((gI (wI m196 (gR m193 r0 2) 22 z198) r0 6) = 4 : Prop) then ((gd_call 68 [.ref r0, .int 1, .int 1] (wI m196 (gR m193 r0 2) 22 z198)).bind (gd_kV fun m203 => if gd_ok (gN m203) r0 9 = true then ((gd_call 69 [.ref r0] m203).bind (gd_kV fun m206 => some (.null, m206))) else none)) else ((gd_call 68 [.ref r0, .int 0, .int 1] (wI m196 (gR m193 r0 2) 22 z198)).bind (gd_kV fun m208 => if gd_ok (gN m208) r0 9 = true then ((gd_call 69 [.ref r0] m208).bind (gd_kV fun m211 => some (.null, m211))) else none))) else none) else none)) else none)) else none) else none)) else none) else none)) else none) else if (gI m2 r0 7) = 8 then (if gd_ok (gN m2) (gR m2 r0 2) 7 = true then ((gd_call 80 [.ref r0, .int (gI m2 (gR m2 r0 2) 30)] m2).bind (gd_kV fun m216 => if gd_ok (gN m216) r0 9 = true then (if gd_ok (gN m216) (gR m216 r0 2) 7 = true then ((gd_call 72 [.ref r0, .int 1, .int 6] (wI m216 (gR m216 r0 2) 30 1)).bind (gd_kI fun z222 m220 => if gd_ok (gN m220) (gR m216 r0 2) 7 = true then (if gd_ok (gN m220) r0 9 = true then ((gd_call 74 [.ref r0, .int 14] (wI m220 (gR m216 r0 2) 23 z222)).bind (gd_kV fun m225 => if gd_ok (gN m225) r0 9 = true then (if gd_ok (gN m225) (gR m225 r0 2) 7 = true then ((gd_call 72 [.ref r0, .int 1, .int (gI m225 (gR m225 r0 2) 23)] m225).bind (gd_kI fun z231 m229 => if gd_ok (gN m229) (gR m225 r0 2) 7 = true then (if gd_ok (gN m229) r0 9 = true then (if ((gI (wI m229 (gR m225 r0 2) 24 z231) r0 6) = 4 : Prop) then ((gd_call 68 [.ref r0, .int 1, .int 1] (wI m229 (gR m225 r0 2) 24 z231)).bind (gd_kV fun m236 => if gd_ok (gN m236) r0 9 = true then ((gd_call 69 [.ref r0] m236).bind (gd_kV fun m239 => some (.null, m239))) else none)) else ((gd_call 68 [.ref r0, .int 0, .int 1] (wI m229 (gR m225 r0 2) 24 z231)).bind (gd_kV fun m241 => if gd_ok (gN m241) r0 9 = true then ((gd_call 69 [.ref r0] m241).bind (gd_kV fun m244 => some (.null, m244))) else none))) else none) else none)) else none) else none)) else none) else none)) else none) else none)) else none) else (if gd_ok (gN m2) (gR m2 r0 2) 7 = true then ((gd_call 80 [.ref r0, .int (gI m2 (gR m2 r0 2) 31)] m2).bind (gd_kV fun m247 => if gd_ok (gN m247) r0 9 = true then (if gd_ok (gN m247) (gR m247 r0 2) 7 = true then ((gd_call 72 [.ref r0, .int 1, .int 10] (wI m247 (gR m247 r0 2) 31 1)).bind (gd_kI fun z253 m251 => if gd_ok (gN m251) (gR m247 r0 2) 7 = true then (if gd_ok (gN m251) r0 9 = true then ((gd_call 74 [.ref r0, .int 18] (wI m251 (gR m247 r0 2) 25 z253)).bind (gd_kV fun m256 => if gd_ok (gN m256) r0 9 = true then ((gd_call 72 [.ref r0, .int 1, .int 10] m256).bind (gd_kI fun z261 m259 => if gd_ok (gN m259) (gR m256 r0 2) 7 = true then (if gd_ok (gN m259) r0 9 = true then (if ((gI (wI m259 (gR m256 r0 2) 26 z261) r0 6) = 4 : Prop) then ((gd_call 68 [.ref r0, .int 1, .int 1] (wI m259 (gR m256 r0 2) 26 z261)).bind (gd_kV fun m266 => if gd_ok (gN m266) r0 9 = true then ((gd_call 69 [.ref r0] m266).bind (gd_kV fun m269 => some (.null, m269))) else none)) else ((gd_call 68 [.ref r0, .int 0, .int 1] (wI m259 (gR m256 r0 2) 26 z261)).bind (gd_kV fun m271 => if gd_ok (gN m271) r0 9 = true then ((gd_call 69 [.ref r0] m271).bind (gd_kV fun m274 => some (.null, m274))) else none))) else none) else none)) else none)) else none) else none)) else none) else none)) else none)) else none)) else none := by
  refine Eq.trans (D_iconst (x := 1) gk_f81_23 gk_c_1) ?_
  refine Eq.trans (D_ivV (cl := 9) (args := [.ref sr0, .int sx1, .int 1]) (rest := []) gk_f81_24 rfl rfl (gd_rmk gk_rm81_68 gk_ln68 gk_ml68 rfl rfl rfl) gk_rk68 (gd_hnd_n gk_nc81) gk_nc68 gk_n11_68 gk_cl68) ?_
  refine gd_ite (fun h1 => ?_) (fun _ => rfl)
  refine gd_bnd (gd_kV_c fun m2 => ?_)
  refine Eq.trans (D_aload_n (x := r0) gk_f81_27 rfl) ?_
  refine Eq.trans (D_gfI gk_f81_28 (by decide) (by decide) (by decide)) ?_
  refine gd_ite (fun h4 => ?_) (fun _ => rfl)
  refine Eq.trans (D_tsw (vs := [(0, 80), (1, 87), (2, 101), (3, 161), (4, 199), (5, 235), (6, 94), (7, 291), (8, 347)]) (t := 408) gk_f81_31 (by decide) (by decide)) ?_
  refine gd_ite (fun h5 => ?_) (fun h6 => ?_)
  · refine Eq.trans (D_aload_n (x := r0) gk_f81_80 rfl) ?_
    refine Eq.trans (D_ivV (cl := 9) (args := [.ref r0]) (rest := []) gk_f81_81 rfl rfl (gd_rmk gk_rm81_76 gk_ln76 gk_ml76 rfl rfl rfl) gk_rk76 (gd_hnd_n gk_nc81) gk_nc76 gk_n11_76 gk_cl76) ?_
    refine Eq.trans (if_pos h4) ?_
    refine gd_bnd (gd_kV_c fun m7 => ?_)
    refine Eq.trans (D_goto (t := 461) gk_f81_84 (by decide)) ?_
    refine Eq.trans (D_aload_n (x := r0) gk_f81_461 rfl) ?_
    refine Eq.trans (D_aload_n (x := r0) gk_f81_462 rfl) ?_
    refine Eq.trans (D_gfI gk_f81_463 (by decide) (by decide) (by decide)) ?_
    refine gd_ite (fun h9 => ?_) (fun _ => rfl)
    refine Eq.trans (D_iconst (x := 4) gk_f81_466 gk_c_4) ?_
    refine Eq.trans (D_ic_ne (t := 474) gk_f81_467 (by decide)) ?_
    refine gd_ite (fun h10 => ?_) (fun h11 => ?_)
    · refine Eq.trans (D_iconst (x := 1) gk_f81_470 gk_c_1) ?_
      refine Eq.trans (D_goto (t := 475) gk_f81_471 (by decide)) ?_
      refine Eq.trans (D_iconst (x := 1) gk_f81_475 gk_c_1) ?_
      refine Eq.trans (D_ivV (cl := 9) (args := [.ref r0, .int 1, .int 1]) (rest := []) gk_f81_476 rfl rfl (gd_rmk gk_rm81_68 gk_ln68 gk_ml68 rfl rfl rfl) gk_rk68 (gd_hnd_n gk_nc81) gk_nc68 gk_n11_68 gk_cl68) ?_
      refine Eq.trans (if_pos h9) ?_
      refine gd_bnd (gd_kV_c fun m12 => ?_)
      refine Eq.trans (D_aload_n (x := r0) gk_f81_479 rfl) ?_
      refine Eq.trans (D_ivV (cl := 9) (args := [.ref r0]) (rest := []) gk_f81_480 rfl rfl (gd_rmk gk_rm81_69 gk_ln69 gk_ml69 rfl rfl rfl) gk_rk69 (gd_hnd_n gk_nc81) gk_nc69 gk_n11_69 gk_cl69) ?_
      refine gd_ite (fun h14 => ?_) (fun _ => rfl)
      refine gd_bnd (gd_kV_c fun m15 => ?_)
      refine Eq.trans (D_vreturn gk_f81_483 gk_rk81) ?_
      rfl
    · refine Eq.trans (D_iconst (x := 0) gk_f81_474 gk_c_0) ?_
      refine Eq.trans (D_iconst (x := 1) gk_f81_475 gk_c_1) ?_
      refine Eq.trans (D_ivV (cl := 9) (args := [.ref r0, .int 0, .int 1]) (rest := []) gk_f81_476 rfl rfl (gd_rmk gk_rm81_68 gk_ln68 gk_ml68 rfl rfl rfl) gk_rk68 (gd_hnd_n gk_nc81) gk_nc68 gk_n11_68 gk_cl68) ?_
      refine Eq.trans (if_pos h9) ?_
      refine gd_bnd (gd_kV_c fun m17 => ?_)
      refine Eq.trans (D_aload_n (x := r0) gk_f81_479 rfl) ?_
      refine Eq.trans (D_ivV (cl := 9) (args := [.ref r0]) (rest := []) gk_f81_480 rfl rfl (gd_rmk gk_rm81_69 gk_ln69 gk_ml69 rfl rfl rfl) gk_rk69 (gd_hnd_n gk_nc81) gk_nc69 gk_n11_69 gk_cl69) ?_
      refine gd_ite (fun h19 => ?_) (fun _ => rfl)
      refine gd_bnd (gd_kV_c fun m20 => ?_)
      refine Eq.trans (D_vreturn gk_f81_483 gk_rk81) ?_
      rfl
  refine gd_ite (fun h22 => ?_) (fun h23 => ?_)
  · refine Eq.trans (D_aload_n (x := r0) gk_f81_87 rfl) ?_
    refine Eq.trans (D_ivV (cl := 9) (args := [.ref r0]) (rest := []) gk_f81_88 rfl rfl (gd_rmk gk_rm81_77 gk_ln77 gk_ml77 rfl rfl rfl) gk_rk77 (gd_hnd_n gk_nc81) gk_nc77 gk_n11_77 gk_cl77) ?_
    refine Eq.trans (if_pos h4) ?_
    refine gd_bnd (gd_kV_c fun m24 => ?_)
    refine Eq.trans (D_goto (t := 461) gk_f81_91 (by decide)) ?_
    refine Eq.trans (D_aload_n (x := r0) gk_f81_461 rfl) ?_
    refine Eq.trans (D_aload_n (x := r0) gk_f81_462 rfl) ?_
    refine Eq.trans (D_gfI gk_f81_463 (by decide) (by decide) (by decide)) ?_
    refine gd_ite (fun h26 => ?_) (fun _ => rfl)
    refine Eq.trans (D_iconst (x := 4) gk_f81_466 gk_c_4) ?_
    refine Eq.trans (D_ic_ne (t := 474) gk_f81_467 (by decide)) ?_
    refine gd_ite (fun h27 => ?_) (fun h28 => ?_)
    · refine Eq.trans (D_iconst (x := 1) gk_f81_470 gk_c_1) ?_
      refine Eq.trans (D_goto (t := 475) gk_f81_471 (by decide)) ?_
      refine Eq.trans (D_iconst (x := 1) gk_f81_475 gk_c_1) ?_
      refine Eq.trans (D_ivV (cl := 9) (args := [.ref r0, .int 1, .int 1]) (rest := []) gk_f81_476 rfl rfl (gd_rmk gk_rm81_68 gk_ln68 gk_ml68 rfl rfl rfl) gk_rk68 (gd_hnd_n gk_nc81) gk_nc68 gk_n11_68 gk_cl68) ?_
      refine Eq.trans (if_pos h26) ?_
      refine gd_bnd (gd_kV_c fun m29 => ?_)
      refine Eq.trans (D_aload_n (x := r0) gk_f81_479 rfl) ?_
      refine Eq.trans (D_ivV (cl := 9) (args := [.ref r0]) (rest := []) gk_f81_480 rfl rfl (gd_rmk gk_rm81_69 gk_ln69 gk_ml69 rfl rfl rfl) gk_rk69 (gd_hnd_n gk_nc81) gk_nc69 gk_n11_69 gk_cl69) ?_
      refine gd_ite (fun h31 => ?_) (fun _ => rfl)
      refine gd_bnd (gd_kV_c fun m32 => ?_)
      refine Eq.trans (D_vreturn gk_f81_483 gk_rk81) ?_
      rfl
    · refine Eq.trans (D_iconst (x := 0) gk_f81_474 gk_c_0) ?_
      refine Eq.trans (D_iconst (x := 1) gk_f81_475 gk_c_1) ?_
      refine Eq.trans (D_ivV (cl := 9) (args := [.ref r0, .int 0, .int 1]) (rest := []) gk_f81_476 rfl rfl (gd_rmk gk_rm81_68 gk_ln68 gk_ml68 rfl rfl rfl) gk_rk68 (gd_hnd_n gk_nc81) gk_nc68 gk_n11_68 gk_cl68) ?_
      refine Eq.trans (if_pos h26) ?_
      refine gd_bnd (gd_kV_c fun m34 => ?_)
      refine Eq.trans (D_aload_n (x := r0) gk_f81_479 rfl) ?_
      refine Eq.trans (D_ivV (cl := 9) (args := [.ref r0]) (rest := []) gk_f81_480 rfl rfl (gd_rmk gk_rm81_69 gk_ln69 gk_ml69 rfl rfl rfl) gk_rk69 (gd_hnd_n gk_nc81) gk_nc69 gk_n11_69 gk_cl69) ?_
      refine gd_ite (fun h36 => ?_) (fun _ => rfl)
      refine gd_bnd (gd_kV_c fun m37 => ?_)
      refine Eq.trans (D_vreturn gk_f81_483 gk_rk81) ?_
      rfl
  refine gd_ite (fun h39 => ?_) (fun h40 => ?_)
  · refine Eq.trans (D_aload_n (x := r0) gk_f81_101 rfl) ?_
    refine Eq.trans (D_ivV (cl := 9) (args := [.ref r0]) (rest := []) gk_f81_102 rfl rfl (gd_rmk gk_rm81_69 gk_ln69 gk_ml69 rfl rfl rfl) gk_rk69 (gd_hnd_n gk_nc81) gk_nc69 gk_n11_69 gk_cl69) ?_
    refine Eq.trans (if_pos h4) ?_
    refine gd_bnd (gd_kV_c fun m41 => ?_)
    refine Eq.trans (D_aload_n (x := r0) gk_f81_105 rfl) ?_
    refine Eq.trans (D_aload_n (x := r0) gk_f81_106 rfl) ?_
    refine Eq.trans (D_gfR gk_f81_107 (by decide)) ?_
    refine gd_ite (fun h43 => ?_) (fun _ => rfl)
    refine Eq.trans (D_ivI (cl := 9) (args := [.ref r0, .ref (gR m41 r0 16)]) (rest := []) gk_f81_110 rfl rfl (gd_rmk gk_rm81_79 gk_ln79 gk_ml79 rfl rfl rfl) gk_rk79 (gd_hnd_n gk_nc81) gk_nc79 gk_n11_79 gk_cl79) ?_
    refine Eq.trans (if_pos h43) ?_
    refine gd_bnd (gd_kI_c fun z46 m44 => ?_)
    refine Eq.trans (D_istore_n gk_f81_113 gk_st81_1) ?_
    refine Eq.trans (D_aload_n (x := r0) gk_f81_114 rfl) ?_
    refine Eq.trans (D_bipush (x := 12) gk_f81_115 gk_b_12) ?_
    refine Eq.trans (D_ivV (cl := 9) (args := [.ref r0, .int 12]) (rest := []) gk_f81_117 rfl rfl (gd_rmk gk_rm81_74 gk_ln74 gk_ml74 rfl rfl rfl) gk_rk74 (gd_hnd_n gk_nc81) gk_nc74 gk_n11_74 gk_cl74) ?_
    refine gd_ite (fun h47 => ?_) (fun _ => rfl)
    refine gd_bnd (gd_kV_c fun m48 => ?_)
    refine Eq.trans (D_aload_n (x := r0) gk_f81_120 rfl) ?_
    refine Eq.trans (D_gfR gk_f81_121 (by decide)) ?_
    refine gd_ite (fun h50 => ?_) (fun _ => rfl)
    refine Eq.trans (D_gfR gk_f81_124 (by decide)) ?_
    refine gd_ite (fun h51 => ?_) (fun _ => rfl)
    refine Eq.trans (D_iload_n (x := z46) gk_f81_127 rfl) ?_
    refine Eq.trans (D_aload_n (x := r0) gk_f81_128 rfl) ?_
    refine Eq.trans (D_iconst (x := 1) gk_f81_129 gk_c_1) ?_
    refine Eq.trans (D_bipush (x := 10) gk_f81_130 gk_b_10) ?_
    refine Eq.trans (D_ivI (cl := 9) (args := [.ref r0, .int 1, .int 10]) (rest := [.int z46, .ref (gR m48 (gR m48 r0 2) 15)]) gk_f81_132 rfl rfl (gd_rmk gk_rm81_72 gk_ln72 gk_ml72 rfl rfl rfl) gk_rk72 (gd_hnd_n gk_nc81) gk_nc72 gk_n11_72 gk_cl72) ?_
    refine Eq.trans (if_pos h50) ?_
    refine gd_bnd (gd_kI_c fun z54 m52 => ?_)
    refine Eq.trans (D_iast gk_f81_135) ?_
    refine gd_ite (fun h55 => ?_) (fun _ => rfl)
    refine Eq.trans (D_aload_n (x := r0) gk_f81_136 rfl) ?_
    refine Eq.trans (D_bipush (x := 13) gk_f81_137 gk_b_13) ?_
    refine Eq.trans (D_ivV (cl := 9) (args := [.ref r0, .int 13]) (rest := []) gk_f81_139 rfl rfl (gd_rmk gk_rm81_74 gk_ln74 gk_ml74 rfl rfl rfl) gk_rk74 (gd_hnd_n gk_nc81) gk_nc74 gk_n11_74 gk_cl74) ?_
    refine gd_ite (fun h56 => ?_) (fun _ => rfl)
    refine gd_bnd (gd_kV_c fun m57 => ?_)
    refine Eq.trans (D_aload_n (x := r0) gk_f81_142 rfl) ?_
    refine Eq.trans (D_gfR gk_f81_143 (by decide)) ?_
    refine gd_ite (fun h59 => ?_) (fun _ => rfl)
    refine Eq.trans (D_gfR gk_f81_146 (by decide)) ?_
    refine gd_ite (fun h60 => ?_) (fun _ => rfl)
    refine Eq.trans (D_iload_n (x := z46) gk_f81_149 rfl) ?_
    refine Eq.trans (D_aload_n (x := r0) gk_f81_150 rfl) ?_
    refine Eq.trans (D_iconst (x := 1) gk_f81_151 gk_c_1) ?_
    refine Eq.trans (D_bipush (x := 20) gk_f81_152 gk_b_20) ?_
    refine Eq.trans (D_ivI (cl := 9) (args := [.ref r0, .int 1, .int 20]) (rest := [.int z46, .ref (gR m57 (gR m57 r0 2) 16)]) gk_f81_154 rfl rfl (gd_rmk gk_rm81_72 gk_ln72 gk_ml72 rfl rfl rfl) gk_rk72 (gd_hnd_n gk_nc81) gk_nc72 gk_n11_72 gk_cl72) ?_
    refine Eq.trans (if_pos h59) ?_
    refine gd_bnd (gd_kI_c fun z63 m61 => ?_)
    refine Eq.trans (D_iast gk_f81_157) ?_
    refine gd_ite (fun h64 => ?_) (fun _ => rfl)
    refine Eq.trans (D_goto (t := 461) gk_f81_158 (by decide)) ?_
    refine Eq.trans (D_aload_n (x := r0) gk_f81_461 rfl) ?_
    refine Eq.trans (D_aload_n (x := r0) gk_f81_462 rfl) ?_
    refine Eq.trans (D_gfI gk_f81_463 (by decide) (by decide) (by decide)) ?_
    refine gd_ite (fun h65 => ?_) (fun _ => rfl)
    refine Eq.trans (D_iconst (x := 4) gk_f81_466 gk_c_4) ?_
    refine Eq.trans (D_ic_ne (t := 474) gk_f81_467 (by decide)) ?_
    refine gd_ite (fun h66 => ?_) (fun h67 => ?_)
    · refine Eq.trans (D_iconst (x := 1) gk_f81_470 gk_c_1) ?_
      refine Eq.trans (D_goto (t := 475) gk_f81_471 (by decide)) ?_
      refine Eq.trans (D_iconst (x := 1) gk_f81_475 gk_c_1) ?_
      refine Eq.trans (D_ivV (cl := 9) (args := [.ref r0, .int 1, .int 1]) (rest := []) gk_f81_476 rfl rfl (gd_rmk gk_rm81_68 gk_ln68 gk_ml68 rfl rfl rfl) gk_rk68 (gd_hnd_n gk_nc81) gk_nc68 gk_n11_68 gk_cl68) ?_
      refine Eq.trans (if_pos h65) ?_
      refine gd_bnd (gd_kV_c fun m68 => ?_)
      refine Eq.trans (D_aload_n (x := r0) gk_f81_479 rfl) ?_
      refine Eq.trans (D_ivV (cl := 9) (args := [.ref r0]) (rest := []) gk_f81_480 rfl rfl (gd_rmk gk_rm81_69 gk_ln69 gk_ml69 rfl rfl rfl) gk_rk69 (gd_hnd_n gk_nc81) gk_nc69 gk_n11_69 gk_cl69) ?_
      refine gd_ite (fun h70 => ?_) (fun _ => rfl)
      refine gd_bnd (gd_kV_c fun m71 => ?_)
      refine Eq.trans (D_vreturn gk_f81_483 gk_rk81) ?_
      rfl
    · refine Eq.trans (D_iconst (x := 0) gk_f81_474 gk_c_0) ?_
      refine Eq.trans (D_iconst (x := 1) gk_f81_475 gk_c_1) ?_
      refine Eq.trans (D_ivV (cl := 9) (args := [.ref r0, .int 0, .int 1]) (rest := []) gk_f81_476 rfl rfl (gd_rmk gk_rm81_68 gk_ln68 gk_ml68 rfl rfl rfl) gk_rk68 (gd_hnd_n gk_nc81) gk_nc68 gk_n11_68 gk_cl68) ?_
      refine Eq.trans (if_pos h65) ?_
      refine gd_bnd (gd_kV_c fun m73 => ?_)
      refine Eq.trans (D_aload_n (x := r0) gk_f81_479 rfl) ?_
      refine Eq.trans (D_ivV (cl := 9) (args := [.ref r0]) (rest := []) gk_f81_480 rfl rfl (gd_rmk gk_rm81_69 gk_ln69 gk_ml69 rfl rfl rfl) gk_rk69 (gd_hnd_n gk_nc81) gk_nc69 gk_n11_69 gk_cl69) ?_
      refine gd_ite (fun h75 => ?_) (fun _ => rfl)
      refine gd_bnd (gd_kV_c fun m76 => ?_)
      refine Eq.trans (D_vreturn gk_f81_483 gk_rk81) ?_
      rfl
  refine gd_ite (fun h78 => ?_) (fun h79 => ?_)
  · refine Eq.trans (D_aload_n (x := r0) gk_f81_161 rfl) ?_
    refine Eq.trans (D_ivV (cl := 9) (args := [.ref r0]) (rest := []) gk_f81_162 rfl rfl (gd_rmk gk_rm81_69 gk_ln69 gk_ml69 rfl rfl rfl) gk_rk69 (gd_hnd_n gk_nc81) gk_nc69 gk_n11_69 gk_cl69) ?_
    refine Eq.trans (if_pos h4) ?_
    refine gd_bnd (gd_kV_c fun m80 => ?_)
    refine Eq.trans (D_aload_n (x := r0) gk_f81_165 rfl) ?_
    refine Eq.trans (D_iconst (x := 0) gk_f81_166 gk_c_0) ?_
    refine Eq.trans (D_bipush (x := 10) gk_f81_167 gk_b_10) ?_
    refine Eq.trans (D_ivI (cl := 9) (args := [.ref r0, .int 0, .int 10]) (rest := []) gk_f81_169 rfl rfl (gd_rmk gk_rm81_72 gk_ln72 gk_ml72 rfl rfl rfl) gk_rk72 (gd_hnd_n gk_nc81) gk_nc72 gk_n11_72 gk_cl72) ?_
    refine gd_ite (fun h82 => ?_) (fun _ => rfl)
    refine gd_bnd (gd_kI_c fun z85 m83 => ?_)
    refine Eq.trans (D_istore_n gk_f81_172 gk_st81_1) ?_
    refine Eq.trans (D_aload_n (x := r0) gk_f81_173 rfl) ?_
    refine Eq.trans (D_bipush (x := 14) gk_f81_174 gk_b_14) ?_
    refine Eq.trans (D_ivV (cl := 9) (args := [.ref r0, .int 14]) (rest := []) gk_f81_176 rfl rfl (gd_rmk gk_rm81_74 gk_ln74 gk_ml74 rfl rfl rfl) gk_rk74 (gd_hnd_n gk_nc81) gk_nc74 gk_n11_74 gk_cl74) ?_
    refine gd_ite (fun h86 => ?_) (fun _ => rfl)
    refine gd_bnd (gd_kV_c fun m87 => ?_)
    refine Eq.trans (D_aload_n (x := r0) gk_f81_179 rfl) ?_
    refine Eq.trans (D_gfR gk_f81_180 (by decide)) ?_
    refine gd_ite (fun h89 => ?_) (fun _ => rfl)
    refine Eq.trans (D_gfR gk_f81_183 (by decide)) ?_
    refine gd_ite (fun h90 => ?_) (fun _ => rfl)
    refine Eq.trans (D_aload_n (x := r0) gk_f81_186 rfl) ?_
    refine Eq.trans (D_aload_n (x := r0) gk_f81_187 rfl) ?_
    refine Eq.trans (D_gfR gk_f81_188 (by decide)) ?_
    refine Eq.trans (if_pos h89) ?_
    refine Eq.trans (D_ivI (cl := 9) (args := [.ref r0, .ref (gR m87 r0 17)]) (rest := [.ref (gR m87 (gR m87 r0 2) 17)]) gk_f81_191 rfl rfl (gd_rmk gk_rm81_79 gk_ln79 gk_ml79 rfl rfl rfl) gk_rk79 (gd_hnd_n gk_nc81) gk_nc79 gk_n11_79 gk_cl79) ?_
    refine Eq.trans (if_pos h89) ?_
    refine gd_bnd (gd_kI_c fun z93 m91 => ?_)
    refine Eq.trans (D_iload_n (x := z85) gk_f81_194 rfl) ?_
    refine Eq.trans (D_iast gk_f81_195) ?_
    refine gd_ite (fun h94 => ?_) (fun _ => rfl)
    refine Eq.trans (D_goto (t := 461) gk_f81_196 (by decide)) ?_
    refine Eq.trans (D_aload_n (x := r0) gk_f81_461 rfl) ?_
    refine Eq.trans (D_aload_n (x := r0) gk_f81_462 rfl) ?_
    refine Eq.trans (D_gfI gk_f81_463 (by decide) (by decide) (by decide)) ?_
    refine gd_ite (fun h95 => ?_) (fun _ => rfl)
    refine Eq.trans (D_iconst (x := 4) gk_f81_466 gk_c_4) ?_
    refine Eq.trans (D_ic_ne (t := 474) gk_f81_467 (by decide)) ?_
    refine gd_ite (fun h96 => ?_) (fun h97 => ?_)
    · refine Eq.trans (D_iconst (x := 1) gk_f81_470 gk_c_1) ?_
      refine Eq.trans (D_goto (t := 475) gk_f81_471 (by decide)) ?_
      refine Eq.trans (D_iconst (x := 1) gk_f81_475 gk_c_1) ?_
      refine Eq.trans (D_ivV (cl := 9) (args := [.ref r0, .int 1, .int 1]) (rest := []) gk_f81_476 rfl rfl (gd_rmk gk_rm81_68 gk_ln68 gk_ml68 rfl rfl rfl) gk_rk68 (gd_hnd_n gk_nc81) gk_nc68 gk_n11_68 gk_cl68) ?_
      refine Eq.trans (if_pos h95) ?_
      refine gd_bnd (gd_kV_c fun m98 => ?_)
      refine Eq.trans (D_aload_n (x := r0) gk_f81_479 rfl) ?_
      refine Eq.trans (D_ivV (cl := 9) (args := [.ref r0]) (rest := []) gk_f81_480 rfl rfl (gd_rmk gk_rm81_69 gk_ln69 gk_ml69 rfl rfl rfl) gk_rk69 (gd_hnd_n gk_nc81) gk_nc69 gk_n11_69 gk_cl69) ?_
      refine gd_ite (fun h100 => ?_) (fun _ => rfl)
      refine gd_bnd (gd_kV_c fun m101 => ?_)
      refine Eq.trans (D_vreturn gk_f81_483 gk_rk81) ?_
      rfl
    · refine Eq.trans (D_iconst (x := 0) gk_f81_474 gk_c_0) ?_
      refine Eq.trans (D_iconst (x := 1) gk_f81_475 gk_c_1) ?_
      refine Eq.trans (D_ivV (cl := 9) (args := [.ref r0, .int 0, .int 1]) (rest := []) gk_f81_476 rfl rfl (gd_rmk gk_rm81_68 gk_ln68 gk_ml68 rfl rfl rfl) gk_rk68 (gd_hnd_n gk_nc81) gk_nc68 gk_n11_68 gk_cl68) ?_
      refine Eq.trans (if_pos h95) ?_
      refine gd_bnd (gd_kV_c fun m103 => ?_)
      refine Eq.trans (D_aload_n (x := r0) gk_f81_479 rfl) ?_
      refine Eq.trans (D_ivV (cl := 9) (args := [.ref r0]) (rest := []) gk_f81_480 rfl rfl (gd_rmk gk_rm81_69 gk_ln69 gk_ml69 rfl rfl rfl) gk_rk69 (gd_hnd_n gk_nc81) gk_nc69 gk_n11_69 gk_cl69) ?_
      refine gd_ite (fun h105 => ?_) (fun _ => rfl)
      refine gd_bnd (gd_kV_c fun m106 => ?_)
      refine Eq.trans (D_vreturn gk_f81_483 gk_rk81) ?_
      rfl
  refine gd_ite (fun h108 => ?_) (fun h109 => ?_)
  · refine Eq.trans (D_aload_n (x := r0) gk_f81_199 rfl) ?_
    refine Eq.trans (D_aload_n (x := r0) gk_f81_200 rfl) ?_
    refine Eq.trans (D_gfR gk_f81_201 (by decide)) ?_
    refine Eq.trans (if_pos h4) ?_
    refine Eq.trans (D_gfI gk_f81_204 (by decide) (by decide) (by decide)) ?_
    refine gd_ite (fun h110 => ?_) (fun _ => rfl)
    refine Eq.trans (D_ivV (cl := 9) (args := [.ref r0, .int (gI m2 (gR m2 r0 2) 27)]) (rest := []) gk_f81_207 rfl rfl (gd_rmk gk_rm81_80 gk_ln80 gk_ml80 rfl rfl rfl) gk_rk80 (gd_hnd_n gk_nc81) gk_nc80 gk_n11_80 gk_cl80) ?_
    refine Eq.trans (if_pos h4) ?_
    refine gd_bnd (gd_kV_c fun m111 => ?_)
    refine Eq.trans (D_aload_n (x := r0) gk_f81_210 rfl) ?_
    refine Eq.trans (D_gfR gk_f81_211 (by decide)) ?_
    refine gd_ite (fun h113 => ?_) (fun _ => rfl)
    refine Eq.trans (D_iconst (x := 1) gk_f81_214 gk_c_1) ?_
    refine Eq.trans (D_pfZ gk_f81_215) ?_
    refine gd_ite (fun h114 => ?_) (fun _ => rfl)
    refine Eq.trans (if_pos rfl) ?_
    refine Eq.trans (D_aload_n (x := r0) gk_f81_218 rfl) ?_
    refine Eq.trans (D_gfR gk_f81_219 (by decide)) ?_
    refine Eq.trans (if_pos h113) ?_
    refine Eq.trans (D_aload_n (x := r0) gk_f81_222 rfl) ?_
    refine Eq.trans (D_iconst (x := 1) gk_f81_223 gk_c_1) ?_
    refine Eq.trans (D_bipush (x := 10) gk_f81_224 gk_b_10) ?_
    refine Eq.trans (D_ivI (cl := 9) (args := [.ref r0, .int 1, .int 10]) (rest := [.ref (gR m111 r0 2)]) gk_f81_226 rfl rfl (gd_rmk gk_rm81_72 gk_ln72 gk_ml72 rfl rfl rfl) gk_rk72 (gd_hnd_n gk_nc81) gk_nc72 gk_n11_72 gk_cl72) ?_
    refine Eq.trans (if_pos h113) ?_
    refine gd_bnd (gd_kI_c fun z117 m115 => ?_)
    refine Eq.trans (D_pfI gk_f81_229) ?_
    refine gd_ite (fun h118 => ?_) (fun _ => rfl)
    refine Eq.trans (D_goto (t := 461) gk_f81_232 (by decide)) ?_
    refine Eq.trans (D_aload_n (x := r0) gk_f81_461 rfl) ?_
    refine Eq.trans (D_aload_n (x := r0) gk_f81_462 rfl) ?_
    refine Eq.trans (D_gfI gk_f81_463 (by decide) (by decide) (by decide)) ?_
    refine gd_ite (fun h119 => ?_) (fun _ => rfl)
    refine Eq.trans (D_iconst (x := 4) gk_f81_466 gk_c_4) ?_
    refine Eq.trans (D_ic_ne (t := 474) gk_f81_467 (by decide)) ?_
    refine gd_ite (fun h120 => ?_) (fun h121 => ?_)
    · refine Eq.trans (D_iconst (x := 1) gk_f81_470 gk_c_1) ?_
      refine Eq.trans (D_goto (t := 475) gk_f81_471 (by decide)) ?_
      refine Eq.trans (D_iconst (x := 1) gk_f81_475 gk_c_1) ?_
      refine Eq.trans (D_ivV (cl := 9) (args := [.ref r0, .int 1, .int 1]) (rest := []) gk_f81_476 rfl rfl (gd_rmk gk_rm81_68 gk_ln68 gk_ml68 rfl rfl rfl) gk_rk68 (gd_hnd_n gk_nc81) gk_nc68 gk_n11_68 gk_cl68) ?_
      refine Eq.trans (if_pos h119) ?_
      refine gd_bnd (gd_kV_c fun m122 => ?_)
      refine Eq.trans (D_aload_n (x := r0) gk_f81_479 rfl) ?_
      refine Eq.trans (D_ivV (cl := 9) (args := [.ref r0]) (rest := []) gk_f81_480 rfl rfl (gd_rmk gk_rm81_69 gk_ln69 gk_ml69 rfl rfl rfl) gk_rk69 (gd_hnd_n gk_nc81) gk_nc69 gk_n11_69 gk_cl69) ?_
      refine gd_ite (fun h124 => ?_) (fun _ => rfl)
      refine gd_bnd (gd_kV_c fun m125 => ?_)
      refine Eq.trans (D_vreturn gk_f81_483 gk_rk81) ?_
      rfl
    · refine Eq.trans (D_iconst (x := 0) gk_f81_474 gk_c_0) ?_
      refine Eq.trans (D_iconst (x := 1) gk_f81_475 gk_c_1) ?_
      refine Eq.trans (D_ivV (cl := 9) (args := [.ref r0, .int 0, .int 1]) (rest := []) gk_f81_476 rfl rfl (gd_rmk gk_rm81_68 gk_ln68 gk_ml68 rfl rfl rfl) gk_rk68 (gd_hnd_n gk_nc81) gk_nc68 gk_n11_68 gk_cl68) ?_
      refine Eq.trans (if_pos h119) ?_
      refine gd_bnd (gd_kV_c fun m127 => ?_)
      refine Eq.trans (D_aload_n (x := r0) gk_f81_479 rfl) ?_
      refine Eq.trans (D_ivV (cl := 9) (args := [.ref r0]) (rest := []) gk_f81_480 rfl rfl (gd_rmk gk_rm81_69 gk_ln69 gk_ml69 rfl rfl rfl) gk_rk69 (gd_hnd_n gk_nc81) gk_nc69 gk_n11_69 gk_cl69) ?_
      refine gd_ite (fun h129 => ?_) (fun _ => rfl)
      refine gd_bnd (gd_kV_c fun m130 => ?_)
      refine Eq.trans (D_vreturn gk_f81_483 gk_rk81) ?_
      rfl
  refine gd_ite (fun h132 => ?_) (fun h133 => ?_)
  · refine Eq.trans (D_aload_n (x := r0) gk_f81_235 rfl) ?_
    refine Eq.trans (D_aload_n (x := r0) gk_f81_236 rfl) ?_
    refine Eq.trans (D_gfR gk_f81_237 (by decide)) ?_
    refine Eq.trans (if_pos h4) ?_
    refine Eq.trans (D_gfI gk_f81_240 (by decide) (by decide) (by decide)) ?_
    refine gd_ite (fun h134 => ?_) (fun _ => rfl)
    refine Eq.trans (D_ivV (cl := 9) (args := [.ref r0, .int (gI m2 (gR m2 r0 2) 28)]) (rest := []) gk_f81_243 rfl rfl (gd_rmk gk_rm81_80 gk_ln80 gk_ml80 rfl rfl rfl) gk_rk80 (gd_hnd_n gk_nc81) gk_nc80 gk_n11_80 gk_cl80) ?_
    refine Eq.trans (if_pos h4) ?_
    refine gd_bnd (gd_kV_c fun m135 => ?_)
    refine Eq.trans (D_aload_n (x := r0) gk_f81_246 rfl) ?_
    refine Eq.trans (D_gfR gk_f81_247 (by decide)) ?_
    refine gd_ite (fun h137 => ?_) (fun _ => rfl)
    refine Eq.trans (D_iconst (x := 1) gk_f81_250 gk_c_1) ?_
    refine Eq.trans (D_pfZ gk_f81_251) ?_
    refine gd_ite (fun h138 => ?_) (fun _ => rfl)
    refine Eq.trans (if_pos rfl) ?_
    refine Eq.trans (D_aload_n (x := r0) gk_f81_254 rfl) ?_
    refine Eq.trans (D_gfR gk_f81_255 (by decide)) ?_
    refine Eq.trans (if_pos h137) ?_
    refine Eq.trans (D_aload_n (x := r0) gk_f81_258 rfl) ?_
    refine Eq.trans (D_iconst (x := 1) gk_f81_259 gk_c_1) ?_
    refine Eq.trans (D_bipush (x := 10) gk_f81_260 gk_b_10) ?_
    refine Eq.trans (D_ivI (cl := 9) (args := [.ref r0, .int 1, .int 10]) (rest := [.ref (gR m135 r0 2)]) gk_f81_262 rfl rfl (gd_rmk gk_rm81_72 gk_ln72 gk_ml72 rfl rfl rfl) gk_rk72 (gd_hnd_n gk_nc81) gk_nc72 gk_n11_72 gk_cl72) ?_
    refine Eq.trans (if_pos h137) ?_
    refine gd_bnd (gd_kI_c fun z141 m139 => ?_)
    refine Eq.trans (D_pfI gk_f81_265) ?_
    refine gd_ite (fun h142 => ?_) (fun _ => rfl)
    refine Eq.trans (D_aload_n (x := r0) gk_f81_268 rfl) ?_
    refine Eq.trans (D_bipush (x := 15) gk_f81_269 gk_b_15) ?_
    refine Eq.trans (D_ivV (cl := 9) (args := [.ref r0, .int 15]) (rest := []) gk_f81_271 rfl rfl (gd_rmk gk_rm81_74 gk_ln74 gk_ml74 rfl rfl rfl) gk_rk74 (gd_hnd_n gk_nc81) gk_nc74 gk_n11_74 gk_cl74) ?_
    refine gd_ite (fun h143 => ?_) (fun _ => rfl)
    refine gd_bnd (gd_kV_c fun m144 => ?_)
    refine Eq.trans (D_aload_n (x := r0) gk_f81_274 rfl) ?_
    refine Eq.trans (D_gfR gk_f81_275 (by decide)) ?_
    refine gd_ite (fun h146 => ?_) (fun _ => rfl)
    refine Eq.trans (D_aload_n (x := r0) gk_f81_278 rfl) ?_
    refine Eq.trans (D_iconst (x := 1) gk_f81_279 gk_c_1) ?_
    refine Eq.trans (D_bipush (x := 99) gk_f81_280 gk_b_99) ?_
    refine Eq.trans (D_ivI (cl := 9) (args := [.ref r0, .int 1, .int 99]) (rest := [.ref (gR m144 r0 2)]) gk_f81_282 rfl rfl (gd_rmk gk_rm81_72 gk_ln72 gk_ml72 rfl rfl rfl) gk_rk72 (gd_hnd_n gk_nc81) gk_nc72 gk_n11_72 gk_cl72) ?_
    refine Eq.trans (if_pos h146) ?_
    refine gd_bnd (gd_kI_c fun z149 m147 => ?_)
    refine Eq.trans (D_pfI gk_f81_285) ?_
    refine gd_ite (fun h150 => ?_) (fun _ => rfl)
    refine Eq.trans (D_goto (t := 461) gk_f81_288 (by decide)) ?_
    refine Eq.trans (D_aload_n (x := r0) gk_f81_461 rfl) ?_
    refine Eq.trans (D_aload_n (x := r0) gk_f81_462 rfl) ?_
    refine Eq.trans (D_gfI gk_f81_463 (by decide) (by decide) (by decide)) ?_
    refine gd_ite (fun h151 => ?_) (fun _ => rfl)
    refine Eq.trans (D_iconst (x := 4) gk_f81_466 gk_c_4) ?_
    refine Eq.trans (D_ic_ne (t := 474) gk_f81_467 (by decide)) ?_
    refine gd_ite (fun h152 => ?_) (fun h153 => ?_)
    · refine Eq.trans (D_iconst (x := 1) gk_f81_470 gk_c_1) ?_
      refine Eq.trans (D_goto (t := 475) gk_f81_471 (by decide)) ?_
      refine Eq.trans (D_iconst (x := 1) gk_f81_475 gk_c_1) ?_
      refine Eq.trans (D_ivV (cl := 9) (args := [.ref r0, .int 1, .int 1]) (rest := []) gk_f81_476 rfl rfl (gd_rmk gk_rm81_68 gk_ln68 gk_ml68 rfl rfl rfl) gk_rk68 (gd_hnd_n gk_nc81) gk_nc68 gk_n11_68 gk_cl68) ?_
      refine Eq.trans (if_pos h151) ?_
      refine gd_bnd (gd_kV_c fun m154 => ?_)
      refine Eq.trans (D_aload_n (x := r0) gk_f81_479 rfl) ?_
      refine Eq.trans (D_ivV (cl := 9) (args := [.ref r0]) (rest := []) gk_f81_480 rfl rfl (gd_rmk gk_rm81_69 gk_ln69 gk_ml69 rfl rfl rfl) gk_rk69 (gd_hnd_n gk_nc81) gk_nc69 gk_n11_69 gk_cl69) ?_
      refine gd_ite (fun h156 => ?_) (fun _ => rfl)
      refine gd_bnd (gd_kV_c fun m157 => ?_)
      refine Eq.trans (D_vreturn gk_f81_483 gk_rk81) ?_
      rfl
    · refine Eq.trans (D_iconst (x := 0) gk_f81_474 gk_c_0) ?_
      refine Eq.trans (D_iconst (x := 1) gk_f81_475 gk_c_1) ?_
      refine Eq.trans (D_ivV (cl := 9) (args := [.ref r0, .int 0, .int 1]) (rest := []) gk_f81_476 rfl rfl (gd_rmk gk_rm81_68 gk_ln68 gk_ml68 rfl rfl rfl) gk_rk68 (gd_hnd_n gk_nc81) gk_nc68 gk_n11_68 gk_cl68) ?_
      refine Eq.trans (if_pos h151) ?_
      refine gd_bnd (gd_kV_c fun m159 => ?_)
      refine Eq.trans (D_aload_n (x := r0) gk_f81_479 rfl) ?_
      refine Eq.trans (D_ivV (cl := 9) (args := [.ref r0]) (rest := []) gk_f81_480 rfl rfl (gd_rmk gk_rm81_69 gk_ln69 gk_ml69 rfl rfl rfl) gk_rk69 (gd_hnd_n gk_nc81) gk_nc69 gk_n11_69 gk_cl69) ?_
      refine gd_ite (fun h161 => ?_) (fun _ => rfl)
      refine gd_bnd (gd_kV_c fun m162 => ?_)
      refine Eq.trans (D_vreturn gk_f81_483 gk_rk81) ?_
      rfl
  refine gd_ite (fun h164 => ?_) (fun h165 => ?_)
  · refine Eq.trans (D_aload_n (x := r0) gk_f81_94 rfl) ?_
    refine Eq.trans (D_ivV (cl := 9) (args := [.ref r0]) (rest := []) gk_f81_95 rfl rfl (gd_rmk gk_rm81_78 gk_ln78 gk_ml78 rfl rfl rfl) gk_rk78 (gd_hnd_n gk_nc81) gk_nc78 gk_n11_78 gk_cl78) ?_
    refine Eq.trans (if_pos h4) ?_
    refine gd_bnd (gd_kV_c fun m166 => ?_)
    refine Eq.trans (D_goto (t := 461) gk_f81_98 (by decide)) ?_
    refine Eq.trans (D_aload_n (x := r0) gk_f81_461 rfl) ?_
    refine Eq.trans (D_aload_n (x := r0) gk_f81_462 rfl) ?_
    refine Eq.trans (D_gfI gk_f81_463 (by decide) (by decide) (by decide)) ?_
    refine gd_ite (fun h168 => ?_) (fun _ => rfl)
    refine Eq.trans (D_iconst (x := 4) gk_f81_466 gk_c_4) ?_
    refine Eq.trans (D_ic_ne (t := 474) gk_f81_467 (by decide)) ?_
    refine gd_ite (fun h169 => ?_) (fun h170 => ?_)
    · refine Eq.trans (D_iconst (x := 1) gk_f81_470 gk_c_1) ?_
      refine Eq.trans (D_goto (t := 475) gk_f81_471 (by decide)) ?_
      refine Eq.trans (D_iconst (x := 1) gk_f81_475 gk_c_1) ?_
      refine Eq.trans (D_ivV (cl := 9) (args := [.ref r0, .int 1, .int 1]) (rest := []) gk_f81_476 rfl rfl (gd_rmk gk_rm81_68 gk_ln68 gk_ml68 rfl rfl rfl) gk_rk68 (gd_hnd_n gk_nc81) gk_nc68 gk_n11_68 gk_cl68) ?_
      refine Eq.trans (if_pos h168) ?_
      refine gd_bnd (gd_kV_c fun m171 => ?_)
      refine Eq.trans (D_aload_n (x := r0) gk_f81_479 rfl) ?_
      refine Eq.trans (D_ivV (cl := 9) (args := [.ref r0]) (rest := []) gk_f81_480 rfl rfl (gd_rmk gk_rm81_69 gk_ln69 gk_ml69 rfl rfl rfl) gk_rk69 (gd_hnd_n gk_nc81) gk_nc69 gk_n11_69 gk_cl69) ?_
      refine gd_ite (fun h173 => ?_) (fun _ => rfl)
      refine gd_bnd (gd_kV_c fun m174 => ?_)
      refine Eq.trans (D_vreturn gk_f81_483 gk_rk81) ?_
      rfl
    · refine Eq.trans (D_iconst (x := 0) gk_f81_474 gk_c_0) ?_
      refine Eq.trans (D_iconst (x := 1) gk_f81_475 gk_c_1) ?_
      refine Eq.trans (D_ivV (cl := 9) (args := [.ref r0, .int 0, .int 1]) (rest := []) gk_f81_476 rfl rfl (gd_rmk gk_rm81_68 gk_ln68 gk_ml68 rfl rfl rfl) gk_rk68 (gd_hnd_n gk_nc81) gk_nc68 gk_n11_68 gk_cl68) ?_
      refine Eq.trans (if_pos h168) ?_
      refine gd_bnd (gd_kV_c fun m176 => ?_)
      refine Eq.trans (D_aload_n (x := r0) gk_f81_479 rfl) ?_
      refine Eq.trans (D_ivV (cl := 9) (args := [.ref r0]) (rest := []) gk_f81_480 rfl rfl (gd_rmk gk_rm81_69 gk_ln69 gk_ml69 rfl rfl rfl) gk_rk69 (gd_hnd_n gk_nc81) gk_nc69 gk_n11_69 gk_cl69) ?_
      refine gd_ite (fun h178 => ?_) (fun _ => rfl)
      refine gd_bnd (gd_kV_c fun m179 => ?_)
      refine Eq.trans (D_vreturn gk_f81_483 gk_rk81) ?_
      rfl
  refine gd_ite (fun h181 => ?_) (fun h182 => ?_)
  · refine Eq.trans (D_aload_n (x := r0) gk_f81_291 rfl) ?_
    refine Eq.trans (D_aload_n (x := r0) gk_f81_292 rfl) ?_
    refine Eq.trans (D_gfR gk_f81_293 (by decide)) ?_
    refine Eq.trans (if_pos h4) ?_
    refine Eq.trans (D_gfI gk_f81_296 (by decide) (by decide) (by decide)) ?_
    refine gd_ite (fun h183 => ?_) (fun _ => rfl)
    refine Eq.trans (D_ivV (cl := 9) (args := [.ref r0, .int (gI m2 (gR m2 r0 2) 29)]) (rest := []) gk_f81_299 rfl rfl (gd_rmk gk_rm81_80 gk_ln80 gk_ml80 rfl rfl rfl) gk_rk80 (gd_hnd_n gk_nc81) gk_nc80 gk_n11_80 gk_cl80) ?_
    refine Eq.trans (if_pos h4) ?_
    refine gd_bnd (gd_kV_c fun m184 => ?_)
    refine Eq.trans (D_aload_n (x := r0) gk_f81_302 rfl) ?_
    refine Eq.trans (D_gfR gk_f81_303 (by decide)) ?_
    refine gd_ite (fun h186 => ?_) (fun _ => rfl)
    refine Eq.trans (D_iconst (x := 1) gk_f81_306 gk_c_1) ?_
    refine Eq.trans (D_pfZ gk_f81_307) ?_
    refine gd_ite (fun h187 => ?_) (fun _ => rfl)
    refine Eq.trans (if_pos rfl) ?_
    refine Eq.trans (D_aload_n (x := r0) gk_f81_310 rfl) ?_
    refine Eq.trans (D_gfR gk_f81_311 (by decide)) ?_
    refine Eq.trans (if_pos h186) ?_
    refine Eq.trans (D_aload_n (x := r0) gk_f81_314 rfl) ?_
    refine Eq.trans (D_iconst (x := 1) gk_f81_315 gk_c_1) ?_
    refine Eq.trans (D_bipush (x := 6) gk_f81_316 gk_b_6) ?_
    refine Eq.trans (D_ivI (cl := 9) (args := [.ref r0, .int 1, .int 6]) (rest := [.ref (gR m184 r0 2)]) gk_f81_318 rfl rfl (gd_rmk gk_rm81_72 gk_ln72 gk_ml72 rfl rfl rfl) gk_rk72 (gd_hnd_n gk_nc81) gk_nc72 gk_n11_72 gk_cl72) ?_
    refine Eq.trans (if_pos h186) ?_
    refine gd_bnd (gd_kI_c fun z190 m188 => ?_)
    refine Eq.trans (D_pfI gk_f81_321) ?_
    refine gd_ite (fun h191 => ?_) (fun _ => rfl)
    refine Eq.trans (D_aload_n (x := r0) gk_f81_324 rfl) ?_
    refine Eq.trans (D_bipush (x := 17) gk_f81_325 gk_b_17) ?_
    refine Eq.trans (D_ivV (cl := 9) (args := [.ref r0, .int 17]) (rest := []) gk_f81_327 rfl rfl (gd_rmk gk_rm81_74 gk_ln74 gk_ml74 rfl rfl rfl) gk_rk74 (gd_hnd_n gk_nc81) gk_nc74 gk_n11_74 gk_cl74) ?_
    refine gd_ite (fun h192 => ?_) (fun _ => rfl)
    refine gd_bnd (gd_kV_c fun m193 => ?_)
    refine Eq.trans (D_aload_n (x := r0) gk_f81_330 rfl) ?_
    refine Eq.trans (D_gfR gk_f81_331 (by decide)) ?_
    refine gd_ite (fun h195 => ?_) (fun _ => rfl)
    refine Eq.trans (D_aload_n (x := r0) gk_f81_334 rfl) ?_
    refine Eq.trans (D_iconst (x := 0) gk_f81_335 gk_c_0) ?_
    refine Eq.trans (D_bipush (x := 50) gk_f81_336 gk_b_50) ?_
    refine Eq.trans (D_ivI (cl := 9) (args := [.ref r0, .int 0, .int 50]) (rest := [.ref (gR m193 r0 2)]) gk_f81_338 rfl rfl (gd_rmk gk_rm81_72 gk_ln72 gk_ml72 rfl rfl rfl) gk_rk72 (gd_hnd_n gk_nc81) gk_nc72 gk_n11_72 gk_cl72) ?_
    refine Eq.trans (if_pos h195) ?_
    refine gd_bnd (gd_kI_c fun z198 m196 => ?_)
    refine Eq.trans (D_pfI gk_f81_341) ?_
    refine gd_ite (fun h199 => ?_) (fun _ => rfl)
    refine Eq.trans (D_goto (t := 461) gk_f81_344 (by decide)) ?_
    refine Eq.trans (D_aload_n (x := r0) gk_f81_461 rfl) ?_
    refine Eq.trans (D_aload_n (x := r0) gk_f81_462 rfl) ?_
    refine Eq.trans (D_gfI gk_f81_463 (by decide) (by decide) (by decide)) ?_
    refine gd_ite (fun h200 => ?_) (fun _ => rfl)
    refine Eq.trans (D_iconst (x := 4) gk_f81_466 gk_c_4) ?_
    refine Eq.trans (D_ic_ne (t := 474) gk_f81_467 (by decide)) ?_
    refine gd_ite (fun h201 => ?_) (fun h202 => ?_)
    · refine Eq.trans (D_iconst (x := 1) gk_f81_470 gk_c_1) ?_
      refine Eq.trans (D_goto (t := 475) gk_f81_471 (by decide)) ?_
      refine Eq.trans (D_iconst (x := 1) gk_f81_475 gk_c_1) ?_
      refine Eq.trans (D_ivV (cl := 9) (args := [.ref r0, .int 1, .int 1]) (rest := []) gk_f81_476 rfl rfl (gd_rmk gk_rm81_68 gk_ln68 gk_ml68 rfl rfl rfl) gk_rk68 (gd_hnd_n gk_nc81) gk_nc68 gk_n11_68 gk_cl68) ?_
      refine Eq.trans (if_pos h200) ?_
      refine gd_bnd (gd_kV_c fun m203 => ?_)
      refine Eq.trans (D_aload_n (x := r0) gk_f81_479 rfl) ?_
      refine Eq.trans (D_ivV (cl := 9) (args := [.ref r0]) (rest := []) gk_f81_480 rfl rfl (gd_rmk gk_rm81_69 gk_ln69 gk_ml69 rfl rfl rfl) gk_rk69 (gd_hnd_n gk_nc81) gk_nc69 gk_n11_69 gk_cl69) ?_
      refine gd_ite (fun h205 => ?_) (fun _ => rfl)
      refine gd_bnd (gd_kV_c fun m206 => ?_)
      refine Eq.trans (D_vreturn gk_f81_483 gk_rk81) ?_
      rfl
    · refine Eq.trans (D_iconst (x := 0) gk_f81_474 gk_c_0) ?_
      refine Eq.trans (D_iconst (x := 1) gk_f81_475 gk_c_1) ?_
      refine Eq.trans (D_ivV (cl := 9) (args := [.ref r0, .int 0, .int 1]) (rest := []) gk_f81_476 rfl rfl (gd_rmk gk_rm81_68 gk_ln68 gk_ml68 rfl rfl rfl) gk_rk68 (gd_hnd_n gk_nc81) gk_nc68 gk_n11_68 gk_cl68) ?_
      refine Eq.trans (if_pos h200) ?_
      refine gd_bnd (gd_kV_c fun m208 => ?_)
      refine Eq.trans (D_aload_n (x := r0) gk_f81_479 rfl) ?_
      refine Eq.trans (D_ivV (cl := 9) (args := [.ref r0]) (rest := []) gk_f81_480 rfl rfl (gd_rmk gk_rm81_69 gk_ln69 gk_ml69 rfl rfl rfl) gk_rk69 (gd_hnd_n gk_nc81) gk_nc69 gk_n11_69 gk_cl69) ?_
      refine gd_ite (fun h210 => ?_) (fun _ => rfl)
      refine gd_bnd (gd_kV_c fun m211 => ?_)
      refine Eq.trans (D_vreturn gk_f81_483 gk_rk81) ?_
      rfl
  refine gd_ite (fun h213 => ?_) (fun h214 => ?_)
  · refine Eq.trans (D_aload_n (x := r0) gk_f81_347 rfl) ?_
    refine Eq.trans (D_aload_n (x := r0) gk_f81_348 rfl) ?_
    refine Eq.trans (D_gfR gk_f81_349 (by decide)) ?_
    refine Eq.trans (if_pos h4) ?_
    refine Eq.trans (D_gfI gk_f81_352 (by decide) (by decide) (by decide)) ?_
    refine gd_ite (fun h215 => ?_) (fun _ => rfl)
    refine Eq.trans (D_ivV (cl := 9) (args := [.ref r0, .int (gI m2 (gR m2 r0 2) 30)]) (rest := []) gk_f81_355 rfl rfl (gd_rmk gk_rm81_80 gk_ln80 gk_ml80 rfl rfl rfl) gk_rk80 (gd_hnd_n gk_nc81) gk_nc80 gk_n11_80 gk_cl80) ?_
    refine Eq.trans (if_pos h4) ?_
    refine gd_bnd (gd_kV_c fun m216 => ?_)
    refine Eq.trans (D_aload_n (x := r0) gk_f81_358 rfl) ?_
    refine Eq.trans (D_gfR gk_f81_359 (by decide)) ?_
    refine gd_ite (fun h218 => ?_) (fun _ => rfl)
    refine Eq.trans (D_iconst (x := 1) gk_f81_362 gk_c_1) ?_
    refine Eq.trans (D_pfZ gk_f81_363) ?_
    refine gd_ite (fun h219 => ?_) (fun _ => rfl)
    refine Eq.trans (if_pos rfl) ?_
    refine Eq.trans (D_aload_n (x := r0) gk_f81_366 rfl) ?_
    refine Eq.trans (D_gfR gk_f81_367 (by decide)) ?_
    refine Eq.trans (if_pos h218) ?_
    refine Eq.trans (D_aload_n (x := r0) gk_f81_370 rfl) ?_
    refine Eq.trans (D_iconst (x := 1) gk_f81_371 gk_c_1) ?_
    refine Eq.trans (D_bipush (x := 6) gk_f81_372 gk_b_6) ?_
    refine Eq.trans (D_ivI (cl := 9) (args := [.ref r0, .int 1, .int 6]) (rest := [.ref (gR m216 r0 2)]) gk_f81_374 rfl rfl (gd_rmk gk_rm81_72 gk_ln72 gk_ml72 rfl rfl rfl) gk_rk72 (gd_hnd_n gk_nc81) gk_nc72 gk_n11_72 gk_cl72) ?_
    refine Eq.trans (if_pos h218) ?_
    refine gd_bnd (gd_kI_c fun z222 m220 => ?_)
    refine Eq.trans (D_pfI gk_f81_377) ?_
    refine gd_ite (fun h223 => ?_) (fun _ => rfl)
    refine Eq.trans (D_aload_n (x := r0) gk_f81_380 rfl) ?_
    refine Eq.trans (D_bipush (x := 14) gk_f81_381 gk_b_14) ?_
    refine Eq.trans (D_ivV (cl := 9) (args := [.ref r0, .int 14]) (rest := []) gk_f81_383 rfl rfl (gd_rmk gk_rm81_74 gk_ln74 gk_ml74 rfl rfl rfl) gk_rk74 (gd_hnd_n gk_nc81) gk_nc74 gk_n11_74 gk_cl74) ?_
    refine gd_ite (fun h224 => ?_) (fun _ => rfl)
    refine gd_bnd (gd_kV_c fun m225 => ?_)
    refine Eq.trans (D_aload_n (x := r0) gk_f81_386 rfl) ?_
    refine Eq.trans (D_gfR gk_f81_387 (by decide)) ?_
    refine gd_ite (fun h227 => ?_) (fun _ => rfl)
    refine Eq.trans (D_aload_n (x := r0) gk_f81_390 rfl) ?_
    refine Eq.trans (D_iconst (x := 1) gk_f81_391 gk_c_1) ?_
    refine Eq.trans (D_aload_n (x := r0) gk_f81_392 rfl) ?_
    refine Eq.trans (D_gfR gk_f81_393 (by decide)) ?_
    refine Eq.trans (if_pos h227) ?_
    refine Eq.trans (D_gfI gk_f81_396 (by decide) (by decide) (by decide)) ?_
    refine gd_ite (fun h228 => ?_) (fun _ => rfl)
    refine Eq.trans (D_ivI (cl := 9) (args := [.ref r0, .int 1, .int (gI m225 (gR m225 r0 2) 23)]) (rest := [.ref (gR m225 r0 2)]) gk_f81_399 rfl rfl (gd_rmk gk_rm81_72 gk_ln72 gk_ml72 rfl rfl rfl) gk_rk72 (gd_hnd_n gk_nc81) gk_nc72 gk_n11_72 gk_cl72) ?_
    refine Eq.trans (if_pos h227) ?_
    refine gd_bnd (gd_kI_c fun z231 m229 => ?_)
    refine Eq.trans (D_pfI gk_f81_402) ?_
    refine gd_ite (fun h232 => ?_) (fun _ => rfl)
    refine Eq.trans (D_goto (t := 461) gk_f81_405 (by decide)) ?_
    refine Eq.trans (D_aload_n (x := r0) gk_f81_461 rfl) ?_
    refine Eq.trans (D_aload_n (x := r0) gk_f81_462 rfl) ?_
    refine Eq.trans (D_gfI gk_f81_463 (by decide) (by decide) (by decide)) ?_
    refine gd_ite (fun h233 => ?_) (fun _ => rfl)
    refine Eq.trans (D_iconst (x := 4) gk_f81_466 gk_c_4) ?_
    refine Eq.trans (D_ic_ne (t := 474) gk_f81_467 (by decide)) ?_
    refine gd_ite (fun h234 => ?_) (fun h235 => ?_)
    · refine Eq.trans (D_iconst (x := 1) gk_f81_470 gk_c_1) ?_
      refine Eq.trans (D_goto (t := 475) gk_f81_471 (by decide)) ?_
      refine Eq.trans (D_iconst (x := 1) gk_f81_475 gk_c_1) ?_
      refine Eq.trans (D_ivV (cl := 9) (args := [.ref r0, .int 1, .int 1]) (rest := []) gk_f81_476 rfl rfl (gd_rmk gk_rm81_68 gk_ln68 gk_ml68 rfl rfl rfl) gk_rk68 (gd_hnd_n gk_nc81) gk_nc68 gk_n11_68 gk_cl68) ?_
      refine Eq.trans (if_pos h233) ?_
      refine gd_bnd (gd_kV_c fun m236 => ?_)
      refine Eq.trans (D_aload_n (x := r0) gk_f81_479 rfl) ?_
      refine Eq.trans (D_ivV (cl := 9) (args := [.ref r0]) (rest := []) gk_f81_480 rfl rfl (gd_rmk gk_rm81_69 gk_ln69 gk_ml69 rfl rfl rfl) gk_rk69 (gd_hnd_n gk_nc81) gk_nc69 gk_n11_69 gk_cl69) ?_
      refine gd_ite (fun h238 => ?_) (fun _ => rfl)
      refine gd_bnd (gd_kV_c fun m239 => ?_)
      refine Eq.trans (D_vreturn gk_f81_483 gk_rk81) ?_
      rfl
    · refine Eq.trans (D_iconst (x := 0) gk_f81_474 gk_c_0) ?_
      refine Eq.trans (D_iconst (x := 1) gk_f81_475 gk_c_1) ?_
      refine Eq.trans (D_ivV (cl := 9) (args := [.ref r0, .int 0, .int 1]) (rest := []) gk_f81_476 rfl rfl (gd_rmk gk_rm81_68 gk_ln68 gk_ml68 rfl rfl rfl) gk_rk68 (gd_hnd_n gk_nc81) gk_nc68 gk_n11_68 gk_cl68) ?_
      refine Eq.trans (if_pos h233) ?_
      refine gd_bnd (gd_kV_c fun m241 => ?_)
      refine Eq.trans (D_aload_n (x := r0) gk_f81_479 rfl) ?_
      refine Eq.trans (D_ivV (cl := 9) (args := [.ref r0]) (rest := []) gk_f81_480 rfl rfl (gd_rmk gk_rm81_69 gk_ln69 gk_ml69 rfl rfl rfl) gk_rk69 (gd_hnd_n gk_nc81) gk_nc69 gk_n11_69 gk_cl69) ?_
      refine gd_ite (fun h243 => ?_) (fun _ => rfl)
      refine gd_bnd (gd_kV_c fun m244 => ?_)
      refine Eq.trans (D_vreturn gk_f81_483 gk_rk81) ?_
      rfl
  refine Eq.trans (D_aload_n (x := r0) gk_f81_408 rfl) ?_
  refine Eq.trans (D_aload_n (x := r0) gk_f81_409 rfl) ?_
  refine Eq.trans (D_gfR gk_f81_410 (by decide)) ?_
  refine Eq.trans (if_pos h4) ?_
  refine Eq.trans (D_gfI gk_f81_413 (by decide) (by decide) (by decide)) ?_
  refine gd_ite (fun h246 => ?_) (fun _ => rfl)
  refine Eq.trans (D_ivV (cl := 9) (args := [.ref r0, .int (gI m2 (gR m2 r0 2) 31)]) (rest := []) gk_f81_416 rfl rfl (gd_rmk gk_rm81_80 gk_ln80 gk_ml80 rfl rfl rfl) gk_rk80 (gd_hnd_n gk_nc81) gk_nc80 gk_n11_80 gk_cl80) ?_
  refine Eq.trans (if_pos h4) ?_
  refine gd_bnd (gd_kV_c fun m247 => ?_)
  refine Eq.trans (D_aload_n (x := r0) gk_f81_419 rfl) ?_
  refine Eq.trans (D_gfR gk_f81_420 (by decide)) ?_
  refine gd_ite (fun h249 => ?_) (fun _ => rfl)
  refine Eq.trans (D_iconst (x := 1) gk_f81_423 gk_c_1) ?_
  refine Eq.trans (D_pfZ gk_f81_424) ?_
  refine gd_ite (fun h250 => ?_) (fun _ => rfl)
  refine Eq.trans (if_pos rfl) ?_
  refine Eq.trans (D_aload_n (x := r0) gk_f81_427 rfl) ?_
  refine Eq.trans (D_gfR gk_f81_428 (by decide)) ?_
  refine Eq.trans (if_pos h249) ?_
  refine Eq.trans (D_aload_n (x := r0) gk_f81_431 rfl) ?_
  refine Eq.trans (D_iconst (x := 1) gk_f81_432 gk_c_1) ?_
  refine Eq.trans (D_bipush (x := 10) gk_f81_433 gk_b_10) ?_
  refine Eq.trans (D_ivI (cl := 9) (args := [.ref r0, .int 1, .int 10]) (rest := [.ref (gR m247 r0 2)]) gk_f81_435 rfl rfl (gd_rmk gk_rm81_72 gk_ln72 gk_ml72 rfl rfl rfl) gk_rk72 (gd_hnd_n gk_nc81) gk_nc72 gk_n11_72 gk_cl72) ?_
  refine Eq.trans (if_pos h249) ?_
  refine gd_bnd (gd_kI_c fun z253 m251 => ?_)
  refine Eq.trans (D_pfI gk_f81_438) ?_
  refine gd_ite (fun h254 => ?_) (fun _ => rfl)
  refine Eq.trans (D_aload_n (x := r0) gk_f81_441 rfl) ?_
  refine Eq.trans (D_bipush (x := 18) gk_f81_442 gk_b_18) ?_
  refine Eq.trans (D_ivV (cl := 9) (args := [.ref r0, .int 18]) (rest := []) gk_f81_444 rfl rfl (gd_rmk gk_rm81_74 gk_ln74 gk_ml74 rfl rfl rfl) gk_rk74 (gd_hnd_n gk_nc81) gk_nc74 gk_n11_74 gk_cl74) ?_
  refine gd_ite (fun h255 => ?_) (fun _ => rfl)
  refine gd_bnd (gd_kV_c fun m256 => ?_)
  refine Eq.trans (D_aload_n (x := r0) gk_f81_447 rfl) ?_
  refine Eq.trans (D_gfR gk_f81_448 (by decide)) ?_
  refine gd_ite (fun h258 => ?_) (fun _ => rfl)
  refine Eq.trans (D_aload_n (x := r0) gk_f81_451 rfl) ?_
  refine Eq.trans (D_iconst (x := 1) gk_f81_452 gk_c_1) ?_
  refine Eq.trans (D_bipush (x := 10) gk_f81_453 gk_b_10) ?_
  refine Eq.trans (D_ivI (cl := 9) (args := [.ref r0, .int 1, .int 10]) (rest := [.ref (gR m256 r0 2)]) gk_f81_455 rfl rfl (gd_rmk gk_rm81_72 gk_ln72 gk_ml72 rfl rfl rfl) gk_rk72 (gd_hnd_n gk_nc81) gk_nc72 gk_n11_72 gk_cl72) ?_
  refine Eq.trans (if_pos h258) ?_
  refine gd_bnd (gd_kI_c fun z261 m259 => ?_)
  refine Eq.trans (D_pfI gk_f81_458) ?_
  refine gd_ite (fun h262 => ?_) (fun _ => rfl)
  refine Eq.trans (D_aload_n (x := r0) gk_f81_461 rfl) ?_
  refine Eq.trans (D_aload_n (x := r0) gk_f81_462 rfl) ?_
  refine Eq.trans (D_gfI gk_f81_463 (by decide) (by decide) (by decide)) ?_
  refine gd_ite (fun h263 => ?_) (fun _ => rfl)
  refine Eq.trans (D_iconst (x := 4) gk_f81_466 gk_c_4) ?_
  refine Eq.trans (D_ic_ne (t := 474) gk_f81_467 (by decide)) ?_
  refine gd_ite (fun h264 => ?_) (fun h265 => ?_)
  · refine Eq.trans (D_iconst (x := 1) gk_f81_470 gk_c_1) ?_
    refine Eq.trans (D_goto (t := 475) gk_f81_471 (by decide)) ?_
    refine Eq.trans (D_iconst (x := 1) gk_f81_475 gk_c_1) ?_
    refine Eq.trans (D_ivV (cl := 9) (args := [.ref r0, .int 1, .int 1]) (rest := []) gk_f81_476 rfl rfl (gd_rmk gk_rm81_68 gk_ln68 gk_ml68 rfl rfl rfl) gk_rk68 (gd_hnd_n gk_nc81) gk_nc68 gk_n11_68 gk_cl68) ?_
    refine Eq.trans (if_pos h263) ?_
    refine gd_bnd (gd_kV_c fun m266 => ?_)
    refine Eq.trans (D_aload_n (x := r0) gk_f81_479 rfl) ?_
    refine Eq.trans (D_ivV (cl := 9) (args := [.ref r0]) (rest := []) gk_f81_480 rfl rfl (gd_rmk gk_rm81_69 gk_ln69 gk_ml69 rfl rfl rfl) gk_rk69 (gd_hnd_n gk_nc81) gk_nc69 gk_n11_69 gk_cl69) ?_
    refine gd_ite (fun h268 => ?_) (fun _ => rfl)
    refine gd_bnd (gd_kV_c fun m269 => ?_)
    refine Eq.trans (D_vreturn gk_f81_483 gk_rk81) ?_
    rfl
  · refine Eq.trans (D_iconst (x := 0) gk_f81_474 gk_c_0) ?_
    refine Eq.trans (D_iconst (x := 1) gk_f81_475 gk_c_1) ?_
    refine Eq.trans (D_ivV (cl := 9) (args := [.ref r0, .int 0, .int 1]) (rest := []) gk_f81_476 rfl rfl (gd_rmk gk_rm81_68 gk_ln68 gk_ml68 rfl rfl rfl) gk_rk68 (gd_hnd_n gk_nc81) gk_nc68 gk_n11_68 gk_cl68) ?_
    refine Eq.trans (if_pos h263) ?_
    refine gd_bnd (gd_kV_c fun m271 => ?_)
    refine Eq.trans (D_aload_n (x := r0) gk_f81_479 rfl) ?_
    refine Eq.trans (D_ivV (cl := 9) (args := [.ref r0]) (rest := []) gk_f81_480 rfl rfl (gd_rmk gk_rm81_69 gk_ln69 gk_ml69 rfl rfl rfl) gk_rk69 (gd_hnd_n gk_nc81) gk_nc69 gk_n11_69 gk_cl69) ?_
    refine gd_ite (fun h273 => ?_) (fun _ => rfl)
    refine gd_bnd (gd_kV_c fun m274 => ?_)
    refine Eq.trans (D_vreturn gk_f81_483 gk_rk81) ?_
    rfl
/-! GymDeskModel.code ()I -/
set_option maxRecDepth 20000 in
theorem gk_f82_0 : gd_fetch 82 0 = some (0, .aload_n 0, 1, 0, 0, 0, 0, 0) := rfl
set_option maxRecDepth 20000 in
theorem gk_f82_1 : gd_fetch 82 1 = some (1, .aload_n 0, 1, 0, 0, 0, 0, 0) := rfl
set_option maxRecDepth 20000 in
theorem gk_f82_2 : gd_fetch 82 2 = some (2, .getfield 114, 3, 1167, 9, 4, 0, 0) := rfl
set_option maxRecDepth 20000 in
theorem gk_f82_5 : gd_fetch 82 5 = some (5, .putfield 117, 3, 1168, 9, 5, 0, 0) := rfl
set_option maxRecDepth 20000 in
theorem gk_f82_8 : gd_fetch 82 8 = some (8, .aload_n 0, 1, 0, 0, 0, 0, 0) := rfl
set_option maxRecDepth 20000 in
theorem gk_f82_9 : gd_fetch 82 9 = some (9, .iconst 0, 1, 0, 0, 0, 0, 0) := rfl
set_option maxRecDepth 20000 in
theorem gk_f82_10 : gd_fetch 82 10 = some (10, .putfield 114, 3, 1167, 9, 4, 0, 0) := rfl
set_option maxRecDepth 20000 in
theorem gk_f82_13 : gd_fetch 82 13 = some (13, .aload_n 0, 1, 0, 0, 0, 0, 0) := rfl
set_option maxRecDepth 20000 in
theorem gk_f82_14 : gd_fetch 82 14 = some (14, .iconst 0, 1, 0, 0, 0, 0, 0) := rfl
set_option maxRecDepth 20000 in
theorem gk_f82_15 : gd_fetch 82 15 = some (15, .putfield 142, 3, 1172, 9, 9, 0, 0) := rfl
set_option maxRecDepth 20000 in
theorem gk_f82_18 : gd_fetch 82 18 = some (18, .aload_n 0, 1, 0, 0, 0, 0, 0) := rfl
set_option maxRecDepth 20000 in
theorem gk_f82_19 : gd_fetch 82 19 = some (19, .iconst 0, 1, 0, 0, 0, 0, 0) := rfl
set_option maxRecDepth 20000 in
theorem gk_f82_20 : gd_fetch 82 20 = some (20, .putfield 148, 3, 1174, 9, 11, 0, 0) := rfl
set_option maxRecDepth 20000 in
theorem gk_f82_23 : gd_fetch 82 23 = some (23, .aload_n 0, 1, 0, 0, 0, 0, 0) := rfl
set_option maxRecDepth 20000 in
theorem gk_f82_24 : gd_fetch 82 24 = some (24, .iconst 0, 1, 0, 0, 0, 0, 0) := rfl
set_option maxRecDepth 20000 in
theorem gk_f82_25 : gd_fetch 82 25 = some (25, .putfield 120, 3, 1177, 9, 14, 0, 0) := rfl
set_option maxRecDepth 20000 in
theorem gk_f82_28 : gd_fetch 82 28 = some (28, .aload_n 0, 1, 0, 0, 0, 0, 0) := rfl
set_option maxRecDepth 20000 in
theorem gk_f82_29 : gd_fetch 82 29 = some (29, .iconst (-1), 1, 0, 0, 0, 0, 0) := rfl
set_option maxRecDepth 20000 in
theorem gk_f82_30 : gd_fetch 82 30 = some (30, .putfield 30, 3, 1178, 9, 15, 0, 0) := rfl
set_option maxRecDepth 20000 in
theorem gk_f82_33 : gd_fetch 82 33 = some (33, .aload_n 0, 1, 0, 0, 0, 0, 0) := rfl
set_option maxRecDepth 20000 in
theorem gk_f82_34 : gd_fetch 82 34 = some (34, .getfield 23, 3, 1165, 9, 2, 4, 0) := rfl
set_option maxRecDepth 20000 in
theorem gk_f82_37 : gd_fetch 82 37 = some (37, .invokevirtual 111, 3, 1159, 20, 0, 0, 0) := rfl
set_option maxRecDepth 20000 in
theorem gk_f82_40 : gd_fetch 82 40 = some (40, .iconst 0, 1, 0, 0, 0, 0, 0) := rfl
set_option maxRecDepth 20000 in
theorem gk_f82_41 : gd_fetch 82 41 = some (41, .istore_n 1, 1, 0, 0, 0, 0, 0) := rfl
set_option maxRecDepth 20000 in
theorem gk_f82_42 : gd_fetch 82 42 = some (42, .iload_n 1, 1, 0, 0, 0, 0, 0) := rfl
set_option maxRecDepth 20000 in
theorem gk_f82_43 : gd_fetch 82 43 = some (43, .iconst 5, 1, 0, 0, 0, 0, 0) := rfl
set_option maxRecDepth 20000 in
theorem gk_f82_44 : gd_fetch 82 44 = some (44, .if_icmp .ge 23, 3, 0, 0, 0, 0, 0) := rfl
set_option maxRecDepth 20000 in
theorem gk_f82_47 : gd_fetch 82 47 = some (47, .aload_n 0, 1, 0, 0, 0, 0, 0) := rfl
set_option maxRecDepth 20000 in
theorem gk_f82_48 : gd_fetch 82 48 = some (48, .getfield 34, 3, 1179, 9, 16, 4, 1) := rfl
set_option maxRecDepth 20000 in
theorem gk_f82_51 : gd_fetch 82 51 = some (51, .iload_n 1, 1, 0, 0, 0, 0, 0) := rfl
set_option maxRecDepth 20000 in
theorem gk_f82_52 : gd_fetch 82 52 = some (52, .iconst 0, 1, 0, 0, 0, 0, 0) := rfl
set_option maxRecDepth 20000 in
theorem gk_f82_53 : gd_fetch 82 53 = some (53, .bastore, 1, 0, 0, 0, 0, 0) := rfl
set_option maxRecDepth 20000 in
theorem gk_f82_54 : gd_fetch 82 54 = some (54, .aload_n 0, 1, 0, 0, 0, 0, 0) := rfl
set_option maxRecDepth 20000 in
theorem gk_f82_55 : gd_fetch 82 55 = some (55, .getfield 38, 3, 1180, 9, 17, 4, 1) := rfl
set_option maxRecDepth 20000 in
theorem gk_f82_58 : gd_fetch 82 58 = some (58, .iload_n 1, 1, 0, 0, 0, 0, 0) := rfl
set_option maxRecDepth 20000 in
theorem gk_f82_59 : gd_fetch 82 59 = some (59, .iconst 0, 1, 0, 0, 0, 0, 0) := rfl
set_option maxRecDepth 20000 in
theorem gk_f82_60 : gd_fetch 82 60 = some (60, .bastore, 1, 0, 0, 0, 0, 0) := rfl
set_option maxRecDepth 20000 in
theorem gk_f82_61 : gd_fetch 82 61 = some (61, .iinc 1 1, 3, 0, 0, 0, 0, 0) := rfl
set_option maxRecDepth 20000 in
theorem gk_f82_64 : gd_fetch 82 64 = some (64, .goto (-22), 3, 0, 0, 0, 0, 0) := rfl
set_option maxRecDepth 20000 in
theorem gk_f82_67 : gd_fetch 82 67 = some (67, .aload_n 0, 1, 0, 0, 0, 0, 0) := rfl
set_option maxRecDepth 20000 in
theorem gk_f82_68 : gd_fetch 82 68 = some (68, .invokevirtual 183, 3, 1311, 67, 0, 0, 0) := rfl
set_option maxRecDepth 20000 in
theorem gk_f82_71 : gd_fetch 82 71 = some (71, .aload_n 0, 1, 0, 0, 0, 0, 0) := rfl
set_option maxRecDepth 20000 in
theorem gk_f82_72 : gd_fetch 82 72 = some (72, .getfield 145, 3, 1169, 9, 6, 0, 0) := rfl
set_option maxRecDepth 20000 in
theorem gk_f82_75 : gd_fetch 82 75 = some (75, .iconst 5, 1, 0, 0, 0, 0, 0) := rfl
set_option maxRecDepth 20000 in
theorem gk_f82_76 : gd_fetch 82 76 = some (76, .if_icmp .eq 10, 3, 0, 0, 0, 0, 0) := rfl
set_option maxRecDepth 20000 in
theorem gk_f82_79 : gd_fetch 82 79 = some (79, .aload_n 0, 1, 0, 0, 0, 0, 0) := rfl
set_option maxRecDepth 20000 in
theorem gk_f82_80 : gd_fetch 82 80 = some (80, .invokevirtual 323, 3, 1336, 81, 0, 0, 0) := rfl
set_option maxRecDepth 20000 in
theorem gk_f82_83 : gd_fetch 82 83 = some (83, .goto (-12), 3, 0, 0, 0, 0, 0) := rfl
set_option maxRecDepth 20000 in
theorem gk_f82_86 : gd_fetch 82 86 = some (86, .goto 6, 3, 0, 0, 0, 0, 0) := rfl
set_option maxRecDepth 20000 in
theorem gk_f82_90 : gd_fetch 82 90 = some (90, .iconst (-1), 1, 0, 0, 0, 0, 0) := rfl
set_option maxRecDepth 20000 in
theorem gk_f82_91 : gd_fetch 82 91 = some (91, .ireturn, 1, 0, 0, 0, 0, 0) := rfl
set_option maxRecDepth 20000 in
theorem gk_f82_92 : gd_fetch 82 92 = some (92, .aload_n 0, 1, 0, 0, 0, 0, 0) := rfl
set_option maxRecDepth 20000 in
theorem gk_f82_93 : gd_fetch 82 93 = some (93, .getfield 19, 3, 1164, 9, 1, 4, 0) := rfl
set_option maxRecDepth 20000 in
theorem gk_f82_96 : gd_fetch 82 96 = some (96, .astore_n 1, 1, 0, 0, 0, 0, 0) := rfl
set_option maxRecDepth 20000 in
theorem gk_f82_97 : gd_fetch 82 97 = some (97, .aload_n 0, 1, 0, 0, 0, 0, 0) := rfl
set_option maxRecDepth 20000 in
theorem gk_f82_98 : gd_fetch 82 98 = some (98, .aload_n 0, 1, 0, 0, 0, 0, 0) := rfl
set_option maxRecDepth 20000 in
theorem gk_f82_99 : gd_fetch 82 99 = some (99, .getfield 23, 3, 1165, 9, 2, 4, 0) := rfl
set_option maxRecDepth 20000 in
theorem gk_f82_102 : gd_fetch 82 102 = some (102, .putfield 19, 3, 1164, 9, 1, 4, 0) := rfl
set_option maxRecDepth 20000 in
theorem gk_f82_105 : gd_fetch 82 105 = some (105, .aload_n 0, 1, 0, 0, 0, 0, 0) := rfl
set_option maxRecDepth 20000 in
theorem gk_f82_106 : gd_fetch 82 106 = some (106, .aload_n 1, 1, 0, 0, 0, 0, 0) := rfl
set_option maxRecDepth 20000 in
theorem gk_f82_107 : gd_fetch 82 107 = some (107, .putfield 23, 3, 1165, 9, 2, 4, 0) := rfl
set_option maxRecDepth 20000 in
theorem gk_f82_110 : gd_fetch 82 110 = some (110, .aload_n 0, 1, 0, 0, 0, 0, 0) := rfl
set_option maxRecDepth 20000 in
theorem gk_f82_111 : gd_fetch 82 111 = some (111, .iconst 0, 1, 0, 0, 0, 0, 0) := rfl
set_option maxRecDepth 20000 in
theorem gk_f82_112 : gd_fetch 82 112 = some (112, .putfield 326, 3, 1181, 9, 18, 0, 0) := rfl
set_option maxRecDepth 20000 in
theorem gk_f82_115 : gd_fetch 82 115 = some (115, .aload_n 0, 1, 0, 0, 0, 0, 0) := rfl
set_option maxRecDepth 20000 in
theorem gk_f82_116 : gd_fetch 82 116 = some (116, .iconst 0, 1, 0, 0, 0, 0, 0) := rfl
set_option maxRecDepth 20000 in
theorem gk_f82_117 : gd_fetch 82 117 = some (117, .putfield 329, 3, 1182, 9, 19, 0, 0) := rfl
set_option maxRecDepth 20000 in
theorem gk_f82_120 : gd_fetch 82 120 = some (120, .iconst 0, 1, 0, 0, 0, 0, 0) := rfl
set_option maxRecDepth 20000 in
theorem gk_f82_121 : gd_fetch 82 121 = some (121, .istore_n 2, 1, 0, 0, 0, 0, 0) := rfl
set_option maxRecDepth 20000 in
theorem gk_f82_122 : gd_fetch 82 122 = some (122, .iload_n 2, 1, 0, 0, 0, 0, 0) := rfl
set_option maxRecDepth 20000 in
theorem gk_f82_123 : gd_fetch 82 123 = some (123, .sipush 160, 3, 0, 0, 0, 0, 0) := rfl
set_option maxRecDepth 20000 in
theorem gk_f82_126 : gd_fetch 82 126 = some (126, .if_icmp .ge 16, 3, 0, 0, 0, 0, 0) := rfl
set_option maxRecDepth 20000 in
theorem gk_f82_129 : gd_fetch 82 129 = some (129, .aload_n 0, 1, 0, 0, 0, 0, 0) := rfl
set_option maxRecDepth 20000 in
theorem gk_f82_130 : gd_fetch 82 130 = some (130, .getfield 51, 3, 1186, 9, 23, 4, 1) := rfl
set_option maxRecDepth 20000 in
theorem gk_f82_133 : gd_fetch 82 133 = some (133, .iload_n 2, 1, 0, 0, 0, 0, 0) := rfl
set_option maxRecDepth 20000 in
theorem gk_f82_134 : gd_fetch 82 134 = some (134, .iconst 0, 1, 0, 0, 0, 0, 0) := rfl
set_option maxRecDepth 20000 in
theorem gk_f82_135 : gd_fetch 82 135 = some (135, .bastore, 1, 0, 0, 0, 0, 0) := rfl
set_option maxRecDepth 20000 in
theorem gk_f82_136 : gd_fetch 82 136 = some (136, .iinc 2 1, 3, 0, 0, 0, 0, 0) := rfl
set_option maxRecDepth 20000 in
theorem gk_f82_139 : gd_fetch 82 139 = some (139, .goto (-17), 3, 0, 0, 0, 0, 0) := rfl
set_option maxRecDepth 20000 in
theorem gk_f82_142 : gd_fetch 82 142 = some (142, .iconst 0, 1, 0, 0, 0, 0, 0) := rfl
set_option maxRecDepth 20000 in
theorem gk_f82_143 : gd_fetch 82 143 = some (143, .istore_n 2, 1, 0, 0, 0, 0, 0) := rfl
set_option maxRecDepth 20000 in
theorem gk_f82_144 : gd_fetch 82 144 = some (144, .iload_n 2, 1, 0, 0, 0, 0, 0) := rfl
set_option maxRecDepth 20000 in
theorem gk_f82_145 : gd_fetch 82 145 = some (145, .bipush 10, 2, 0, 0, 0, 0, 0) := rfl
set_option maxRecDepth 20000 in
theorem gk_f82_147 : gd_fetch 82 147 = some (147, .if_icmp .ge 16, 3, 0, 0, 0, 0, 0) := rfl
set_option maxRecDepth 20000 in
theorem gk_f82_150 : gd_fetch 82 150 = some (150, .aload_n 0, 1, 0, 0, 0, 0, 0) := rfl
set_option maxRecDepth 20000 in
theorem gk_f82_151 : gd_fetch 82 151 = some (151, .getfield 45, 3, 1184, 9, 21, 4, 1) := rfl
set_option maxRecDepth 20000 in
theorem gk_f82_154 : gd_fetch 82 154 = some (154, .iload_n 2, 1, 0, 0, 0, 0, 0) := rfl
set_option maxRecDepth 20000 in
theorem gk_f82_155 : gd_fetch 82 155 = some (155, .iconst 0, 1, 0, 0, 0, 0, 0) := rfl
set_option maxRecDepth 20000 in
theorem gk_f82_156 : gd_fetch 82 156 = some (156, .iastore, 1, 0, 0, 0, 0, 0) := rfl
set_option maxRecDepth 20000 in
theorem gk_f82_157 : gd_fetch 82 157 = some (157, .iinc 2 1, 3, 0, 0, 0, 0, 0) := rfl
set_option maxRecDepth 20000 in
theorem gk_f82_160 : gd_fetch 82 160 = some (160, .goto (-16), 3, 0, 0, 0, 0, 0) := rfl
set_option maxRecDepth 20000 in
theorem gk_f82_163 : gd_fetch 82 163 = some (163, .aload_n 0, 1, 0, 0, 0, 0, 0) := rfl
set_option maxRecDepth 20000 in
theorem gk_f82_164 : gd_fetch 82 164 = some (164, .getfield 19, 3, 1164, 9, 1, 4, 0) := rfl
set_option maxRecDepth 20000 in
theorem gk_f82_167 : gd_fetch 82 167 = some (167, .getfield 196, 3, 1031, 7, 0, 0, 0) := rfl
set_option maxRecDepth 20000 in
theorem gk_f82_170 : gd_fetch 82 170 = some (170, .ireturn, 1, 0, 0, 0, 0, 0) := rfl
set_option maxRecDepth 20000 in
set_option maxHeartbeats 4000000 in
theorem q_Mo_code (r0 : Nat) (m : gd_M) : gd_call 82 [.ref r0] m = if gd_ok (gN m) r0 9 = true then (if gd_ok (gN m) (gR m r0 2) 7 = true then ((gd_call 20 [.ref (gR m r0 2)] (wI (wI (wI (wI (wI (wI m r0 5 (gI m r0 4)) r0 4 0) r0 9 0) r0 11 0) r0 14 0) r0 15 (-1))).bind (gd_kV fun m3 => gd_Den (82, 42, [.ref r0, .int 0, .null], [], m3))) else none) else none := by
  refine Eq.trans (show gd_call 82 [.ref r0] m = gd_Den (82, 0, [.ref r0, .null, .null], [], m) from by unfold gd_call gd_ent; rw [gk_ml82]; rfl) ?_
  refine Eq.trans (D_aload_n (x := r0) gk_f82_0 rfl) ?_
  refine Eq.trans (D_aload_n (x := r0) gk_f82_1 rfl) ?_
  refine Eq.trans (D_gfI gk_f82_2 (by decide) (by decide) (by decide)) ?_
  refine gd_ite (fun h1 => ?_) (fun _ => rfl)
  refine Eq.trans (D_pfI gk_f82_5) ?_
  refine Eq.trans (if_pos h1) ?_
  refine Eq.trans (D_aload_n (x := r0) gk_f82_8 rfl) ?_
  refine Eq.trans (D_iconst (x := 0) gk_f82_9 gk_c_0) ?_
  refine Eq.trans (D_pfI gk_f82_10) ?_
  refine Eq.trans (if_pos h1) ?_
  refine Eq.trans (D_aload_n (x := r0) gk_f82_13 rfl) ?_
  refine Eq.trans (D_iconst (x := 0) gk_f82_14 gk_c_0) ?_
  refine Eq.trans (D_pfI gk_f82_15) ?_
  refine Eq.trans (if_pos h1) ?_
  refine Eq.trans (D_aload_n (x := r0) gk_f82_18 rfl) ?_
  refine Eq.trans (D_iconst (x := 0) gk_f82_19 gk_c_0) ?_
  refine Eq.trans (D_pfI gk_f82_20) ?_
  refine Eq.trans (if_pos h1) ?_
  refine Eq.trans (D_aload_n (x := r0) gk_f82_23 rfl) ?_
  refine Eq.trans (D_iconst (x := 0) gk_f82_24 gk_c_0) ?_
  refine Eq.trans (D_pfI gk_f82_25) ?_
  refine Eq.trans (if_pos h1) ?_
  refine Eq.trans (D_aload_n (x := r0) gk_f82_28 rfl) ?_
  refine Eq.trans (D_iconst (x := (-1)) gk_f82_29 gk_c_m1) ?_
  refine Eq.trans (D_pfI gk_f82_30) ?_
  refine Eq.trans (if_pos h1) ?_
  refine Eq.trans (D_aload_n (x := r0) gk_f82_33 rfl) ?_
  refine Eq.trans (D_gfR gk_f82_34 (by decide)) ?_
  refine Eq.trans (if_pos h1) ?_
  refine Eq.trans (D_ivV (cl := 7) (args := [.ref (gR m r0 2)]) (rest := []) gk_f82_37 rfl rfl (gd_rmk gk_rm82_20 gk_ln20 gk_ml20 rfl rfl rfl) gk_rk20 (by decide +kernel) gk_nc20 gk_n11_20 gk_cl20) ?_
  refine gd_ite (fun h2 => ?_) (fun _ => rfl)
  refine gd_bnd (gd_kV_c fun m3 => ?_)
  refine Eq.trans (D_iconst (x := 0) gk_f82_40 gk_c_0) ?_
  refine Eq.trans (D_istore_n gk_f82_41 gk_st82_1) ?_
  rfl
set_option maxRecDepth 20000 in
set_option maxHeartbeats 4000000 in
theorem q_Mo_code_42 (r0 : Nat) (x1 : Int32) (m : gd_M) : gd_Den (82, 42, [.ref r0, .int x1, .null], [], m) = if (x1 < 5 : Prop) then (if gd_ok (gN m) r0 9 = true then (if gd_okA (gN m) (gR m r0 16) 11 x1 = true then (if gd_okA (gN m) (gR m r0 17) 11 x1 = true then (gd_Den (82, 42, [.ref r0, .int (x1 + 1), .null], [], (wI (wI m (gR m r0 16) (x1 : Int32).toNatClampNeg (vp_nar .boolean 0)) (gR m r0 17) (x1 : Int32).toNatClampNeg (vp_nar .boolean 0)))) else none) else none) else none) else (if gd_ok (gN m) r0 9 = true then ((gd_call 67 [.ref r0] m).bind (gd_khV (fun m7 => gd_Den (82, 71, [.ref r0, .int x1, .null], [], m7)) (fun m9 => gd_Den (82, 90, [.ref r0, .null, .null], [], m9)))) else none) := by
  refine Eq.trans (D_iload_n (x := x1) gk_f82_42 rfl) ?_
  refine Eq.trans (D_iconst (x := 5) gk_f82_43 gk_c_5) ?_
  refine Eq.trans (D_ic_ge (t := 67) gk_f82_44 (by decide)) ?_
  refine gd_ite (fun h1 => ?_) (fun h2 => ?_)
  · refine Eq.trans (D_aload_n (x := r0) gk_f82_47 rfl) ?_
    refine Eq.trans (D_gfR gk_f82_48 (by decide)) ?_
    refine gd_ite (fun h3 => ?_) (fun _ => rfl)
    refine Eq.trans (D_iload_n (x := x1) gk_f82_51 rfl) ?_
    refine Eq.trans (D_iconst (x := 0) gk_f82_52 gk_c_0) ?_
    refine Eq.trans (D_bastZ gk_f82_53 gk_b12_82) ?_
    refine gd_ite (fun h4 => ?_) (fun _ => rfl)
    refine Eq.trans (D_aload_n (x := r0) gk_f82_54 rfl) ?_
    refine Eq.trans (D_gfR gk_f82_55 (by decide)) ?_
    refine Eq.trans (if_pos h3) ?_
    refine Eq.trans (D_iload_n (x := x1) gk_f82_58 rfl) ?_
    refine Eq.trans (D_iconst (x := 0) gk_f82_59 gk_c_0) ?_
    refine Eq.trans (D_bastZ gk_f82_60 gk_b12_82) ?_
    refine gd_ite (fun h5 => ?_) (fun _ => rfl)
    refine Eq.trans (D_iinc (x := x1) (y := 1) gk_f82_61 rfl gk_c_1 gk_st82_1) ?_
    refine Eq.trans (D_goto (t := 42) gk_f82_64 (by decide)) ?_
    rfl
  · refine Eq.trans (D_aload_n (x := r0) gk_f82_67 rfl) ?_
    refine Eq.trans (D_ivh (cl := 9) (args := [.ref r0]) (rest := []) gk_f82_68 rfl rfl (gd_rmk gk_rm82_67 gk_ln67 gk_ml67 rfl rfl rfl) gk_rk67 (by decide +kernel) gk_nc67 gk_n11_67 gk_cl67) ?_
    refine gd_ite (fun h6 => ?_) (fun _ => rfl)
    refine gd_bnd (gd_khV_c (fun m7 => ?_) (fun m9 => ?_))
    · rfl
    · rfl
set_option maxRecDepth 20000 in
set_option maxHeartbeats 4000000 in
theorem q_Mo_code_71 (r0 : Nat) (x1 : Int32) (m : gd_M) : gd_Den (82, 71, [.ref r0, .int x1, .null], [], m) = if gd_ok (gN m) r0 9 = true then (if ((gI m r0 6) = 5 : Prop) then (gd_Den (82, 122, [.ref r0, .ref (gR m r0 1), .int 0], [], (wI (wI (wR (wR m r0 1 (gR m r0 2)) r0 2 (gR m r0 1)) r0 18 0) r0 19 0))) else ((gd_call 81 [.ref r0] m).bind (gd_khV (fun m4 => gd_Den (82, 71, [.ref r0, .int x1, .null], [], m4)) (fun m6 => gd_Den (82, 90, [.ref r0, .null, .null], [], m6))))) else none := by
  refine Eq.trans (D_aload_n (x := r0) gk_f82_71 rfl) ?_
  refine Eq.trans (D_gfI gk_f82_72 (by decide) (by decide) (by decide)) ?_
  refine gd_ite (fun h1 => ?_) (fun _ => rfl)
  refine Eq.trans (D_iconst (x := 5) gk_f82_75 gk_c_5) ?_
  refine Eq.trans (D_ic_eq (t := 86) gk_f82_76 (by decide)) ?_
  refine gd_ite (fun h2 => ?_) (fun h3 => ?_)
  · refine Eq.trans (D_goto (t := 92) gk_f82_86 (by decide)) ?_
    refine Eq.trans (D_aload_n (x := r0) gk_f82_92 rfl) ?_
    refine Eq.trans (D_gfR gk_f82_93 (by decide)) ?_
    refine Eq.trans (if_pos h1) ?_
    refine Eq.trans (D_astore_n gk_f82_96 gk_st82_1) ?_
    refine Eq.trans (D_aload_n (x := r0) gk_f82_97 rfl) ?_
    refine Eq.trans (D_aload_n (x := r0) gk_f82_98 rfl) ?_
    refine Eq.trans (D_gfR gk_f82_99 (by decide)) ?_
    refine Eq.trans (if_pos h1) ?_
    refine Eq.trans (D_pfR gk_f82_102) ?_
    refine Eq.trans (if_pos h1) ?_
    refine Eq.trans (D_aload_n (x := r0) gk_f82_105 rfl) ?_
    refine Eq.trans (D_aload_n (x := (gR m r0 1)) gk_f82_106 rfl) ?_
    refine Eq.trans (D_pfR gk_f82_107) ?_
    refine Eq.trans (if_pos h1) ?_
    refine Eq.trans (D_aload_n (x := r0) gk_f82_110 rfl) ?_
    refine Eq.trans (D_iconst (x := 0) gk_f82_111 gk_c_0) ?_
    refine Eq.trans (D_pfI gk_f82_112) ?_
    refine Eq.trans (if_pos h1) ?_
    refine Eq.trans (D_aload_n (x := r0) gk_f82_115 rfl) ?_
    refine Eq.trans (D_iconst (x := 0) gk_f82_116 gk_c_0) ?_
    refine Eq.trans (D_pfI gk_f82_117) ?_
    refine Eq.trans (if_pos h1) ?_
    refine Eq.trans (D_iconst (x := 0) gk_f82_120 gk_c_0) ?_
    refine Eq.trans (D_istore_n gk_f82_121 gk_st82_2) ?_
    rfl
  · refine Eq.trans (D_aload_n (x := r0) gk_f82_79 rfl) ?_
    refine Eq.trans (D_ivh (cl := 9) (args := [.ref r0]) (rest := []) gk_f82_80 rfl rfl (gd_rmk gk_rm82_81 gk_ln81 gk_ml81 rfl rfl rfl) gk_rk81 (by decide +kernel) gk_nc81 gk_n11_81 gk_cl81) ?_
    refine Eq.trans (if_pos h1) ?_
    refine gd_bnd (gd_khV_c (fun m4 => ?_) (fun m6 => ?_))
    · refine Eq.trans (D_goto (t := 71) gk_f82_83 (by decide)) ?_
      rfl
    · rfl
set_option maxRecDepth 20000 in
set_option maxHeartbeats 4000000 in
theorem q_Mo_code_90 (r0 : Nat) (v1 : Value) (v2 : Value) (m : gd_M) : gd_Den (82, 90, [.ref r0, v1, v2], [], m) = some (.int (-1), m) := by
  refine Eq.trans (D_iconst (x := (-1)) gk_f82_90 gk_c_m1) ?_
  refine Eq.trans (D_ireturn gk_f82_91 gk_rk82) ?_
  rfl
set_option maxRecDepth 20000 in
set_option maxHeartbeats 4000000 in
theorem q_Mo_code_122 (r0 : Nat) (r1 : Nat) (x2 : Int32) (m : gd_M) : gd_Den (82, 122, [.ref r0, .ref r1, .int x2], [], m) = if (x2 < 160 : Prop) then (if gd_ok (gN m) r0 9 = true then (if gd_okA (gN m) (gR m r0 23) 11 x2 = true then (gd_Den (82, 122, [.ref r0, .ref r1, .int (x2 + 1)], [], (wI m (gR m r0 23) (x2 : Int32).toNatClampNeg (vp_nar .boolean 0)))) else none) else none) else (gd_Den (82, 144, [.ref r0, .ref r1, .int 0], [], m)) := by
  refine Eq.trans (D_iload_n (x := x2) gk_f82_122 rfl) ?_
  refine Eq.trans (D_sipush (x := 160) gk_f82_123 gk_s_160) ?_
  refine Eq.trans (D_ic_ge (t := 142) gk_f82_126 (by decide)) ?_
  refine gd_ite (fun h1 => ?_) (fun h2 => ?_)
  · refine Eq.trans (D_aload_n (x := r0) gk_f82_129 rfl) ?_
    refine Eq.trans (D_gfR gk_f82_130 (by decide)) ?_
    refine gd_ite (fun h3 => ?_) (fun _ => rfl)
    refine Eq.trans (D_iload_n (x := x2) gk_f82_133 rfl) ?_
    refine Eq.trans (D_iconst (x := 0) gk_f82_134 gk_c_0) ?_
    refine Eq.trans (D_bastZ gk_f82_135 gk_b12_82) ?_
    refine gd_ite (fun h4 => ?_) (fun _ => rfl)
    refine Eq.trans (D_iinc (x := x2) (y := 1) gk_f82_136 rfl gk_c_1 gk_st82_2) ?_
    refine Eq.trans (D_goto (t := 122) gk_f82_139 (by decide)) ?_
    rfl
  · refine Eq.trans (D_iconst (x := 0) gk_f82_142 gk_c_0) ?_
    refine Eq.trans (D_istore_n gk_f82_143 gk_st82_2) ?_
    rfl
set_option maxRecDepth 20000 in
set_option maxHeartbeats 4000000 in
theorem q_Mo_code_144 (r0 : Nat) (r1 : Nat) (x2 : Int32) (m : gd_M) : gd_Den (82, 144, [.ref r0, .ref r1, .int x2], [], m) = if (x2 < 10 : Prop) then (if gd_ok (gN m) r0 9 = true then (if gd_okA (gN m) (gR m r0 21) 10 x2 = true then (gd_Den (82, 144, [.ref r0, .ref r1, .int (x2 + 1)], [], (wI m (gR m r0 21) (x2 : Int32).toNatClampNeg 0))) else none) else none) else (if gd_ok (gN m) r0 9 = true then (if gd_ok (gN m) (gR m r0 1) 7 = true then (some (.int (gI m (gR m r0 1) 0), m)) else none) else none) := by
  refine Eq.trans (D_iload_n (x := x2) gk_f82_144 rfl) ?_
  refine Eq.trans (D_bipush (x := 10) gk_f82_145 gk_b_10) ?_
  refine Eq.trans (D_ic_ge (t := 163) gk_f82_147 (by decide)) ?_
  refine gd_ite (fun h1 => ?_) (fun h2 => ?_)
  · refine Eq.trans (D_aload_n (x := r0) gk_f82_150 rfl) ?_
    refine Eq.trans (D_gfR gk_f82_151 (by decide)) ?_
    refine gd_ite (fun h3 => ?_) (fun _ => rfl)
    refine Eq.trans (D_iload_n (x := x2) gk_f82_154 rfl) ?_
    refine Eq.trans (D_iconst (x := 0) gk_f82_155 gk_c_0) ?_
    refine Eq.trans (D_iast gk_f82_156) ?_
    refine gd_ite (fun h4 => ?_) (fun _ => rfl)
    refine Eq.trans (D_iinc (x := x2) (y := 1) gk_f82_157 rfl gk_c_1 gk_st82_2) ?_
    refine Eq.trans (D_goto (t := 144) gk_f82_160 (by decide)) ?_
    rfl
  · refine Eq.trans (D_aload_n (x := r0) gk_f82_163 rfl) ?_
    refine Eq.trans (D_gfR gk_f82_164 (by decide)) ?_
    refine gd_ite (fun h5 => ?_) (fun _ => rfl)
    refine Eq.trans (D_gfI gk_f82_167 (by decide) (by decide) (by decide)) ?_
    refine gd_ite (fun h6 => ?_) (fun _ => rfl)
    refine Eq.trans (D_ireturn gk_f82_170 gk_rk82) ?_
    rfl
/-! GymDesk.fault (I)I -/
set_option maxRecDepth 20000 in
theorem gk_f83_0 : gd_fetch 83 0 = some (0, .iload_n 1, 1, 0, 0, 0, 0, 0) := rfl
set_option maxRecDepth 20000 in
theorem gk_f83_1 : gd_fetch 83 1 = some (1, .ifCond .ne 11, 3, 0, 0, 0, 0, 0) := rfl
set_option maxRecDepth 20000 in
theorem gk_f83_4 : gd_fetch 83 4 = some (4, .aload_n 0, 1, 0, 0, 0, 0, 0) := rfl
set_option maxRecDepth 20000 in
theorem gk_f83_5 : gd_fetch 83 5 = some (5, .getfield 16, 3, 461, 6, 1, 4, 1) := rfl
set_option maxRecDepth 20000 in
theorem gk_f83_8 : gd_fetch 83 8 = some (8, .getfield 95, 3, 219, 3, 6, 0, 0) := rfl
set_option maxRecDepth 20000 in
theorem gk_f83_11 : gd_fetch 83 11 = some (11, .ireturn, 1, 0, 0, 0, 0, 0) := rfl
set_option maxRecDepth 20000 in
theorem gk_f83_12 : gd_fetch 83 12 = some (12, .iload_n 1, 1, 0, 0, 0, 0, 0) := rfl
set_option maxRecDepth 20000 in
theorem gk_f83_13 : gd_fetch 83 13 = some (13, .iconst 1, 1, 0, 0, 0, 0, 0) := rfl
set_option maxRecDepth 20000 in
theorem gk_f83_14 : gd_fetch 83 14 = some (14, .if_icmp .ne 13, 3, 0, 0, 0, 0, 0) := rfl
set_option maxRecDepth 20000 in
theorem gk_f83_17 : gd_fetch 83 17 = some (17, .aload_n 0, 1, 0, 0, 0, 0, 0) := rfl
set_option maxRecDepth 20000 in
theorem gk_f83_18 : gd_fetch 83 18 = some (18, .getfield 16, 3, 461, 6, 1, 4, 1) := rfl
set_option maxRecDepth 20000 in
theorem gk_f83_21 : gd_fetch 83 21 = some (21, .getfield 98, 3, 221, 3, 7, 0, 0) := rfl
set_option maxRecDepth 20000 in
theorem gk_f83_24 : gd_fetch 83 24 = some (24, .goto 4, 3, 0, 0, 0, 0, 0) := rfl
set_option maxRecDepth 20000 in
theorem gk_f83_27 : gd_fetch 83 27 = some (27, .iconst (-1), 1, 0, 0, 0, 0, 0) := rfl
set_option maxRecDepth 20000 in
theorem gk_f83_28 : gd_fetch 83 28 = some (28, .ireturn, 1, 0, 0, 0, 0, 0) := rfl
set_option maxRecDepth 20000 in
set_option maxHeartbeats 4000000 in
theorem q_X_fault (r0 : Nat) (x1 : Int32) (m : gd_M) : gd_call 83 [.ref r0, .int x1] m = if (x1 = 0 : Prop) then (if gd_ok (gN m) r0 6 = true then (if gd_ok (gN m) (gR m r0 1) 3 = true then (some (.int (gI m (gR m r0 1) 6), m)) else none) else none) else (if (x1 = 1 : Prop) then (if gd_ok (gN m) r0 6 = true then (if gd_ok (gN m) (gR m r0 1) 3 = true then (some (.int (gI m (gR m r0 1) 7), m)) else none) else none) else (some (.int (-1), m))) := by
  refine Eq.trans (show gd_call 83 [.ref r0, .int x1] m = gd_Den (83, 0, [.ref r0, .int x1], [], m) from by unfold gd_call gd_ent; rw [gk_ml83]; rfl) ?_
  refine Eq.trans (D_iload_n (x := x1) gk_f83_0 rfl) ?_
  refine Eq.trans (D_if_ne (t := 12) gk_f83_1 (by decide)) ?_
  refine gd_ite (fun h1 => ?_) (fun h2 => ?_)
  · refine Eq.trans (D_aload_n (x := r0) gk_f83_4 rfl) ?_
    refine Eq.trans (D_gfR gk_f83_5 (by decide)) ?_
    refine gd_ite (fun h3 => ?_) (fun _ => rfl)
    refine Eq.trans (D_gfI gk_f83_8 (by decide) (by decide) (by decide)) ?_
    refine gd_ite (fun h4 => ?_) (fun _ => rfl)
    refine Eq.trans (D_ireturn gk_f83_11 gk_rk83) ?_
    rfl
  · refine Eq.trans (D_iload_n (x := x1) gk_f83_12 rfl) ?_
    refine Eq.trans (D_iconst (x := 1) gk_f83_13 gk_c_1) ?_
    refine Eq.trans (D_ic_ne (t := 27) gk_f83_14 (by decide)) ?_
    refine gd_ite (fun h5 => ?_) (fun h6 => ?_)
    · refine Eq.trans (D_aload_n (x := r0) gk_f83_17 rfl) ?_
      refine Eq.trans (D_gfR gk_f83_18 (by decide)) ?_
      refine gd_ite (fun h7 => ?_) (fun _ => rfl)
      refine Eq.trans (D_gfI gk_f83_21 (by decide) (by decide) (by decide)) ?_
      refine gd_ite (fun h8 => ?_) (fun _ => rfl)
      refine Eq.trans (D_goto (t := 28) gk_f83_24 (by decide)) ?_
      refine Eq.trans (D_ireturn gk_f83_28 gk_rk83) ?_
      rfl
    · refine Eq.trans (D_iconst (x := (-1)) gk_f83_27 gk_c_m1) ?_
      refine Eq.trans (D_ireturn gk_f83_28 gk_rk83) ?_
      rfl
/-! GymDeskModel.fault (I)I -/
set_option maxRecDepth 20000 in
theorem gk_f84_0 : gd_fetch 84 0 = some (0, .iload_n 1, 1, 0, 0, 0, 0, 0) := rfl
set_option maxRecDepth 20000 in
theorem gk_f84_1 : gd_fetch 84 1 = some (1, .ifCond .ne 10, 3, 0, 0, 0, 0, 0) := rfl
set_option maxRecDepth 20000 in
theorem gk_f84_4 : gd_fetch 84 4 = some (4, .aload_n 0, 1, 0, 0, 0, 0, 0) := rfl
set_option maxRecDepth 20000 in
theorem gk_f84_5 : gd_fetch 84 5 = some (5, .getfield 120, 3, 1177, 9, 14, 0, 0) := rfl
set_option maxRecDepth 20000 in
theorem gk_f84_8 : gd_fetch 84 8 = some (8, .goto 16, 3, 0, 0, 0, 0, 0) := rfl
set_option maxRecDepth 20000 in
theorem gk_f84_11 : gd_fetch 84 11 = some (11, .iload_n 1, 1, 0, 0, 0, 0, 0) := rfl
set_option maxRecDepth 20000 in
theorem gk_f84_12 : gd_fetch 84 12 = some (12, .iconst 1, 1, 0, 0, 0, 0, 0) := rfl
set_option maxRecDepth 20000 in
theorem gk_f84_13 : gd_fetch 84 13 = some (13, .if_icmp .ne 10, 3, 0, 0, 0, 0, 0) := rfl
set_option maxRecDepth 20000 in
theorem gk_f84_16 : gd_fetch 84 16 = some (16, .aload_n 0, 1, 0, 0, 0, 0, 0) := rfl
set_option maxRecDepth 20000 in
theorem gk_f84_17 : gd_fetch 84 17 = some (17, .getfield 30, 3, 1178, 9, 15, 0, 0) := rfl
set_option maxRecDepth 20000 in
theorem gk_f84_20 : gd_fetch 84 20 = some (20, .goto 4, 3, 0, 0, 0, 0, 0) := rfl
set_option maxRecDepth 20000 in
theorem gk_f84_23 : gd_fetch 84 23 = some (23, .iconst (-1), 1, 0, 0, 0, 0, 0) := rfl
set_option maxRecDepth 20000 in
theorem gk_f84_24 : gd_fetch 84 24 = some (24, .ireturn, 1, 0, 0, 0, 0, 0) := rfl
set_option maxRecDepth 20000 in
set_option maxHeartbeats 4000000 in
theorem q_Mo_fault (r0 : Nat) (x1 : Int32) (m : gd_M) : gd_call 84 [.ref r0, .int x1] m = if (x1 = 0 : Prop) then (if gd_ok (gN m) r0 9 = true then (some (.int (gI m r0 14), m)) else none) else (if (x1 = 1 : Prop) then (if gd_ok (gN m) r0 9 = true then (some (.int (gI m r0 15), m)) else none) else (some (.int (-1), m))) := by
  refine Eq.trans (show gd_call 84 [.ref r0, .int x1] m = gd_Den (84, 0, [.ref r0, .int x1], [], m) from by unfold gd_call gd_ent; rw [gk_ml84]; rfl) ?_
  refine Eq.trans (D_iload_n (x := x1) gk_f84_0 rfl) ?_
  refine Eq.trans (D_if_ne (t := 11) gk_f84_1 (by decide)) ?_
  refine gd_ite (fun h1 => ?_) (fun h2 => ?_)
  · refine Eq.trans (D_aload_n (x := r0) gk_f84_4 rfl) ?_
    refine Eq.trans (D_gfI gk_f84_5 (by decide) (by decide) (by decide)) ?_
    refine gd_ite (fun h3 => ?_) (fun _ => rfl)
    refine Eq.trans (D_goto (t := 24) gk_f84_8 (by decide)) ?_
    refine Eq.trans (D_ireturn gk_f84_24 gk_rk84) ?_
    rfl
  · refine Eq.trans (D_iload_n (x := x1) gk_f84_11 rfl) ?_
    refine Eq.trans (D_iconst (x := 1) gk_f84_12 gk_c_1) ?_
    refine Eq.trans (D_ic_ne (t := 23) gk_f84_13 (by decide)) ?_
    refine gd_ite (fun h4 => ?_) (fun h5 => ?_)
    · refine Eq.trans (D_aload_n (x := r0) gk_f84_16 rfl) ?_
      refine Eq.trans (D_gfI gk_f84_17 (by decide) (by decide) (by decide)) ?_
      refine gd_ite (fun h6 => ?_) (fun _ => rfl)
      refine Eq.trans (D_goto (t := 24) gk_f84_20 (by decide)) ?_
      refine Eq.trans (D_ireturn gk_f84_24 gk_rk84) ?_
      rfl
    · refine Eq.trans (D_iconst (x := (-1)) gk_f84_23 gk_c_m1) ?_
      refine Eq.trans (D_ireturn gk_f84_24 gk_rk84) ?_
      rfl
/-! GymDesk$Code.hasPart (I)Z -/
set_option maxRecDepth 20000 in
theorem gk_f85_0 : gd_fetch 85 0 = some (0, .iload_n 1, 1, 0, 0, 0, 0, 0) := rfl
set_option maxRecDepth 20000 in
theorem gk_f85_1 : gd_fetch 85 1 = some (1, .ifCond .lt 15, 3, 0, 0, 0, 0, 0) := rfl
set_option maxRecDepth 20000 in
theorem gk_f85_4 : gd_fetch 85 4 = some (4, .iload_n 1, 1, 0, 0, 0, 0, 0) := rfl
set_option maxRecDepth 20000 in
theorem gk_f85_5 : gd_fetch 85 5 = some (5, .aload_n 0, 1, 0, 0, 0, 0, 0) := rfl
set_option maxRecDepth 20000 in
theorem gk_f85_6 : gd_fetch 85 6 = some (6, .getfield 52, 3, 352, 1, 12, 0, 0) := rfl
set_option maxRecDepth 20000 in
theorem gk_f85_9 : gd_fetch 85 9 = some (9, .if_icmp .ge 7, 3, 0, 0, 0, 0, 0) := rfl
set_option maxRecDepth 20000 in
theorem gk_f85_12 : gd_fetch 85 12 = some (12, .iconst 1, 1, 0, 0, 0, 0, 0) := rfl
set_option maxRecDepth 20000 in
theorem gk_f85_13 : gd_fetch 85 13 = some (13, .goto 4, 3, 0, 0, 0, 0, 0) := rfl
set_option maxRecDepth 20000 in
theorem gk_f85_16 : gd_fetch 85 16 = some (16, .iconst 0, 1, 0, 0, 0, 0, 0) := rfl
set_option maxRecDepth 20000 in
theorem gk_f85_17 : gd_fetch 85 17 = some (17, .ireturn, 1, 0, 0, 0, 0, 0) := rfl
set_option maxRecDepth 20000 in
set_option maxHeartbeats 4000000 in
theorem q_Co_hasPart (r0 : Nat) (x1 : Int32) (m : gd_M) : gd_call 85 [.ref r0, .int x1] m = if (x1 < 0 : Prop) then (some (.int 0, m)) else (if gd_ok (gN m) r0 1 = true then (if (x1 < (gI m r0 12) : Prop) then (some (.int 1, m)) else (some (.int 0, m))) else none) := by
  refine Eq.trans (show gd_call 85 [.ref r0, .int x1] m = gd_Den (85, 0, [.ref r0, .int x1], [], m) from by unfold gd_call gd_ent; rw [gk_ml85]; rfl) ?_
  refine Eq.trans (D_iload_n (x := x1) gk_f85_0 rfl) ?_
  refine Eq.trans (D_if_lt (t := 16) gk_f85_1 (by decide)) ?_
  refine gd_ite (fun h1 => ?_) (fun h2 => ?_)
  · refine Eq.trans (D_iconst (x := 0) gk_f85_16 gk_c_0) ?_
    refine Eq.trans (D_zreturn gk_f85_17 gk_rk85) ?_
    exact if_pos rfl
  · refine Eq.trans (D_iload_n (x := x1) gk_f85_4 rfl) ?_
    refine Eq.trans (D_aload_n (x := r0) gk_f85_5 rfl) ?_
    refine Eq.trans (D_gfI gk_f85_6 (by decide) (by decide) (by decide)) ?_
    refine gd_ite (fun h3 => ?_) (fun _ => rfl)
    refine Eq.trans (D_ic_ge (t := 16) gk_f85_9 (by decide)) ?_
    refine gd_ite (fun h4 => ?_) (fun h5 => ?_)
    · refine Eq.trans (D_iconst (x := 1) gk_f85_12 gk_c_1) ?_
      refine Eq.trans (D_goto (t := 17) gk_f85_13 (by decide)) ?_
      refine Eq.trans (D_zreturn gk_f85_17 gk_rk85) ?_
      exact if_pos rfl
    · refine Eq.trans (D_iconst (x := 0) gk_f85_16 gk_c_0) ?_
      refine Eq.trans (D_zreturn gk_f85_17 gk_rk85) ?_
      exact if_pos rfl
/-! GymDesk$Code.linksFrom (I)I -/
set_option maxRecDepth 20000 in
theorem gk_f86_0 : gd_fetch 86 0 = some (0, .iconst 0, 1, 0, 0, 0, 0, 0) := rfl
set_option maxRecDepth 20000 in
theorem gk_f86_1 : gd_fetch 86 1 = some (1, .istore_n 2, 1, 0, 0, 0, 0, 0) := rfl
set_option maxRecDepth 20000 in
theorem gk_f86_2 : gd_fetch 86 2 = some (2, .iconst 0, 1, 0, 0, 0, 0, 0) := rfl
set_option maxRecDepth 20000 in
theorem gk_f86_3 : gd_fetch 86 3 = some (3, .istore_n 3, 1, 0, 0, 0, 0, 0) := rfl
set_option maxRecDepth 20000 in
theorem gk_f86_4 : gd_fetch 86 4 = some (4, .iload_n 3, 1, 0, 0, 0, 0, 0) := rfl
set_option maxRecDepth 20000 in
theorem gk_f86_5 : gd_fetch 86 5 = some (5, .aload_n 0, 1, 0, 0, 0, 0, 0) := rfl
set_option maxRecDepth 20000 in
theorem gk_f86_6 : gd_fetch 86 6 = some (6, .getfield 56, 3, 355, 1, 13, 0, 0) := rfl
set_option maxRecDepth 20000 in
theorem gk_f86_9 : gd_fetch 86 9 = some (9, .if_icmp .ge 22, 3, 0, 0, 0, 0, 0) := rfl
set_option maxRecDepth 20000 in
theorem gk_f86_12 : gd_fetch 86 12 = some (12, .aload_n 0, 1, 0, 0, 0, 0, 0) := rfl
set_option maxRecDepth 20000 in
theorem gk_f86_13 : gd_fetch 86 13 = some (13, .getfield 21, 3, 328, 1, 3, 4, 1) := rfl
set_option maxRecDepth 20000 in
theorem gk_f86_16 : gd_fetch 86 16 = some (16, .iload_n 3, 1, 0, 0, 0, 0, 0) := rfl
set_option maxRecDepth 20000 in
theorem gk_f86_17 : gd_fetch 86 17 = some (17, .iaload, 1, 0, 0, 0, 0, 0) := rfl
set_option maxRecDepth 20000 in
theorem gk_f86_18 : gd_fetch 86 18 = some (18, .iload_n 1, 1, 0, 0, 0, 0, 0) := rfl
set_option maxRecDepth 20000 in
theorem gk_f86_19 : gd_fetch 86 19 = some (19, .if_icmp .ne 6, 3, 0, 0, 0, 0, 0) := rfl
set_option maxRecDepth 20000 in
theorem gk_f86_22 : gd_fetch 86 22 = some (22, .iinc 2 1, 3, 0, 0, 0, 0, 0) := rfl
set_option maxRecDepth 20000 in
theorem gk_f86_25 : gd_fetch 86 25 = some (25, .iinc 3 1, 3, 0, 0, 0, 0, 0) := rfl
set_option maxRecDepth 20000 in
theorem gk_f86_28 : gd_fetch 86 28 = some (28, .goto (-24), 3, 0, 0, 0, 0, 0) := rfl
set_option maxRecDepth 20000 in
theorem gk_f86_31 : gd_fetch 86 31 = some (31, .iload_n 2, 1, 0, 0, 0, 0, 0) := rfl
set_option maxRecDepth 20000 in
theorem gk_f86_32 : gd_fetch 86 32 = some (32, .ireturn, 1, 0, 0, 0, 0, 0) := rfl
set_option maxRecDepth 20000 in
set_option maxHeartbeats 4000000 in
theorem q_Co_linksFrom (r0 : Nat) (x1 : Int32) (m : gd_M) : gd_call 86 [.ref r0, .int x1] m = gd_Den (86, 4, [.ref r0, .int x1, .int 0, .int 0], [], m) := by
  refine Eq.trans (show gd_call 86 [.ref r0, .int x1] m = gd_Den (86, 0, [.ref r0, .int x1, .null, .null], [], m) from by unfold gd_call gd_ent; rw [gk_ml86]; rfl) ?_
  refine Eq.trans (D_iconst (x := 0) gk_f86_0 gk_c_0) ?_
  refine Eq.trans (D_istore_n gk_f86_1 gk_st86_2) ?_
  refine Eq.trans (D_iconst (x := 0) gk_f86_2 gk_c_0) ?_
  refine Eq.trans (D_istore_n gk_f86_3 gk_st86_3) ?_
  rfl
set_option maxRecDepth 20000 in
set_option maxHeartbeats 4000000 in
theorem q_Co_linksFrom_4 (r0 : Nat) (x1 : Int32) (x2 : Int32) (x3 : Int32) (m : gd_M) : gd_Den (86, 4, [.ref r0, .int x1, .int x2, .int x3], [], m) = if gd_ok (gN m) r0 1 = true then (if (x3 < (gI m r0 13) : Prop) then (if gd_okA (gN m) (gR m r0 3) 10 x3 = true then (if ((gI m (gR m r0 3) (x3 : Int32).toNatClampNeg) = x1 : Prop) then (gd_Den (86, 4, [.ref r0, .int x1, .int (x2 + 1), .int (x3 + 1)], [], m)) else (gd_Den (86, 4, [.ref r0, .int x1, .int x2, .int (x3 + 1)], [], m))) else none) else (some (.int x2, m))) else none := by
  refine Eq.trans (D_iload_n (x := x3) gk_f86_4 rfl) ?_
  refine Eq.trans (D_aload_n (x := r0) gk_f86_5 rfl) ?_
  refine Eq.trans (D_gfI gk_f86_6 (by decide) (by decide) (by decide)) ?_
  refine gd_ite (fun h1 => ?_) (fun _ => rfl)
  refine Eq.trans (D_ic_ge (t := 31) gk_f86_9 (by decide)) ?_
  refine gd_ite (fun h2 => ?_) (fun h3 => ?_)
  · refine Eq.trans (D_aload_n (x := r0) gk_f86_12 rfl) ?_
    refine Eq.trans (D_gfR gk_f86_13 (by decide)) ?_
    refine Eq.trans (if_pos h1) ?_
    refine Eq.trans (D_iload_n (x := x3) gk_f86_16 rfl) ?_
    refine Eq.trans (D_iald gk_f86_17 gk_n10_86) ?_
    refine gd_ite (fun h4 => ?_) (fun _ => rfl)
    refine Eq.trans (D_iload_n (x := x1) gk_f86_18 rfl) ?_
    refine Eq.trans (D_ic_ne (t := 25) gk_f86_19 (by decide)) ?_
    refine gd_ite (fun h5 => ?_) (fun h6 => ?_)
    · refine Eq.trans (D_iinc (x := x2) (y := 1) gk_f86_22 rfl gk_c_1 gk_st86_2) ?_
      refine Eq.trans (D_iinc (x := x3) (y := 1) gk_f86_25 rfl gk_c_1 gk_st86_3) ?_
      refine Eq.trans (D_goto (t := 4) gk_f86_28 (by decide)) ?_
      rfl
    · refine Eq.trans (D_iinc (x := x3) (y := 1) gk_f86_25 rfl gk_c_1 gk_st86_3) ?_
      refine Eq.trans (D_goto (t := 4) gk_f86_28 (by decide)) ?_
      rfl
  · refine Eq.trans (D_iload_n (x := x2) gk_f86_31 rfl) ?_
    refine Eq.trans (D_ireturn gk_f86_32 gk_rk86) ?_
    rfl
/-! GymDesk.part (II)I -/
set_option maxRecDepth 20000 in
theorem gk_f87_0 : gd_fetch 87 0 = some (0, .aload_n 0, 1, 0, 0, 0, 0, 0) := rfl
set_option maxRecDepth 20000 in
theorem gk_f87_1 : gd_fetch 87 1 = some (1, .getfield 56, 3, 469, 6, 9, 4, 0) := rfl
set_option maxRecDepth 20000 in
theorem gk_f87_4 : gd_fetch 87 4 = some (4, .iload_n 1, 1, 0, 0, 0, 0, 0) := rfl
set_option maxRecDepth 20000 in
theorem gk_f87_5 : gd_fetch 87 5 = some (5, .invokevirtual 101, 3, 666, 85, 1, 0, 0) := rfl
set_option maxRecDepth 20000 in
theorem gk_f87_8 : gd_fetch 87 8 = some (8, .ifCond .ne 5, 3, 0, 0, 0, 0, 0) := rfl
set_option maxRecDepth 20000 in
theorem gk_f87_11 : gd_fetch 87 11 = some (11, .iconst (-1), 1, 0, 0, 0, 0, 0) := rfl
set_option maxRecDepth 20000 in
theorem gk_f87_12 : gd_fetch 87 12 = some (12, .ireturn, 1, 0, 0, 0, 0, 0) := rfl
set_option maxRecDepth 20000 in
theorem gk_f87_13 : gd_fetch 87 13 = some (13, .iload_n 2, 1, 0, 0, 0, 0, 0) := rfl
set_option maxRecDepth 20000 in
theorem gk_f87_14 : gd_fetch 87 14 = some (14, .tableswitch 69 0 3 #[30, 40, 50, 60], 30, 0, 0, 0, 0, 0) := rfl
set_option maxRecDepth 20000 in
theorem gk_f87_44 : gd_fetch 87 44 = some (44, .aload_n 0, 1, 0, 0, 0, 0, 0) := rfl
set_option maxRecDepth 20000 in
theorem gk_f87_45 : gd_fetch 87 45 = some (45, .getfield 56, 3, 469, 6, 9, 4, 0) := rfl
set_option maxRecDepth 20000 in
theorem gk_f87_48 : gd_fetch 87 48 = some (48, .getfield 105, 3, 320, 1, 0, 4, 1) := rfl
set_option maxRecDepth 20000 in
theorem gk_f87_51 : gd_fetch 87 51 = some (51, .iload_n 1, 1, 0, 0, 0, 0, 0) := rfl
set_option maxRecDepth 20000 in
theorem gk_f87_52 : gd_fetch 87 52 = some (52, .iaload, 1, 0, 0, 0, 0, 0) := rfl
set_option maxRecDepth 20000 in
theorem gk_f87_53 : gd_fetch 87 53 = some (53, .ireturn, 1, 0, 0, 0, 0, 0) := rfl
set_option maxRecDepth 20000 in
theorem gk_f87_54 : gd_fetch 87 54 = some (54, .aload_n 0, 1, 0, 0, 0, 0, 0) := rfl
set_option maxRecDepth 20000 in
theorem gk_f87_55 : gd_fetch 87 55 = some (55, .getfield 56, 3, 469, 6, 9, 4, 0) := rfl
set_option maxRecDepth 20000 in
theorem gk_f87_58 : gd_fetch 87 58 = some (58, .getfield 108, 3, 323, 1, 1, 4, 1) := rfl
set_option maxRecDepth 20000 in
theorem gk_f87_61 : gd_fetch 87 61 = some (61, .iload_n 1, 1, 0, 0, 0, 0, 0) := rfl
set_option maxRecDepth 20000 in
theorem gk_f87_62 : gd_fetch 87 62 = some (62, .iaload, 1, 0, 0, 0, 0, 0) := rfl
set_option maxRecDepth 20000 in
theorem gk_f87_63 : gd_fetch 87 63 = some (63, .ireturn, 1, 0, 0, 0, 0, 0) := rfl
set_option maxRecDepth 20000 in
theorem gk_f87_64 : gd_fetch 87 64 = some (64, .aload_n 0, 1, 0, 0, 0, 0, 0) := rfl
set_option maxRecDepth 20000 in
theorem gk_f87_65 : gd_fetch 87 65 = some (65, .getfield 56, 3, 469, 6, 9, 4, 0) := rfl
set_option maxRecDepth 20000 in
theorem gk_f87_68 : gd_fetch 87 68 = some (68, .getfield 111, 3, 327, 1, 2, 4, 1) := rfl
set_option maxRecDepth 20000 in
theorem gk_f87_71 : gd_fetch 87 71 = some (71, .iload_n 1, 1, 0, 0, 0, 0, 0) := rfl
set_option maxRecDepth 20000 in
theorem gk_f87_72 : gd_fetch 87 72 = some (72, .iaload, 1, 0, 0, 0, 0, 0) := rfl
set_option maxRecDepth 20000 in
theorem gk_f87_73 : gd_fetch 87 73 = some (73, .ireturn, 1, 0, 0, 0, 0, 0) := rfl
set_option maxRecDepth 20000 in
theorem gk_f87_74 : gd_fetch 87 74 = some (74, .aload_n 0, 1, 0, 0, 0, 0, 0) := rfl
set_option maxRecDepth 20000 in
theorem gk_f87_75 : gd_fetch 87 75 = some (75, .getfield 56, 3, 469, 6, 9, 4, 0) := rfl
set_option maxRecDepth 20000 in
theorem gk_f87_78 : gd_fetch 87 78 = some (78, .iload_n 1, 1, 0, 0, 0, 0, 0) := rfl
set_option maxRecDepth 20000 in
theorem gk_f87_79 : gd_fetch 87 79 = some (79, .invokevirtual 114, 3, 670, 86, 1, 0, 0) := rfl
set_option maxRecDepth 20000 in
theorem gk_f87_82 : gd_fetch 87 82 = some (82, .ireturn, 1, 0, 0, 0, 0, 0) := rfl
set_option maxRecDepth 20000 in
theorem gk_f87_83 : gd_fetch 87 83 = some (83, .iconst (-1), 1, 0, 0, 0, 0, 0) := rfl
set_option maxRecDepth 20000 in
theorem gk_f87_84 : gd_fetch 87 84 = some (84, .ireturn, 1, 0, 0, 0, 0, 0) := rfl
set_option maxRecDepth 20000 in
set_option maxHeartbeats 4000000 in
theorem q_X_part (r0 : Nat) (x1 : Int32) (x2 : Int32) (m : gd_M) : gd_call 87 [.ref r0, .int x1, .int x2] m = if gd_ok (gN m) r0 6 = true then (if gd_ok (gN m) (gR m r0 9) 1 = true then ((gd_call 85 [.ref (gR m r0 9), .int x1] m).bind (gd_kI fun z5 m3 => if (z5 = 0 : Prop) then (some (.int (-1), m3)) else (if x2 = 0 then (if gd_ok (gN m3) r0 6 = true then (if gd_ok (gN m3) (gR m3 r0 9) 1 = true then (if gd_okA (gN m3) (gR m3 (gR m3 r0 9) 0) 10 x1 = true then (some (.int (gI m3 (gR m3 (gR m3 r0 9) 0) (x1 : Int32).toNatClampNeg), m3)) else none) else none) else none) else if x2 = 1 then (if gd_ok (gN m3) r0 6 = true then (if gd_ok (gN m3) (gR m3 r0 9) 1 = true then (if gd_okA (gN m3) (gR m3 (gR m3 r0 9) 1) 10 x1 = true then (some (.int (gI m3 (gR m3 (gR m3 r0 9) 1) (x1 : Int32).toNatClampNeg), m3)) else none) else none) else none) else if x2 = 2 then (if gd_ok (gN m3) r0 6 = true then (if gd_ok (gN m3) (gR m3 r0 9) 1 = true then (if gd_okA (gN m3) (gR m3 (gR m3 r0 9) 2) 10 x1 = true then (some (.int (gI m3 (gR m3 (gR m3 r0 9) 2) (x1 : Int32).toNatClampNeg), m3)) else none) else none) else none) else if x2 = 3 then (if gd_ok (gN m3) r0 6 = true then (if gd_ok (gN m3) (gR m3 r0 9) 1 = true then ((gd_call 86 [.ref (gR m3 r0 9), .int x1] m3).bind (gd_kI fun z29 m27 => some (.int z29, m27))) else none) else none) else (some (.int (-1), m3))))) else none) else none := by
  refine Eq.trans (show gd_call 87 [.ref r0, .int x1, .int x2] m = gd_Den (87, 0, [.ref r0, .int x1, .int x2], [], m) from by unfold gd_call gd_ent; rw [gk_ml87]; rfl) ?_
  refine Eq.trans (D_aload_n (x := r0) gk_f87_0 rfl) ?_
  refine Eq.trans (D_gfR gk_f87_1 (by decide)) ?_
  refine gd_ite (fun h1 => ?_) (fun _ => rfl)
  refine Eq.trans (D_iload_n (x := x1) gk_f87_4 rfl) ?_
  refine Eq.trans (D_ivZ (cl := 1) (args := [.ref (gR m r0 9), .int x1]) (rest := []) gk_f87_5 rfl rfl (gd_rmk gk_rm87_85 gk_ln85 gk_ml85 rfl rfl rfl) gk_rk85 (gd_hnd_n gk_nc87) gk_nc85 gk_n11_85 gk_cl85) ?_
  refine gd_ite (fun h2 => ?_) (fun _ => rfl)
  refine gd_bnd (gd_kI_c fun z5 m3 => ?_)
  refine Eq.trans (D_if_ne (t := 13) gk_f87_8 (by decide)) ?_
  refine gd_ite (fun h6 => ?_) (fun h7 => ?_)
  · refine Eq.trans (D_iconst (x := (-1)) gk_f87_11 gk_c_m1) ?_
    refine Eq.trans (D_ireturn gk_f87_12 gk_rk87) ?_
    rfl
  · refine Eq.trans (D_iload_n (x := x2) gk_f87_13 rfl) ?_
    refine Eq.trans (D_tsw (vs := [(0, 44), (1, 54), (2, 64), (3, 74)]) (t := 83) gk_f87_14 (by decide) (by decide)) ?_
    refine gd_ite (fun h8 => ?_) (fun h9 => ?_)
    · refine Eq.trans (D_aload_n (x := r0) gk_f87_44 rfl) ?_
      refine Eq.trans (D_gfR gk_f87_45 (by decide)) ?_
      refine gd_ite (fun h10 => ?_) (fun _ => rfl)
      refine Eq.trans (D_gfR gk_f87_48 (by decide)) ?_
      refine gd_ite (fun h11 => ?_) (fun _ => rfl)
      refine Eq.trans (D_iload_n (x := x1) gk_f87_51 rfl) ?_
      refine Eq.trans (D_iald gk_f87_52 gk_n10_87) ?_
      refine gd_ite (fun h12 => ?_) (fun _ => rfl)
      refine Eq.trans (D_ireturn gk_f87_53 gk_rk87) ?_
      rfl
    refine gd_ite (fun h13 => ?_) (fun h14 => ?_)
    · refine Eq.trans (D_aload_n (x := r0) gk_f87_54 rfl) ?_
      refine Eq.trans (D_gfR gk_f87_55 (by decide)) ?_
      refine gd_ite (fun h15 => ?_) (fun _ => rfl)
      refine Eq.trans (D_gfR gk_f87_58 (by decide)) ?_
      refine gd_ite (fun h16 => ?_) (fun _ => rfl)
      refine Eq.trans (D_iload_n (x := x1) gk_f87_61 rfl) ?_
      refine Eq.trans (D_iald gk_f87_62 gk_n10_87) ?_
      refine gd_ite (fun h17 => ?_) (fun _ => rfl)
      refine Eq.trans (D_ireturn gk_f87_63 gk_rk87) ?_
      rfl
    refine gd_ite (fun h18 => ?_) (fun h19 => ?_)
    · refine Eq.trans (D_aload_n (x := r0) gk_f87_64 rfl) ?_
      refine Eq.trans (D_gfR gk_f87_65 (by decide)) ?_
      refine gd_ite (fun h20 => ?_) (fun _ => rfl)
      refine Eq.trans (D_gfR gk_f87_68 (by decide)) ?_
      refine gd_ite (fun h21 => ?_) (fun _ => rfl)
      refine Eq.trans (D_iload_n (x := x1) gk_f87_71 rfl) ?_
      refine Eq.trans (D_iald gk_f87_72 gk_n10_87) ?_
      refine gd_ite (fun h22 => ?_) (fun _ => rfl)
      refine Eq.trans (D_ireturn gk_f87_73 gk_rk87) ?_
      rfl
    refine gd_ite (fun h23 => ?_) (fun h24 => ?_)
    · refine Eq.trans (D_aload_n (x := r0) gk_f87_74 rfl) ?_
      refine Eq.trans (D_gfR gk_f87_75 (by decide)) ?_
      refine gd_ite (fun h25 => ?_) (fun _ => rfl)
      refine Eq.trans (D_iload_n (x := x1) gk_f87_78 rfl) ?_
      refine Eq.trans (D_ivI (cl := 1) (args := [.ref (gR m3 r0 9), .int x1]) (rest := []) gk_f87_79 rfl rfl (gd_rmk gk_rm87_86 gk_ln86 gk_ml86 rfl rfl rfl) gk_rk86 (gd_hnd_n gk_nc87) gk_nc86 gk_n11_86 gk_cl86) ?_
      refine gd_ite (fun h26 => ?_) (fun _ => rfl)
      refine gd_bnd (gd_kI_c fun z29 m27 => ?_)
      refine Eq.trans (D_ireturn gk_f87_82 gk_rk87) ?_
      rfl
    refine Eq.trans (D_iconst (x := (-1)) gk_f87_83 gk_c_m1) ?_
    refine Eq.trans (D_ireturn gk_f87_84 gk_rk87) ?_
    rfl
/-! GymDeskModel.part (II)I -/
set_option maxRecDepth 20000 in
theorem gk_f88_0 : gd_fetch 88 0 = some (0, .iload_n 1, 1, 0, 0, 0, 0, 0) := rfl
set_option maxRecDepth 20000 in
theorem gk_f88_1 : gd_fetch 88 1 = some (1, .iconst 0, 1, 0, 0, 0, 0, 0) := rfl
set_option maxRecDepth 20000 in
theorem gk_f88_2 : gd_fetch 88 2 = some (2, .aload_n 0, 1, 0, 0, 0, 0, 0) := rfl
set_option maxRecDepth 20000 in
theorem gk_f88_3 : gd_fetch 88 3 = some (3, .getfield 19, 3, 1164, 9, 1, 4, 0) := rfl
set_option maxRecDepth 20000 in
theorem gk_f88_6 : gd_fetch 88 6 = some (6, .getfield 196, 3, 1031, 7, 0, 0, 0) := rfl
set_option maxRecDepth 20000 in
theorem gk_f88_9 : gd_fetch 88 9 = some (9, .iconst 1, 1, 0, 0, 0, 0, 0) := rfl
set_option maxRecDepth 20000 in
theorem gk_f88_10 : gd_fetch 88 10 = some (10, .isub, 1, 0, 0, 0, 0, 0) := rfl
set_option maxRecDepth 20000 in
theorem gk_f88_11 : gd_fetch 88 11 = some (11, .invokestatic 192, 3, 1360, 71, 3, 0, 0) := rfl
set_option maxRecDepth 20000 in
theorem gk_f88_14 : gd_fetch 88 14 = some (14, .ifCond .ne 5, 3, 0, 0, 0, 0, 0) := rfl
set_option maxRecDepth 20000 in
theorem gk_f88_17 : gd_fetch 88 17 = some (17, .iconst (-1), 1, 0, 0, 0, 0, 0) := rfl
set_option maxRecDepth 20000 in
theorem gk_f88_18 : gd_fetch 88 18 = some (18, .ireturn, 1, 0, 0, 0, 0, 0) := rfl
set_option maxRecDepth 20000 in
theorem gk_f88_19 : gd_fetch 88 19 = some (19, .iconst 0, 1, 0, 0, 0, 0, 0) := rfl
set_option maxRecDepth 20000 in
theorem gk_f88_20 : gd_fetch 88 20 = some (20, .istore_n 3, 1, 0, 0, 0, 0, 0) := rfl
set_option maxRecDepth 20000 in
theorem gk_f88_21 : gd_fetch 88 21 = some (21, .iload_n 2, 1, 0, 0, 0, 0, 0) := rfl
set_option maxRecDepth 20000 in
theorem gk_f88_22 : gd_fetch 88 22 = some (22, .tableswitch 105 0 3 #[30, 40, 50, 60], 30, 0, 0, 0, 0, 0) := rfl
set_option maxRecDepth 20000 in
theorem gk_f88_52 : gd_fetch 88 52 = some (52, .aload_n 0, 1, 0, 0, 0, 0, 0) := rfl
set_option maxRecDepth 20000 in
theorem gk_f88_53 : gd_fetch 88 53 = some (53, .getfield 19, 3, 1164, 9, 1, 4, 0) := rfl
set_option maxRecDepth 20000 in
theorem gk_f88_56 : gd_fetch 88 56 = some (56, .getfield 210, 3, 1045, 7, 7, 4, 1) := rfl
set_option maxRecDepth 20000 in
theorem gk_f88_59 : gd_fetch 88 59 = some (59, .iload_n 1, 1, 0, 0, 0, 0, 0) := rfl
set_option maxRecDepth 20000 in
theorem gk_f88_60 : gd_fetch 88 60 = some (60, .iaload, 1, 0, 0, 0, 0, 0) := rfl
set_option maxRecDepth 20000 in
theorem gk_f88_61 : gd_fetch 88 61 = some (61, .ireturn, 1, 0, 0, 0, 0, 0) := rfl
set_option maxRecDepth 20000 in
theorem gk_f88_62 : gd_fetch 88 62 = some (62, .aload_n 0, 1, 0, 0, 0, 0, 0) := rfl
set_option maxRecDepth 20000 in
theorem gk_f88_63 : gd_fetch 88 63 = some (63, .getfield 19, 3, 1164, 9, 1, 4, 0) := rfl
set_option maxRecDepth 20000 in
theorem gk_f88_66 : gd_fetch 88 66 = some (66, .getfield 220, 3, 1047, 7, 8, 4, 1) := rfl
set_option maxRecDepth 20000 in
theorem gk_f88_69 : gd_fetch 88 69 = some (69, .iload_n 1, 1, 0, 0, 0, 0, 0) := rfl
set_option maxRecDepth 20000 in
theorem gk_f88_70 : gd_fetch 88 70 = some (70, .iaload, 1, 0, 0, 0, 0, 0) := rfl
set_option maxRecDepth 20000 in
theorem gk_f88_71 : gd_fetch 88 71 = some (71, .ireturn, 1, 0, 0, 0, 0, 0) := rfl
set_option maxRecDepth 20000 in
theorem gk_f88_72 : gd_fetch 88 72 = some (72, .aload_n 0, 1, 0, 0, 0, 0, 0) := rfl
set_option maxRecDepth 20000 in
theorem gk_f88_73 : gd_fetch 88 73 = some (73, .getfield 19, 3, 1164, 9, 1, 4, 0) := rfl
set_option maxRecDepth 20000 in
theorem gk_f88_76 : gd_fetch 88 76 = some (76, .getfield 223, 3, 1049, 7, 9, 4, 1) := rfl
set_option maxRecDepth 20000 in
theorem gk_f88_79 : gd_fetch 88 79 = some (79, .iload_n 1, 1, 0, 0, 0, 0, 0) := rfl
set_option maxRecDepth 20000 in
theorem gk_f88_80 : gd_fetch 88 80 = some (80, .iaload, 1, 0, 0, 0, 0, 0) := rfl
set_option maxRecDepth 20000 in
theorem gk_f88_81 : gd_fetch 88 81 = some (81, .ireturn, 1, 0, 0, 0, 0, 0) := rfl
set_option maxRecDepth 20000 in
theorem gk_f88_82 : gd_fetch 88 82 = some (82, .iconst 0, 1, 0, 0, 0, 0, 0) := rfl
set_option maxRecDepth 20000 in
theorem gk_f88_83 : gd_fetch 88 83 = some (83, .istore 4, 2, 0, 0, 0, 0, 0) := rfl
set_option maxRecDepth 20000 in
theorem gk_f88_85 : gd_fetch 88 85 = some (85, .iload 4, 2, 0, 0, 0, 0, 0) := rfl
set_option maxRecDepth 20000 in
theorem gk_f88_87 : gd_fetch 88 87 = some (87, .aload_n 0, 1, 0, 0, 0, 0, 0) := rfl
set_option maxRecDepth 20000 in
theorem gk_f88_88 : gd_fetch 88 88 = some (88, .getfield 19, 3, 1164, 9, 1, 4, 0) := rfl
set_option maxRecDepth 20000 in
theorem gk_f88_91 : gd_fetch 88 91 = some (91, .getfield 229, 3, 1033, 7, 1, 0, 0) := rfl
set_option maxRecDepth 20000 in
theorem gk_f88_94 : gd_fetch 88 94 = some (94, .if_icmp .ge 31, 3, 0, 0, 0, 0, 0) := rfl
set_option maxRecDepth 20000 in
theorem gk_f88_97 : gd_fetch 88 97 = some (97, .iload_n 3, 1, 0, 0, 0, 0, 0) := rfl
set_option maxRecDepth 20000 in
theorem gk_f88_98 : gd_fetch 88 98 = some (98, .aload_n 0, 1, 0, 0, 0, 0, 0) := rfl
set_option maxRecDepth 20000 in
theorem gk_f88_99 : gd_fetch 88 99 = some (99, .getfield 19, 3, 1164, 9, 1, 4, 0) := rfl
set_option maxRecDepth 20000 in
theorem gk_f88_102 : gd_fetch 88 102 = some (102, .getfield 232, 3, 1051, 7, 10, 4, 1) := rfl
set_option maxRecDepth 20000 in
theorem gk_f88_105 : gd_fetch 88 105 = some (105, .iload 4, 2, 0, 0, 0, 0, 0) := rfl
set_option maxRecDepth 20000 in
theorem gk_f88_107 : gd_fetch 88 107 = some (107, .iaload, 1, 0, 0, 0, 0, 0) := rfl
set_option maxRecDepth 20000 in
theorem gk_f88_108 : gd_fetch 88 108 = some (108, .iload_n 1, 1, 0, 0, 0, 0, 0) := rfl
set_option maxRecDepth 20000 in
theorem gk_f88_109 : gd_fetch 88 109 = some (109, .if_icmp .ne 7, 3, 0, 0, 0, 0, 0) := rfl
set_option maxRecDepth 20000 in
theorem gk_f88_112 : gd_fetch 88 112 = some (112, .iconst 1, 1, 0, 0, 0, 0, 0) := rfl
set_option maxRecDepth 20000 in
theorem gk_f88_113 : gd_fetch 88 113 = some (113, .goto 4, 3, 0, 0, 0, 0, 0) := rfl
set_option maxRecDepth 20000 in
theorem gk_f88_116 : gd_fetch 88 116 = some (116, .iconst 0, 1, 0, 0, 0, 0, 0) := rfl
set_option maxRecDepth 20000 in
theorem gk_f88_117 : gd_fetch 88 117 = some (117, .iadd, 1, 0, 0, 0, 0, 0) := rfl
set_option maxRecDepth 20000 in
theorem gk_f88_118 : gd_fetch 88 118 = some (118, .istore_n 3, 1, 0, 0, 0, 0, 0) := rfl
set_option maxRecDepth 20000 in
theorem gk_f88_119 : gd_fetch 88 119 = some (119, .iinc 4 1, 3, 0, 0, 0, 0, 0) := rfl
set_option maxRecDepth 20000 in
theorem gk_f88_122 : gd_fetch 88 122 = some (122, .goto (-37), 3, 0, 0, 0, 0, 0) := rfl
set_option maxRecDepth 20000 in
theorem gk_f88_125 : gd_fetch 88 125 = some (125, .iload_n 3, 1, 0, 0, 0, 0, 0) := rfl
set_option maxRecDepth 20000 in
theorem gk_f88_126 : gd_fetch 88 126 = some (126, .ireturn, 1, 0, 0, 0, 0, 0) := rfl
set_option maxRecDepth 20000 in
theorem gk_f88_127 : gd_fetch 88 127 = some (127, .iconst (-1), 1, 0, 0, 0, 0, 0) := rfl
set_option maxRecDepth 20000 in
theorem gk_f88_128 : gd_fetch 88 128 = some (128, .ireturn, 1, 0, 0, 0, 0, 0) := rfl
set_option maxRecDepth 20000 in
set_option maxHeartbeats 4000000 in
theorem q_Mo_part (r0 : Nat) (x1 : Int32) (x2 : Int32) (m : gd_M) : gd_call 88 [.ref r0, .int x1, .int x2] m = if gd_ok (gN m) r0 9 = true then (if gd_ok (gN m) (gR m r0 1) 7 = true then ((gd_call 71 [.int x1, .int 0, .int ((gI m (gR m r0 1) 0) - 1)] m).bind (gd_k0I fun z5 m3 => if (z5 = 0 : Prop) then (some (.int (-1), m3)) else (if x2 = 0 then (if gd_ok (gN m3) r0 9 = true then (if gd_ok (gN m3) (gR m3 r0 1) 7 = true then (if gd_okA (gN m3) (gR m3 (gR m3 r0 1) 7) 10 x1 = true then (some (.int (gI m3 (gR m3 (gR m3 r0 1) 7) (x1 : Int32).toNatClampNeg), m3)) else none) else none) else none) else if x2 = 1 then (if gd_ok (gN m3) r0 9 = true then (if gd_ok (gN m3) (gR m3 r0 1) 7 = true then (if gd_okA (gN m3) (gR m3 (gR m3 r0 1) 8) 10 x1 = true then (some (.int (gI m3 (gR m3 (gR m3 r0 1) 8) (x1 : Int32).toNatClampNeg), m3)) else none) else none) else none) else if x2 = 2 then (if gd_ok (gN m3) r0 9 = true then (if gd_ok (gN m3) (gR m3 r0 1) 7 = true then (if gd_okA (gN m3) (gR m3 (gR m3 r0 1) 9) 10 x1 = true then (some (.int (gI m3 (gR m3 (gR m3 r0 1) 9) (x1 : Int32).toNatClampNeg), m3)) else none) else none) else none) else if x2 = 3 then (gd_Den (88, 85, [.ref r0, .int x1, .int x2, .int 0, .int 0], [], m3)) else (some (.int (-1), m3))))) else none) else none := by
  refine Eq.trans (show gd_call 88 [.ref r0, .int x1, .int x2] m = gd_Den (88, 0, [.ref r0, .int x1, .int x2, .null, .null], [], m) from by unfold gd_call gd_ent; rw [gk_ml88]; rfl) ?_
  refine Eq.trans (D_iload_n (x := x1) gk_f88_0 rfl) ?_
  refine Eq.trans (D_iconst (x := 0) gk_f88_1 gk_c_0) ?_
  refine Eq.trans (D_aload_n (x := r0) gk_f88_2 rfl) ?_
  refine Eq.trans (D_gfR gk_f88_3 (by decide)) ?_
  refine gd_ite (fun h1 => ?_) (fun _ => rfl)
  refine Eq.trans (D_gfI gk_f88_6 (by decide) (by decide) (by decide)) ?_
  refine gd_ite (fun h2 => ?_) (fun _ => rfl)
  refine Eq.trans (D_iconst (x := 1) gk_f88_9 gk_c_1) ?_
  refine Eq.trans (D_isub gk_f88_10) ?_
  refine Eq.trans (D_isZ (args := [.int x1, .int 0, .int ((gI m (gR m r0 1) 0) - 1)]) (rest := []) gk_f88_11 rfl rfl rfl (gd_rmk gk_rm88_71 gk_ln71 gk_ml71 rfl rfl rfl) gk_rk71 (gd_hnd_n gk_nc88)) ?_
  refine gd_bnd (gd_k0I_c fun z5 m3 => ?_)
  refine Eq.trans (D_if_ne (t := 19) gk_f88_14 (by decide)) ?_
  refine gd_ite (fun h6 => ?_) (fun h7 => ?_)
  · refine Eq.trans (D_iconst (x := (-1)) gk_f88_17 gk_c_m1) ?_
    refine Eq.trans (D_ireturn gk_f88_18 gk_rk88) ?_
    rfl
  · refine Eq.trans (D_iconst (x := 0) gk_f88_19 gk_c_0) ?_
    refine Eq.trans (D_istore_n gk_f88_20 gk_st88_3) ?_
    refine Eq.trans (D_iload_n (x := x2) gk_f88_21 rfl) ?_
    refine Eq.trans (D_tsw (vs := [(0, 52), (1, 62), (2, 72), (3, 82)]) (t := 127) gk_f88_22 (by decide) (by decide)) ?_
    refine gd_ite (fun h8 => ?_) (fun h9 => ?_)
    · refine Eq.trans (D_aload_n (x := r0) gk_f88_52 rfl) ?_
      refine Eq.trans (D_gfR gk_f88_53 (by decide)) ?_
      refine gd_ite (fun h10 => ?_) (fun _ => rfl)
      refine Eq.trans (D_gfR gk_f88_56 (by decide)) ?_
      refine gd_ite (fun h11 => ?_) (fun _ => rfl)
      refine Eq.trans (D_iload_n (x := x1) gk_f88_59 rfl) ?_
      refine Eq.trans (D_iald gk_f88_60 gk_n10_88) ?_
      refine gd_ite (fun h12 => ?_) (fun _ => rfl)
      refine Eq.trans (D_ireturn gk_f88_61 gk_rk88) ?_
      rfl
    refine gd_ite (fun h13 => ?_) (fun h14 => ?_)
    · refine Eq.trans (D_aload_n (x := r0) gk_f88_62 rfl) ?_
      refine Eq.trans (D_gfR gk_f88_63 (by decide)) ?_
      refine gd_ite (fun h15 => ?_) (fun _ => rfl)
      refine Eq.trans (D_gfR gk_f88_66 (by decide)) ?_
      refine gd_ite (fun h16 => ?_) (fun _ => rfl)
      refine Eq.trans (D_iload_n (x := x1) gk_f88_69 rfl) ?_
      refine Eq.trans (D_iald gk_f88_70 gk_n10_88) ?_
      refine gd_ite (fun h17 => ?_) (fun _ => rfl)
      refine Eq.trans (D_ireturn gk_f88_71 gk_rk88) ?_
      rfl
    refine gd_ite (fun h18 => ?_) (fun h19 => ?_)
    · refine Eq.trans (D_aload_n (x := r0) gk_f88_72 rfl) ?_
      refine Eq.trans (D_gfR gk_f88_73 (by decide)) ?_
      refine gd_ite (fun h20 => ?_) (fun _ => rfl)
      refine Eq.trans (D_gfR gk_f88_76 (by decide)) ?_
      refine gd_ite (fun h21 => ?_) (fun _ => rfl)
      refine Eq.trans (D_iload_n (x := x1) gk_f88_79 rfl) ?_
      refine Eq.trans (D_iald gk_f88_80 gk_n10_88) ?_
      refine gd_ite (fun h22 => ?_) (fun _ => rfl)
      refine Eq.trans (D_ireturn gk_f88_81 gk_rk88) ?_
      rfl
    refine gd_ite (fun h23 => ?_) (fun h24 => ?_)
    · refine Eq.trans (D_iconst (x := 0) gk_f88_82 gk_c_0) ?_
      refine Eq.trans (D_istore gk_f88_83 gk_st88_4) ?_
      rfl
    refine Eq.trans (D_iconst (x := (-1)) gk_f88_127 gk_c_m1) ?_
    refine Eq.trans (D_ireturn gk_f88_128 gk_rk88) ?_
    rfl
set_option maxRecDepth 20000 in
set_option maxHeartbeats 4000000 in
theorem q_Mo_part_85 (r0 : Nat) (x1 : Int32) (x2 : Int32) (x3 : Int32) (x4 : Int32) (m : gd_M) : gd_Den (88, 85, [.ref r0, .int x1, .int x2, .int x3, .int x4], [], m) = if gd_ok (gN m) r0 9 = true then (if gd_ok (gN m) (gR m r0 1) 7 = true then (if (x4 < (gI m (gR m r0 1) 1) : Prop) then (if gd_okA (gN m) (gR m (gR m r0 1) 10) 10 x4 = true then (if ((gI m (gR m (gR m r0 1) 10) (x4 : Int32).toNatClampNeg) = x1 : Prop) then (gd_Den (88, 85, [.ref r0, .int x1, .int x2, .int (x3 + 1), .int (x4 + 1)], [], m)) else (gd_Den (88, 85, [.ref r0, .int x1, .int x2, .int (x3 + 0), .int (x4 + 1)], [], m))) else none) else (some (.int x3, m))) else none) else none := by
  refine Eq.trans (D_iload (x := x4) gk_f88_85 rfl) ?_
  refine Eq.trans (D_aload_n (x := r0) gk_f88_87 rfl) ?_
  refine Eq.trans (D_gfR gk_f88_88 (by decide)) ?_
  refine gd_ite (fun h1 => ?_) (fun _ => rfl)
  refine Eq.trans (D_gfI gk_f88_91 (by decide) (by decide) (by decide)) ?_
  refine gd_ite (fun h2 => ?_) (fun _ => rfl)
  refine Eq.trans (D_ic_ge (t := 125) gk_f88_94 (by decide)) ?_
  refine gd_ite (fun h3 => ?_) (fun h4 => ?_)
  · refine Eq.trans (D_iload_n (x := x3) gk_f88_97 rfl) ?_
    refine Eq.trans (D_aload_n (x := r0) gk_f88_98 rfl) ?_
    refine Eq.trans (D_gfR gk_f88_99 (by decide)) ?_
    refine Eq.trans (if_pos h1) ?_
    refine Eq.trans (D_gfR gk_f88_102 (by decide)) ?_
    refine Eq.trans (if_pos h2) ?_
    refine Eq.trans (D_iload (x := x4) gk_f88_105 rfl) ?_
    refine Eq.trans (D_iald gk_f88_107 gk_n10_88) ?_
    refine gd_ite (fun h5 => ?_) (fun _ => rfl)
    refine Eq.trans (D_iload_n (x := x1) gk_f88_108 rfl) ?_
    refine Eq.trans (D_ic_ne (t := 116) gk_f88_109 (by decide)) ?_
    refine gd_ite (fun h6 => ?_) (fun h7 => ?_)
    · refine Eq.trans (D_iconst (x := 1) gk_f88_112 gk_c_1) ?_
      refine Eq.trans (D_goto (t := 117) gk_f88_113 (by decide)) ?_
      refine Eq.trans (D_iadd gk_f88_117) ?_
      refine Eq.trans (D_istore_n gk_f88_118 gk_st88_3) ?_
      refine Eq.trans (D_iinc (x := x4) (y := 1) gk_f88_119 rfl gk_c_1 gk_st88_4) ?_
      refine Eq.trans (D_goto (t := 85) gk_f88_122 (by decide)) ?_
      rfl
    · refine Eq.trans (D_iconst (x := 0) gk_f88_116 gk_c_0) ?_
      refine Eq.trans (D_iadd gk_f88_117) ?_
      refine Eq.trans (D_istore_n gk_f88_118 gk_st88_3) ?_
      refine Eq.trans (D_iinc (x := x4) (y := 1) gk_f88_119 rfl gk_c_1 gk_st88_4) ?_
      refine Eq.trans (D_goto (t := 85) gk_f88_122 (by decide)) ?_
      rfl
  · refine Eq.trans (D_iload_n (x := x3) gk_f88_125 rfl) ?_
    refine Eq.trans (D_ireturn gk_f88_126 gk_rk88) ?_
    rfl
/-! GymDesk.isLand (I)Z -/
set_option maxRecDepth 20000 in
theorem gk_f89_0 : gd_fetch 89 0 = some (0, .iload_n 0, 1, 0, 0, 0, 0, 0) := rfl
set_option maxRecDepth 20000 in
theorem gk_f89_1 : gd_fetch 89 1 = some (1, .ifCond .lt 13, 3, 0, 0, 0, 0, 0) := rfl
set_option maxRecDepth 20000 in
theorem gk_f89_4 : gd_fetch 89 4 = some (4, .iload_n 0, 1, 0, 0, 0, 0, 0) := rfl
set_option maxRecDepth 20000 in
theorem gk_f89_5 : gd_fetch 89 5 = some (5, .bipush 10, 2, 0, 0, 0, 0, 0) := rfl
set_option maxRecDepth 20000 in
theorem gk_f89_7 : gd_fetch 89 7 = some (7, .if_icmp .ge 7, 3, 0, 0, 0, 0, 0) := rfl
set_option maxRecDepth 20000 in
theorem gk_f89_10 : gd_fetch 89 10 = some (10, .iconst 1, 1, 0, 0, 0, 0, 0) := rfl
set_option maxRecDepth 20000 in
theorem gk_f89_11 : gd_fetch 89 11 = some (11, .goto 4, 3, 0, 0, 0, 0, 0) := rfl
set_option maxRecDepth 20000 in
theorem gk_f89_14 : gd_fetch 89 14 = some (14, .iconst 0, 1, 0, 0, 0, 0, 0) := rfl
set_option maxRecDepth 20000 in
theorem gk_f89_15 : gd_fetch 89 15 = some (15, .ireturn, 1, 0, 0, 0, 0, 0) := rfl
set_option maxRecDepth 20000 in
set_option maxHeartbeats 4000000 in
theorem q_X_isLand (x0 : Int32) (m : gd_M) : gd_call 89 [.int x0] m = if (x0 < 0 : Prop) then (some (.int 0, m)) else (if (x0 < 10 : Prop) then (some (.int 1, m)) else (some (.int 0, m))) := by
  refine Eq.trans (show gd_call 89 [.int x0] m = gd_Den (89, 0, [.int x0], [], m) from by unfold gd_call gd_ent; rw [gk_ml89]; rfl) ?_
  refine Eq.trans (D_iload_n (x := x0) gk_f89_0 rfl) ?_
  refine Eq.trans (D_if_lt (t := 14) gk_f89_1 (by decide)) ?_
  refine gd_ite (fun h1 => ?_) (fun h2 => ?_)
  · refine Eq.trans (D_iconst (x := 0) gk_f89_14 gk_c_0) ?_
    refine Eq.trans (D_zreturn gk_f89_15 gk_rk89) ?_
    exact if_pos rfl
  · refine Eq.trans (D_iload_n (x := x0) gk_f89_4 rfl) ?_
    refine Eq.trans (D_bipush (x := 10) gk_f89_5 gk_b_10) ?_
    refine Eq.trans (D_ic_ge (t := 14) gk_f89_7 (by decide)) ?_
    refine gd_ite (fun h3 => ?_) (fun h4 => ?_)
    · refine Eq.trans (D_iconst (x := 1) gk_f89_10 gk_c_1) ?_
      refine Eq.trans (D_goto (t := 15) gk_f89_11 (by decide)) ?_
      refine Eq.trans (D_zreturn gk_f89_15 gk_rk89) ?_
      exact if_pos rfl
    · refine Eq.trans (D_iconst (x := 0) gk_f89_14 gk_c_0) ?_
      refine Eq.trans (D_zreturn gk_f89_15 gk_rk89) ?_
      exact if_pos rfl
/-! GymDesk.enter (I)I -/
set_option maxRecDepth 20000 in
theorem gk_f90_0 : gd_fetch 90 0 = some (0, .iload_n 1, 1, 0, 0, 0, 0, 0) := rfl
set_option maxRecDepth 20000 in
theorem gk_f90_1 : gd_fetch 90 1 = some (1, .invokestatic 118, 3, 678, 89, 1, 0, 0) := rfl
set_option maxRecDepth 20000 in
theorem gk_f90_4 : gd_fetch 90 4 = some (4, .ifCond .ne 6, 3, 0, 0, 0, 0, 0) := rfl
set_option maxRecDepth 20000 in
theorem gk_f90_7 : gd_fetch 90 7 = some (7, .bipush (-2), 2, 0, 0, 0, 0, 0) := rfl
set_option maxRecDepth 20000 in
theorem gk_f90_9 : gd_fetch 90 9 = some (9, .ireturn, 1, 0, 0, 0, 0, 0) := rfl
set_option maxRecDepth 20000 in
theorem gk_f90_10 : gd_fetch 90 10 = some (10, .aload_n 0, 1, 0, 0, 0, 0, 0) := rfl
set_option maxRecDepth 20000 in
theorem gk_f90_11 : gd_fetch 90 11 = some (11, .getfield 86, 3, 472, 6, 12, 0, 0) := rfl
set_option maxRecDepth 20000 in
theorem gk_f90_14 : gd_fetch 90 14 = some (14, .bipush 40, 2, 0, 0, 0, 0, 0) := rfl
set_option maxRecDepth 20000 in
theorem gk_f90_16 : gd_fetch 90 16 = some (16, .if_icmp .lt 6, 3, 0, 0, 0, 0, 0) := rfl
set_option maxRecDepth 20000 in
theorem gk_f90_19 : gd_fetch 90 19 = some (19, .bipush (-3), 2, 0, 0, 0, 0, 0) := rfl
set_option maxRecDepth 20000 in
theorem gk_f90_21 : gd_fetch 90 21 = some (21, .ireturn, 1, 0, 0, 0, 0, 0) := rfl
set_option maxRecDepth 20000 in
theorem gk_f90_22 : gd_fetch 90 22 = some (22, .aload_n 0, 1, 0, 0, 0, 0, 0) := rfl
set_option maxRecDepth 20000 in
theorem gk_f90_23 : gd_fetch 90 23 = some (23, .getfield 40, 3, 465, 6, 5, 4, 1) := rfl
set_option maxRecDepth 20000 in
theorem gk_f90_26 : gd_fetch 90 26 = some (26, .aload_n 0, 1, 0, 0, 0, 0, 0) := rfl
set_option maxRecDepth 20000 in
theorem gk_f90_27 : gd_fetch 90 27 = some (27, .getfield 86, 3, 472, 6, 12, 0, 0) := rfl
set_option maxRecDepth 20000 in
theorem gk_f90_30 : gd_fetch 90 30 = some (30, .iload_n 1, 1, 0, 0, 0, 0, 0) := rfl
set_option maxRecDepth 20000 in
theorem gk_f90_31 : gd_fetch 90 31 = some (31, .iastore, 1, 0, 0, 0, 0, 0) := rfl
set_option maxRecDepth 20000 in
theorem gk_f90_32 : gd_fetch 90 32 = some (32, .aload_n 0, 1, 0, 0, 0, 0, 0) := rfl
set_option maxRecDepth 20000 in
theorem gk_f90_33 : gd_fetch 90 33 = some (33, .getfield 44, 3, 466, 6, 6, 4, 1) := rfl
set_option maxRecDepth 20000 in
theorem gk_f90_36 : gd_fetch 90 36 = some (36, .aload_n 0, 1, 0, 0, 0, 0, 0) := rfl
set_option maxRecDepth 20000 in
theorem gk_f90_37 : gd_fetch 90 37 = some (37, .getfield 86, 3, 472, 6, 12, 0, 0) := rfl
set_option maxRecDepth 20000 in
theorem gk_f90_40 : gd_fetch 90 40 = some (40, .iconst 0, 1, 0, 0, 0, 0, 0) := rfl
set_option maxRecDepth 20000 in
theorem gk_f90_41 : gd_fetch 90 41 = some (41, .iastore, 1, 0, 0, 0, 0, 0) := rfl
set_option maxRecDepth 20000 in
theorem gk_f90_42 : gd_fetch 90 42 = some (42, .aload_n 0, 1, 0, 0, 0, 0, 0) := rfl
set_option maxRecDepth 20000 in
theorem gk_f90_43 : gd_fetch 90 43 = some (43, .dup, 1, 0, 0, 0, 0, 0) := rfl
set_option maxRecDepth 20000 in
theorem gk_f90_44 : gd_fetch 90 44 = some (44, .getfield 86, 3, 472, 6, 12, 0, 0) := rfl
set_option maxRecDepth 20000 in
theorem gk_f90_47 : gd_fetch 90 47 = some (47, .iconst 1, 1, 0, 0, 0, 0, 0) := rfl
set_option maxRecDepth 20000 in
theorem gk_f90_48 : gd_fetch 90 48 = some (48, .iadd, 1, 0, 0, 0, 0, 0) := rfl
set_option maxRecDepth 20000 in
theorem gk_f90_49 : gd_fetch 90 49 = some (49, .putfield 86, 3, 472, 6, 12, 0, 0) := rfl
set_option maxRecDepth 20000 in
theorem gk_f90_52 : gd_fetch 90 52 = some (52, .aload_n 0, 1, 0, 0, 0, 0, 0) := rfl
set_option maxRecDepth 20000 in
theorem gk_f90_53 : gd_fetch 90 53 = some (53, .getfield 86, 3, 472, 6, 12, 0, 0) := rfl
set_option maxRecDepth 20000 in
theorem gk_f90_56 : gd_fetch 90 56 = some (56, .iconst 1, 1, 0, 0, 0, 0, 0) := rfl
set_option maxRecDepth 20000 in
theorem gk_f90_57 : gd_fetch 90 57 = some (57, .isub, 1, 0, 0, 0, 0, 0) := rfl
set_option maxRecDepth 20000 in
theorem gk_f90_58 : gd_fetch 90 58 = some (58, .ireturn, 1, 0, 0, 0, 0, 0) := rfl
set_option maxRecDepth 20000 in
set_option maxHeartbeats 4000000 in
theorem q_X_enter (r0 : Nat) (x1 : Int32) (m : gd_M) : gd_call 90 [.ref r0, .int x1] m = (gd_call 89 [.int x1] m).bind (gd_k0I fun z3 m1 => if (z3 = 0 : Prop) then (some (.int (-2), m1)) else (if gd_ok (gN m1) r0 6 = true then (if ((gI m1 r0 12) < 40 : Prop) then (if gd_okA (gN m1) (gR m1 r0 5) 10 (gI m1 r0 12) = true then (if gd_okA (gN m1) (gR m1 r0 6) 10 (gI (wI m1 (gR m1 r0 5) ((gI m1 r0 12) : Int32).toNatClampNeg x1) r0 12) = true then (some (.int ((gI (wI (wI (wI m1 (gR m1 r0 5) ((gI m1 r0 12) : Int32).toNatClampNeg x1) (gR m1 r0 6) ((gI (wI m1 (gR m1 r0 5) ((gI m1 r0 12) : Int32).toNatClampNeg x1) r0 12) : Int32).toNatClampNeg 0) r0 12 ((gI (wI (wI m1 (gR m1 r0 5) ((gI m1 r0 12) : Int32).toNatClampNeg x1) (gR m1 r0 6) ((gI (wI m1 (gR m1 r0 5) ((gI m1 r0 12) : Int32).toNatClampNeg x1) r0 12) : Int32).toNatClampNeg 0) r0 12) + 1)) r0 12) - 1), (wI (wI (wI m1 (gR m1 r0 5) ((gI m1 r0 12) : Int32).toNatClampNeg x1) (gR m1 r0 6) ((gI (wI m1 (gR m1 r0 5) ((gI m1 r0 12) : Int32).toNatClampNeg x1) r0 12) : Int32).toNatClampNeg 0) r0 12 ((gI (wI (wI m1 (gR m1 r0 5) ((gI m1 r0 12) : Int32).toNatClampNeg x1) (gR m1 r0 6) ((gI (wI m1 (gR m1 r0 5) ((gI m1 r0 12) : Int32).toNatClampNeg x1) r0 12) : Int32).toNatClampNeg 0) r0 12) + 1)))) else none) else none) else (some (.int (-3), m1))) else none)) := by
  refine Eq.trans (show gd_call 90 [.ref r0, .int x1] m = gd_Den (90, 0, [.ref r0, .int x1], [], m) from by unfold gd_call gd_ent; rw [gk_ml90]; rfl) ?_
  refine Eq.trans (D_iload_n (x := x1) gk_f90_0 rfl) ?_
  refine Eq.trans (D_isZ (args := [.int x1]) (rest := []) gk_f90_1 rfl rfl rfl (gd_rmk gk_rm90_89 gk_ln89 gk_ml89 rfl rfl rfl) gk_rk89 (gd_hnd_n gk_nc90)) ?_
  refine gd_bnd (gd_k0I_c fun z3 m1 => ?_)
  refine Eq.trans (D_if_ne (t := 10) gk_f90_4 (by decide)) ?_
  refine gd_ite (fun h4 => ?_) (fun h5 => ?_)
  · refine Eq.trans (D_bipush (x := (-2)) gk_f90_7 gk_b_m2) ?_
    refine Eq.trans (D_ireturn gk_f90_9 gk_rk90) ?_
    rfl
  · refine Eq.trans (D_aload_n (x := r0) gk_f90_10 rfl) ?_
    refine Eq.trans (D_gfI gk_f90_11 (by decide) (by decide) (by decide)) ?_
    refine gd_ite (fun h6 => ?_) (fun _ => rfl)
    refine Eq.trans (D_bipush (x := 40) gk_f90_14 gk_b_40) ?_
    refine Eq.trans (D_ic_lt (t := 22) gk_f90_16 (by decide)) ?_
    refine gd_ite (fun h7 => ?_) (fun h8 => ?_)
    · refine Eq.trans (D_aload_n (x := r0) gk_f90_22 rfl) ?_
      refine Eq.trans (D_gfR gk_f90_23 (by decide)) ?_
      refine Eq.trans (if_pos h6) ?_
      refine Eq.trans (D_aload_n (x := r0) gk_f90_26 rfl) ?_
      refine Eq.trans (D_gfI gk_f90_27 (by decide) (by decide) (by decide)) ?_
      refine Eq.trans (if_pos h6) ?_
      refine Eq.trans (D_iload_n (x := x1) gk_f90_30 rfl) ?_
      refine Eq.trans (D_iast gk_f90_31) ?_
      refine gd_ite (fun h9 => ?_) (fun _ => rfl)
      refine Eq.trans (D_aload_n (x := r0) gk_f90_32 rfl) ?_
      refine Eq.trans (D_gfR gk_f90_33 (by decide)) ?_
      refine Eq.trans (if_pos h6) ?_
      refine Eq.trans (D_aload_n (x := r0) gk_f90_36 rfl) ?_
      refine Eq.trans (D_gfI gk_f90_37 (by decide) (by decide) (by decide)) ?_
      refine Eq.trans (if_pos h6) ?_
      refine Eq.trans (D_iconst (x := 0) gk_f90_40 gk_c_0) ?_
      refine Eq.trans (D_iast gk_f90_41) ?_
      refine gd_ite (fun h10 => ?_) (fun _ => rfl)
      refine Eq.trans (D_aload_n (x := r0) gk_f90_42 rfl) ?_
      refine Eq.trans (D_dupR gk_f90_43) ?_
      refine Eq.trans (D_gfI gk_f90_44 (by decide) (by decide) (by decide)) ?_
      refine Eq.trans (if_pos h6) ?_
      refine Eq.trans (D_iconst (x := 1) gk_f90_47 gk_c_1) ?_
      refine Eq.trans (D_iadd gk_f90_48) ?_
      refine Eq.trans (D_pfI gk_f90_49) ?_
      refine Eq.trans (if_pos h6) ?_
      refine Eq.trans (D_aload_n (x := r0) gk_f90_52 rfl) ?_
      refine Eq.trans (D_gfI gk_f90_53 (by decide) (by decide) (by decide)) ?_
      refine Eq.trans (if_pos h6) ?_
      refine Eq.trans (D_iconst (x := 1) gk_f90_56 gk_c_1) ?_
      refine Eq.trans (D_isub gk_f90_57) ?_
      refine Eq.trans (D_ireturn gk_f90_58 gk_rk90) ?_
      rfl
    · refine Eq.trans (D_bipush (x := (-3)) gk_f90_19 gk_b_m3) ?_
      refine Eq.trans (D_ireturn gk_f90_21 gk_rk90) ?_
      rfl
/-! GymDeskModel.enter (I)I -/
set_option maxRecDepth 20000 in
theorem gk_f91_0 : gd_fetch 91 0 = some (0, .iload_n 1, 1, 0, 0, 0, 0, 0) := rfl
set_option maxRecDepth 20000 in
theorem gk_f91_1 : gd_fetch 91 1 = some (1, .iconst 0, 1, 0, 0, 0, 0, 0) := rfl
set_option maxRecDepth 20000 in
theorem gk_f91_2 : gd_fetch 91 2 = some (2, .bipush 9, 2, 0, 0, 0, 0, 0) := rfl
set_option maxRecDepth 20000 in
theorem gk_f91_4 : gd_fetch 91 4 = some (4, .invokestatic 192, 3, 1360, 71, 3, 0, 0) := rfl
set_option maxRecDepth 20000 in
theorem gk_f91_7 : gd_fetch 91 7 = some (7, .ifCond .ne 6, 3, 0, 0, 0, 0, 0) := rfl
set_option maxRecDepth 20000 in
theorem gk_f91_10 : gd_fetch 91 10 = some (10, .bipush (-2), 2, 0, 0, 0, 0, 0) := rfl
set_option maxRecDepth 20000 in
theorem gk_f91_12 : gd_fetch 91 12 = some (12, .ireturn, 1, 0, 0, 0, 0, 0) := rfl
set_option maxRecDepth 20000 in
theorem gk_f91_13 : gd_fetch 91 13 = some (13, .aload_n 0, 1, 0, 0, 0, 0, 0) := rfl
set_option maxRecDepth 20000 in
theorem gk_f91_14 : gd_fetch 91 14 = some (14, .getfield 326, 3, 1181, 9, 18, 0, 0) := rfl
set_option maxRecDepth 20000 in
theorem gk_f91_17 : gd_fetch 91 17 = some (17, .bipush 40, 2, 0, 0, 0, 0, 0) := rfl
set_option maxRecDepth 20000 in
theorem gk_f91_19 : gd_fetch 91 19 = some (19, .if_icmp .ne 6, 3, 0, 0, 0, 0, 0) := rfl
set_option maxRecDepth 20000 in
theorem gk_f91_22 : gd_fetch 91 22 = some (22, .bipush (-3), 2, 0, 0, 0, 0, 0) := rfl
set_option maxRecDepth 20000 in
theorem gk_f91_24 : gd_fetch 91 24 = some (24, .ireturn, 1, 0, 0, 0, 0, 0) := rfl
set_option maxRecDepth 20000 in
theorem gk_f91_25 : gd_fetch 91 25 = some (25, .aload_n 0, 1, 0, 0, 0, 0, 0) := rfl
set_option maxRecDepth 20000 in
theorem gk_f91_26 : gd_fetch 91 26 = some (26, .getfield 41, 3, 1183, 9, 20, 4, 1) := rfl
set_option maxRecDepth 20000 in
theorem gk_f91_29 : gd_fetch 91 29 = some (29, .aload_n 0, 1, 0, 0, 0, 0, 0) := rfl
set_option maxRecDepth 20000 in
theorem gk_f91_30 : gd_fetch 91 30 = some (30, .getfield 326, 3, 1181, 9, 18, 0, 0) := rfl
set_option maxRecDepth 20000 in
theorem gk_f91_33 : gd_fetch 91 33 = some (33, .iload_n 1, 1, 0, 0, 0, 0, 0) := rfl
set_option maxRecDepth 20000 in
theorem gk_f91_34 : gd_fetch 91 34 = some (34, .iastore, 1, 0, 0, 0, 0, 0) := rfl
set_option maxRecDepth 20000 in
theorem gk_f91_35 : gd_fetch 91 35 = some (35, .iconst 0, 1, 0, 0, 0, 0, 0) := rfl
set_option maxRecDepth 20000 in
theorem gk_f91_36 : gd_fetch 91 36 = some (36, .istore_n 2, 1, 0, 0, 0, 0, 0) := rfl
set_option maxRecDepth 20000 in
theorem gk_f91_37 : gd_fetch 91 37 = some (37, .iload_n 2, 1, 0, 0, 0, 0, 0) := rfl
set_option maxRecDepth 20000 in
theorem gk_f91_38 : gd_fetch 91 38 = some (38, .iconst 5, 1, 0, 0, 0, 0, 0) := rfl
set_option maxRecDepth 20000 in
theorem gk_f91_39 : gd_fetch 91 39 = some (39, .if_icmp .ge 23, 3, 0, 0, 0, 0, 0) := rfl
set_option maxRecDepth 20000 in
theorem gk_f91_42 : gd_fetch 91 42 = some (42, .aload_n 0, 1, 0, 0, 0, 0, 0) := rfl
set_option maxRecDepth 20000 in
theorem gk_f91_43 : gd_fetch 91 43 = some (43, .getfield 48, 3, 1185, 9, 22, 4, 1) := rfl
set_option maxRecDepth 20000 in
theorem gk_f91_46 : gd_fetch 91 46 = some (46, .iconst 5, 1, 0, 0, 0, 0, 0) := rfl
set_option maxRecDepth 20000 in
theorem gk_f91_47 : gd_fetch 91 47 = some (47, .aload_n 0, 1, 0, 0, 0, 0, 0) := rfl
set_option maxRecDepth 20000 in
theorem gk_f91_48 : gd_fetch 91 48 = some (48, .getfield 326, 3, 1181, 9, 18, 0, 0) := rfl
set_option maxRecDepth 20000 in
theorem gk_f91_51 : gd_fetch 91 51 = some (51, .imul, 1, 0, 0, 0, 0, 0) := rfl
set_option maxRecDepth 20000 in
theorem gk_f91_52 : gd_fetch 91 52 = some (52, .iload_n 2, 1, 0, 0, 0, 0, 0) := rfl
set_option maxRecDepth 20000 in
theorem gk_f91_53 : gd_fetch 91 53 = some (53, .iadd, 1, 0, 0, 0, 0, 0) := rfl
set_option maxRecDepth 20000 in
theorem gk_f91_54 : gd_fetch 91 54 = some (54, .iconst 0, 1, 0, 0, 0, 0, 0) := rfl
set_option maxRecDepth 20000 in
theorem gk_f91_55 : gd_fetch 91 55 = some (55, .bastore, 1, 0, 0, 0, 0, 0) := rfl
set_option maxRecDepth 20000 in
theorem gk_f91_56 : gd_fetch 91 56 = some (56, .iinc 2 1, 3, 0, 0, 0, 0, 0) := rfl
set_option maxRecDepth 20000 in
theorem gk_f91_59 : gd_fetch 91 59 = some (59, .goto (-22), 3, 0, 0, 0, 0, 0) := rfl
set_option maxRecDepth 20000 in
theorem gk_f91_62 : gd_fetch 91 62 = some (62, .aload_n 0, 1, 0, 0, 0, 0, 0) := rfl
set_option maxRecDepth 20000 in
theorem gk_f91_63 : gd_fetch 91 63 = some (63, .dup, 1, 0, 0, 0, 0, 0) := rfl
set_option maxRecDepth 20000 in
theorem gk_f91_64 : gd_fetch 91 64 = some (64, .getfield 326, 3, 1181, 9, 18, 0, 0) := rfl
set_option maxRecDepth 20000 in
theorem gk_f91_67 : gd_fetch 91 67 = some (67, .iconst 1, 1, 0, 0, 0, 0, 0) := rfl
set_option maxRecDepth 20000 in
theorem gk_f91_68 : gd_fetch 91 68 = some (68, .iadd, 1, 0, 0, 0, 0, 0) := rfl
set_option maxRecDepth 20000 in
theorem gk_f91_69 : gd_fetch 91 69 = some (69, .putfield 326, 3, 1181, 9, 18, 0, 0) := rfl
set_option maxRecDepth 20000 in
theorem gk_f91_72 : gd_fetch 91 72 = some (72, .aload_n 0, 1, 0, 0, 0, 0, 0) := rfl
set_option maxRecDepth 20000 in
theorem gk_f91_73 : gd_fetch 91 73 = some (73, .getfield 326, 3, 1181, 9, 18, 0, 0) := rfl
set_option maxRecDepth 20000 in
theorem gk_f91_76 : gd_fetch 91 76 = some (76, .iconst 1, 1, 0, 0, 0, 0, 0) := rfl
set_option maxRecDepth 20000 in
theorem gk_f91_77 : gd_fetch 91 77 = some (77, .isub, 1, 0, 0, 0, 0, 0) := rfl
set_option maxRecDepth 20000 in
theorem gk_f91_78 : gd_fetch 91 78 = some (78, .ireturn, 1, 0, 0, 0, 0, 0) := rfl
set_option maxRecDepth 20000 in
set_option maxHeartbeats 4000000 in
theorem q_Mo_enter (r0 : Nat) (x1 : Int32) (m : gd_M) : gd_call 91 [.ref r0, .int x1] m = (gd_call 71 [.int x1, .int 0, .int 9] m).bind (gd_k0I fun z3 m1 => if (z3 = 0 : Prop) then (some (.int (-2), m1)) else (if gd_ok (gN m1) r0 9 = true then (if ((gI m1 r0 18) = 40 : Prop) then (some (.int (-3), m1)) else (if gd_okA (gN m1) (gR m1 r0 20) 10 (gI m1 r0 18) = true then (gd_Den (91, 37, [.ref r0, .int x1, .int 0], [], (wI m1 (gR m1 r0 20) ((gI m1 r0 18) : Int32).toNatClampNeg x1))) else none)) else none)) := by
  refine Eq.trans (show gd_call 91 [.ref r0, .int x1] m = gd_Den (91, 0, [.ref r0, .int x1, .null], [], m) from by unfold gd_call gd_ent; rw [gk_ml91]; rfl) ?_
  refine Eq.trans (D_iload_n (x := x1) gk_f91_0 rfl) ?_
  refine Eq.trans (D_iconst (x := 0) gk_f91_1 gk_c_0) ?_
  refine Eq.trans (D_bipush (x := 9) gk_f91_2 gk_b_9) ?_
  refine Eq.trans (D_isZ (args := [.int x1, .int 0, .int 9]) (rest := []) gk_f91_4 rfl rfl rfl (gd_rmk gk_rm91_71 gk_ln71 gk_ml71 rfl rfl rfl) gk_rk71 (gd_hnd_n gk_nc91)) ?_
  refine gd_bnd (gd_k0I_c fun z3 m1 => ?_)
  refine Eq.trans (D_if_ne (t := 13) gk_f91_7 (by decide)) ?_
  refine gd_ite (fun h4 => ?_) (fun h5 => ?_)
  · refine Eq.trans (D_bipush (x := (-2)) gk_f91_10 gk_b_m2) ?_
    refine Eq.trans (D_ireturn gk_f91_12 gk_rk91) ?_
    rfl
  · refine Eq.trans (D_aload_n (x := r0) gk_f91_13 rfl) ?_
    refine Eq.trans (D_gfI gk_f91_14 (by decide) (by decide) (by decide)) ?_
    refine gd_ite (fun h6 => ?_) (fun _ => rfl)
    refine Eq.trans (D_bipush (x := 40) gk_f91_17 gk_b_40) ?_
    refine Eq.trans (D_ic_ne (t := 25) gk_f91_19 (by decide)) ?_
    refine gd_ite (fun h7 => ?_) (fun h8 => ?_)
    · refine Eq.trans (D_bipush (x := (-3)) gk_f91_22 gk_b_m3) ?_
      refine Eq.trans (D_ireturn gk_f91_24 gk_rk91) ?_
      rfl
    · refine Eq.trans (D_aload_n (x := r0) gk_f91_25 rfl) ?_
      refine Eq.trans (D_gfR gk_f91_26 (by decide)) ?_
      refine Eq.trans (if_pos h6) ?_
      refine Eq.trans (D_aload_n (x := r0) gk_f91_29 rfl) ?_
      refine Eq.trans (D_gfI gk_f91_30 (by decide) (by decide) (by decide)) ?_
      refine Eq.trans (if_pos h6) ?_
      refine Eq.trans (D_iload_n (x := x1) gk_f91_33 rfl) ?_
      refine Eq.trans (D_iast gk_f91_34) ?_
      refine gd_ite (fun h9 => ?_) (fun _ => rfl)
      refine Eq.trans (D_iconst (x := 0) gk_f91_35 gk_c_0) ?_
      refine Eq.trans (D_istore_n gk_f91_36 gk_st91_2) ?_
      rfl
set_option maxRecDepth 20000 in
set_option maxHeartbeats 4000000 in
theorem q_Mo_enter_37 (r0 : Nat) (x1 : Int32) (x2 : Int32) (m : gd_M) : gd_Den (91, 37, [.ref r0, .int x1, .int x2], [], m) = if (x2 < 5 : Prop) then (if gd_ok (gN m) r0 9 = true then (if gd_okA (gN m) (gR m r0 22) 11 ((5 * (gI m r0 18)) + x2) = true then (gd_Den (91, 37, [.ref r0, .int x1, .int (x2 + 1)], [], (wI m (gR m r0 22) (((5 * (gI m r0 18)) + x2) : Int32).toNatClampNeg (vp_nar .boolean 0)))) else none) else none) else (if gd_ok (gN m) r0 9 = true then (some (.int ((gI (wI m r0 18 ((gI m r0 18) + 1)) r0 18) - 1), (wI m r0 18 ((gI m r0 18) + 1)))) else none) := by
  refine Eq.trans (D_iload_n (x := x2) gk_f91_37 rfl) ?_
  refine Eq.trans (D_iconst (x := 5) gk_f91_38 gk_c_5) ?_
  refine Eq.trans (D_ic_ge (t := 62) gk_f91_39 (by decide)) ?_
  refine gd_ite (fun h1 => ?_) (fun h2 => ?_)
  · refine Eq.trans (D_aload_n (x := r0) gk_f91_42 rfl) ?_
    refine Eq.trans (D_gfR gk_f91_43 (by decide)) ?_
    refine gd_ite (fun h3 => ?_) (fun _ => rfl)
    refine Eq.trans (D_iconst (x := 5) gk_f91_46 gk_c_5) ?_
    refine Eq.trans (D_aload_n (x := r0) gk_f91_47 rfl) ?_
    refine Eq.trans (D_gfI gk_f91_48 (by decide) (by decide) (by decide)) ?_
    refine Eq.trans (if_pos h3) ?_
    refine Eq.trans (D_imul gk_f91_51) ?_
    refine Eq.trans (D_iload_n (x := x2) gk_f91_52 rfl) ?_
    refine Eq.trans (D_iadd gk_f91_53) ?_
    refine Eq.trans (D_iconst (x := 0) gk_f91_54 gk_c_0) ?_
    refine Eq.trans (D_bastZ gk_f91_55 gk_b12_91) ?_
    refine gd_ite (fun h4 => ?_) (fun _ => rfl)
    refine Eq.trans (D_iinc (x := x2) (y := 1) gk_f91_56 rfl gk_c_1 gk_st91_2) ?_
    refine Eq.trans (D_goto (t := 37) gk_f91_59 (by decide)) ?_
    rfl
  · refine Eq.trans (D_aload_n (x := r0) gk_f91_62 rfl) ?_
    refine Eq.trans (D_dupR gk_f91_63) ?_
    refine Eq.trans (D_gfI gk_f91_64 (by decide) (by decide) (by decide)) ?_
    refine gd_ite (fun h5 => ?_) (fun _ => rfl)
    refine Eq.trans (D_iconst (x := 1) gk_f91_67 gk_c_1) ?_
    refine Eq.trans (D_iadd gk_f91_68) ?_
    refine Eq.trans (D_pfI gk_f91_69) ?_
    refine Eq.trans (if_pos h5) ?_
    refine Eq.trans (D_aload_n (x := r0) gk_f91_72 rfl) ?_
    refine Eq.trans (D_gfI gk_f91_73 (by decide) (by decide) (by decide)) ?_
    refine Eq.trans (if_pos h5) ?_
    refine Eq.trans (D_iconst (x := 1) gk_f91_76 gk_c_1) ?_
    refine Eq.trans (D_isub gk_f91_77) ?_
    refine Eq.trans (D_ireturn gk_f91_78 gk_rk91) ?_
    rfl
/-! GymDesk.isGymnast (I)Z -/
set_option maxRecDepth 20000 in
theorem gk_f92_0 : gd_fetch 92 0 = some (0, .iload_n 1, 1, 0, 0, 0, 0, 0) := rfl
set_option maxRecDepth 20000 in
theorem gk_f92_1 : gd_fetch 92 1 = some (1, .ifCond .lt 15, 3, 0, 0, 0, 0, 0) := rfl
set_option maxRecDepth 20000 in
theorem gk_f92_4 : gd_fetch 92 4 = some (4, .iload_n 1, 1, 0, 0, 0, 0, 0) := rfl
set_option maxRecDepth 20000 in
theorem gk_f92_5 : gd_fetch 92 5 = some (5, .aload_n 0, 1, 0, 0, 0, 0, 0) := rfl
set_option maxRecDepth 20000 in
theorem gk_f92_6 : gd_fetch 92 6 = some (6, .getfield 86, 3, 472, 6, 12, 0, 0) := rfl
set_option maxRecDepth 20000 in
theorem gk_f92_9 : gd_fetch 92 9 = some (9, .if_icmp .ge 7, 3, 0, 0, 0, 0, 0) := rfl
set_option maxRecDepth 20000 in
theorem gk_f92_12 : gd_fetch 92 12 = some (12, .iconst 1, 1, 0, 0, 0, 0, 0) := rfl
set_option maxRecDepth 20000 in
theorem gk_f92_13 : gd_fetch 92 13 = some (13, .goto 4, 3, 0, 0, 0, 0, 0) := rfl
set_option maxRecDepth 20000 in
theorem gk_f92_16 : gd_fetch 92 16 = some (16, .iconst 0, 1, 0, 0, 0, 0, 0) := rfl
set_option maxRecDepth 20000 in
theorem gk_f92_17 : gd_fetch 92 17 = some (17, .ireturn, 1, 0, 0, 0, 0, 0) := rfl
set_option maxRecDepth 20000 in
set_option maxHeartbeats 4000000 in
theorem q_X_isGymnast (r0 : Nat) (x1 : Int32) (m : gd_M) : gd_call 92 [.ref r0, .int x1] m = if (x1 < 0 : Prop) then (some (.int 0, m)) else (if gd_ok (gN m) r0 6 = true then (if (x1 < (gI m r0 12) : Prop) then (some (.int 1, m)) else (some (.int 0, m))) else none) := by
  refine Eq.trans (show gd_call 92 [.ref r0, .int x1] m = gd_Den (92, 0, [.ref r0, .int x1], [], m) from by unfold gd_call gd_ent; rw [gk_ml92]; rfl) ?_
  refine Eq.trans (D_iload_n (x := x1) gk_f92_0 rfl) ?_
  refine Eq.trans (D_if_lt (t := 16) gk_f92_1 (by decide)) ?_
  refine gd_ite (fun h1 => ?_) (fun h2 => ?_)
  · refine Eq.trans (D_iconst (x := 0) gk_f92_16 gk_c_0) ?_
    refine Eq.trans (D_zreturn gk_f92_17 gk_rk92) ?_
    exact if_pos rfl
  · refine Eq.trans (D_iload_n (x := x1) gk_f92_4 rfl) ?_
    refine Eq.trans (D_aload_n (x := r0) gk_f92_5 rfl) ?_
    refine Eq.trans (D_gfI gk_f92_6 (by decide) (by decide) (by decide)) ?_
    refine gd_ite (fun h3 => ?_) (fun _ => rfl)
    refine Eq.trans (D_ic_ge (t := 16) gk_f92_9 (by decide)) ?_
    refine gd_ite (fun h4 => ?_) (fun h5 => ?_)
    · refine Eq.trans (D_iconst (x := 1) gk_f92_12 gk_c_1) ?_
      refine Eq.trans (D_goto (t := 17) gk_f92_13 (by decide)) ?_
      refine Eq.trans (D_zreturn gk_f92_17 gk_rk92) ?_
      exact if_pos rfl
    · refine Eq.trans (D_iconst (x := 0) gk_f92_16 gk_c_0) ?_
      refine Eq.trans (D_zreturn gk_f92_17 gk_rk92) ?_
      exact if_pos rfl
/-! GymDesk.rowOf (II)LGymDesk$Routine; -/
set_option maxRecDepth 20000 in
theorem gk_f93_0 : gd_fetch 93 0 = some (0, .aload_n 0, 1, 0, 0, 0, 0, 0) := rfl
set_option maxRecDepth 20000 in
theorem gk_f93_1 : gd_fetch 93 1 = some (1, .iload_n 1, 1, 0, 0, 0, 0, 0) := rfl
set_option maxRecDepth 20000 in
theorem gk_f93_2 : gd_fetch 93 2 = some (2, .invokevirtual 121, 3, 689, 92, 1, 0, 0) := rfl
set_option maxRecDepth 20000 in
theorem gk_f93_5 : gd_fetch 93 5 = some (5, .ifCond .eq 12, 3, 0, 0, 0, 0, 0) := rfl
set_option maxRecDepth 20000 in
theorem gk_f93_8 : gd_fetch 93 8 = some (8, .iload_n 2, 1, 0, 0, 0, 0, 0) := rfl
set_option maxRecDepth 20000 in
theorem gk_f93_9 : gd_fetch 93 9 = some (9, .ifCond .lt 8, 3, 0, 0, 0, 0, 0) := rfl
set_option maxRecDepth 20000 in
theorem gk_f93_12 : gd_fetch 93 12 = some (12, .iload_n 2, 1, 0, 0, 0, 0, 0) := rfl
set_option maxRecDepth 20000 in
theorem gk_f93_13 : gd_fetch 93 13 = some (13, .iconst 4, 1, 0, 0, 0, 0, 0) := rfl
set_option maxRecDepth 20000 in
theorem gk_f93_14 : gd_fetch 93 14 = some (14, .if_icmp .lt 5, 3, 0, 0, 0, 0, 0) := rfl
set_option maxRecDepth 20000 in
theorem gk_f93_17 : gd_fetch 93 17 = some (17, .aconst_null, 1, 0, 0, 0, 0, 0) := rfl
set_option maxRecDepth 20000 in
theorem gk_f93_18 : gd_fetch 93 18 = some (18, .areturn, 1, 0, 0, 0, 0, 0) := rfl
set_option maxRecDepth 20000 in
theorem gk_f93_19 : gd_fetch 93 19 = some (19, .aload_n 0, 1, 0, 0, 0, 0, 0) := rfl
set_option maxRecDepth 20000 in
theorem gk_f93_20 : gd_fetch 93 20 = some (20, .getfield 36, 3, 464, 6, 4, 4, 1) := rfl
set_option maxRecDepth 20000 in
theorem gk_f93_23 : gd_fetch 93 23 = some (23, .iload_n 1, 1, 0, 0, 0, 0, 0) := rfl
set_option maxRecDepth 20000 in
theorem gk_f93_24 : gd_fetch 93 24 = some (24, .iconst 4, 1, 0, 0, 0, 0, 0) := rfl
set_option maxRecDepth 20000 in
theorem gk_f93_25 : gd_fetch 93 25 = some (25, .imul, 1, 0, 0, 0, 0, 0) := rfl
set_option maxRecDepth 20000 in
theorem gk_f93_26 : gd_fetch 93 26 = some (26, .iload_n 2, 1, 0, 0, 0, 0, 0) := rfl
set_option maxRecDepth 20000 in
theorem gk_f93_27 : gd_fetch 93 27 = some (27, .iadd, 1, 0, 0, 0, 0, 0) := rfl
set_option maxRecDepth 20000 in
theorem gk_f93_28 : gd_fetch 93 28 = some (28, .aaload, 1, 0, 0, 0, 0, 0) := rfl
set_option maxRecDepth 20000 in
theorem gk_f93_29 : gd_fetch 93 29 = some (29, .areturn, 1, 0, 0, 0, 0, 0) := rfl
set_option maxRecDepth 20000 in
set_option maxHeartbeats 4000000 in
theorem q_X_rowOf (r0 : Nat) (x1 : Int32) (x2 : Int32) (m : gd_M) : gd_call 93 [.ref r0, .int x1, .int x2] m = if gd_ok (gN m) r0 6 = true then ((gd_call 92 [.ref r0, .int x1] m).bind (gd_kI fun z4 m2 => if (z4 = 0 : Prop) then (some (.ref 0, m2)) else (if (x2 < 0 : Prop) then (some (.ref 0, m2)) else (if (x2 < 4 : Prop) then (if gd_ok (gN m2) r0 6 = true then (if gd_okA (gN m2) (gR m2 r0 4) 14 ((x1 * 4) + x2) = true then (some (.ref (gR m2 (gR m2 r0 4) (((x1 * 4) + x2) : Int32).toNatClampNeg), m2)) else none) else none) else (some (.ref 0, m2)))))) else none := by
  refine Eq.trans (show gd_call 93 [.ref r0, .int x1, .int x2] m = gd_Den (93, 0, [.ref r0, .int x1, .int x2], [], m) from by unfold gd_call gd_ent; rw [gk_ml93]; rfl) ?_
  refine Eq.trans (D_aload_n (x := r0) gk_f93_0 rfl) ?_
  refine Eq.trans (D_iload_n (x := x1) gk_f93_1 rfl) ?_
  refine Eq.trans (D_ivZ (cl := 6) (args := [.ref r0, .int x1]) (rest := []) gk_f93_2 rfl rfl (gd_rmk gk_rm93_92 gk_ln92 gk_ml92 rfl rfl rfl) gk_rk92 (gd_hnd_n gk_nc93) gk_nc92 gk_n11_92 gk_cl92) ?_
  refine gd_ite (fun h1 => ?_) (fun _ => rfl)
  refine gd_bnd (gd_kI_c fun z4 m2 => ?_)
  refine Eq.trans (D_if_eq (t := 17) gk_f93_5 (by decide)) ?_
  refine gd_ite (fun h5 => ?_) (fun h6 => ?_)
  · refine Eq.trans (D_anull gk_f93_17) ?_
    refine Eq.trans (D_areturn gk_f93_18 gk_rk93) ?_
    rfl
  · refine Eq.trans (D_iload_n (x := x2) gk_f93_8 rfl) ?_
    refine Eq.trans (D_if_lt (t := 17) gk_f93_9 (by decide)) ?_
    refine gd_ite (fun h7 => ?_) (fun h8 => ?_)
    · refine Eq.trans (D_anull gk_f93_17) ?_
      refine Eq.trans (D_areturn gk_f93_18 gk_rk93) ?_
      rfl
    · refine Eq.trans (D_iload_n (x := x2) gk_f93_12 rfl) ?_
      refine Eq.trans (D_iconst (x := 4) gk_f93_13 gk_c_4) ?_
      refine Eq.trans (D_ic_lt (t := 19) gk_f93_14 (by decide)) ?_
      refine gd_ite (fun h9 => ?_) (fun h10 => ?_)
      · refine Eq.trans (D_aload_n (x := r0) gk_f93_19 rfl) ?_
        refine Eq.trans (D_gfR gk_f93_20 (by decide)) ?_
        refine gd_ite (fun h11 => ?_) (fun _ => rfl)
        refine Eq.trans (D_iload_n (x := x1) gk_f93_23 rfl) ?_
        refine Eq.trans (D_iconst (x := 4) gk_f93_24 gk_c_4) ?_
        refine Eq.trans (D_imul gk_f93_25) ?_
        refine Eq.trans (D_iload_n (x := x2) gk_f93_26 rfl) ?_
        refine Eq.trans (D_iadd gk_f93_27) ?_
        refine Eq.trans (D_aald gk_f93_28) ?_
        refine gd_ite (fun h12 => ?_) (fun _ => rfl)
        refine Eq.trans (D_areturn gk_f93_29 gk_rk93) ?_
        rfl
      · refine Eq.trans (D_anull gk_f93_17) ?_
        refine Eq.trans (D_areturn gk_f93_18 gk_rk93) ?_
        rfl
/-! GymDesk.routinesOf (II)I -/
set_option maxRecDepth 20000 in
theorem gk_f94_0 : gd_fetch 94 0 = some (0, .iconst 0, 1, 0, 0, 0, 0, 0) := rfl
set_option maxRecDepth 20000 in
theorem gk_f94_1 : gd_fetch 94 1 = some (1, .istore_n 3, 1, 0, 0, 0, 0, 0) := rfl
set_option maxRecDepth 20000 in
theorem gk_f94_2 : gd_fetch 94 2 = some (2, .iconst 0, 1, 0, 0, 0, 0, 0) := rfl
set_option maxRecDepth 20000 in
theorem gk_f94_3 : gd_fetch 94 3 = some (3, .istore 4, 2, 0, 0, 0, 0, 0) := rfl
set_option maxRecDepth 20000 in
theorem gk_f94_5 : gd_fetch 94 5 = some (5, .iload 4, 2, 0, 0, 0, 0, 0) := rfl
set_option maxRecDepth 20000 in
theorem gk_f94_7 : gd_fetch 94 7 = some (7, .aload_n 0, 1, 0, 0, 0, 0, 0) := rfl
set_option maxRecDepth 20000 in
theorem gk_f94_8 : gd_fetch 94 8 = some (8, .getfield 86, 3, 472, 6, 12, 0, 0) := rfl
set_option maxRecDepth 20000 in
theorem gk_f94_11 : gd_fetch 94 11 = some (11, .if_icmp .ge 45, 3, 0, 0, 0, 0, 0) := rfl
set_option maxRecDepth 20000 in
theorem gk_f94_14 : gd_fetch 94 14 = some (14, .aload_n 0, 1, 0, 0, 0, 0, 0) := rfl
set_option maxRecDepth 20000 in
theorem gk_f94_15 : gd_fetch 94 15 = some (15, .iload 4, 2, 0, 0, 0, 0, 0) := rfl
set_option maxRecDepth 20000 in
theorem gk_f94_17 : gd_fetch 94 17 = some (17, .iload_n 2, 1, 0, 0, 0, 0, 0) := rfl
set_option maxRecDepth 20000 in
theorem gk_f94_18 : gd_fetch 94 18 = some (18, .invokevirtual 124, 3, 685, 93, 2, 0, 0) := rfl
set_option maxRecDepth 20000 in
theorem gk_f94_21 : gd_fetch 94 21 = some (21, .astore 5, 2, 0, 0, 0, 0, 0) := rfl
set_option maxRecDepth 20000 in
theorem gk_f94_23 : gd_fetch 94 23 = some (23, .aload_n 0, 1, 0, 0, 0, 0, 0) := rfl
set_option maxRecDepth 20000 in
theorem gk_f94_24 : gd_fetch 94 24 = some (24, .getfield 40, 3, 465, 6, 5, 4, 1) := rfl
set_option maxRecDepth 20000 in
theorem gk_f94_27 : gd_fetch 94 27 = some (27, .iload 4, 2, 0, 0, 0, 0, 0) := rfl
set_option maxRecDepth 20000 in
theorem gk_f94_29 : gd_fetch 94 29 = some (29, .iaload, 1, 0, 0, 0, 0, 0) := rfl
set_option maxRecDepth 20000 in
theorem gk_f94_30 : gd_fetch 94 30 = some (30, .iload_n 1, 1, 0, 0, 0, 0, 0) := rfl
set_option maxRecDepth 20000 in
theorem gk_f94_31 : gd_fetch 94 31 = some (31, .if_icmp .ne 19, 3, 0, 0, 0, 0, 0) := rfl
set_option maxRecDepth 20000 in
theorem gk_f94_34 : gd_fetch 94 34 = some (34, .aload 5, 2, 0, 0, 0, 0, 0) := rfl
set_option maxRecDepth 20000 in
theorem gk_f94_36 : gd_fetch 94 36 = some (36, .ifnull 14, 3, 0, 0, 0, 0, 0) := rfl
set_option maxRecDepth 20000 in
theorem gk_f94_39 : gd_fetch 94 39 = some (39, .aload 5, 2, 0, 0, 0, 0, 0) := rfl
set_option maxRecDepth 20000 in
theorem gk_f94_41 : gd_fetch 94 41 = some (41, .getfield 82, 3, 406, 4, 3, 1, 0) := rfl
set_option maxRecDepth 20000 in
theorem gk_f94_44 : gd_fetch 94 44 = some (44, .ifCond .eq 6, 3, 0, 0, 0, 0, 0) := rfl
set_option maxRecDepth 20000 in
theorem gk_f94_47 : gd_fetch 94 47 = some (47, .iinc 3 1, 3, 0, 0, 0, 0, 0) := rfl
set_option maxRecDepth 20000 in
theorem gk_f94_50 : gd_fetch 94 50 = some (50, .iinc 4 1, 3, 0, 0, 0, 0, 0) := rfl
set_option maxRecDepth 20000 in
theorem gk_f94_53 : gd_fetch 94 53 = some (53, .goto (-48), 3, 0, 0, 0, 0, 0) := rfl
set_option maxRecDepth 20000 in
theorem gk_f94_56 : gd_fetch 94 56 = some (56, .iload_n 3, 1, 0, 0, 0, 0, 0) := rfl
set_option maxRecDepth 20000 in
theorem gk_f94_57 : gd_fetch 94 57 = some (57, .ireturn, 1, 0, 0, 0, 0, 0) := rfl
set_option maxRecDepth 20000 in
set_option maxHeartbeats 4000000 in
theorem q_X_routinesOf (r0 : Nat) (x1 : Int32) (x2 : Int32) (m : gd_M) : gd_call 94 [.ref r0, .int x1, .int x2] m = gd_Den (94, 5, [.ref r0, .int x1, .int x2, .int 0, .int 0, .null], [], m) := by
  refine Eq.trans (show gd_call 94 [.ref r0, .int x1, .int x2] m = gd_Den (94, 0, [.ref r0, .int x1, .int x2, .null, .null, .null], [], m) from by unfold gd_call gd_ent; rw [gk_ml94]; rfl) ?_
  refine Eq.trans (D_iconst (x := 0) gk_f94_0 gk_c_0) ?_
  refine Eq.trans (D_istore_n gk_f94_1 gk_st94_3) ?_
  refine Eq.trans (D_iconst (x := 0) gk_f94_2 gk_c_0) ?_
  refine Eq.trans (D_istore gk_f94_3 gk_st94_4) ?_
  rfl
set_option maxRecDepth 20000 in
set_option maxHeartbeats 4000000 in
theorem q_X_routinesOf_5 (r0 : Nat) (x1 : Int32) (x2 : Int32) (x3 : Int32) (x4 : Int32) (v5 : Value) (m : gd_M) : gd_Den (94, 5, [.ref r0, .int x1, .int x2, .int x3, .int x4, v5], [], m) = if gd_ok (gN m) r0 6 = true then (if (x4 < (gI m r0 12) : Prop) then ((gd_call 93 [.ref r0, .int x4, .int x2] m).bind (gd_kR fun o6 m4 => if gd_ok (gN m4) r0 6 = true then (if gd_okA (gN m4) (gR m4 r0 5) 10 x4 = true then (if ((gI m4 (gR m4 r0 5) (x4 : Int32).toNatClampNeg) = x1 : Prop) then (if o6 = 0 then (gd_Den (94, 5, [.ref r0, .int x1, .int x2, .int x3, .int (x4 + 1), .ref o6], [], m4)) else if 8 ≤ o6 then (if gd_ok (gN m4) o6 4 = true then (if ((gI m4 o6 3) = 0 : Prop) then (gd_Den (94, 5, [.ref r0, .int x1, .int x2, .int x3, .int (x4 + 1), .ref o6], [], m4)) else (gd_Den (94, 5, [.ref r0, .int x1, .int x2, .int (x3 + 1), .int (x4 + 1), .ref o6], [], m4))) else none) else none) else (gd_Den (94, 5, [.ref r0, .int x1, .int x2, .int x3, .int (x4 + 1), .ref o6], [], m4))) else none) else none)) else (some (.int x3, m))) else none := by
  refine Eq.trans (D_iload (x := x4) gk_f94_5 rfl) ?_
  refine Eq.trans (D_aload_n (x := r0) gk_f94_7 rfl) ?_
  refine Eq.trans (D_gfI gk_f94_8 (by decide) (by decide) (by decide)) ?_
  refine gd_ite (fun h1 => ?_) (fun _ => rfl)
  refine Eq.trans (D_ic_ge (t := 56) gk_f94_11 (by decide)) ?_
  refine gd_ite (fun h2 => ?_) (fun h3 => ?_)
  · refine Eq.trans (D_aload_n (x := r0) gk_f94_14 rfl) ?_
    refine Eq.trans (D_iload (x := x4) gk_f94_15 rfl) ?_
    refine Eq.trans (D_iload_n (x := x2) gk_f94_17 rfl) ?_
    refine Eq.trans (D_ivR (cl := 6) (args := [.ref r0, .int x4, .int x2]) (rest := []) gk_f94_18 rfl rfl (gd_rmk gk_rm94_93 gk_ln93 gk_ml93 rfl rfl rfl) gk_rk93 (gd_hnd_n gk_nc94) gk_nc93 gk_n11_93 gk_cl93) ?_
    refine Eq.trans (if_pos h1) ?_
    refine gd_bnd (gd_kR_c fun o6 m4 => ?_)
    refine Eq.trans (D_astore gk_f94_21 gk_st94_5) ?_
    refine Eq.trans (D_aload_n (x := r0) gk_f94_23 rfl) ?_
    refine Eq.trans (D_gfR gk_f94_24 (by decide)) ?_
    refine gd_ite (fun h7 => ?_) (fun _ => rfl)
    refine Eq.trans (D_iload (x := x4) gk_f94_27 rfl) ?_
    refine Eq.trans (D_iald gk_f94_29 gk_n10_94) ?_
    refine gd_ite (fun h8 => ?_) (fun _ => rfl)
    refine Eq.trans (D_iload_n (x := x1) gk_f94_30 rfl) ?_
    refine Eq.trans (D_ic_ne (t := 50) gk_f94_31 (by decide)) ?_
    refine gd_ite (fun h9 => ?_) (fun h10 => ?_)
    · refine Eq.trans (D_aload (x := o6) gk_f94_34 rfl) ?_
      refine Eq.trans (D_ifnull (t := 50) gk_f94_36 (by decide)) ?_
      refine gd_ite (fun h11 => ?_) (fun h12 => gd_ite (fun h13 => ?_) (fun _ => rfl))
      · refine Eq.trans (D_iinc (x := x4) (y := 1) gk_f94_50 rfl gk_c_1 gk_st94_4) ?_
        refine Eq.trans (D_goto (t := 5) gk_f94_53 (by decide)) ?_
        rfl
      · refine Eq.trans (D_aload (x := o6) gk_f94_39 rfl) ?_
        refine Eq.trans (D_gfI gk_f94_41 (by decide) (by decide) (by decide)) ?_
        refine gd_ite (fun h14 => ?_) (fun _ => rfl)
        refine Eq.trans (D_if_eq (t := 50) gk_f94_44 (by decide)) ?_
        refine gd_ite (fun h15 => ?_) (fun h16 => ?_)
        · refine Eq.trans (D_iinc (x := x4) (y := 1) gk_f94_50 rfl gk_c_1 gk_st94_4) ?_
          refine Eq.trans (D_goto (t := 5) gk_f94_53 (by decide)) ?_
          rfl
        · refine Eq.trans (D_iinc (x := x3) (y := 1) gk_f94_47 rfl gk_c_1 gk_st94_3) ?_
          refine Eq.trans (D_iinc (x := x4) (y := 1) gk_f94_50 rfl gk_c_1 gk_st94_4) ?_
          refine Eq.trans (D_goto (t := 5) gk_f94_53 (by decide)) ?_
          rfl
    · refine Eq.trans (D_iinc (x := x4) (y := 1) gk_f94_50 rfl gk_c_1 gk_st94_4) ?_
      refine Eq.trans (D_goto (t := 5) gk_f94_53 (by decide)) ?_
      rfl
  · refine Eq.trans (D_iload_n (x := x3) gk_f94_56 rfl) ?_
    refine Eq.trans (D_ireturn gk_f94_57 gk_rk94) ?_
    rfl
/-! GymDesk$Routine.start ()V -/
set_option maxRecDepth 20000 in
theorem gk_f95_0 : gd_fetch 95 0 = some (0, .iconst 0, 1, 0, 0, 0, 0, 0) := rfl
set_option maxRecDepth 20000 in
theorem gk_f95_1 : gd_fetch 95 1 = some (1, .istore_n 1, 1, 0, 0, 0, 0, 0) := rfl
set_option maxRecDepth 20000 in
theorem gk_f95_2 : gd_fetch 95 2 = some (2, .iload_n 1, 1, 0, 0, 0, 0, 0) := rfl
set_option maxRecDepth 20000 in
theorem gk_f95_3 : gd_fetch 95 3 = some (3, .bipush 6, 2, 0, 0, 0, 0, 0) := rfl
set_option maxRecDepth 20000 in
theorem gk_f95_5 : gd_fetch 95 5 = some (5, .if_icmp .ge 16, 3, 0, 0, 0, 0, 0) := rfl
set_option maxRecDepth 20000 in
theorem gk_f95_8 : gd_fetch 95 8 = some (8, .aload_n 0, 1, 0, 0, 0, 0, 0) := rfl
set_option maxRecDepth 20000 in
theorem gk_f95_9 : gd_fetch 95 9 = some (9, .getfield 15, 3, 402, 4, 1, 4, 1) := rfl
set_option maxRecDepth 20000 in
theorem gk_f95_12 : gd_fetch 95 12 = some (12, .iload_n 1, 1, 0, 0, 0, 0, 0) := rfl
set_option maxRecDepth 20000 in
theorem gk_f95_13 : gd_fetch 95 13 = some (13, .iconst (-1), 1, 0, 0, 0, 0, 0) := rfl
set_option maxRecDepth 20000 in
theorem gk_f95_14 : gd_fetch 95 14 = some (14, .iastore, 1, 0, 0, 0, 0, 0) := rfl
set_option maxRecDepth 20000 in
theorem gk_f95_15 : gd_fetch 95 15 = some (15, .iinc 1 1, 3, 0, 0, 0, 0, 0) := rfl
set_option maxRecDepth 20000 in
theorem gk_f95_18 : gd_fetch 95 18 = some (18, .goto (-16), 3, 0, 0, 0, 0, 0) := rfl
set_option maxRecDepth 20000 in
theorem gk_f95_21 : gd_fetch 95 21 = some (21, .iconst 0, 1, 0, 0, 0, 0, 0) := rfl
set_option maxRecDepth 20000 in
theorem gk_f95_22 : gd_fetch 95 22 = some (22, .istore_n 1, 1, 0, 0, 0, 0, 0) := rfl
set_option maxRecDepth 20000 in
theorem gk_f95_23 : gd_fetch 95 23 = some (23, .iload_n 1, 1, 0, 0, 0, 0, 0) := rfl
set_option maxRecDepth 20000 in
theorem gk_f95_24 : gd_fetch 95 24 = some (24, .bipush 10, 2, 0, 0, 0, 0, 0) := rfl
set_option maxRecDepth 20000 in
theorem gk_f95_26 : gd_fetch 95 26 = some (26, .if_icmp .ge 16, 3, 0, 0, 0, 0, 0) := rfl
set_option maxRecDepth 20000 in
theorem gk_f95_29 : gd_fetch 95 29 = some (29, .aload_n 0, 1, 0, 0, 0, 0, 0) := rfl
set_option maxRecDepth 20000 in
theorem gk_f95_30 : gd_fetch 95 30 = some (30, .getfield 18, 3, 403, 4, 2, 4, 1) := rfl
set_option maxRecDepth 20000 in
theorem gk_f95_33 : gd_fetch 95 33 = some (33, .iload_n 1, 1, 0, 0, 0, 0, 0) := rfl
set_option maxRecDepth 20000 in
theorem gk_f95_34 : gd_fetch 95 34 = some (34, .iconst 0, 1, 0, 0, 0, 0, 0) := rfl
set_option maxRecDepth 20000 in
theorem gk_f95_35 : gd_fetch 95 35 = some (35, .iastore, 1, 0, 0, 0, 0, 0) := rfl
set_option maxRecDepth 20000 in
theorem gk_f95_36 : gd_fetch 95 36 = some (36, .iinc 1 1, 3, 0, 0, 0, 0, 0) := rfl
set_option maxRecDepth 20000 in
theorem gk_f95_39 : gd_fetch 95 39 = some (39, .goto (-16), 3, 0, 0, 0, 0, 0) := rfl
set_option maxRecDepth 20000 in
theorem gk_f95_42 : gd_fetch 95 42 = some (42, .aload_n 0, 1, 0, 0, 0, 0, 0) := rfl
set_option maxRecDepth 20000 in
theorem gk_f95_43 : gd_fetch 95 43 = some (43, .iconst 1, 1, 0, 0, 0, 0, 0) := rfl
set_option maxRecDepth 20000 in
theorem gk_f95_44 : gd_fetch 95 44 = some (44, .putfield 21, 3, 405, 4, 3, 1, 0) := rfl
set_option maxRecDepth 20000 in
theorem gk_f95_47 : gd_fetch 95 47 = some (47, .aload_n 0, 1, 0, 0, 0, 0, 0) := rfl
set_option maxRecDepth 20000 in
theorem gk_f95_48 : gd_fetch 95 48 = some (48, .iconst 0, 1, 0, 0, 0, 0, 0) := rfl
set_option maxRecDepth 20000 in
theorem gk_f95_49 : gd_fetch 95 49 = some (49, .putfield 25, 3, 407, 4, 4, 1, 0) := rfl
set_option maxRecDepth 20000 in
theorem gk_f95_52 : gd_fetch 95 52 = some (52, .aload_n 0, 1, 0, 0, 0, 0, 0) := rfl
set_option maxRecDepth 20000 in
theorem gk_f95_53 : gd_fetch 95 53 = some (53, .iconst 1, 1, 0, 0, 0, 0, 0) := rfl
set_option maxRecDepth 20000 in
theorem gk_f95_54 : gd_fetch 95 54 = some (54, .putfield 28, 3, 409, 4, 5, 1, 0) := rfl
set_option maxRecDepth 20000 in
theorem gk_f95_57 : gd_fetch 95 57 = some (57, .aload_n 0, 1, 0, 0, 0, 0, 0) := rfl
set_option maxRecDepth 20000 in
theorem gk_f95_58 : gd_fetch 95 58 = some (58, .iconst 0, 1, 0, 0, 0, 0, 0) := rfl
set_option maxRecDepth 20000 in
theorem gk_f95_59 : gd_fetch 95 59 = some (59, .putfield 31, 3, 411, 4, 6, 0, 0) := rfl
set_option maxRecDepth 20000 in
theorem gk_f95_62 : gd_fetch 95 62 = some (62, .aload_n 0, 1, 0, 0, 0, 0, 0) := rfl
set_option maxRecDepth 20000 in
theorem gk_f95_63 : gd_fetch 95 63 = some (63, .iconst 0, 1, 0, 0, 0, 0, 0) := rfl
set_option maxRecDepth 20000 in
theorem gk_f95_64 : gd_fetch 95 64 = some (64, .putfield 35, 3, 413, 4, 7, 0, 0) := rfl
set_option maxRecDepth 20000 in
theorem gk_f95_67 : gd_fetch 95 67 = some (67, .aload_n 0, 1, 0, 0, 0, 0, 0) := rfl
set_option maxRecDepth 20000 in
theorem gk_f95_68 : gd_fetch 95 68 = some (68, .iconst 0, 1, 0, 0, 0, 0, 0) := rfl
set_option maxRecDepth 20000 in
theorem gk_f95_69 : gd_fetch 95 69 = some (69, .putfield 38, 3, 415, 4, 8, 0, 0) := rfl
set_option maxRecDepth 20000 in
theorem gk_f95_72 : gd_fetch 95 72 = some (72, .aload_n 0, 1, 0, 0, 0, 0, 0) := rfl
set_option maxRecDepth 20000 in
theorem gk_f95_73 : gd_fetch 95 73 = some (73, .iconst 0, 1, 0, 0, 0, 0, 0) := rfl
set_option maxRecDepth 20000 in
theorem gk_f95_74 : gd_fetch 95 74 = some (74, .putfield 41, 3, 427, 4, 14, 0, 0) := rfl
set_option maxRecDepth 20000 in
theorem gk_f95_77 : gd_fetch 95 77 = some (77, .return_, 1, 0, 0, 0, 0, 0) := rfl
set_option maxRecDepth 20000 in
set_option maxHeartbeats 4000000 in
theorem q_Ro_start (r0 : Nat) (m : gd_M) : gd_call 95 [.ref r0] m = gd_Den (95, 2, [.ref r0, .int 0], [], m) := by
  refine Eq.trans (show gd_call 95 [.ref r0] m = gd_Den (95, 0, [.ref r0, .null], [], m) from by unfold gd_call gd_ent; rw [gk_ml95]; rfl) ?_
  refine Eq.trans (D_iconst (x := 0) gk_f95_0 gk_c_0) ?_
  refine Eq.trans (D_istore_n gk_f95_1 gk_st95_1) ?_
  rfl
set_option maxRecDepth 20000 in
set_option maxHeartbeats 4000000 in
theorem q_Ro_start_2 (r0 : Nat) (x1 : Int32) (m : gd_M) : gd_Den (95, 2, [.ref r0, .int x1], [], m) = if (x1 < 6 : Prop) then (if gd_ok (gN m) r0 4 = true then (if gd_okA (gN m) (gR m r0 1) 10 x1 = true then (gd_Den (95, 2, [.ref r0, .int (x1 + 1)], [], (wI m (gR m r0 1) (x1 : Int32).toNatClampNeg (-1)))) else none) else none) else (gd_Den (95, 23, [.ref r0, .int 0], [], m)) := by
  refine Eq.trans (D_iload_n (x := x1) gk_f95_2 rfl) ?_
  refine Eq.trans (D_bipush (x := 6) gk_f95_3 gk_b_6) ?_
  refine Eq.trans (D_ic_ge (t := 21) gk_f95_5 (by decide)) ?_
  refine gd_ite (fun h1 => ?_) (fun h2 => ?_)
  · refine Eq.trans (D_aload_n (x := r0) gk_f95_8 rfl) ?_
    refine Eq.trans (D_gfR gk_f95_9 (by decide)) ?_
    refine gd_ite (fun h3 => ?_) (fun _ => rfl)
    refine Eq.trans (D_iload_n (x := x1) gk_f95_12 rfl) ?_
    refine Eq.trans (D_iconst (x := (-1)) gk_f95_13 gk_c_m1) ?_
    refine Eq.trans (D_iast gk_f95_14) ?_
    refine gd_ite (fun h4 => ?_) (fun _ => rfl)
    refine Eq.trans (D_iinc (x := x1) (y := 1) gk_f95_15 rfl gk_c_1 gk_st95_1) ?_
    refine Eq.trans (D_goto (t := 2) gk_f95_18 (by decide)) ?_
    rfl
  · refine Eq.trans (D_iconst (x := 0) gk_f95_21 gk_c_0) ?_
    refine Eq.trans (D_istore_n gk_f95_22 gk_st95_1) ?_
    rfl
set_option maxRecDepth 20000 in
set_option maxHeartbeats 4000000 in
theorem q_Ro_start_23 (r0 : Nat) (x1 : Int32) (m : gd_M) : gd_Den (95, 23, [.ref r0, .int x1], [], m) = if (x1 < 10 : Prop) then (if gd_ok (gN m) r0 4 = true then (if gd_okA (gN m) (gR m r0 2) 10 x1 = true then (gd_Den (95, 23, [.ref r0, .int (x1 + 1)], [], (wI m (gR m r0 2) (x1 : Int32).toNatClampNeg 0))) else none) else none) else (if gd_ok (gN m) r0 4 = true then (some (.null, (wI (wI (wI (wI (wI (wI (wI m r0 3 1) r0 4 0) r0 5 1) r0 6 0) r0 7 0) r0 8 0) r0 14 0))) else none) := by
  refine Eq.trans (D_iload_n (x := x1) gk_f95_23 rfl) ?_
  refine Eq.trans (D_bipush (x := 10) gk_f95_24 gk_b_10) ?_
  refine Eq.trans (D_ic_ge (t := 42) gk_f95_26 (by decide)) ?_
  refine gd_ite (fun h1 => ?_) (fun h2 => ?_)
  · refine Eq.trans (D_aload_n (x := r0) gk_f95_29 rfl) ?_
    refine Eq.trans (D_gfR gk_f95_30 (by decide)) ?_
    refine gd_ite (fun h3 => ?_) (fun _ => rfl)
    refine Eq.trans (D_iload_n (x := x1) gk_f95_33 rfl) ?_
    refine Eq.trans (D_iconst (x := 0) gk_f95_34 gk_c_0) ?_
    refine Eq.trans (D_iast gk_f95_35) ?_
    refine gd_ite (fun h4 => ?_) (fun _ => rfl)
    refine Eq.trans (D_iinc (x := x1) (y := 1) gk_f95_36 rfl gk_c_1 gk_st95_1) ?_
    refine Eq.trans (D_goto (t := 23) gk_f95_39 (by decide)) ?_
    rfl
  · refine Eq.trans (D_aload_n (x := r0) gk_f95_42 rfl) ?_
    refine Eq.trans (D_iconst (x := 1) gk_f95_43 gk_c_1) ?_
    refine Eq.trans (D_pfZ gk_f95_44) ?_
    refine gd_ite (fun h5 => ?_) (fun _ => rfl)
    refine Eq.trans (if_pos rfl) ?_
    refine Eq.trans (D_aload_n (x := r0) gk_f95_47 rfl) ?_
    refine Eq.trans (D_iconst (x := 0) gk_f95_48 gk_c_0) ?_
    refine Eq.trans (D_pfZ gk_f95_49) ?_
    refine Eq.trans (if_pos h5) ?_
    refine Eq.trans (if_pos rfl) ?_
    refine Eq.trans (D_aload_n (x := r0) gk_f95_52 rfl) ?_
    refine Eq.trans (D_iconst (x := 1) gk_f95_53 gk_c_1) ?_
    refine Eq.trans (D_pfZ gk_f95_54) ?_
    refine Eq.trans (if_pos h5) ?_
    refine Eq.trans (if_pos rfl) ?_
    refine Eq.trans (D_aload_n (x := r0) gk_f95_57 rfl) ?_
    refine Eq.trans (D_iconst (x := 0) gk_f95_58 gk_c_0) ?_
    refine Eq.trans (D_pfI gk_f95_59) ?_
    refine Eq.trans (if_pos h5) ?_
    refine Eq.trans (D_aload_n (x := r0) gk_f95_62 rfl) ?_
    refine Eq.trans (D_iconst (x := 0) gk_f95_63 gk_c_0) ?_
    refine Eq.trans (D_pfI gk_f95_64) ?_
    refine Eq.trans (if_pos h5) ?_
    refine Eq.trans (D_aload_n (x := r0) gk_f95_67 rfl) ?_
    refine Eq.trans (D_iconst (x := 0) gk_f95_68 gk_c_0) ?_
    refine Eq.trans (D_pfI gk_f95_69) ?_
    refine Eq.trans (if_pos h5) ?_
    refine Eq.trans (D_aload_n (x := r0) gk_f95_72 rfl) ?_
    refine Eq.trans (D_iconst (x := 0) gk_f95_73 gk_c_0) ?_
    refine Eq.trans (D_pfI gk_f95_74) ?_
    refine Eq.trans (if_pos h5) ?_
    refine Eq.trans (D_vreturn gk_f95_77 gk_rk95) ?_
    rfl
/-! GymDesk.begin (II)I -/
set_option maxRecDepth 20000 in
theorem gk_f96_0 : gd_fetch 96 0 = some (0, .aload_n 0, 1, 0, 0, 0, 0, 0) := rfl
set_option maxRecDepth 20000 in
theorem gk_f96_1 : gd_fetch 96 1 = some (1, .iload_n 1, 1, 0, 0, 0, 0, 0) := rfl
set_option maxRecDepth 20000 in
theorem gk_f96_2 : gd_fetch 96 2 = some (2, .iload_n 2, 1, 0, 0, 0, 0, 0) := rfl
set_option maxRecDepth 20000 in
theorem gk_f96_3 : gd_fetch 96 3 = some (3, .invokevirtual 124, 3, 685, 93, 2, 0, 0) := rfl
set_option maxRecDepth 20000 in
theorem gk_f96_6 : gd_fetch 96 6 = some (6, .astore_n 3, 1, 0, 0, 0, 0, 0) := rfl
set_option maxRecDepth 20000 in
theorem gk_f96_7 : gd_fetch 96 7 = some (7, .aload_n 3, 1, 0, 0, 0, 0, 0) := rfl
set_option maxRecDepth 20000 in
theorem gk_f96_8 : gd_fetch 96 8 = some (8, .ifnonnull 6, 3, 0, 0, 0, 0, 0) := rfl
set_option maxRecDepth 20000 in
theorem gk_f96_11 : gd_fetch 96 11 = some (11, .bipush (-2), 2, 0, 0, 0, 0, 0) := rfl
set_option maxRecDepth 20000 in
theorem gk_f96_13 : gd_fetch 96 13 = some (13, .ireturn, 1, 0, 0, 0, 0, 0) := rfl
set_option maxRecDepth 20000 in
theorem gk_f96_14 : gd_fetch 96 14 = some (14, .aload_n 3, 1, 0, 0, 0, 0, 0) := rfl
set_option maxRecDepth 20000 in
theorem gk_f96_15 : gd_fetch 96 15 = some (15, .getfield 82, 3, 406, 4, 3, 1, 0) := rfl
set_option maxRecDepth 20000 in
theorem gk_f96_18 : gd_fetch 96 18 = some (18, .ifCond .eq 5, 3, 0, 0, 0, 0, 0) := rfl
set_option maxRecDepth 20000 in
theorem gk_f96_21 : gd_fetch 96 21 = some (21, .iconst (-1), 1, 0, 0, 0, 0, 0) := rfl
set_option maxRecDepth 20000 in
theorem gk_f96_22 : gd_fetch 96 22 = some (22, .ireturn, 1, 0, 0, 0, 0, 0) := rfl
set_option maxRecDepth 20000 in
theorem gk_f96_23 : gd_fetch 96 23 = some (23, .aload_n 0, 1, 0, 0, 0, 0, 0) := rfl
set_option maxRecDepth 20000 in
theorem gk_f96_24 : gd_fetch 96 24 = some (24, .aload_n 0, 1, 0, 0, 0, 0, 0) := rfl
set_option maxRecDepth 20000 in
theorem gk_f96_25 : gd_fetch 96 25 = some (25, .getfield 40, 3, 465, 6, 5, 4, 1) := rfl
set_option maxRecDepth 20000 in
theorem gk_f96_28 : gd_fetch 96 28 = some (28, .iload_n 1, 1, 0, 0, 0, 0, 0) := rfl
set_option maxRecDepth 20000 in
theorem gk_f96_29 : gd_fetch 96 29 = some (29, .iaload, 1, 0, 0, 0, 0, 0) := rfl
set_option maxRecDepth 20000 in
theorem gk_f96_30 : gd_fetch 96 30 = some (30, .iload_n 2, 1, 0, 0, 0, 0, 0) := rfl
set_option maxRecDepth 20000 in
theorem gk_f96_31 : gd_fetch 96 31 = some (31, .invokevirtual 128, 3, 693, 94, 2, 0, 0) := rfl
set_option maxRecDepth 20000 in
theorem gk_f96_34 : gd_fetch 96 34 = some (34, .istore 4, 2, 0, 0, 0, 0, 0) := rfl
set_option maxRecDepth 20000 in
theorem gk_f96_36 : gd_fetch 96 36 = some (36, .iload 4, 2, 0, 0, 0, 0, 0) := rfl
set_option maxRecDepth 20000 in
theorem gk_f96_38 : gd_fetch 96 38 = some (38, .aload_n 0, 1, 0, 0, 0, 0, 0) := rfl
set_option maxRecDepth 20000 in
theorem gk_f96_39 : gd_fetch 96 39 = some (39, .getfield 56, 3, 469, 6, 9, 4, 0) := rfl
set_option maxRecDepth 20000 in
theorem gk_f96_42 : gd_fetch 96 42 = some (42, .getfield 132, 3, 350, 1, 11, 4, 1) := rfl
set_option maxRecDepth 20000 in
theorem gk_f96_45 : gd_fetch 96 45 = some (45, .bipush 8, 2, 0, 0, 0, 0, 0) := rfl
set_option maxRecDepth 20000 in
theorem gk_f96_47 : gd_fetch 96 47 = some (47, .iaload, 1, 0, 0, 0, 0, 0) := rfl
set_option maxRecDepth 20000 in
theorem gk_f96_48 : gd_fetch 96 48 = some (48, .if_icmp .lt 6, 3, 0, 0, 0, 0, 0) := rfl
set_option maxRecDepth 20000 in
theorem gk_f96_51 : gd_fetch 96 51 = some (51, .bipush (-3), 2, 0, 0, 0, 0, 0) := rfl
set_option maxRecDepth 20000 in
theorem gk_f96_53 : gd_fetch 96 53 = some (53, .ireturn, 1, 0, 0, 0, 0, 0) := rfl
set_option maxRecDepth 20000 in
theorem gk_f96_54 : gd_fetch 96 54 = some (54, .aload_n 3, 1, 0, 0, 0, 0, 0) := rfl
set_option maxRecDepth 20000 in
theorem gk_f96_55 : gd_fetch 96 55 = some (55, .invokevirtual 135, 3, 697, 95, 0, 0, 0) := rfl
set_option maxRecDepth 20000 in
theorem gk_f96_58 : gd_fetch 96 58 = some (58, .iload 4, 2, 0, 0, 0, 0, 0) := rfl
set_option maxRecDepth 20000 in
theorem gk_f96_60 : gd_fetch 96 60 = some (60, .iconst 1, 1, 0, 0, 0, 0, 0) := rfl
set_option maxRecDepth 20000 in
theorem gk_f96_61 : gd_fetch 96 61 = some (61, .iadd, 1, 0, 0, 0, 0, 0) := rfl
set_option maxRecDepth 20000 in
theorem gk_f96_62 : gd_fetch 96 62 = some (62, .ireturn, 1, 0, 0, 0, 0, 0) := rfl
set_option maxRecDepth 20000 in
set_option maxHeartbeats 4000000 in
theorem q_X_begin (r0 : Nat) (x1 : Int32) (x2 : Int32) (m : gd_M) : gd_call 96 [.ref r0, .int x1, .int x2] m = if gd_ok (gN m) r0 6 = true then ((gd_call 93 [.ref r0, .int x1, .int x2] m).bind (gd_kR fun o4 m2 => if o4 = 0 then (some (.int (-2), m2)) else if 8 ≤ o4 then (if gd_ok (gN m2) o4 4 = true then (if ((gI m2 o4 3) = 0 : Prop) then (if gd_ok (gN m2) r0 6 = true then (if gd_okA (gN m2) (gR m2 r0 5) 10 x1 = true then ((gd_call 94 [.ref r0, .int (gI m2 (gR m2 r0 5) (x1 : Int32).toNatClampNeg), .int x2] m2).bind (gd_kI fun z15 m13 => if gd_ok (gN m13) r0 6 = true then (if gd_ok (gN m13) (gR m13 r0 9) 1 = true then (if gd_okA (gN m13) (gR m13 (gR m13 r0 9) 11) 10 8 = true then (if (z15 < (gI m13 (gR m13 (gR m13 r0 9) 11) (8 : Int32).toNatClampNeg) : Prop) then (if gd_ok (gN m13) o4 4 = true then ((gd_call 95 [.ref o4] m13).bind (gd_kV fun m22 => some (.int (z15 + 1), m22))) else none) else (some (.int (-3), m13))) else none) else none) else none)) else none) else none) else (some (.int (-1), m2))) else none) else none)) else none := by
  refine Eq.trans (show gd_call 96 [.ref r0, .int x1, .int x2] m = gd_Den (96, 0, [.ref r0, .int x1, .int x2, .null, .null], [], m) from by unfold gd_call gd_ent; rw [gk_ml96]; rfl) ?_
  refine Eq.trans (D_aload_n (x := r0) gk_f96_0 rfl) ?_
  refine Eq.trans (D_iload_n (x := x1) gk_f96_1 rfl) ?_
  refine Eq.trans (D_iload_n (x := x2) gk_f96_2 rfl) ?_
  refine Eq.trans (D_ivR (cl := 6) (args := [.ref r0, .int x1, .int x2]) (rest := []) gk_f96_3 rfl rfl (gd_rmk gk_rm96_93 gk_ln93 gk_ml93 rfl rfl rfl) gk_rk93 (gd_hnd_n gk_nc96) gk_nc93 gk_n11_93 gk_cl93) ?_
  refine gd_ite (fun h1 => ?_) (fun _ => rfl)
  refine gd_bnd (gd_kR_c fun o4 m2 => ?_)
  refine Eq.trans (D_astore_n gk_f96_6 gk_st96_3) ?_
  refine Eq.trans (D_aload_n (x := o4) gk_f96_7 rfl) ?_
  refine Eq.trans (D_ifnonnull (t := 14) gk_f96_8 (by decide)) ?_
  refine gd_ite (fun h5 => ?_) (fun h6 => gd_ite (fun h7 => ?_) (fun _ => rfl))
  · refine Eq.trans (D_bipush (x := (-2)) gk_f96_11 gk_b_m2) ?_
    refine Eq.trans (D_ireturn gk_f96_13 gk_rk96) ?_
    rfl
  · refine Eq.trans (D_aload_n (x := o4) gk_f96_14 rfl) ?_
    refine Eq.trans (D_gfI gk_f96_15 (by decide) (by decide) (by decide)) ?_
    refine gd_ite (fun h8 => ?_) (fun _ => rfl)
    refine Eq.trans (D_if_eq (t := 23) gk_f96_18 (by decide)) ?_
    refine gd_ite (fun h9 => ?_) (fun h10 => ?_)
    · refine Eq.trans (D_aload_n (x := r0) gk_f96_23 rfl) ?_
      refine Eq.trans (D_aload_n (x := r0) gk_f96_24 rfl) ?_
      refine Eq.trans (D_gfR gk_f96_25 (by decide)) ?_
      refine gd_ite (fun h11 => ?_) (fun _ => rfl)
      refine Eq.trans (D_iload_n (x := x1) gk_f96_28 rfl) ?_
      refine Eq.trans (D_iald gk_f96_29 gk_n10_96) ?_
      refine gd_ite (fun h12 => ?_) (fun _ => rfl)
      refine Eq.trans (D_iload_n (x := x2) gk_f96_30 rfl) ?_
      refine Eq.trans (D_ivI (cl := 6) (args := [.ref r0, .int (gI m2 (gR m2 r0 5) (x1 : Int32).toNatClampNeg), .int x2]) (rest := []) gk_f96_31 rfl rfl (gd_rmk gk_rm96_94 gk_ln94 gk_ml94 rfl rfl rfl) gk_rk94 (gd_hnd_n gk_nc96) gk_nc94 gk_n11_94 gk_cl94) ?_
      refine Eq.trans (if_pos h11) ?_
      refine gd_bnd (gd_kI_c fun z15 m13 => ?_)
      refine Eq.trans (D_istore gk_f96_34 gk_st96_4) ?_
      refine Eq.trans (D_iload (x := z15) gk_f96_36 rfl) ?_
      refine Eq.trans (D_aload_n (x := r0) gk_f96_38 rfl) ?_
      refine Eq.trans (D_gfR gk_f96_39 (by decide)) ?_
      refine gd_ite (fun h16 => ?_) (fun _ => rfl)
      refine Eq.trans (D_gfR gk_f96_42 (by decide)) ?_
      refine gd_ite (fun h17 => ?_) (fun _ => rfl)
      refine Eq.trans (D_bipush (x := 8) gk_f96_45 gk_b_8) ?_
      refine Eq.trans (D_iald gk_f96_47 gk_n10_96) ?_
      refine gd_ite (fun h18 => ?_) (fun _ => rfl)
      refine Eq.trans (D_ic_lt (t := 54) gk_f96_48 (by decide)) ?_
      refine gd_ite (fun h19 => ?_) (fun h20 => ?_)
      · refine Eq.trans (D_aload_n (x := o4) gk_f96_54 rfl) ?_
        refine Eq.trans (D_ivV (cl := 4) (args := [.ref o4]) (rest := []) gk_f96_55 rfl rfl (gd_rmk gk_rm96_95 gk_ln95 gk_ml95 rfl rfl rfl) gk_rk95 (gd_hnd_n gk_nc96) gk_nc95 gk_n11_95 gk_cl95) ?_
        refine gd_ite (fun h21 => ?_) (fun _ => rfl)
        refine gd_bnd (gd_kV_c fun m22 => ?_)
        refine Eq.trans (D_iload (x := z15) gk_f96_58 rfl) ?_
        refine Eq.trans (D_iconst (x := 1) gk_f96_60 gk_c_1) ?_
        refine Eq.trans (D_iadd gk_f96_61) ?_
        refine Eq.trans (D_ireturn gk_f96_62 gk_rk96) ?_
        rfl
      · refine Eq.trans (D_bipush (x := (-3)) gk_f96_51 gk_b_m3) ?_
        refine Eq.trans (D_ireturn gk_f96_53 gk_rk96) ?_
        rfl
    · refine Eq.trans (D_iconst (x := (-1)) gk_f96_21 gk_c_m1) ?_
      refine Eq.trans (D_ireturn gk_f96_22 gk_rk96) ?_
      rfl
/-! GymDeskModel.isGymnast (I)Z -/
set_option maxRecDepth 20000 in
theorem gk_f97_0 : gd_fetch 97 0 = some (0, .iload_n 1, 1, 0, 0, 0, 0, 0) := rfl
set_option maxRecDepth 20000 in
theorem gk_f97_1 : gd_fetch 97 1 = some (1, .iconst 0, 1, 0, 0, 0, 0, 0) := rfl
set_option maxRecDepth 20000 in
theorem gk_f97_2 : gd_fetch 97 2 = some (2, .aload_n 0, 1, 0, 0, 0, 0, 0) := rfl
set_option maxRecDepth 20000 in
theorem gk_f97_3 : gd_fetch 97 3 = some (3, .getfield 326, 3, 1181, 9, 18, 0, 0) := rfl
set_option maxRecDepth 20000 in
theorem gk_f97_6 : gd_fetch 97 6 = some (6, .iconst 1, 1, 0, 0, 0, 0, 0) := rfl
set_option maxRecDepth 20000 in
theorem gk_f97_7 : gd_fetch 97 7 = some (7, .isub, 1, 0, 0, 0, 0, 0) := rfl
set_option maxRecDepth 20000 in
theorem gk_f97_8 : gd_fetch 97 8 = some (8, .invokestatic 192, 3, 1360, 71, 3, 0, 0) := rfl
set_option maxRecDepth 20000 in
theorem gk_f97_11 : gd_fetch 97 11 = some (11, .ireturn, 1, 0, 0, 0, 0, 0) := rfl
set_option maxRecDepth 20000 in
set_option maxHeartbeats 4000000 in
theorem q_Mo_isGymnast (r0 : Nat) (x1 : Int32) (m : gd_M) : gd_call 97 [.ref r0, .int x1] m = if gd_ok (gN m) r0 9 = true then ((gd_call 71 [.int x1, .int 0, .int ((gI m r0 18) - 1)] m).bind (gd_k0I fun z4 m2 => if gd_bo z4 = true then some (.int z4, m2) else none)) else none := by
  refine Eq.trans (show gd_call 97 [.ref r0, .int x1] m = gd_Den (97, 0, [.ref r0, .int x1], [], m) from by unfold gd_call gd_ent; rw [gk_ml97]; rfl) ?_
  refine Eq.trans (D_iload_n (x := x1) gk_f97_0 rfl) ?_
  refine Eq.trans (D_iconst (x := 0) gk_f97_1 gk_c_0) ?_
  refine Eq.trans (D_aload_n (x := r0) gk_f97_2 rfl) ?_
  refine Eq.trans (D_gfI gk_f97_3 (by decide) (by decide) (by decide)) ?_
  refine gd_ite (fun h1 => ?_) (fun _ => rfl)
  refine Eq.trans (D_iconst (x := 1) gk_f97_6 gk_c_1) ?_
  refine Eq.trans (D_isub gk_f97_7) ?_
  refine Eq.trans (D_isZ (args := [.int x1, .int 0, .int ((gI m r0 18) - 1)]) (rest := []) gk_f97_8 rfl rfl rfl (gd_rmk gk_rm97_71 gk_ln71 gk_ml71 rfl rfl rfl) gk_rk71 (gd_hnd_n gk_nc97)) ?_
  refine gd_bnd (gd_k0I_c fun z4 m2 => ?_)
  refine Eq.trans (D_zreturn gk_f97_11 gk_rk97) ?_
  rfl
/-! GymDeskModel.isAt (II)Z -/
set_option maxRecDepth 20000 in
theorem gk_f98_0 : gd_fetch 98 0 = some (0, .aload_n 0, 1, 0, 0, 0, 0, 0) := rfl
set_option maxRecDepth 20000 in
theorem gk_f98_1 : gd_fetch 98 1 = some (1, .iload_n 1, 1, 0, 0, 0, 0, 0) := rfl
set_option maxRecDepth 20000 in
theorem gk_f98_2 : gd_fetch 98 2 = some (2, .invokevirtual 332, 3, 1411, 97, 1, 0, 0) := rfl
set_option maxRecDepth 20000 in
theorem gk_f98_5 : gd_fetch 98 5 = some (5, .ifCond .eq 16, 3, 0, 0, 0, 0, 0) := rfl
set_option maxRecDepth 20000 in
theorem gk_f98_8 : gd_fetch 98 8 = some (8, .iload_n 2, 1, 0, 0, 0, 0, 0) := rfl
set_option maxRecDepth 20000 in
theorem gk_f98_9 : gd_fetch 98 9 = some (9, .iconst 0, 1, 0, 0, 0, 0, 0) := rfl
set_option maxRecDepth 20000 in
theorem gk_f98_10 : gd_fetch 98 10 = some (10, .iconst 3, 1, 0, 0, 0, 0, 0) := rfl
set_option maxRecDepth 20000 in
theorem gk_f98_11 : gd_fetch 98 11 = some (11, .invokestatic 192, 3, 1360, 71, 3, 0, 0) := rfl
set_option maxRecDepth 20000 in
theorem gk_f98_14 : gd_fetch 98 14 = some (14, .ifCond .eq 7, 3, 0, 0, 0, 0, 0) := rfl
set_option maxRecDepth 20000 in
theorem gk_f98_17 : gd_fetch 98 17 = some (17, .iconst 1, 1, 0, 0, 0, 0, 0) := rfl
set_option maxRecDepth 20000 in
theorem gk_f98_18 : gd_fetch 98 18 = some (18, .goto 4, 3, 0, 0, 0, 0, 0) := rfl
set_option maxRecDepth 20000 in
theorem gk_f98_21 : gd_fetch 98 21 = some (21, .iconst 0, 1, 0, 0, 0, 0, 0) := rfl
set_option maxRecDepth 20000 in
theorem gk_f98_22 : gd_fetch 98 22 = some (22, .ireturn, 1, 0, 0, 0, 0, 0) := rfl
set_option maxRecDepth 20000 in
set_option maxHeartbeats 4000000 in
theorem q_Mo_isAt (r0 : Nat) (x1 : Int32) (x2 : Int32) (m : gd_M) : gd_call 98 [.ref r0, .int x1, .int x2] m = if gd_ok (gN m) r0 9 = true then ((gd_call 97 [.ref r0, .int x1] m).bind (gd_kI fun z4 m2 => if (z4 = 0 : Prop) then (some (.int 0, m2)) else ((gd_call 71 [.int x2, .int 0, .int 3] m2).bind (gd_k0I fun z9 m7 => if (z9 = 0 : Prop) then (some (.int 0, m7)) else (some (.int 1, m7)))))) else none := by
  refine Eq.trans (show gd_call 98 [.ref r0, .int x1, .int x2] m = gd_Den (98, 0, [.ref r0, .int x1, .int x2], [], m) from by unfold gd_call gd_ent; rw [gk_ml98]; rfl) ?_
  refine Eq.trans (D_aload_n (x := r0) gk_f98_0 rfl) ?_
  refine Eq.trans (D_iload_n (x := x1) gk_f98_1 rfl) ?_
  refine Eq.trans (D_ivZ (cl := 9) (args := [.ref r0, .int x1]) (rest := []) gk_f98_2 rfl rfl (gd_rmk gk_rm98_97 gk_ln97 gk_ml97 rfl rfl rfl) gk_rk97 (gd_hnd_n gk_nc98) gk_nc97 gk_n11_97 gk_cl97) ?_
  refine gd_ite (fun h1 => ?_) (fun _ => rfl)
  refine gd_bnd (gd_kI_c fun z4 m2 => ?_)
  refine Eq.trans (D_if_eq (t := 21) gk_f98_5 (by decide)) ?_
  refine gd_ite (fun h5 => ?_) (fun h6 => ?_)
  · refine Eq.trans (D_iconst (x := 0) gk_f98_21 gk_c_0) ?_
    refine Eq.trans (D_zreturn gk_f98_22 gk_rk98) ?_
    exact if_pos rfl
  · refine Eq.trans (D_iload_n (x := x2) gk_f98_8 rfl) ?_
    refine Eq.trans (D_iconst (x := 0) gk_f98_9 gk_c_0) ?_
    refine Eq.trans (D_iconst (x := 3) gk_f98_10 gk_c_3) ?_
    refine Eq.trans (D_isZ (args := [.int x2, .int 0, .int 3]) (rest := []) gk_f98_11 rfl rfl rfl (gd_rmk gk_rm98_71 gk_ln71 gk_ml71 rfl rfl rfl) gk_rk71 (gd_hnd_n gk_nc98)) ?_
    refine gd_bnd (gd_k0I_c fun z9 m7 => ?_)
    refine Eq.trans (D_if_eq (t := 21) gk_f98_14 (by decide)) ?_
    refine gd_ite (fun h10 => ?_) (fun h11 => ?_)
    · refine Eq.trans (D_iconst (x := 0) gk_f98_21 gk_c_0) ?_
      refine Eq.trans (D_zreturn gk_f98_22 gk_rk98) ?_
      exact if_pos rfl
    · refine Eq.trans (D_iconst (x := 1) gk_f98_17 gk_c_1) ?_
      refine Eq.trans (D_goto (t := 22) gk_f98_18 (by decide)) ?_
      refine Eq.trans (D_zreturn gk_f98_22 gk_rk98) ?_
      exact if_pos rfl
