/-! GymDeskModel.begin (II)I -/
set_option maxRecDepth 20000 in
theorem gk_f99_0 : gd_fetch 99 0 = some (0, .aload_n 0, 1, 0, 0, 0, 0, 0) := rfl
set_option maxRecDepth 20000 in
theorem gk_f99_1 : gd_fetch 99 1 = some (1, .iload_n 1, 1, 0, 0, 0, 0, 0) := rfl
set_option maxRecDepth 20000 in
theorem gk_f99_2 : gd_fetch 99 2 = some (2, .iload_n 2, 1, 0, 0, 0, 0, 0) := rfl
set_option maxRecDepth 20000 in
theorem gk_f99_3 : gd_fetch 99 3 = some (3, .invokevirtual 335, 3, 1407, 98, 2, 0, 0) := rfl
set_option maxRecDepth 20000 in
theorem gk_f99_6 : gd_fetch 99 6 = some (6, .ifCond .ne 6, 3, 0, 0, 0, 0, 0) := rfl
set_option maxRecDepth 20000 in
theorem gk_f99_9 : gd_fetch 99 9 = some (9, .bipush (-2), 2, 0, 0, 0, 0, 0) := rfl
set_option maxRecDepth 20000 in
theorem gk_f99_11 : gd_fetch 99 11 = some (11, .ireturn, 1, 0, 0, 0, 0, 0) := rfl
set_option maxRecDepth 20000 in
theorem gk_f99_12 : gd_fetch 99 12 = some (12, .iconst 4, 1, 0, 0, 0, 0, 0) := rfl
set_option maxRecDepth 20000 in
theorem gk_f99_13 : gd_fetch 99 13 = some (13, .iload_n 1, 1, 0, 0, 0, 0, 0) := rfl
set_option maxRecDepth 20000 in
theorem gk_f99_14 : gd_fetch 99 14 = some (14, .imul, 1, 0, 0, 0, 0, 0) := rfl
set_option maxRecDepth 20000 in
theorem gk_f99_15 : gd_fetch 99 15 = some (15, .iload_n 2, 1, 0, 0, 0, 0, 0) := rfl
set_option maxRecDepth 20000 in
theorem gk_f99_16 : gd_fetch 99 16 = some (16, .iadd, 1, 0, 0, 0, 0, 0) := rfl
set_option maxRecDepth 20000 in
theorem gk_f99_17 : gd_fetch 99 17 = some (17, .istore_n 3, 1, 0, 0, 0, 0, 0) := rfl
set_option maxRecDepth 20000 in
theorem gk_f99_18 : gd_fetch 99 18 = some (18, .aload_n 0, 1, 0, 0, 0, 0, 0) := rfl
set_option maxRecDepth 20000 in
theorem gk_f99_19 : gd_fetch 99 19 = some (19, .getfield 51, 3, 1186, 9, 23, 4, 1) := rfl
set_option maxRecDepth 20000 in
theorem gk_f99_22 : gd_fetch 99 22 = some (22, .iload_n 3, 1, 0, 0, 0, 0, 0) := rfl
set_option maxRecDepth 20000 in
theorem gk_f99_23 : gd_fetch 99 23 = some (23, .baload, 1, 0, 0, 0, 0, 0) := rfl
set_option maxRecDepth 20000 in
theorem gk_f99_24 : gd_fetch 99 24 = some (24, .ifCond .eq 5, 3, 0, 0, 0, 0, 0) := rfl
set_option maxRecDepth 20000 in
theorem gk_f99_27 : gd_fetch 99 27 = some (27, .iconst (-1), 1, 0, 0, 0, 0, 0) := rfl
set_option maxRecDepth 20000 in
theorem gk_f99_28 : gd_fetch 99 28 = some (28, .ireturn, 1, 0, 0, 0, 0, 0) := rfl
set_option maxRecDepth 20000 in
theorem gk_f99_29 : gd_fetch 99 29 = some (29, .iconst 0, 1, 0, 0, 0, 0, 0) := rfl
set_option maxRecDepth 20000 in
theorem gk_f99_30 : gd_fetch 99 30 = some (30, .istore 4, 2, 0, 0, 0, 0, 0) := rfl
set_option maxRecDepth 20000 in
theorem gk_f99_32 : gd_fetch 99 32 = some (32, .iconst 0, 1, 0, 0, 0, 0, 0) := rfl
set_option maxRecDepth 20000 in
theorem gk_f99_33 : gd_fetch 99 33 = some (33, .istore 5, 2, 0, 0, 0, 0, 0) := rfl
set_option maxRecDepth 20000 in
theorem gk_f99_35 : gd_fetch 99 35 = some (35, .iload 5, 2, 0, 0, 0, 0, 0) := rfl
set_option maxRecDepth 20000 in
theorem gk_f99_37 : gd_fetch 99 37 = some (37, .aload_n 0, 1, 0, 0, 0, 0, 0) := rfl
set_option maxRecDepth 20000 in
theorem gk_f99_38 : gd_fetch 99 38 = some (38, .getfield 326, 3, 1181, 9, 18, 0, 0) := rfl
set_option maxRecDepth 20000 in
theorem gk_f99_41 : gd_fetch 99 41 = some (41, .if_icmp .ge 49, 3, 0, 0, 0, 0, 0) := rfl
set_option maxRecDepth 20000 in
theorem gk_f99_44 : gd_fetch 99 44 = some (44, .iload 4, 2, 0, 0, 0, 0, 0) := rfl
set_option maxRecDepth 20000 in
theorem gk_f99_46 : gd_fetch 99 46 = some (46, .aload_n 0, 1, 0, 0, 0, 0, 0) := rfl
set_option maxRecDepth 20000 in
theorem gk_f99_47 : gd_fetch 99 47 = some (47, .getfield 41, 3, 1183, 9, 20, 4, 1) := rfl
set_option maxRecDepth 20000 in
theorem gk_f99_50 : gd_fetch 99 50 = some (50, .iload 5, 2, 0, 0, 0, 0, 0) := rfl
set_option maxRecDepth 20000 in
theorem gk_f99_52 : gd_fetch 99 52 = some (52, .iaload, 1, 0, 0, 0, 0, 0) := rfl
set_option maxRecDepth 20000 in
theorem gk_f99_53 : gd_fetch 99 53 = some (53, .aload_n 0, 1, 0, 0, 0, 0, 0) := rfl
set_option maxRecDepth 20000 in
theorem gk_f99_54 : gd_fetch 99 54 = some (54, .getfield 41, 3, 1183, 9, 20, 4, 1) := rfl
set_option maxRecDepth 20000 in
theorem gk_f99_57 : gd_fetch 99 57 = some (57, .iload_n 1, 1, 0, 0, 0, 0, 0) := rfl
set_option maxRecDepth 20000 in
theorem gk_f99_58 : gd_fetch 99 58 = some (58, .iaload, 1, 0, 0, 0, 0, 0) := rfl
set_option maxRecDepth 20000 in
theorem gk_f99_59 : gd_fetch 99 59 = some (59, .if_icmp .ne 21, 3, 0, 0, 0, 0, 0) := rfl
set_option maxRecDepth 20000 in
theorem gk_f99_62 : gd_fetch 99 62 = some (62, .aload_n 0, 1, 0, 0, 0, 0, 0) := rfl
set_option maxRecDepth 20000 in
theorem gk_f99_63 : gd_fetch 99 63 = some (63, .getfield 51, 3, 1186, 9, 23, 4, 1) := rfl
set_option maxRecDepth 20000 in
theorem gk_f99_66 : gd_fetch 99 66 = some (66, .iconst 4, 1, 0, 0, 0, 0, 0) := rfl
set_option maxRecDepth 20000 in
theorem gk_f99_67 : gd_fetch 99 67 = some (67, .iload 5, 2, 0, 0, 0, 0, 0) := rfl
set_option maxRecDepth 20000 in
theorem gk_f99_69 : gd_fetch 99 69 = some (69, .imul, 1, 0, 0, 0, 0, 0) := rfl
set_option maxRecDepth 20000 in
theorem gk_f99_70 : gd_fetch 99 70 = some (70, .iload_n 2, 1, 0, 0, 0, 0, 0) := rfl
set_option maxRecDepth 20000 in
theorem gk_f99_71 : gd_fetch 99 71 = some (71, .iadd, 1, 0, 0, 0, 0, 0) := rfl
set_option maxRecDepth 20000 in
theorem gk_f99_72 : gd_fetch 99 72 = some (72, .baload, 1, 0, 0, 0, 0, 0) := rfl
set_option maxRecDepth 20000 in
theorem gk_f99_73 : gd_fetch 99 73 = some (73, .ifCond .eq 7, 3, 0, 0, 0, 0, 0) := rfl
set_option maxRecDepth 20000 in
theorem gk_f99_76 : gd_fetch 99 76 = some (76, .iconst 1, 1, 0, 0, 0, 0, 0) := rfl
set_option maxRecDepth 20000 in
theorem gk_f99_77 : gd_fetch 99 77 = some (77, .goto 4, 3, 0, 0, 0, 0, 0) := rfl
set_option maxRecDepth 20000 in
theorem gk_f99_80 : gd_fetch 99 80 = some (80, .iconst 0, 1, 0, 0, 0, 0, 0) := rfl
set_option maxRecDepth 20000 in
theorem gk_f99_81 : gd_fetch 99 81 = some (81, .iadd, 1, 0, 0, 0, 0, 0) := rfl
set_option maxRecDepth 20000 in
theorem gk_f99_82 : gd_fetch 99 82 = some (82, .istore 4, 2, 0, 0, 0, 0, 0) := rfl
set_option maxRecDepth 20000 in
theorem gk_f99_84 : gd_fetch 99 84 = some (84, .iinc 5 1, 3, 0, 0, 0, 0, 0) := rfl
set_option maxRecDepth 20000 in
theorem gk_f99_87 : gd_fetch 99 87 = some (87, .goto (-52), 3, 0, 0, 0, 0, 0) := rfl
set_option maxRecDepth 20000 in
theorem gk_f99_90 : gd_fetch 99 90 = some (90, .iload 4, 2, 0, 0, 0, 0, 0) := rfl
set_option maxRecDepth 20000 in
theorem gk_f99_92 : gd_fetch 99 92 = some (92, .aload_n 0, 1, 0, 0, 0, 0, 0) := rfl
set_option maxRecDepth 20000 in
theorem gk_f99_93 : gd_fetch 99 93 = some (93, .getfield 19, 3, 1164, 9, 1, 4, 0) := rfl
set_option maxRecDepth 20000 in
theorem gk_f99_96 : gd_fetch 99 96 = some (96, .getfield 309, 3, 1077, 7, 23, 0, 0) := rfl
set_option maxRecDepth 20000 in
theorem gk_f99_99 : gd_fetch 99 99 = some (99, .if_icmp .ne 6, 3, 0, 0, 0, 0, 0) := rfl
set_option maxRecDepth 20000 in
theorem gk_f99_102 : gd_fetch 99 102 = some (102, .bipush (-3), 2, 0, 0, 0, 0, 0) := rfl
set_option maxRecDepth 20000 in
theorem gk_f99_104 : gd_fetch 99 104 = some (104, .ireturn, 1, 0, 0, 0, 0, 0) := rfl
set_option maxRecDepth 20000 in
theorem gk_f99_105 : gd_fetch 99 105 = some (105, .aload_n 0, 1, 0, 0, 0, 0, 0) := rfl
set_option maxRecDepth 20000 in
theorem gk_f99_106 : gd_fetch 99 106 = some (106, .getfield 51, 3, 1186, 9, 23, 4, 1) := rfl
set_option maxRecDepth 20000 in
theorem gk_f99_109 : gd_fetch 99 109 = some (109, .iload_n 3, 1, 0, 0, 0, 0, 0) := rfl
set_option maxRecDepth 20000 in
theorem gk_f99_110 : gd_fetch 99 110 = some (110, .iconst 1, 1, 0, 0, 0, 0, 0) := rfl
set_option maxRecDepth 20000 in
theorem gk_f99_111 : gd_fetch 99 111 = some (111, .bastore, 1, 0, 0, 0, 0, 0) := rfl
set_option maxRecDepth 20000 in
theorem gk_f99_112 : gd_fetch 99 112 = some (112, .aload_n 0, 1, 0, 0, 0, 0, 0) := rfl
set_option maxRecDepth 20000 in
theorem gk_f99_113 : gd_fetch 99 113 = some (113, .getfield 54, 3, 1187, 9, 24, 4, 1) := rfl
set_option maxRecDepth 20000 in
theorem gk_f99_116 : gd_fetch 99 116 = some (116, .iload_n 3, 1, 0, 0, 0, 0, 0) := rfl
set_option maxRecDepth 20000 in
theorem gk_f99_117 : gd_fetch 99 117 = some (117, .iconst 0, 1, 0, 0, 0, 0, 0) := rfl
set_option maxRecDepth 20000 in
theorem gk_f99_118 : gd_fetch 99 118 = some (118, .iastore, 1, 0, 0, 0, 0, 0) := rfl
set_option maxRecDepth 20000 in
theorem gk_f99_119 : gd_fetch 99 119 = some (119, .aload_n 0, 1, 0, 0, 0, 0, 0) := rfl
set_option maxRecDepth 20000 in
theorem gk_f99_120 : gd_fetch 99 120 = some (120, .getfield 63, 3, 1190, 9, 27, 4, 1) := rfl
set_option maxRecDepth 20000 in
theorem gk_f99_123 : gd_fetch 99 123 = some (123, .iload_n 3, 1, 0, 0, 0, 0, 0) := rfl
set_option maxRecDepth 20000 in
theorem gk_f99_124 : gd_fetch 99 124 = some (124, .iconst 0, 1, 0, 0, 0, 0, 0) := rfl
set_option maxRecDepth 20000 in
theorem gk_f99_125 : gd_fetch 99 125 = some (125, .iastore, 1, 0, 0, 0, 0, 0) := rfl
set_option maxRecDepth 20000 in
theorem gk_f99_126 : gd_fetch 99 126 = some (126, .aload_n 0, 1, 0, 0, 0, 0, 0) := rfl
set_option maxRecDepth 20000 in
theorem gk_f99_127 : gd_fetch 99 127 = some (127, .getfield 66, 3, 1191, 9, 28, 4, 1) := rfl
set_option maxRecDepth 20000 in
theorem gk_f99_130 : gd_fetch 99 130 = some (130, .iload_n 3, 1, 0, 0, 0, 0, 0) := rfl
set_option maxRecDepth 20000 in
theorem gk_f99_131 : gd_fetch 99 131 = some (131, .iconst 0, 1, 0, 0, 0, 0, 0) := rfl
set_option maxRecDepth 20000 in
theorem gk_f99_132 : gd_fetch 99 132 = some (132, .iastore, 1, 0, 0, 0, 0, 0) := rfl
set_option maxRecDepth 20000 in
theorem gk_f99_133 : gd_fetch 99 133 = some (133, .aload_n 0, 1, 0, 0, 0, 0, 0) := rfl
set_option maxRecDepth 20000 in
theorem gk_f99_134 : gd_fetch 99 134 = some (134, .getfield 72, 3, 1193, 9, 30, 4, 1) := rfl
set_option maxRecDepth 20000 in
theorem gk_f99_137 : gd_fetch 99 137 = some (137, .iload_n 3, 1, 0, 0, 0, 0, 0) := rfl
set_option maxRecDepth 20000 in
theorem gk_f99_138 : gd_fetch 99 138 = some (138, .iconst (-1), 1, 0, 0, 0, 0, 0) := rfl
set_option maxRecDepth 20000 in
theorem gk_f99_139 : gd_fetch 99 139 = some (139, .iastore, 1, 0, 0, 0, 0, 0) := rfl
set_option maxRecDepth 20000 in
theorem gk_f99_140 : gd_fetch 99 140 = some (140, .aload_n 0, 1, 0, 0, 0, 0, 0) := rfl
set_option maxRecDepth 20000 in
theorem gk_f99_141 : gd_fetch 99 141 = some (141, .getfield 75, 3, 1194, 9, 31, 4, 1) := rfl
set_option maxRecDepth 20000 in
theorem gk_f99_144 : gd_fetch 99 144 = some (144, .iload_n 3, 1, 0, 0, 0, 0, 0) := rfl
set_option maxRecDepth 20000 in
theorem gk_f99_145 : gd_fetch 99 145 = some (145, .iconst 0, 1, 0, 0, 0, 0, 0) := rfl
set_option maxRecDepth 20000 in
theorem gk_f99_146 : gd_fetch 99 146 = some (146, .iastore, 1, 0, 0, 0, 0, 0) := rfl
set_option maxRecDepth 20000 in
theorem gk_f99_147 : gd_fetch 99 147 = some (147, .aload_n 0, 1, 0, 0, 0, 0, 0) := rfl
set_option maxRecDepth 20000 in
theorem gk_f99_148 : gd_fetch 99 148 = some (148, .getfield 84, 3, 1197, 9, 34, 4, 1) := rfl
set_option maxRecDepth 20000 in
theorem gk_f99_151 : gd_fetch 99 151 = some (151, .iload_n 3, 1, 0, 0, 0, 0, 0) := rfl
set_option maxRecDepth 20000 in
theorem gk_f99_152 : gd_fetch 99 152 = some (152, .iconst 0, 1, 0, 0, 0, 0, 0) := rfl
set_option maxRecDepth 20000 in
theorem gk_f99_153 : gd_fetch 99 153 = some (153, .bastore, 1, 0, 0, 0, 0, 0) := rfl
set_option maxRecDepth 20000 in
theorem gk_f99_154 : gd_fetch 99 154 = some (154, .iconst 0, 1, 0, 0, 0, 0, 0) := rfl
set_option maxRecDepth 20000 in
theorem gk_f99_155 : gd_fetch 99 155 = some (155, .istore 5, 2, 0, 0, 0, 0, 0) := rfl
set_option maxRecDepth 20000 in
theorem gk_f99_157 : gd_fetch 99 157 = some (157, .iload 5, 2, 0, 0, 0, 0, 0) := rfl
set_option maxRecDepth 20000 in
theorem gk_f99_159 : gd_fetch 99 159 = some (159, .bipush 6, 2, 0, 0, 0, 0, 0) := rfl
set_option maxRecDepth 20000 in
theorem gk_f99_161 : gd_fetch 99 161 = some (161, .if_icmp .ge 22, 3, 0, 0, 0, 0, 0) := rfl
set_option maxRecDepth 20000 in
theorem gk_f99_164 : gd_fetch 99 164 = some (164, .aload_n 0, 1, 0, 0, 0, 0, 0) := rfl
set_option maxRecDepth 20000 in
theorem gk_f99_165 : gd_fetch 99 165 = some (165, .getfield 60, 3, 1189, 9, 26, 4, 1) := rfl
set_option maxRecDepth 20000 in
theorem gk_f99_168 : gd_fetch 99 168 = some (168, .bipush 6, 2, 0, 0, 0, 0, 0) := rfl
set_option maxRecDepth 20000 in
theorem gk_f99_170 : gd_fetch 99 170 = some (170, .iload_n 3, 1, 0, 0, 0, 0, 0) := rfl
set_option maxRecDepth 20000 in
theorem gk_f99_171 : gd_fetch 99 171 = some (171, .imul, 1, 0, 0, 0, 0, 0) := rfl
set_option maxRecDepth 20000 in
theorem gk_f99_172 : gd_fetch 99 172 = some (172, .iload 5, 2, 0, 0, 0, 0, 0) := rfl
set_option maxRecDepth 20000 in
theorem gk_f99_174 : gd_fetch 99 174 = some (174, .iadd, 1, 0, 0, 0, 0, 0) := rfl
set_option maxRecDepth 20000 in
theorem gk_f99_175 : gd_fetch 99 175 = some (175, .iconst (-1), 1, 0, 0, 0, 0, 0) := rfl
set_option maxRecDepth 20000 in
theorem gk_f99_176 : gd_fetch 99 176 = some (176, .iastore, 1, 0, 0, 0, 0, 0) := rfl
set_option maxRecDepth 20000 in
theorem gk_f99_177 : gd_fetch 99 177 = some (177, .iinc 5 1, 3, 0, 0, 0, 0, 0) := rfl
set_option maxRecDepth 20000 in
theorem gk_f99_180 : gd_fetch 99 180 = some (180, .goto (-23), 3, 0, 0, 0, 0, 0) := rfl
set_option maxRecDepth 20000 in
theorem gk_f99_183 : gd_fetch 99 183 = some (183, .iconst 0, 1, 0, 0, 0, 0, 0) := rfl
set_option maxRecDepth 20000 in
theorem gk_f99_184 : gd_fetch 99 184 = some (184, .istore 5, 2, 0, 0, 0, 0, 0) := rfl
set_option maxRecDepth 20000 in
theorem gk_f99_186 : gd_fetch 99 186 = some (186, .iload 5, 2, 0, 0, 0, 0, 0) := rfl
set_option maxRecDepth 20000 in
theorem gk_f99_188 : gd_fetch 99 188 = some (188, .sipush 160, 3, 0, 0, 0, 0, 0) := rfl
set_option maxRecDepth 20000 in
theorem gk_f99_191 : gd_fetch 99 191 = some (191, .if_icmp .ge 23, 3, 0, 0, 0, 0, 0) := rfl
set_option maxRecDepth 20000 in
theorem gk_f99_194 : gd_fetch 99 194 = some (194, .aload_n 0, 1, 0, 0, 0, 0, 0) := rfl
set_option maxRecDepth 20000 in
theorem gk_f99_195 : gd_fetch 99 195 = some (195, .getfield 69, 3, 1192, 9, 29, 4, 1) := rfl
set_option maxRecDepth 20000 in
theorem gk_f99_198 : gd_fetch 99 198 = some (198, .sipush 160, 3, 0, 0, 0, 0, 0) := rfl
set_option maxRecDepth 20000 in
theorem gk_f99_201 : gd_fetch 99 201 = some (201, .iload_n 3, 1, 0, 0, 0, 0, 0) := rfl
set_option maxRecDepth 20000 in
theorem gk_f99_202 : gd_fetch 99 202 = some (202, .imul, 1, 0, 0, 0, 0, 0) := rfl
set_option maxRecDepth 20000 in
theorem gk_f99_203 : gd_fetch 99 203 = some (203, .iload 5, 2, 0, 0, 0, 0, 0) := rfl
set_option maxRecDepth 20000 in
theorem gk_f99_205 : gd_fetch 99 205 = some (205, .iadd, 1, 0, 0, 0, 0, 0) := rfl
set_option maxRecDepth 20000 in
theorem gk_f99_206 : gd_fetch 99 206 = some (206, .iconst 0, 1, 0, 0, 0, 0, 0) := rfl
set_option maxRecDepth 20000 in
theorem gk_f99_207 : gd_fetch 99 207 = some (207, .bastore, 1, 0, 0, 0, 0, 0) := rfl
set_option maxRecDepth 20000 in
theorem gk_f99_208 : gd_fetch 99 208 = some (208, .iinc 5 1, 3, 0, 0, 0, 0, 0) := rfl
set_option maxRecDepth 20000 in
theorem gk_f99_211 : gd_fetch 99 211 = some (211, .goto (-25), 3, 0, 0, 0, 0, 0) := rfl
set_option maxRecDepth 20000 in
theorem gk_f99_214 : gd_fetch 99 214 = some (214, .iload 4, 2, 0, 0, 0, 0, 0) := rfl
set_option maxRecDepth 20000 in
theorem gk_f99_216 : gd_fetch 99 216 = some (216, .iconst 1, 1, 0, 0, 0, 0, 0) := rfl
set_option maxRecDepth 20000 in
theorem gk_f99_217 : gd_fetch 99 217 = some (217, .iadd, 1, 0, 0, 0, 0, 0) := rfl
set_option maxRecDepth 20000 in
theorem gk_f99_218 : gd_fetch 99 218 = some (218, .ireturn, 1, 0, 0, 0, 0, 0) := rfl
set_option maxRecDepth 20000 in
set_option maxHeartbeats 4000000 in
theorem q_Mo_begin (r0 : Nat) (x1 : Int32) (x2 : Int32) (m : gd_M) : gd_call 99 [.ref r0, .int x1, .int x2] m = if gd_ok (gN m) r0 9 = true then ((gd_call 98 [.ref r0, .int x1, .int x2] m).bind (gd_kI fun z4 m2 => if (z4 = 0 : Prop) then (some (.int (-2), m2)) else (if gd_ok (gN m2) r0 9 = true then (if gd_okA (gN m2) (gR m2 r0 23) 11 ((4 * x1) + x2) = true then (if ((gI m2 (gR m2 r0 23) (((4 * x1) + x2) : Int32).toNatClampNeg) = 0 : Prop) then (gd_Den (99, 35, [.ref r0, .int x1, .int x2, .int ((4 * x1) + x2), .int 0, .int 0], [], m2)) else (some (.int (-1), m2))) else none) else none))) else none := by
  refine Eq.trans (show gd_call 99 [.ref r0, .int x1, .int x2] m = gd_Den (99, 0, [.ref r0, .int x1, .int x2, .null, .null, .null], [], m) from by unfold gd_call gd_ent; rw [gk_ml99]; rfl) ?_
  refine Eq.trans (D_aload_n (x := r0) gk_f99_0 rfl) ?_
  refine Eq.trans (D_iload_n (x := x1) gk_f99_1 rfl) ?_
  refine Eq.trans (D_iload_n (x := x2) gk_f99_2 rfl) ?_
  refine Eq.trans (D_ivZ (cl := 9) (args := [.ref r0, .int x1, .int x2]) (rest := []) gk_f99_3 rfl rfl (gd_rmk gk_rm99_98 gk_ln98 gk_ml98 rfl rfl rfl) gk_rk98 (gd_hnd_n gk_nc99) gk_nc98 gk_n11_98 gk_cl98) ?_
  refine gd_ite (fun h1 => ?_) (fun _ => rfl)
  refine gd_bnd (gd_kI_c fun z4 m2 => ?_)
  refine Eq.trans (D_if_ne (t := 12) gk_f99_6 (by decide)) ?_
  refine gd_ite (fun h5 => ?_) (fun h6 => ?_)
  · refine Eq.trans (D_bipush (x := (-2)) gk_f99_9 gk_b_m2) ?_
    refine Eq.trans (D_ireturn gk_f99_11 gk_rk99) ?_
    rfl
  · refine Eq.trans (D_iconst (x := 4) gk_f99_12 gk_c_4) ?_
    refine Eq.trans (D_iload_n (x := x1) gk_f99_13 rfl) ?_
    refine Eq.trans (D_imul gk_f99_14) ?_
    refine Eq.trans (D_iload_n (x := x2) gk_f99_15 rfl) ?_
    refine Eq.trans (D_iadd gk_f99_16) ?_
    refine Eq.trans (D_istore_n gk_f99_17 gk_st99_3) ?_
    refine Eq.trans (D_aload_n (x := r0) gk_f99_18 rfl) ?_
    refine Eq.trans (D_gfR gk_f99_19 (by decide)) ?_
    refine gd_ite (fun h7 => ?_) (fun _ => rfl)
    refine Eq.trans (D_iload_n (x := ((4 * x1) + x2)) gk_f99_22 rfl) ?_
    refine Eq.trans (D_bald (kd := 11) gk_f99_23 gk_n12_99 gk_bk99) ?_
    refine gd_ite (fun h8 => ?_) (fun _ => rfl)
    refine Eq.trans (D_if_eq (t := 29) gk_f99_24 (by decide)) ?_
    refine gd_ite (fun h9 => ?_) (fun h10 => ?_)
    · refine Eq.trans (D_iconst (x := 0) gk_f99_29 gk_c_0) ?_
      refine Eq.trans (D_istore gk_f99_30 gk_st99_4) ?_
      refine Eq.trans (D_iconst (x := 0) gk_f99_32 gk_c_0) ?_
      refine Eq.trans (D_istore gk_f99_33 gk_st99_5) ?_
      rfl
    · refine Eq.trans (D_iconst (x := (-1)) gk_f99_27 gk_c_m1) ?_
      refine Eq.trans (D_ireturn gk_f99_28 gk_rk99) ?_
      rfl
set_option maxRecDepth 20000 in
set_option maxHeartbeats 4000000 in
theorem q_Mo_begin_35 (r0 : Nat) (x1 : Int32) (x2 : Int32) (x3 : Int32) (x4 : Int32) (x5 : Int32) (m : gd_M) : gd_Den (99, 35, [.ref r0, .int x1, .int x2, .int x3, .int x4, .int x5], [], m) = if gd_ok (gN m) r0 9 = true then (if (x5 < (gI m r0 18) : Prop) then (if gd_okA (gN m) (gR m r0 20) 10 x5 = true then (if gd_okA (gN m) (gR m r0 20) 10 x1 = true then (if ((gI m (gR m r0 20) (x5 : Int32).toNatClampNeg) = (gI m (gR m r0 20) (x1 : Int32).toNatClampNeg) : Prop) then (if gd_okA (gN m) (gR m r0 23) 11 ((4 * x5) + x2) = true then (if ((gI m (gR m r0 23) (((4 * x5) + x2) : Int32).toNatClampNeg) = 0 : Prop) then (gd_Den (99, 35, [.ref r0, .int x1, .int x2, .int x3, .int (x4 + 0), .int (x5 + 1)], [], m)) else (gd_Den (99, 35, [.ref r0, .int x1, .int x2, .int x3, .int (x4 + 1), .int (x5 + 1)], [], m))) else none) else (gd_Den (99, 35, [.ref r0, .int x1, .int x2, .int x3, .int (x4 + 0), .int (x5 + 1)], [], m))) else none) else none) else (if gd_ok (gN m) (gR m r0 1) 7 = true then (if (x4 = (gI m (gR m r0 1) 23) : Prop) then (some (.int (-3), m)) else (if gd_okA (gN m) (gR m r0 23) 11 x3 = true then (if gd_okA (gN m) (gR m r0 24) 10 x3 = true then (if gd_okA (gN m) (gR m r0 27) 10 x3 = true then (if gd_okA (gN m) (gR m r0 28) 10 x3 = true then (if gd_okA (gN m) (gR m r0 30) 10 x3 = true then (if gd_okA (gN m) (gR m r0 31) 10 x3 = true then (if gd_okA (gN m) (gR m r0 34) 11 x3 = true then (gd_Den (99, 157, [.ref r0, .int x1, .int x2, .int x3, .int x4, .int 0], [], (wI (wI (wI (wI (wI (wI (wI m (gR m r0 23) (x3 : Int32).toNatClampNeg (vp_nar .boolean 1)) (gR m r0 24) (x3 : Int32).toNatClampNeg 0) (gR m r0 27) (x3 : Int32).toNatClampNeg 0) (gR m r0 28) (x3 : Int32).toNatClampNeg 0) (gR m r0 30) (x3 : Int32).toNatClampNeg (-1)) (gR m r0 31) (x3 : Int32).toNatClampNeg 0) (gR m r0 34) (x3 : Int32).toNatClampNeg (vp_nar .boolean 0)))) else none) else none) else none) else none) else none) else none) else none)) else none)) else none := by
  refine Eq.trans (D_iload (x := x5) gk_f99_35 rfl) ?_
  refine Eq.trans (D_aload_n (x := r0) gk_f99_37 rfl) ?_
  refine Eq.trans (D_gfI gk_f99_38 (by decide) (by decide) (by decide)) ?_
  refine gd_ite (fun h1 => ?_) (fun _ => rfl)
  refine Eq.trans (D_ic_ge (t := 90) gk_f99_41 (by decide)) ?_
  refine gd_ite (fun h2 => ?_) (fun h3 => ?_)
  · refine Eq.trans (D_iload (x := x4) gk_f99_44 rfl) ?_
    refine Eq.trans (D_aload_n (x := r0) gk_f99_46 rfl) ?_
    refine Eq.trans (D_gfR gk_f99_47 (by decide)) ?_
    refine Eq.trans (if_pos h1) ?_
    refine Eq.trans (D_iload (x := x5) gk_f99_50 rfl) ?_
    refine Eq.trans (D_iald gk_f99_52 gk_n10_99) ?_
    refine gd_ite (fun h4 => ?_) (fun _ => rfl)
    refine Eq.trans (D_aload_n (x := r0) gk_f99_53 rfl) ?_
    refine Eq.trans (D_gfR gk_f99_54 (by decide)) ?_
    refine Eq.trans (if_pos h1) ?_
    refine Eq.trans (D_iload_n (x := x1) gk_f99_57 rfl) ?_
    refine Eq.trans (D_iald gk_f99_58 gk_n10_99) ?_
    refine gd_ite (fun h5 => ?_) (fun _ => rfl)
    refine Eq.trans (D_ic_ne (t := 80) gk_f99_59 (by decide)) ?_
    refine gd_ite (fun h6 => ?_) (fun h7 => ?_)
    · refine Eq.trans (D_aload_n (x := r0) gk_f99_62 rfl) ?_
      refine Eq.trans (D_gfR gk_f99_63 (by decide)) ?_
      refine Eq.trans (if_pos h1) ?_
      refine Eq.trans (D_iconst (x := 4) gk_f99_66 gk_c_4) ?_
      refine Eq.trans (D_iload (x := x5) gk_f99_67 rfl) ?_
      refine Eq.trans (D_imul gk_f99_69) ?_
      refine Eq.trans (D_iload_n (x := x2) gk_f99_70 rfl) ?_
      refine Eq.trans (D_iadd gk_f99_71) ?_
      refine Eq.trans (D_bald (kd := 11) gk_f99_72 gk_n12_99 gk_bk99) ?_
      refine gd_ite (fun h8 => ?_) (fun _ => rfl)
      refine Eq.trans (D_if_eq (t := 80) gk_f99_73 (by decide)) ?_
      refine gd_ite (fun h9 => ?_) (fun h10 => ?_)
      · refine Eq.trans (D_iconst (x := 0) gk_f99_80 gk_c_0) ?_
        refine Eq.trans (D_iadd gk_f99_81) ?_
        refine Eq.trans (D_istore gk_f99_82 gk_st99_4) ?_
        refine Eq.trans (D_iinc (x := x5) (y := 1) gk_f99_84 rfl gk_c_1 gk_st99_5) ?_
        refine Eq.trans (D_goto (t := 35) gk_f99_87 (by decide)) ?_
        rfl
      · refine Eq.trans (D_iconst (x := 1) gk_f99_76 gk_c_1) ?_
        refine Eq.trans (D_goto (t := 81) gk_f99_77 (by decide)) ?_
        refine Eq.trans (D_iadd gk_f99_81) ?_
        refine Eq.trans (D_istore gk_f99_82 gk_st99_4) ?_
        refine Eq.trans (D_iinc (x := x5) (y := 1) gk_f99_84 rfl gk_c_1 gk_st99_5) ?_
        refine Eq.trans (D_goto (t := 35) gk_f99_87 (by decide)) ?_
        rfl
    · refine Eq.trans (D_iconst (x := 0) gk_f99_80 gk_c_0) ?_
      refine Eq.trans (D_iadd gk_f99_81) ?_
      refine Eq.trans (D_istore gk_f99_82 gk_st99_4) ?_
      refine Eq.trans (D_iinc (x := x5) (y := 1) gk_f99_84 rfl gk_c_1 gk_st99_5) ?_
      refine Eq.trans (D_goto (t := 35) gk_f99_87 (by decide)) ?_
      rfl
  · refine Eq.trans (D_iload (x := x4) gk_f99_90 rfl) ?_
    refine Eq.trans (D_aload_n (x := r0) gk_f99_92 rfl) ?_
    refine Eq.trans (D_gfR gk_f99_93 (by decide)) ?_
    refine Eq.trans (if_pos h1) ?_
    refine Eq.trans (D_gfI gk_f99_96 (by decide) (by decide) (by decide)) ?_
    refine gd_ite (fun h11 => ?_) (fun _ => rfl)
    refine Eq.trans (D_ic_ne (t := 105) gk_f99_99 (by decide)) ?_
    refine gd_ite (fun h12 => ?_) (fun h13 => ?_)
    · refine Eq.trans (D_bipush (x := (-3)) gk_f99_102 gk_b_m3) ?_
      refine Eq.trans (D_ireturn gk_f99_104 gk_rk99) ?_
      rfl
    · refine Eq.trans (D_aload_n (x := r0) gk_f99_105 rfl) ?_
      refine Eq.trans (D_gfR gk_f99_106 (by decide)) ?_
      refine Eq.trans (if_pos h1) ?_
      refine Eq.trans (D_iload_n (x := x3) gk_f99_109 rfl) ?_
      refine Eq.trans (D_iconst (x := 1) gk_f99_110 gk_c_1) ?_
      refine Eq.trans (D_bastZ gk_f99_111 gk_b12_99) ?_
      refine gd_ite (fun h14 => ?_) (fun _ => rfl)
      refine Eq.trans (D_aload_n (x := r0) gk_f99_112 rfl) ?_
      refine Eq.trans (D_gfR gk_f99_113 (by decide)) ?_
      refine Eq.trans (if_pos h1) ?_
      refine Eq.trans (D_iload_n (x := x3) gk_f99_116 rfl) ?_
      refine Eq.trans (D_iconst (x := 0) gk_f99_117 gk_c_0) ?_
      refine Eq.trans (D_iast gk_f99_118) ?_
      refine gd_ite (fun h15 => ?_) (fun _ => rfl)
      refine Eq.trans (D_aload_n (x := r0) gk_f99_119 rfl) ?_
      refine Eq.trans (D_gfR gk_f99_120 (by decide)) ?_
      refine Eq.trans (if_pos h1) ?_
      refine Eq.trans (D_iload_n (x := x3) gk_f99_123 rfl) ?_
      refine Eq.trans (D_iconst (x := 0) gk_f99_124 gk_c_0) ?_
      refine Eq.trans (D_iast gk_f99_125) ?_
      refine gd_ite (fun h16 => ?_) (fun _ => rfl)
      refine Eq.trans (D_aload_n (x := r0) gk_f99_126 rfl) ?_
      refine Eq.trans (D_gfR gk_f99_127 (by decide)) ?_
      refine Eq.trans (if_pos h1) ?_
      refine Eq.trans (D_iload_n (x := x3) gk_f99_130 rfl) ?_
      refine Eq.trans (D_iconst (x := 0) gk_f99_131 gk_c_0) ?_
      refine Eq.trans (D_iast gk_f99_132) ?_
      refine gd_ite (fun h17 => ?_) (fun _ => rfl)
      refine Eq.trans (D_aload_n (x := r0) gk_f99_133 rfl) ?_
      refine Eq.trans (D_gfR gk_f99_134 (by decide)) ?_
      refine Eq.trans (if_pos h1) ?_
      refine Eq.trans (D_iload_n (x := x3) gk_f99_137 rfl) ?_
      refine Eq.trans (D_iconst (x := (-1)) gk_f99_138 gk_c_m1) ?_
      refine Eq.trans (D_iast gk_f99_139) ?_
      refine gd_ite (fun h18 => ?_) (fun _ => rfl)
      refine Eq.trans (D_aload_n (x := r0) gk_f99_140 rfl) ?_
      refine Eq.trans (D_gfR gk_f99_141 (by decide)) ?_
      refine Eq.trans (if_pos h1) ?_
      refine Eq.trans (D_iload_n (x := x3) gk_f99_144 rfl) ?_
      refine Eq.trans (D_iconst (x := 0) gk_f99_145 gk_c_0) ?_
      refine Eq.trans (D_iast gk_f99_146) ?_
      refine gd_ite (fun h19 => ?_) (fun _ => rfl)
      refine Eq.trans (D_aload_n (x := r0) gk_f99_147 rfl) ?_
      refine Eq.trans (D_gfR gk_f99_148 (by decide)) ?_
      refine Eq.trans (if_pos h1) ?_
      refine Eq.trans (D_iload_n (x := x3) gk_f99_151 rfl) ?_
      refine Eq.trans (D_iconst (x := 0) gk_f99_152 gk_c_0) ?_
      refine Eq.trans (D_bastZ gk_f99_153 gk_b12_99) ?_
      refine gd_ite (fun h20 => ?_) (fun _ => rfl)
      refine Eq.trans (D_iconst (x := 0) gk_f99_154 gk_c_0) ?_
      refine Eq.trans (D_istore gk_f99_155 gk_st99_5) ?_
      rfl
set_option maxRecDepth 20000 in
set_option maxHeartbeats 4000000 in
theorem q_Mo_begin_157 (r0 : Nat) (x1 : Int32) (x2 : Int32) (x3 : Int32) (x4 : Int32) (x5 : Int32) (m : gd_M) : gd_Den (99, 157, [.ref r0, .int x1, .int x2, .int x3, .int x4, .int x5], [], m) = if (x5 < 6 : Prop) then (if gd_ok (gN m) r0 9 = true then (if gd_okA (gN m) (gR m r0 26) 10 ((6 * x3) + x5) = true then (gd_Den (99, 157, [.ref r0, .int x1, .int x2, .int x3, .int x4, .int (x5 + 1)], [], (wI m (gR m r0 26) (((6 * x3) + x5) : Int32).toNatClampNeg (-1)))) else none) else none) else (gd_Den (99, 186, [.ref r0, .int x1, .int x2, .int x3, .int x4, .int 0], [], m)) := by
  refine Eq.trans (D_iload (x := x5) gk_f99_157 rfl) ?_
  refine Eq.trans (D_bipush (x := 6) gk_f99_159 gk_b_6) ?_
  refine Eq.trans (D_ic_ge (t := 183) gk_f99_161 (by decide)) ?_
  refine gd_ite (fun h1 => ?_) (fun h2 => ?_)
  · refine Eq.trans (D_aload_n (x := r0) gk_f99_164 rfl) ?_
    refine Eq.trans (D_gfR gk_f99_165 (by decide)) ?_
    refine gd_ite (fun h3 => ?_) (fun _ => rfl)
    refine Eq.trans (D_bipush (x := 6) gk_f99_168 gk_b_6) ?_
    refine Eq.trans (D_iload_n (x := x3) gk_f99_170 rfl) ?_
    refine Eq.trans (D_imul gk_f99_171) ?_
    refine Eq.trans (D_iload (x := x5) gk_f99_172 rfl) ?_
    refine Eq.trans (D_iadd gk_f99_174) ?_
    refine Eq.trans (D_iconst (x := (-1)) gk_f99_175 gk_c_m1) ?_
    refine Eq.trans (D_iast gk_f99_176) ?_
    refine gd_ite (fun h4 => ?_) (fun _ => rfl)
    refine Eq.trans (D_iinc (x := x5) (y := 1) gk_f99_177 rfl gk_c_1 gk_st99_5) ?_
    refine Eq.trans (D_goto (t := 157) gk_f99_180 (by decide)) ?_
    rfl
  · refine Eq.trans (D_iconst (x := 0) gk_f99_183 gk_c_0) ?_
    refine Eq.trans (D_istore gk_f99_184 gk_st99_5) ?_
    rfl
set_option maxRecDepth 20000 in
set_option maxHeartbeats 4000000 in
theorem q_Mo_begin_186 (r0 : Nat) (x1 : Int32) (x2 : Int32) (x3 : Int32) (x4 : Int32) (x5 : Int32) (m : gd_M) : gd_Den (99, 186, [.ref r0, .int x1, .int x2, .int x3, .int x4, .int x5], [], m) = if (x5 < 160 : Prop) then (if gd_ok (gN m) r0 9 = true then (if gd_okA (gN m) (gR m r0 29) 11 ((160 * x3) + x5) = true then (gd_Den (99, 186, [.ref r0, .int x1, .int x2, .int x3, .int x4, .int (x5 + 1)], [], (wI m (gR m r0 29) (((160 * x3) + x5) : Int32).toNatClampNeg (vp_nar .boolean 0)))) else none) else none) else (some (.int (x4 + 1), m)) := by
  refine Eq.trans (D_iload (x := x5) gk_f99_186 rfl) ?_
  refine Eq.trans (D_sipush (x := 160) gk_f99_188 gk_s_160) ?_
  refine Eq.trans (D_ic_ge (t := 214) gk_f99_191 (by decide)) ?_
  refine gd_ite (fun h1 => ?_) (fun h2 => ?_)
  · refine Eq.trans (D_aload_n (x := r0) gk_f99_194 rfl) ?_
    refine Eq.trans (D_gfR gk_f99_195 (by decide)) ?_
    refine gd_ite (fun h3 => ?_) (fun _ => rfl)
    refine Eq.trans (D_sipush (x := 160) gk_f99_198 gk_s_160) ?_
    refine Eq.trans (D_iload_n (x := x3) gk_f99_201 rfl) ?_
    refine Eq.trans (D_imul gk_f99_202) ?_
    refine Eq.trans (D_iload (x := x5) gk_f99_203 rfl) ?_
    refine Eq.trans (D_iadd gk_f99_205) ?_
    refine Eq.trans (D_iconst (x := 0) gk_f99_206 gk_c_0) ?_
    refine Eq.trans (D_bastZ gk_f99_207 gk_b12_99) ?_
    refine gd_ite (fun h4 => ?_) (fun _ => rfl)
    refine Eq.trans (D_iinc (x := x5) (y := 1) gk_f99_208 rfl gk_c_1 gk_st99_5) ?_
    refine Eq.trans (D_goto (t := 186) gk_f99_211 (by decide)) ?_
    rfl
  · refine Eq.trans (D_iload (x := x4) gk_f99_214 rfl) ?_
    refine Eq.trans (D_iconst (x := 1) gk_f99_216 gk_c_1) ?_
    refine Eq.trans (D_iadd gk_f99_217) ?_
    refine Eq.trans (D_ireturn gk_f99_218 gk_rk99) ?_
    rfl
/-! GymDesk$Routine.isOpen ()Z -/
set_option maxRecDepth 20000 in
theorem gk_f100_0 : gd_fetch 100 0 = some (0, .aload_n 0, 1, 0, 0, 0, 0, 0) := rfl
set_option maxRecDepth 20000 in
theorem gk_f100_1 : gd_fetch 100 1 = some (1, .getfield 21, 3, 405, 4, 3, 1, 0) := rfl
set_option maxRecDepth 20000 in
theorem gk_f100_4 : gd_fetch 100 4 = some (4, .ifCond .eq 14, 3, 0, 0, 0, 0, 0) := rfl
set_option maxRecDepth 20000 in
theorem gk_f100_7 : gd_fetch 100 7 = some (7, .aload_n 0, 1, 0, 0, 0, 0, 0) := rfl
set_option maxRecDepth 20000 in
theorem gk_f100_8 : gd_fetch 100 8 = some (8, .getfield 25, 3, 407, 4, 4, 1, 0) := rfl
set_option maxRecDepth 20000 in
theorem gk_f100_11 : gd_fetch 100 11 = some (11, .ifCond .ne 7, 3, 0, 0, 0, 0, 0) := rfl
set_option maxRecDepth 20000 in
theorem gk_f100_14 : gd_fetch 100 14 = some (14, .iconst 1, 1, 0, 0, 0, 0, 0) := rfl
set_option maxRecDepth 20000 in
theorem gk_f100_15 : gd_fetch 100 15 = some (15, .goto 4, 3, 0, 0, 0, 0, 0) := rfl
set_option maxRecDepth 20000 in
theorem gk_f100_18 : gd_fetch 100 18 = some (18, .iconst 0, 1, 0, 0, 0, 0, 0) := rfl
set_option maxRecDepth 20000 in
theorem gk_f100_19 : gd_fetch 100 19 = some (19, .ireturn, 1, 0, 0, 0, 0, 0) := rfl
set_option maxRecDepth 20000 in
set_option maxHeartbeats 4000000 in
theorem q_Ro_isOpen (r0 : Nat) (m : gd_M) : gd_call 100 [.ref r0] m = if gd_ok (gN m) r0 4 = true then (if ((gI m r0 3) = 0 : Prop) then (some (.int 0, m)) else (if ((gI m r0 4) = 0 : Prop) then (some (.int 1, m)) else (some (.int 0, m)))) else none := by
  refine Eq.trans (show gd_call 100 [.ref r0] m = gd_Den (100, 0, [.ref r0], [], m) from by unfold gd_call gd_ent; rw [gk_ml100]; rfl) ?_
  refine Eq.trans (D_aload_n (x := r0) gk_f100_0 rfl) ?_
  refine Eq.trans (D_gfI gk_f100_1 (by decide) (by decide) (by decide)) ?_
  refine gd_ite (fun h1 => ?_) (fun _ => rfl)
  refine Eq.trans (D_if_eq (t := 18) gk_f100_4 (by decide)) ?_
  refine gd_ite (fun h2 => ?_) (fun h3 => ?_)
  · refine Eq.trans (D_iconst (x := 0) gk_f100_18 gk_c_0) ?_
    refine Eq.trans (D_zreturn gk_f100_19 gk_rk100) ?_
    exact if_pos rfl
  · refine Eq.trans (D_aload_n (x := r0) gk_f100_7 rfl) ?_
    refine Eq.trans (D_gfI gk_f100_8 (by decide) (by decide) (by decide)) ?_
    refine Eq.trans (if_pos h1) ?_
    refine Eq.trans (D_if_ne (t := 18) gk_f100_11 (by decide)) ?_
    refine gd_ite (fun h4 => ?_) (fun h5 => ?_)
    · refine Eq.trans (D_iconst (x := 1) gk_f100_14 gk_c_1) ?_
      refine Eq.trans (D_goto (t := 19) gk_f100_15 (by decide)) ?_
      refine Eq.trans (D_zreturn gk_f100_19 gk_rk100) ?_
      exact if_pos rfl
    · refine Eq.trans (D_iconst (x := 0) gk_f100_18 gk_c_0) ?_
      refine Eq.trans (D_zreturn gk_f100_19 gk_rk100) ?_
      exact if_pos rfl
/-! GymDesk$Routine.add (I)V -/
set_option maxRecDepth 20000 in
theorem gk_f101_0 : gd_fetch 101 0 = some (0, .aload_n 0, 1, 0, 0, 0, 0, 0) := rfl
set_option maxRecDepth 20000 in
theorem gk_f101_1 : gd_fetch 101 1 = some (1, .getfield 31, 3, 411, 4, 6, 0, 0) := rfl
set_option maxRecDepth 20000 in
theorem gk_f101_4 : gd_fetch 101 4 = some (4, .bipush 16, 2, 0, 0, 0, 0, 0) := rfl
set_option maxRecDepth 20000 in
theorem gk_f101_6 : gd_fetch 101 6 = some (6, .if_icmp .ge 28, 3, 0, 0, 0, 0, 0) := rfl
set_option maxRecDepth 20000 in
theorem gk_f101_9 : gd_fetch 101 9 = some (9, .aload_n 0, 1, 0, 0, 0, 0, 0) := rfl
set_option maxRecDepth 20000 in
theorem gk_f101_10 : gd_fetch 101 10 = some (10, .getfield 9, 3, 399, 4, 0, 4, 1) := rfl
set_option maxRecDepth 20000 in
theorem gk_f101_13 : gd_fetch 101 13 = some (13, .aload_n 0, 1, 0, 0, 0, 0, 0) := rfl
set_option maxRecDepth 20000 in
theorem gk_f101_14 : gd_fetch 101 14 = some (14, .getfield 31, 3, 411, 4, 6, 0, 0) := rfl
set_option maxRecDepth 20000 in
theorem gk_f101_17 : gd_fetch 101 17 = some (17, .iload_n 1, 1, 0, 0, 0, 0, 0) := rfl
set_option maxRecDepth 20000 in
theorem gk_f101_18 : gd_fetch 101 18 = some (18, .iastore, 1, 0, 0, 0, 0, 0) := rfl
set_option maxRecDepth 20000 in
theorem gk_f101_19 : gd_fetch 101 19 = some (19, .aload_n 0, 1, 0, 0, 0, 0, 0) := rfl
set_option maxRecDepth 20000 in
theorem gk_f101_20 : gd_fetch 101 20 = some (20, .dup, 1, 0, 0, 0, 0, 0) := rfl
set_option maxRecDepth 20000 in
theorem gk_f101_21 : gd_fetch 101 21 = some (21, .getfield 31, 3, 411, 4, 6, 0, 0) := rfl
set_option maxRecDepth 20000 in
theorem gk_f101_24 : gd_fetch 101 24 = some (24, .iconst 1, 1, 0, 0, 0, 0, 0) := rfl
set_option maxRecDepth 20000 in
theorem gk_f101_25 : gd_fetch 101 25 = some (25, .iadd, 1, 0, 0, 0, 0, 0) := rfl
set_option maxRecDepth 20000 in
theorem gk_f101_26 : gd_fetch 101 26 = some (26, .putfield 31, 3, 411, 4, 6, 0, 0) := rfl
set_option maxRecDepth 20000 in
theorem gk_f101_29 : gd_fetch 101 29 = some (29, .aload_n 0, 1, 0, 0, 0, 0, 0) := rfl
set_option maxRecDepth 20000 in
theorem gk_f101_30 : gd_fetch 101 30 = some (30, .iconst 1, 1, 0, 0, 0, 0, 0) := rfl
set_option maxRecDepth 20000 in
theorem gk_f101_31 : gd_fetch 101 31 = some (31, .putfield 28, 3, 409, 4, 5, 1, 0) := rfl
set_option maxRecDepth 20000 in
theorem gk_f101_34 : gd_fetch 101 34 = some (34, .return_, 1, 0, 0, 0, 0, 0) := rfl
set_option maxRecDepth 20000 in
set_option maxHeartbeats 4000000 in
theorem q_Ro_add (r0 : Nat) (x1 : Int32) (m : gd_M) : gd_call 101 [.ref r0, .int x1] m = if gd_ok (gN m) r0 4 = true then (if ((gI m r0 6) < 16 : Prop) then (if gd_okA (gN m) (gR m r0 0) 10 (gI m r0 6) = true then (some (.null, (wI (wI (wI m (gR m r0 0) ((gI m r0 6) : Int32).toNatClampNeg x1) r0 6 ((gI (wI m (gR m r0 0) ((gI m r0 6) : Int32).toNatClampNeg x1) r0 6) + 1)) r0 5 1))) else none) else (some (.null, m))) else none := by
  refine Eq.trans (show gd_call 101 [.ref r0, .int x1] m = gd_Den (101, 0, [.ref r0, .int x1], [], m) from by unfold gd_call gd_ent; rw [gk_ml101]; rfl) ?_
  refine Eq.trans (D_aload_n (x := r0) gk_f101_0 rfl) ?_
  refine Eq.trans (D_gfI gk_f101_1 (by decide) (by decide) (by decide)) ?_
  refine gd_ite (fun h1 => ?_) (fun _ => rfl)
  refine Eq.trans (D_bipush (x := 16) gk_f101_4 gk_b_16) ?_
  refine Eq.trans (D_ic_ge (t := 34) gk_f101_6 (by decide)) ?_
  refine gd_ite (fun h2 => ?_) (fun h3 => ?_)
  · refine Eq.trans (D_aload_n (x := r0) gk_f101_9 rfl) ?_
    refine Eq.trans (D_gfR gk_f101_10 (by decide)) ?_
    refine Eq.trans (if_pos h1) ?_
    refine Eq.trans (D_aload_n (x := r0) gk_f101_13 rfl) ?_
    refine Eq.trans (D_gfI gk_f101_14 (by decide) (by decide) (by decide)) ?_
    refine Eq.trans (if_pos h1) ?_
    refine Eq.trans (D_iload_n (x := x1) gk_f101_17 rfl) ?_
    refine Eq.trans (D_iast gk_f101_18) ?_
    refine gd_ite (fun h4 => ?_) (fun _ => rfl)
    refine Eq.trans (D_aload_n (x := r0) gk_f101_19 rfl) ?_
    refine Eq.trans (D_dupR gk_f101_20) ?_
    refine Eq.trans (D_gfI gk_f101_21 (by decide) (by decide) (by decide)) ?_
    refine Eq.trans (if_pos h1) ?_
    refine Eq.trans (D_iconst (x := 1) gk_f101_24 gk_c_1) ?_
    refine Eq.trans (D_iadd gk_f101_25) ?_
    refine Eq.trans (D_pfI gk_f101_26) ?_
    refine Eq.trans (if_pos h1) ?_
    refine Eq.trans (D_aload_n (x := r0) gk_f101_29 rfl) ?_
    refine Eq.trans (D_iconst (x := 1) gk_f101_30 gk_c_1) ?_
    refine Eq.trans (D_pfZ gk_f101_31) ?_
    refine Eq.trans (if_pos h1) ?_
    refine Eq.trans (if_pos rfl) ?_
    refine Eq.trans (D_vreturn gk_f101_34 gk_rk101) ?_
    rfl
  · refine Eq.trans (D_vreturn gk_f101_34 gk_rk101) ?_
    rfl
/-! GymDesk.entry (III)I -/
set_option maxRecDepth 20000 in
theorem gk_f102_0 : gd_fetch 102 0 = some (0, .aload_n 0, 1, 0, 0, 0, 0, 0) := rfl
set_option maxRecDepth 20000 in
theorem gk_f102_1 : gd_fetch 102 1 = some (1, .iload_n 1, 1, 0, 0, 0, 0, 0) := rfl
set_option maxRecDepth 20000 in
theorem gk_f102_2 : gd_fetch 102 2 = some (2, .iload_n 2, 1, 0, 0, 0, 0, 0) := rfl
set_option maxRecDepth 20000 in
theorem gk_f102_3 : gd_fetch 102 3 = some (3, .invokevirtual 124, 3, 685, 93, 2, 0, 0) := rfl
set_option maxRecDepth 20000 in
theorem gk_f102_6 : gd_fetch 102 6 = some (6, .astore 4, 2, 0, 0, 0, 0, 0) := rfl
set_option maxRecDepth 20000 in
theorem gk_f102_8 : gd_fetch 102 8 = some (8, .aload 4, 2, 0, 0, 0, 0, 0) := rfl
set_option maxRecDepth 20000 in
theorem gk_f102_10 : gd_fetch 102 10 = some (10, .ifnull 19, 3, 0, 0, 0, 0, 0) := rfl
set_option maxRecDepth 20000 in
theorem gk_f102_13 : gd_fetch 102 13 = some (13, .iload_n 3, 1, 0, 0, 0, 0, 0) := rfl
set_option maxRecDepth 20000 in
theorem gk_f102_14 : gd_fetch 102 14 = some (14, .iconst (-1), 1, 0, 0, 0, 0, 0) := rfl
set_option maxRecDepth 20000 in
theorem gk_f102_15 : gd_fetch 102 15 = some (15, .if_icmp .eq 17, 3, 0, 0, 0, 0, 0) := rfl
set_option maxRecDepth 20000 in
theorem gk_f102_18 : gd_fetch 102 18 = some (18, .aload_n 0, 1, 0, 0, 0, 0, 0) := rfl
set_option maxRecDepth 20000 in
theorem gk_f102_19 : gd_fetch 102 19 = some (19, .getfield 56, 3, 469, 6, 9, 4, 0) := rfl
set_option maxRecDepth 20000 in
theorem gk_f102_22 : gd_fetch 102 22 = some (22, .iload_n 3, 1, 0, 0, 0, 0, 0) := rfl
set_option maxRecDepth 20000 in
theorem gk_f102_23 : gd_fetch 102 23 = some (23, .invokevirtual 101, 3, 666, 85, 1, 0, 0) := rfl
set_option maxRecDepth 20000 in
theorem gk_f102_26 : gd_fetch 102 26 = some (26, .ifCond .ne 6, 3, 0, 0, 0, 0, 0) := rfl
set_option maxRecDepth 20000 in
theorem gk_f102_29 : gd_fetch 102 29 = some (29, .bipush (-2), 2, 0, 0, 0, 0, 0) := rfl
set_option maxRecDepth 20000 in
theorem gk_f102_31 : gd_fetch 102 31 = some (31, .ireturn, 1, 0, 0, 0, 0, 0) := rfl
set_option maxRecDepth 20000 in
theorem gk_f102_32 : gd_fetch 102 32 = some (32, .aload 4, 2, 0, 0, 0, 0, 0) := rfl
set_option maxRecDepth 20000 in
theorem gk_f102_34 : gd_fetch 102 34 = some (34, .invokevirtual 138, 3, 705, 100, 0, 0, 0) := rfl
set_option maxRecDepth 20000 in
theorem gk_f102_37 : gd_fetch 102 37 = some (37, .ifCond .ne 5, 3, 0, 0, 0, 0, 0) := rfl
set_option maxRecDepth 20000 in
theorem gk_f102_40 : gd_fetch 102 40 = some (40, .iconst (-1), 1, 0, 0, 0, 0, 0) := rfl
set_option maxRecDepth 20000 in
theorem gk_f102_41 : gd_fetch 102 41 = some (41, .ireturn, 1, 0, 0, 0, 0, 0) := rfl
set_option maxRecDepth 20000 in
theorem gk_f102_42 : gd_fetch 102 42 = some (42, .aload 4, 2, 0, 0, 0, 0, 0) := rfl
set_option maxRecDepth 20000 in
theorem gk_f102_44 : gd_fetch 102 44 = some (44, .getfield 142, 3, 412, 4, 6, 0, 0) := rfl
set_option maxRecDepth 20000 in
theorem gk_f102_47 : gd_fetch 102 47 = some (47, .bipush 16, 2, 0, 0, 0, 0, 0) := rfl
set_option maxRecDepth 20000 in
theorem gk_f102_49 : gd_fetch 102 49 = some (49, .if_icmp .lt 6, 3, 0, 0, 0, 0, 0) := rfl
set_option maxRecDepth 20000 in
theorem gk_f102_52 : gd_fetch 102 52 = some (52, .bipush (-3), 2, 0, 0, 0, 0, 0) := rfl
set_option maxRecDepth 20000 in
theorem gk_f102_54 : gd_fetch 102 54 = some (54, .ireturn, 1, 0, 0, 0, 0, 0) := rfl
set_option maxRecDepth 20000 in
theorem gk_f102_55 : gd_fetch 102 55 = some (55, .aload 4, 2, 0, 0, 0, 0, 0) := rfl
set_option maxRecDepth 20000 in
theorem gk_f102_57 : gd_fetch 102 57 = some (57, .iload_n 3, 1, 0, 0, 0, 0, 0) := rfl
set_option maxRecDepth 20000 in
theorem gk_f102_58 : gd_fetch 102 58 = some (58, .invokevirtual 145, 3, 709, 101, 1, 0, 0) := rfl
set_option maxRecDepth 20000 in
theorem gk_f102_61 : gd_fetch 102 61 = some (61, .aload 4, 2, 0, 0, 0, 0, 0) := rfl
set_option maxRecDepth 20000 in
theorem gk_f102_63 : gd_fetch 102 63 = some (63, .getfield 142, 3, 412, 4, 6, 0, 0) := rfl
set_option maxRecDepth 20000 in
theorem gk_f102_66 : gd_fetch 102 66 = some (66, .ireturn, 1, 0, 0, 0, 0, 0) := rfl
set_option maxRecDepth 20000 in
set_option maxHeartbeats 4000000 in
theorem q_X_entry (r0 : Nat) (x1 : Int32) (x2 : Int32) (x3 : Int32) (m : gd_M) : gd_call 102 [.ref r0, .int x1, .int x2, .int x3] m = if gd_ok (gN m) r0 6 = true then ((gd_call 93 [.ref r0, .int x1, .int x2] m).bind (gd_kR fun o4 m2 => if o4 = 0 then (some (.int (-2), m2)) else if 8 ≤ o4 then (if (x3 = (-1) : Prop) then (if gd_ok (gN m2) o4 4 = true then ((gd_call 100 [.ref o4] m2).bind (gd_kI fun z13 m11 => if (z13 = 0 : Prop) then (some (.int (-1), m11)) else (if gd_ok (gN m11) o4 4 = true then (if ((gI m11 o4 6) < 16 : Prop) then ((gd_call 101 [.ref o4, .int x3] m11).bind (gd_kV fun m19 => if gd_ok (gN m19) o4 4 = true then (some (.int (gI m19 o4 6), m19)) else none)) else (some (.int (-3), m11))) else none))) else none) else (if gd_ok (gN m2) r0 6 = true then (if gd_ok (gN m2) (gR m2 r0 9) 1 = true then ((gd_call 85 [.ref (gR m2 r0 9), .int x3] m2).bind (gd_kI fun z26 m24 => if (z26 = 0 : Prop) then (some (.int (-2), m24)) else (if gd_ok (gN m24) o4 4 = true then ((gd_call 100 [.ref o4] m24).bind (gd_kI fun z32 m30 => if (z32 = 0 : Prop) then (some (.int (-1), m30)) else (if gd_ok (gN m30) o4 4 = true then (if ((gI m30 o4 6) < 16 : Prop) then ((gd_call 101 [.ref o4, .int x3] m30).bind (gd_kV fun m38 => if gd_ok (gN m38) o4 4 = true then (some (.int (gI m38 o4 6), m38)) else none)) else (some (.int (-3), m30))) else none))) else none))) else none) else none)) else none)) else none := by
  refine Eq.trans (show gd_call 102 [.ref r0, .int x1, .int x2, .int x3] m = gd_Den (102, 0, [.ref r0, .int x1, .int x2, .int x3, .null], [], m) from by unfold gd_call gd_ent; rw [gk_ml102]; rfl) ?_
  refine Eq.trans (D_aload_n (x := r0) gk_f102_0 rfl) ?_
  refine Eq.trans (D_iload_n (x := x1) gk_f102_1 rfl) ?_
  refine Eq.trans (D_iload_n (x := x2) gk_f102_2 rfl) ?_
  refine Eq.trans (D_ivR (cl := 6) (args := [.ref r0, .int x1, .int x2]) (rest := []) gk_f102_3 rfl rfl (gd_rmk gk_rm102_93 gk_ln93 gk_ml93 rfl rfl rfl) gk_rk93 (gd_hnd_n gk_nc102) gk_nc93 gk_n11_93 gk_cl93) ?_
  refine gd_ite (fun h1 => ?_) (fun _ => rfl)
  refine gd_bnd (gd_kR_c fun o4 m2 => ?_)
  refine Eq.trans (D_astore gk_f102_6 gk_st102_4) ?_
  refine Eq.trans (D_aload (x := o4) gk_f102_8 rfl) ?_
  refine Eq.trans (D_ifnull (t := 29) gk_f102_10 (by decide)) ?_
  refine gd_ite (fun h5 => ?_) (fun h6 => gd_ite (fun h7 => ?_) (fun _ => rfl))
  · refine Eq.trans (D_bipush (x := (-2)) gk_f102_29 gk_b_m2) ?_
    refine Eq.trans (D_ireturn gk_f102_31 gk_rk102) ?_
    rfl
  · refine Eq.trans (D_iload_n (x := x3) gk_f102_13 rfl) ?_
    refine Eq.trans (D_iconst (x := (-1)) gk_f102_14 gk_c_m1) ?_
    refine Eq.trans (D_ic_eq (t := 32) gk_f102_15 (by decide)) ?_
    refine gd_ite (fun h8 => ?_) (fun h9 => ?_)
    · refine Eq.trans (D_aload (x := o4) gk_f102_32 rfl) ?_
      refine Eq.trans (D_ivZ (cl := 4) (args := [.ref o4]) (rest := []) gk_f102_34 rfl rfl (gd_rmk gk_rm102_100 gk_ln100 gk_ml100 rfl rfl rfl) gk_rk100 (gd_hnd_n gk_nc102) gk_nc100 gk_n11_100 gk_cl100) ?_
      refine gd_ite (fun h10 => ?_) (fun _ => rfl)
      refine gd_bnd (gd_kI_c fun z13 m11 => ?_)
      refine Eq.trans (D_if_ne (t := 42) gk_f102_37 (by decide)) ?_
      refine gd_ite (fun h14 => ?_) (fun h15 => ?_)
      · refine Eq.trans (D_iconst (x := (-1)) gk_f102_40 gk_c_m1) ?_
        refine Eq.trans (D_ireturn gk_f102_41 gk_rk102) ?_
        rfl
      · refine Eq.trans (D_aload (x := o4) gk_f102_42 rfl) ?_
        refine Eq.trans (D_gfI gk_f102_44 (by decide) (by decide) (by decide)) ?_
        refine gd_ite (fun h16 => ?_) (fun _ => rfl)
        refine Eq.trans (D_bipush (x := 16) gk_f102_47 gk_b_16) ?_
        refine Eq.trans (D_ic_lt (t := 55) gk_f102_49 (by decide)) ?_
        refine gd_ite (fun h17 => ?_) (fun h18 => ?_)
        · refine Eq.trans (D_aload (x := o4) gk_f102_55 rfl) ?_
          refine Eq.trans (D_iload_n (x := x3) gk_f102_57 rfl) ?_
          refine Eq.trans (D_ivV (cl := 4) (args := [.ref o4, .int x3]) (rest := []) gk_f102_58 rfl rfl (gd_rmk gk_rm102_101 gk_ln101 gk_ml101 rfl rfl rfl) gk_rk101 (gd_hnd_n gk_nc102) gk_nc101 gk_n11_101 gk_cl101) ?_
          refine Eq.trans (if_pos h16) ?_
          refine gd_bnd (gd_kV_c fun m19 => ?_)
          refine Eq.trans (D_aload (x := o4) gk_f102_61 rfl) ?_
          refine Eq.trans (D_gfI gk_f102_63 (by decide) (by decide) (by decide)) ?_
          refine gd_ite (fun h21 => ?_) (fun _ => rfl)
          refine Eq.trans (D_ireturn gk_f102_66 gk_rk102) ?_
          rfl
        · refine Eq.trans (D_bipush (x := (-3)) gk_f102_52 gk_b_m3) ?_
          refine Eq.trans (D_ireturn gk_f102_54 gk_rk102) ?_
          rfl
    · refine Eq.trans (D_aload_n (x := r0) gk_f102_18 rfl) ?_
      refine Eq.trans (D_gfR gk_f102_19 (by decide)) ?_
      refine gd_ite (fun h22 => ?_) (fun _ => rfl)
      refine Eq.trans (D_iload_n (x := x3) gk_f102_22 rfl) ?_
      refine Eq.trans (D_ivZ (cl := 1) (args := [.ref (gR m2 r0 9), .int x3]) (rest := []) gk_f102_23 rfl rfl (gd_rmk gk_rm102_85 gk_ln85 gk_ml85 rfl rfl rfl) gk_rk85 (gd_hnd_n gk_nc102) gk_nc85 gk_n11_85 gk_cl85) ?_
      refine gd_ite (fun h23 => ?_) (fun _ => rfl)
      refine gd_bnd (gd_kI_c fun z26 m24 => ?_)
      refine Eq.trans (D_if_ne (t := 32) gk_f102_26 (by decide)) ?_
      refine gd_ite (fun h27 => ?_) (fun h28 => ?_)
      · refine Eq.trans (D_bipush (x := (-2)) gk_f102_29 gk_b_m2) ?_
        refine Eq.trans (D_ireturn gk_f102_31 gk_rk102) ?_
        rfl
      · refine Eq.trans (D_aload (x := o4) gk_f102_32 rfl) ?_
        refine Eq.trans (D_ivZ (cl := 4) (args := [.ref o4]) (rest := []) gk_f102_34 rfl rfl (gd_rmk gk_rm102_100 gk_ln100 gk_ml100 rfl rfl rfl) gk_rk100 (gd_hnd_n gk_nc102) gk_nc100 gk_n11_100 gk_cl100) ?_
        refine gd_ite (fun h29 => ?_) (fun _ => rfl)
        refine gd_bnd (gd_kI_c fun z32 m30 => ?_)
        refine Eq.trans (D_if_ne (t := 42) gk_f102_37 (by decide)) ?_
        refine gd_ite (fun h33 => ?_) (fun h34 => ?_)
        · refine Eq.trans (D_iconst (x := (-1)) gk_f102_40 gk_c_m1) ?_
          refine Eq.trans (D_ireturn gk_f102_41 gk_rk102) ?_
          rfl
        · refine Eq.trans (D_aload (x := o4) gk_f102_42 rfl) ?_
          refine Eq.trans (D_gfI gk_f102_44 (by decide) (by decide) (by decide)) ?_
          refine gd_ite (fun h35 => ?_) (fun _ => rfl)
          refine Eq.trans (D_bipush (x := 16) gk_f102_47 gk_b_16) ?_
          refine Eq.trans (D_ic_lt (t := 55) gk_f102_49 (by decide)) ?_
          refine gd_ite (fun h36 => ?_) (fun h37 => ?_)
          · refine Eq.trans (D_aload (x := o4) gk_f102_55 rfl) ?_
            refine Eq.trans (D_iload_n (x := x3) gk_f102_57 rfl) ?_
            refine Eq.trans (D_ivV (cl := 4) (args := [.ref o4, .int x3]) (rest := []) gk_f102_58 rfl rfl (gd_rmk gk_rm102_101 gk_ln101 gk_ml101 rfl rfl rfl) gk_rk101 (gd_hnd_n gk_nc102) gk_nc101 gk_n11_101 gk_cl101) ?_
            refine Eq.trans (if_pos h35) ?_
            refine gd_bnd (gd_kV_c fun m38 => ?_)
            refine Eq.trans (D_aload (x := o4) gk_f102_61 rfl) ?_
            refine Eq.trans (D_gfI gk_f102_63 (by decide) (by decide) (by decide)) ?_
            refine gd_ite (fun h40 => ?_) (fun _ => rfl)
            refine Eq.trans (D_ireturn gk_f102_66 gk_rk102) ?_
            rfl
          · refine Eq.trans (D_bipush (x := (-3)) gk_f102_52 gk_b_m3) ?_
            refine Eq.trans (D_ireturn gk_f102_54 gk_rk102) ?_
            rfl
/-! GymDeskModel.isOpen (I)Z -/
set_option maxRecDepth 20000 in
theorem gk_f103_0 : gd_fetch 103 0 = some (0, .aload_n 0, 1, 0, 0, 0, 0, 0) := rfl
set_option maxRecDepth 20000 in
theorem gk_f103_1 : gd_fetch 103 1 = some (1, .getfield 51, 3, 1186, 9, 23, 4, 1) := rfl
set_option maxRecDepth 20000 in
theorem gk_f103_4 : gd_fetch 103 4 = some (4, .iload_n 1, 1, 0, 0, 0, 0, 0) := rfl
set_option maxRecDepth 20000 in
theorem gk_f103_5 : gd_fetch 103 5 = some (5, .baload, 1, 0, 0, 0, 0, 0) := rfl
set_option maxRecDepth 20000 in
theorem gk_f103_6 : gd_fetch 103 6 = some (6, .ifCond .eq 17, 3, 0, 0, 0, 0, 0) := rfl
set_option maxRecDepth 20000 in
theorem gk_f103_9 : gd_fetch 103 9 = some (9, .aload_n 0, 1, 0, 0, 0, 0, 0) := rfl
set_option maxRecDepth 20000 in
theorem gk_f103_10 : gd_fetch 103 10 = some (10, .getfield 72, 3, 1193, 9, 30, 4, 1) := rfl
set_option maxRecDepth 20000 in
theorem gk_f103_13 : gd_fetch 103 13 = some (13, .iload_n 1, 1, 0, 0, 0, 0, 0) := rfl
set_option maxRecDepth 20000 in
theorem gk_f103_14 : gd_fetch 103 14 = some (14, .iaload, 1, 0, 0, 0, 0, 0) := rfl
set_option maxRecDepth 20000 in
theorem gk_f103_15 : gd_fetch 103 15 = some (15, .iconst (-1), 1, 0, 0, 0, 0, 0) := rfl
set_option maxRecDepth 20000 in
theorem gk_f103_16 : gd_fetch 103 16 = some (16, .if_icmp .ne 7, 3, 0, 0, 0, 0, 0) := rfl
set_option maxRecDepth 20000 in
theorem gk_f103_19 : gd_fetch 103 19 = some (19, .iconst 1, 1, 0, 0, 0, 0, 0) := rfl
set_option maxRecDepth 20000 in
theorem gk_f103_20 : gd_fetch 103 20 = some (20, .goto 4, 3, 0, 0, 0, 0, 0) := rfl
set_option maxRecDepth 20000 in
theorem gk_f103_23 : gd_fetch 103 23 = some (23, .iconst 0, 1, 0, 0, 0, 0, 0) := rfl
set_option maxRecDepth 20000 in
theorem gk_f103_24 : gd_fetch 103 24 = some (24, .ireturn, 1, 0, 0, 0, 0, 0) := rfl
set_option maxRecDepth 20000 in
set_option maxHeartbeats 4000000 in
theorem q_Mo_isOpen (r0 : Nat) (x1 : Int32) (m : gd_M) : gd_call 103 [.ref r0, .int x1] m = if gd_ok (gN m) r0 9 = true then (if gd_okA (gN m) (gR m r0 23) 11 x1 = true then (if ((gI m (gR m r0 23) (x1 : Int32).toNatClampNeg) = 0 : Prop) then (some (.int 0, m)) else (if gd_okA (gN m) (gR m r0 30) 10 x1 = true then (if ((gI m (gR m r0 30) (x1 : Int32).toNatClampNeg) = (-1) : Prop) then (some (.int 1, m)) else (some (.int 0, m))) else none)) else none) else none := by
  refine Eq.trans (show gd_call 103 [.ref r0, .int x1] m = gd_Den (103, 0, [.ref r0, .int x1], [], m) from by unfold gd_call gd_ent; rw [gk_ml103]; rfl) ?_
  refine Eq.trans (D_aload_n (x := r0) gk_f103_0 rfl) ?_
  refine Eq.trans (D_gfR gk_f103_1 (by decide)) ?_
  refine gd_ite (fun h1 => ?_) (fun _ => rfl)
  refine Eq.trans (D_iload_n (x := x1) gk_f103_4 rfl) ?_
  refine Eq.trans (D_bald (kd := 11) gk_f103_5 gk_n12_103 gk_bk103) ?_
  refine gd_ite (fun h2 => ?_) (fun _ => rfl)
  refine Eq.trans (D_if_eq (t := 23) gk_f103_6 (by decide)) ?_
  refine gd_ite (fun h3 => ?_) (fun h4 => ?_)
  · refine Eq.trans (D_iconst (x := 0) gk_f103_23 gk_c_0) ?_
    refine Eq.trans (D_zreturn gk_f103_24 gk_rk103) ?_
    exact if_pos rfl
  · refine Eq.trans (D_aload_n (x := r0) gk_f103_9 rfl) ?_
    refine Eq.trans (D_gfR gk_f103_10 (by decide)) ?_
    refine Eq.trans (if_pos h1) ?_
    refine Eq.trans (D_iload_n (x := x1) gk_f103_13 rfl) ?_
    refine Eq.trans (D_iald gk_f103_14 gk_n10_103) ?_
    refine gd_ite (fun h5 => ?_) (fun _ => rfl)
    refine Eq.trans (D_iconst (x := (-1)) gk_f103_15 gk_c_m1) ?_
    refine Eq.trans (D_ic_ne (t := 23) gk_f103_16 (by decide)) ?_
    refine gd_ite (fun h6 => ?_) (fun h7 => ?_)
    · refine Eq.trans (D_iconst (x := 1) gk_f103_19 gk_c_1) ?_
      refine Eq.trans (D_goto (t := 24) gk_f103_20 (by decide)) ?_
      refine Eq.trans (D_zreturn gk_f103_24 gk_rk103) ?_
      exact if_pos rfl
    · refine Eq.trans (D_iconst (x := 0) gk_f103_23 gk_c_0) ?_
      refine Eq.trans (D_zreturn gk_f103_24 gk_rk103) ?_
      exact if_pos rfl
/-! GymDeskModel.entry (III)I -/
set_option maxRecDepth 20000 in
theorem gk_f104_0 : gd_fetch 104 0 = some (0, .aload_n 0, 1, 0, 0, 0, 0, 0) := rfl
set_option maxRecDepth 20000 in
theorem gk_f104_1 : gd_fetch 104 1 = some (1, .iload_n 1, 1, 0, 0, 0, 0, 0) := rfl
set_option maxRecDepth 20000 in
theorem gk_f104_2 : gd_fetch 104 2 = some (2, .iload_n 2, 1, 0, 0, 0, 0, 0) := rfl
set_option maxRecDepth 20000 in
theorem gk_f104_3 : gd_fetch 104 3 = some (3, .invokevirtual 335, 3, 1407, 98, 2, 0, 0) := rfl
set_option maxRecDepth 20000 in
theorem gk_f104_6 : gd_fetch 104 6 = some (6, .ifCond .eq 20, 3, 0, 0, 0, 0, 0) := rfl
set_option maxRecDepth 20000 in
theorem gk_f104_9 : gd_fetch 104 9 = some (9, .iload_n 3, 1, 0, 0, 0, 0, 0) := rfl
set_option maxRecDepth 20000 in
theorem gk_f104_10 : gd_fetch 104 10 = some (10, .iconst (-1), 1, 0, 0, 0, 0, 0) := rfl
set_option maxRecDepth 20000 in
theorem gk_f104_11 : gd_fetch 104 11 = some (11, .aload_n 0, 1, 0, 0, 0, 0, 0) := rfl
set_option maxRecDepth 20000 in
theorem gk_f104_12 : gd_fetch 104 12 = some (12, .getfield 19, 3, 1164, 9, 1, 4, 0) := rfl
set_option maxRecDepth 20000 in
theorem gk_f104_15 : gd_fetch 104 15 = some (15, .getfield 196, 3, 1031, 7, 0, 0, 0) := rfl
set_option maxRecDepth 20000 in
theorem gk_f104_18 : gd_fetch 104 18 = some (18, .iconst 1, 1, 0, 0, 0, 0, 0) := rfl
set_option maxRecDepth 20000 in
theorem gk_f104_19 : gd_fetch 104 19 = some (19, .isub, 1, 0, 0, 0, 0, 0) := rfl
set_option maxRecDepth 20000 in
theorem gk_f104_20 : gd_fetch 104 20 = some (20, .invokestatic 192, 3, 1360, 71, 3, 0, 0) := rfl
set_option maxRecDepth 20000 in
theorem gk_f104_23 : gd_fetch 104 23 = some (23, .ifCond .ne 6, 3, 0, 0, 0, 0, 0) := rfl
set_option maxRecDepth 20000 in
theorem gk_f104_26 : gd_fetch 104 26 = some (26, .bipush (-2), 2, 0, 0, 0, 0, 0) := rfl
set_option maxRecDepth 20000 in
theorem gk_f104_28 : gd_fetch 104 28 = some (28, .ireturn, 1, 0, 0, 0, 0, 0) := rfl
set_option maxRecDepth 20000 in
theorem gk_f104_29 : gd_fetch 104 29 = some (29, .iconst 4, 1, 0, 0, 0, 0, 0) := rfl
set_option maxRecDepth 20000 in
theorem gk_f104_30 : gd_fetch 104 30 = some (30, .iload_n 1, 1, 0, 0, 0, 0, 0) := rfl
set_option maxRecDepth 20000 in
theorem gk_f104_31 : gd_fetch 104 31 = some (31, .imul, 1, 0, 0, 0, 0, 0) := rfl
set_option maxRecDepth 20000 in
theorem gk_f104_32 : gd_fetch 104 32 = some (32, .iload_n 2, 1, 0, 0, 0, 0, 0) := rfl
set_option maxRecDepth 20000 in
theorem gk_f104_33 : gd_fetch 104 33 = some (33, .iadd, 1, 0, 0, 0, 0, 0) := rfl
set_option maxRecDepth 20000 in
theorem gk_f104_34 : gd_fetch 104 34 = some (34, .istore 4, 2, 0, 0, 0, 0, 0) := rfl
set_option maxRecDepth 20000 in
theorem gk_f104_36 : gd_fetch 104 36 = some (36, .aload_n 0, 1, 0, 0, 0, 0, 0) := rfl
set_option maxRecDepth 20000 in
theorem gk_f104_37 : gd_fetch 104 37 = some (37, .iload 4, 2, 0, 0, 0, 0, 0) := rfl
set_option maxRecDepth 20000 in
theorem gk_f104_39 : gd_fetch 104 39 = some (39, .invokevirtual 339, 3, 1419, 103, 1, 0, 0) := rfl
set_option maxRecDepth 20000 in
theorem gk_f104_42 : gd_fetch 104 42 = some (42, .ifCond .ne 5, 3, 0, 0, 0, 0, 0) := rfl
set_option maxRecDepth 20000 in
theorem gk_f104_45 : gd_fetch 104 45 = some (45, .iconst (-1), 1, 0, 0, 0, 0, 0) := rfl
set_option maxRecDepth 20000 in
theorem gk_f104_46 : gd_fetch 104 46 = some (46, .ireturn, 1, 0, 0, 0, 0, 0) := rfl
set_option maxRecDepth 20000 in
theorem gk_f104_47 : gd_fetch 104 47 = some (47, .aload_n 0, 1, 0, 0, 0, 0, 0) := rfl
set_option maxRecDepth 20000 in
theorem gk_f104_48 : gd_fetch 104 48 = some (48, .getfield 54, 3, 1187, 9, 24, 4, 1) := rfl
set_option maxRecDepth 20000 in
theorem gk_f104_51 : gd_fetch 104 51 = some (51, .iload 4, 2, 0, 0, 0, 0, 0) := rfl
set_option maxRecDepth 20000 in
theorem gk_f104_53 : gd_fetch 104 53 = some (53, .iaload, 1, 0, 0, 0, 0, 0) := rfl
set_option maxRecDepth 20000 in
theorem gk_f104_54 : gd_fetch 104 54 = some (54, .bipush 16, 2, 0, 0, 0, 0, 0) := rfl
set_option maxRecDepth 20000 in
theorem gk_f104_56 : gd_fetch 104 56 = some (56, .if_icmp .ne 6, 3, 0, 0, 0, 0, 0) := rfl
set_option maxRecDepth 20000 in
theorem gk_f104_59 : gd_fetch 104 59 = some (59, .bipush (-3), 2, 0, 0, 0, 0, 0) := rfl
set_option maxRecDepth 20000 in
theorem gk_f104_61 : gd_fetch 104 61 = some (61, .ireturn, 1, 0, 0, 0, 0, 0) := rfl
set_option maxRecDepth 20000 in
theorem gk_f104_62 : gd_fetch 104 62 = some (62, .aload_n 0, 1, 0, 0, 0, 0, 0) := rfl
set_option maxRecDepth 20000 in
theorem gk_f104_63 : gd_fetch 104 63 = some (63, .getfield 57, 3, 1188, 9, 25, 4, 1) := rfl
set_option maxRecDepth 20000 in
theorem gk_f104_66 : gd_fetch 104 66 = some (66, .bipush 16, 2, 0, 0, 0, 0, 0) := rfl
set_option maxRecDepth 20000 in
theorem gk_f104_68 : gd_fetch 104 68 = some (68, .iload 4, 2, 0, 0, 0, 0, 0) := rfl
set_option maxRecDepth 20000 in
theorem gk_f104_70 : gd_fetch 104 70 = some (70, .imul, 1, 0, 0, 0, 0, 0) := rfl
set_option maxRecDepth 20000 in
theorem gk_f104_71 : gd_fetch 104 71 = some (71, .aload_n 0, 1, 0, 0, 0, 0, 0) := rfl
set_option maxRecDepth 20000 in
theorem gk_f104_72 : gd_fetch 104 72 = some (72, .getfield 54, 3, 1187, 9, 24, 4, 1) := rfl
set_option maxRecDepth 20000 in
theorem gk_f104_75 : gd_fetch 104 75 = some (75, .iload 4, 2, 0, 0, 0, 0, 0) := rfl
set_option maxRecDepth 20000 in
theorem gk_f104_77 : gd_fetch 104 77 = some (77, .iaload, 1, 0, 0, 0, 0, 0) := rfl
set_option maxRecDepth 20000 in
theorem gk_f104_78 : gd_fetch 104 78 = some (78, .iadd, 1, 0, 0, 0, 0, 0) := rfl
set_option maxRecDepth 20000 in
theorem gk_f104_79 : gd_fetch 104 79 = some (79, .iload_n 3, 1, 0, 0, 0, 0, 0) := rfl
set_option maxRecDepth 20000 in
theorem gk_f104_80 : gd_fetch 104 80 = some (80, .iastore, 1, 0, 0, 0, 0, 0) := rfl
set_option maxRecDepth 20000 in
theorem gk_f104_81 : gd_fetch 104 81 = some (81, .aload_n 0, 1, 0, 0, 0, 0, 0) := rfl
set_option maxRecDepth 20000 in
theorem gk_f104_82 : gd_fetch 104 82 = some (82, .getfield 54, 3, 1187, 9, 24, 4, 1) := rfl
set_option maxRecDepth 20000 in
theorem gk_f104_85 : gd_fetch 104 85 = some (85, .iload 4, 2, 0, 0, 0, 0, 0) := rfl
set_option maxRecDepth 20000 in
theorem gk_f104_87 : gd_fetch 104 87 = some (87, .dup2, 1, 0, 0, 0, 0, 0) := rfl
set_option maxRecDepth 20000 in
theorem gk_f104_88 : gd_fetch 104 88 = some (88, .iaload, 1, 0, 0, 0, 0, 0) := rfl
set_option maxRecDepth 20000 in
theorem gk_f104_89 : gd_fetch 104 89 = some (89, .iconst 1, 1, 0, 0, 0, 0, 0) := rfl
set_option maxRecDepth 20000 in
theorem gk_f104_90 : gd_fetch 104 90 = some (90, .iadd, 1, 0, 0, 0, 0, 0) := rfl
set_option maxRecDepth 20000 in
theorem gk_f104_91 : gd_fetch 104 91 = some (91, .iastore, 1, 0, 0, 0, 0, 0) := rfl
set_option maxRecDepth 20000 in
theorem gk_f104_92 : gd_fetch 104 92 = some (92, .aload_n 0, 1, 0, 0, 0, 0, 0) := rfl
set_option maxRecDepth 20000 in
theorem gk_f104_93 : gd_fetch 104 93 = some (93, .getfield 84, 3, 1197, 9, 34, 4, 1) := rfl
set_option maxRecDepth 20000 in
theorem gk_f104_96 : gd_fetch 104 96 = some (96, .iload 4, 2, 0, 0, 0, 0, 0) := rfl
set_option maxRecDepth 20000 in
theorem gk_f104_98 : gd_fetch 104 98 = some (98, .iconst 0, 1, 0, 0, 0, 0, 0) := rfl
set_option maxRecDepth 20000 in
theorem gk_f104_99 : gd_fetch 104 99 = some (99, .bastore, 1, 0, 0, 0, 0, 0) := rfl
set_option maxRecDepth 20000 in
theorem gk_f104_100 : gd_fetch 104 100 = some (100, .aload_n 0, 1, 0, 0, 0, 0, 0) := rfl
set_option maxRecDepth 20000 in
theorem gk_f104_101 : gd_fetch 104 101 = some (101, .getfield 54, 3, 1187, 9, 24, 4, 1) := rfl
set_option maxRecDepth 20000 in
theorem gk_f104_104 : gd_fetch 104 104 = some (104, .iload 4, 2, 0, 0, 0, 0, 0) := rfl
set_option maxRecDepth 20000 in
theorem gk_f104_106 : gd_fetch 104 106 = some (106, .iaload, 1, 0, 0, 0, 0, 0) := rfl
set_option maxRecDepth 20000 in
theorem gk_f104_107 : gd_fetch 104 107 = some (107, .ireturn, 1, 0, 0, 0, 0, 0) := rfl
set_option maxRecDepth 20000 in
set_option maxHeartbeats 4000000 in
theorem q_Mo_entry (r0 : Nat) (x1 : Int32) (x2 : Int32) (x3 : Int32) (m : gd_M) : gd_call 104 [.ref r0, .int x1, .int x2, .int x3] m = if gd_ok (gN m) r0 9 = true then ((gd_call 98 [.ref r0, .int x1, .int x2] m).bind (gd_kI fun z4 m2 => if (z4 = 0 : Prop) then (some (.int (-2), m2)) else (if gd_ok (gN m2) r0 9 = true then (if gd_ok (gN m2) (gR m2 r0 1) 7 = true then ((gd_call 71 [.int x3, .int (-1), .int ((gI m2 (gR m2 r0 1) 0) - 1)] m2).bind (gd_k0I fun z11 m9 => if (z11 = 0 : Prop) then (some (.int (-2), m9)) else (if gd_ok (gN m9) r0 9 = true then ((gd_call 103 [.ref r0, .int ((4 * x1) + x2)] m9).bind (gd_kI fun z17 m15 => if (z17 = 0 : Prop) then (some (.int (-1), m15)) else (if gd_ok (gN m15) r0 9 = true then (if gd_okA (gN m15) (gR m15 r0 24) 10 ((4 * x1) + x2) = true then (if ((gI m15 (gR m15 r0 24) (((4 * x1) + x2) : Int32).toNatClampNeg) = 16 : Prop) then (some (.int (-3), m15)) else (if gd_okA (gN m15) (gR m15 r0 25) 10 ((16 * ((4 * x1) + x2)) + (gI m15 (gR m15 r0 24) (((4 * x1) + x2) : Int32).toNatClampNeg)) = true then (if gd_okA (gN m15) (gR m15 r0 34) 11 ((4 * x1) + x2) = true then (some (.int (gI (wI (wI (wI m15 (gR m15 r0 25) (((16 * ((4 * x1) + x2)) + (gI m15 (gR m15 r0 24) (((4 * x1) + x2) : Int32).toNatClampNeg)) : Int32).toNatClampNeg x3) (gR m15 r0 24) (((4 * x1) + x2) : Int32).toNatClampNeg ((gI (wI m15 (gR m15 r0 25) (((16 * ((4 * x1) + x2)) + (gI m15 (gR m15 r0 24) (((4 * x1) + x2) : Int32).toNatClampNeg)) : Int32).toNatClampNeg x3) (gR m15 r0 24) (((4 * x1) + x2) : Int32).toNatClampNeg) + 1)) (gR m15 r0 34) (((4 * x1) + x2) : Int32).toNatClampNeg (vp_nar .boolean 0)) (gR m15 r0 24) (((4 * x1) + x2) : Int32).toNatClampNeg), (wI (wI (wI m15 (gR m15 r0 25) (((16 * ((4 * x1) + x2)) + (gI m15 (gR m15 r0 24) (((4 * x1) + x2) : Int32).toNatClampNeg)) : Int32).toNatClampNeg x3) (gR m15 r0 24) (((4 * x1) + x2) : Int32).toNatClampNeg ((gI (wI m15 (gR m15 r0 25) (((16 * ((4 * x1) + x2)) + (gI m15 (gR m15 r0 24) (((4 * x1) + x2) : Int32).toNatClampNeg)) : Int32).toNatClampNeg x3) (gR m15 r0 24) (((4 * x1) + x2) : Int32).toNatClampNeg) + 1)) (gR m15 r0 34) (((4 * x1) + x2) : Int32).toNatClampNeg (vp_nar .boolean 0)))) else none) else none)) else none) else none))) else none))) else none) else none))) else none := by
  refine Eq.trans (show gd_call 104 [.ref r0, .int x1, .int x2, .int x3] m = gd_Den (104, 0, [.ref r0, .int x1, .int x2, .int x3, .null], [], m) from by unfold gd_call gd_ent; rw [gk_ml104]; rfl) ?_
  refine Eq.trans (D_aload_n (x := r0) gk_f104_0 rfl) ?_
  refine Eq.trans (D_iload_n (x := x1) gk_f104_1 rfl) ?_
  refine Eq.trans (D_iload_n (x := x2) gk_f104_2 rfl) ?_
  refine Eq.trans (D_ivZ (cl := 9) (args := [.ref r0, .int x1, .int x2]) (rest := []) gk_f104_3 rfl rfl (gd_rmk gk_rm104_98 gk_ln98 gk_ml98 rfl rfl rfl) gk_rk98 (gd_hnd_n gk_nc104) gk_nc98 gk_n11_98 gk_cl98) ?_
  refine gd_ite (fun h1 => ?_) (fun _ => rfl)
  refine gd_bnd (gd_kI_c fun z4 m2 => ?_)
  refine Eq.trans (D_if_eq (t := 26) gk_f104_6 (by decide)) ?_
  refine gd_ite (fun h5 => ?_) (fun h6 => ?_)
  · refine Eq.trans (D_bipush (x := (-2)) gk_f104_26 gk_b_m2) ?_
    refine Eq.trans (D_ireturn gk_f104_28 gk_rk104) ?_
    rfl
  · refine Eq.trans (D_iload_n (x := x3) gk_f104_9 rfl) ?_
    refine Eq.trans (D_iconst (x := (-1)) gk_f104_10 gk_c_m1) ?_
    refine Eq.trans (D_aload_n (x := r0) gk_f104_11 rfl) ?_
    refine Eq.trans (D_gfR gk_f104_12 (by decide)) ?_
    refine gd_ite (fun h7 => ?_) (fun _ => rfl)
    refine Eq.trans (D_gfI gk_f104_15 (by decide) (by decide) (by decide)) ?_
    refine gd_ite (fun h8 => ?_) (fun _ => rfl)
    refine Eq.trans (D_iconst (x := 1) gk_f104_18 gk_c_1) ?_
    refine Eq.trans (D_isub gk_f104_19) ?_
    refine Eq.trans (D_isZ (args := [.int x3, .int (-1), .int ((gI m2 (gR m2 r0 1) 0) - 1)]) (rest := []) gk_f104_20 rfl rfl rfl (gd_rmk gk_rm104_71 gk_ln71 gk_ml71 rfl rfl rfl) gk_rk71 (gd_hnd_n gk_nc104)) ?_
    refine gd_bnd (gd_k0I_c fun z11 m9 => ?_)
    refine Eq.trans (D_if_ne (t := 29) gk_f104_23 (by decide)) ?_
    refine gd_ite (fun h12 => ?_) (fun h13 => ?_)
    · refine Eq.trans (D_bipush (x := (-2)) gk_f104_26 gk_b_m2) ?_
      refine Eq.trans (D_ireturn gk_f104_28 gk_rk104) ?_
      rfl
    · refine Eq.trans (D_iconst (x := 4) gk_f104_29 gk_c_4) ?_
      refine Eq.trans (D_iload_n (x := x1) gk_f104_30 rfl) ?_
      refine Eq.trans (D_imul gk_f104_31) ?_
      refine Eq.trans (D_iload_n (x := x2) gk_f104_32 rfl) ?_
      refine Eq.trans (D_iadd gk_f104_33) ?_
      refine Eq.trans (D_istore gk_f104_34 gk_st104_4) ?_
      refine Eq.trans (D_aload_n (x := r0) gk_f104_36 rfl) ?_
      refine Eq.trans (D_iload (x := ((4 * x1) + x2)) gk_f104_37 rfl) ?_
      refine Eq.trans (D_ivZ (cl := 9) (args := [.ref r0, .int ((4 * x1) + x2)]) (rest := []) gk_f104_39 rfl rfl (gd_rmk gk_rm104_103 gk_ln103 gk_ml103 rfl rfl rfl) gk_rk103 (gd_hnd_n gk_nc104) gk_nc103 gk_n11_103 gk_cl103) ?_
      refine gd_ite (fun h14 => ?_) (fun _ => rfl)
      refine gd_bnd (gd_kI_c fun z17 m15 => ?_)
      refine Eq.trans (D_if_ne (t := 47) gk_f104_42 (by decide)) ?_
      refine gd_ite (fun h18 => ?_) (fun h19 => ?_)
      · refine Eq.trans (D_iconst (x := (-1)) gk_f104_45 gk_c_m1) ?_
        refine Eq.trans (D_ireturn gk_f104_46 gk_rk104) ?_
        rfl
      · refine Eq.trans (D_aload_n (x := r0) gk_f104_47 rfl) ?_
        refine Eq.trans (D_gfR gk_f104_48 (by decide)) ?_
        refine gd_ite (fun h20 => ?_) (fun _ => rfl)
        refine Eq.trans (D_iload (x := ((4 * x1) + x2)) gk_f104_51 rfl) ?_
        refine Eq.trans (D_iald gk_f104_53 gk_n10_104) ?_
        refine gd_ite (fun h21 => ?_) (fun _ => rfl)
        refine Eq.trans (D_bipush (x := 16) gk_f104_54 gk_b_16) ?_
        refine Eq.trans (D_ic_ne (t := 62) gk_f104_56 (by decide)) ?_
        refine gd_ite (fun h22 => ?_) (fun h23 => ?_)
        · refine Eq.trans (D_bipush (x := (-3)) gk_f104_59 gk_b_m3) ?_
          refine Eq.trans (D_ireturn gk_f104_61 gk_rk104) ?_
          rfl
        · refine Eq.trans (D_aload_n (x := r0) gk_f104_62 rfl) ?_
          refine Eq.trans (D_gfR gk_f104_63 (by decide)) ?_
          refine Eq.trans (if_pos h20) ?_
          refine Eq.trans (D_bipush (x := 16) gk_f104_66 gk_b_16) ?_
          refine Eq.trans (D_iload (x := ((4 * x1) + x2)) gk_f104_68 rfl) ?_
          refine Eq.trans (D_imul gk_f104_70) ?_
          refine Eq.trans (D_aload_n (x := r0) gk_f104_71 rfl) ?_
          refine Eq.trans (D_gfR gk_f104_72 (by decide)) ?_
          refine Eq.trans (if_pos h20) ?_
          refine Eq.trans (D_iload (x := ((4 * x1) + x2)) gk_f104_75 rfl) ?_
          refine Eq.trans (D_iald gk_f104_77 gk_n10_104) ?_
          refine Eq.trans (if_pos h21) ?_
          refine Eq.trans (D_iadd gk_f104_78) ?_
          refine Eq.trans (D_iload_n (x := x3) gk_f104_79 rfl) ?_
          refine Eq.trans (D_iast gk_f104_80) ?_
          refine gd_ite (fun h24 => ?_) (fun _ => rfl)
          refine Eq.trans (D_aload_n (x := r0) gk_f104_81 rfl) ?_
          refine Eq.trans (D_gfR gk_f104_82 (by decide)) ?_
          refine Eq.trans (if_pos h20) ?_
          refine Eq.trans (D_iload (x := ((4 * x1) + x2)) gk_f104_85 rfl) ?_
          refine Eq.trans (D_dup2 gk_f104_87) ?_
          refine Eq.trans (D_iald gk_f104_88 gk_n10_104) ?_
          refine Eq.trans (if_pos h21) ?_
          refine Eq.trans (D_iconst (x := 1) gk_f104_89 gk_c_1) ?_
          refine Eq.trans (D_iadd gk_f104_90) ?_
          refine Eq.trans (D_iast gk_f104_91) ?_
          refine Eq.trans (if_pos h21) ?_
          refine Eq.trans (D_aload_n (x := r0) gk_f104_92 rfl) ?_
          refine Eq.trans (D_gfR gk_f104_93 (by decide)) ?_
          refine Eq.trans (if_pos h20) ?_
          refine Eq.trans (D_iload (x := ((4 * x1) + x2)) gk_f104_96 rfl) ?_
          refine Eq.trans (D_iconst (x := 0) gk_f104_98 gk_c_0) ?_
          refine Eq.trans (D_bastZ gk_f104_99 gk_b12_104) ?_
          refine gd_ite (fun h25 => ?_) (fun _ => rfl)
          refine Eq.trans (D_aload_n (x := r0) gk_f104_100 rfl) ?_
          refine Eq.trans (D_gfR gk_f104_101 (by decide)) ?_
          refine Eq.trans (if_pos h20) ?_
          refine Eq.trans (D_iload (x := ((4 * x1) + x2)) gk_f104_104 rfl) ?_
          refine Eq.trans (D_iald gk_f104_106 gk_n10_104) ?_
          refine Eq.trans (if_pos h21) ?_
          refine Eq.trans (D_ireturn gk_f104_107 gk_rk104) ?_
          rfl
/-! GymDesk.isJudge (I)Z -/
set_option maxRecDepth 20000 in
theorem gk_f105_0 : gd_fetch 105 0 = some (0, .iload_n 1, 1, 0, 0, 0, 0, 0) := rfl
set_option maxRecDepth 20000 in
theorem gk_f105_1 : gd_fetch 105 1 = some (1, .ifCond .lt 20, 3, 0, 0, 0, 0, 0) := rfl
set_option maxRecDepth 20000 in
theorem gk_f105_4 : gd_fetch 105 4 = some (4, .iload_n 1, 1, 0, 0, 0, 0, 0) := rfl
set_option maxRecDepth 20000 in
theorem gk_f105_5 : gd_fetch 105 5 = some (5, .aload_n 0, 1, 0, 0, 0, 0, 0) := rfl
set_option maxRecDepth 20000 in
theorem gk_f105_6 : gd_fetch 105 6 = some (6, .getfield 56, 3, 469, 6, 9, 4, 0) := rfl
set_option maxRecDepth 20000 in
theorem gk_f105_9 : gd_fetch 105 9 = some (9, .getfield 132, 3, 350, 1, 11, 4, 1) := rfl
set_option maxRecDepth 20000 in
theorem gk_f105_12 : gd_fetch 105 12 = some (12, .iconst 3, 1, 0, 0, 0, 0, 0) := rfl
set_option maxRecDepth 20000 in
theorem gk_f105_13 : gd_fetch 105 13 = some (13, .iaload, 1, 0, 0, 0, 0, 0) := rfl
set_option maxRecDepth 20000 in
theorem gk_f105_14 : gd_fetch 105 14 = some (14, .if_icmp .ge 7, 3, 0, 0, 0, 0, 0) := rfl
set_option maxRecDepth 20000 in
theorem gk_f105_17 : gd_fetch 105 17 = some (17, .iconst 1, 1, 0, 0, 0, 0, 0) := rfl
set_option maxRecDepth 20000 in
theorem gk_f105_18 : gd_fetch 105 18 = some (18, .goto 4, 3, 0, 0, 0, 0, 0) := rfl
set_option maxRecDepth 20000 in
theorem gk_f105_21 : gd_fetch 105 21 = some (21, .iconst 0, 1, 0, 0, 0, 0, 0) := rfl
set_option maxRecDepth 20000 in
theorem gk_f105_22 : gd_fetch 105 22 = some (22, .ireturn, 1, 0, 0, 0, 0, 0) := rfl
set_option maxRecDepth 20000 in
set_option maxHeartbeats 4000000 in
theorem q_X_isJudge (r0 : Nat) (x1 : Int32) (m : gd_M) : gd_call 105 [.ref r0, .int x1] m = if (x1 < 0 : Prop) then (some (.int 0, m)) else (if gd_ok (gN m) r0 6 = true then (if gd_ok (gN m) (gR m r0 9) 1 = true then (if gd_okA (gN m) (gR m (gR m r0 9) 11) 10 3 = true then (if (x1 < (gI m (gR m (gR m r0 9) 11) (3 : Int32).toNatClampNeg) : Prop) then (some (.int 1, m)) else (some (.int 0, m))) else none) else none) else none) := by
  refine Eq.trans (show gd_call 105 [.ref r0, .int x1] m = gd_Den (105, 0, [.ref r0, .int x1], [], m) from by unfold gd_call gd_ent; rw [gk_ml105]; rfl) ?_
  refine Eq.trans (D_iload_n (x := x1) gk_f105_0 rfl) ?_
  refine Eq.trans (D_if_lt (t := 21) gk_f105_1 (by decide)) ?_
  refine gd_ite (fun h1 => ?_) (fun h2 => ?_)
  · refine Eq.trans (D_iconst (x := 0) gk_f105_21 gk_c_0) ?_
    refine Eq.trans (D_zreturn gk_f105_22 gk_rk105) ?_
    exact if_pos rfl
  · refine Eq.trans (D_iload_n (x := x1) gk_f105_4 rfl) ?_
    refine Eq.trans (D_aload_n (x := r0) gk_f105_5 rfl) ?_
    refine Eq.trans (D_gfR gk_f105_6 (by decide)) ?_
    refine gd_ite (fun h3 => ?_) (fun _ => rfl)
    refine Eq.trans (D_gfR gk_f105_9 (by decide)) ?_
    refine gd_ite (fun h4 => ?_) (fun _ => rfl)
    refine Eq.trans (D_iconst (x := 3) gk_f105_12 gk_c_3) ?_
    refine Eq.trans (D_iald gk_f105_13 gk_n10_105) ?_
    refine gd_ite (fun h5 => ?_) (fun _ => rfl)
    refine Eq.trans (D_ic_ge (t := 21) gk_f105_14 (by decide)) ?_
    refine gd_ite (fun h6 => ?_) (fun h7 => ?_)
    · refine Eq.trans (D_iconst (x := 1) gk_f105_17 gk_c_1) ?_
      refine Eq.trans (D_goto (t := 22) gk_f105_18 (by decide)) ?_
      refine Eq.trans (D_zreturn gk_f105_22 gk_rk105) ?_
      exact if_pos rfl
    · refine Eq.trans (D_iconst (x := 0) gk_f105_21 gk_c_0) ?_
      refine Eq.trans (D_zreturn gk_f105_22 gk_rk105) ?_
      exact if_pos rfl
/-! GymDesk$Routine.takesMarkOf (I)Z -/
set_option maxRecDepth 20000 in
theorem gk_f106_0 : gd_fetch 106 0 = some (0, .aload_n 0, 1, 0, 0, 0, 0, 0) := rfl
set_option maxRecDepth 20000 in
theorem gk_f106_1 : gd_fetch 106 1 = some (1, .getfield 15, 3, 402, 4, 1, 4, 1) := rfl
set_option maxRecDepth 20000 in
theorem gk_f106_4 : gd_fetch 106 4 = some (4, .iload_n 1, 1, 0, 0, 0, 0, 0) := rfl
set_option maxRecDepth 20000 in
theorem gk_f106_5 : gd_fetch 106 5 = some (5, .iaload, 1, 0, 0, 0, 0, 0) := rfl
set_option maxRecDepth 20000 in
theorem gk_f106_6 : gd_fetch 106 6 = some (6, .iconst (-1), 1, 0, 0, 0, 0, 0) := rfl
set_option maxRecDepth 20000 in
theorem gk_f106_7 : gd_fetch 106 7 = some (7, .if_icmp .eq 14, 3, 0, 0, 0, 0, 0) := rfl
set_option maxRecDepth 20000 in
theorem gk_f106_10 : gd_fetch 106 10 = some (10, .aload_n 0, 1, 0, 0, 0, 0, 0) := rfl
set_option maxRecDepth 20000 in
theorem gk_f106_11 : gd_fetch 106 11 = some (11, .getfield 38, 3, 415, 4, 8, 0, 0) := rfl
set_option maxRecDepth 20000 in
theorem gk_f106_14 : gd_fetch 106 14 = some (14, .iload_n 1, 1, 0, 0, 0, 0, 0) := rfl
set_option maxRecDepth 20000 in
theorem gk_f106_15 : gd_fetch 106 15 = some (15, .ishr, 1, 0, 0, 0, 0, 0) := rfl
set_option maxRecDepth 20000 in
theorem gk_f106_16 : gd_fetch 106 16 = some (16, .iconst 1, 1, 0, 0, 0, 0, 0) := rfl
set_option maxRecDepth 20000 in
theorem gk_f106_17 : gd_fetch 106 17 = some (17, .iand, 1, 0, 0, 0, 0, 0) := rfl
set_option maxRecDepth 20000 in
theorem gk_f106_18 : gd_fetch 106 18 = some (18, .ifCond .eq 7, 3, 0, 0, 0, 0, 0) := rfl
set_option maxRecDepth 20000 in
theorem gk_f106_21 : gd_fetch 106 21 = some (21, .iconst 1, 1, 0, 0, 0, 0, 0) := rfl
set_option maxRecDepth 20000 in
theorem gk_f106_22 : gd_fetch 106 22 = some (22, .goto 4, 3, 0, 0, 0, 0, 0) := rfl
set_option maxRecDepth 20000 in
theorem gk_f106_25 : gd_fetch 106 25 = some (25, .iconst 0, 1, 0, 0, 0, 0, 0) := rfl
set_option maxRecDepth 20000 in
theorem gk_f106_26 : gd_fetch 106 26 = some (26, .ireturn, 1, 0, 0, 0, 0, 0) := rfl
set_option maxRecDepth 20000 in
set_option maxHeartbeats 4000000 in
theorem q_Ro_takesMarkOf (r0 : Nat) (x1 : Int32) (m : gd_M) : gd_call 106 [.ref r0, .int x1] m = if gd_ok (gN m) r0 4 = true then (if gd_okA (gN m) (gR m r0 1) 10 x1 = true then (if ((gI m (gR m r0 1) (x1 : Int32).toNatClampNeg) = (-1) : Prop) then (some (.int 1, m)) else (if (((((gI m r0 8) : Int32) >>> (x1 &&& 31)) &&& 1) = 0 : Prop) then (some (.int 0, m)) else (some (.int 1, m)))) else none) else none := by
  refine Eq.trans (show gd_call 106 [.ref r0, .int x1] m = gd_Den (106, 0, [.ref r0, .int x1], [], m) from by unfold gd_call gd_ent; rw [gk_ml106]; rfl) ?_
  refine Eq.trans (D_aload_n (x := r0) gk_f106_0 rfl) ?_
  refine Eq.trans (D_gfR gk_f106_1 (by decide)) ?_
  refine gd_ite (fun h1 => ?_) (fun _ => rfl)
  refine Eq.trans (D_iload_n (x := x1) gk_f106_4 rfl) ?_
  refine Eq.trans (D_iald gk_f106_5 gk_n10_106) ?_
  refine gd_ite (fun h2 => ?_) (fun _ => rfl)
  refine Eq.trans (D_iconst (x := (-1)) gk_f106_6 gk_c_m1) ?_
  refine Eq.trans (D_ic_eq (t := 21) gk_f106_7 (by decide)) ?_
  refine gd_ite (fun h3 => ?_) (fun h4 => ?_)
  · refine Eq.trans (D_iconst (x := 1) gk_f106_21 gk_c_1) ?_
    refine Eq.trans (D_goto (t := 26) gk_f106_22 (by decide)) ?_
    refine Eq.trans (D_zreturn gk_f106_26 gk_rk106) ?_
    exact if_pos rfl
  · refine Eq.trans (D_aload_n (x := r0) gk_f106_10 rfl) ?_
    refine Eq.trans (D_gfI gk_f106_11 (by decide) (by decide) (by decide)) ?_
    refine Eq.trans (if_pos h1) ?_
    refine Eq.trans (D_iload_n (x := x1) gk_f106_14 rfl) ?_
    refine Eq.trans (D_ishr gk_f106_15) ?_
    refine Eq.trans (D_iconst (x := 1) gk_f106_16 gk_c_1) ?_
    refine Eq.trans (D_iand gk_f106_17) ?_
    refine Eq.trans (D_if_eq (t := 25) gk_f106_18 (by decide)) ?_
    refine gd_ite (fun h5 => ?_) (fun h6 => ?_)
    · refine Eq.trans (D_iconst (x := 0) gk_f106_25 gk_c_0) ?_
      refine Eq.trans (D_zreturn gk_f106_26 gk_rk106) ?_
      exact if_pos rfl
    · refine Eq.trans (D_iconst (x := 1) gk_f106_21 gk_c_1) ?_
      refine Eq.trans (D_goto (t := 26) gk_f106_22 (by decide)) ?_
      refine Eq.trans (D_zreturn gk_f106_26 gk_rk106) ?_
      exact if_pos rfl
/-! GymDesk$Routine.middleMark (I)I -/
set_option maxRecDepth 20000 in
theorem gk_f107_0 : gd_fetch 107 0 = some (0, .iload_n 1, 1, 0, 0, 0, 0, 0) := rfl
set_option maxRecDepth 20000 in
theorem gk_f107_1 : gd_fetch 107 1 = some (1, .iconst 1, 1, 0, 0, 0, 0, 0) := rfl
set_option maxRecDepth 20000 in
theorem gk_f107_2 : gd_fetch 107 2 = some (2, .isub, 1, 0, 0, 0, 0, 0) := rfl
set_option maxRecDepth 20000 in
theorem gk_f107_3 : gd_fetch 107 3 = some (3, .iconst 2, 1, 0, 0, 0, 0, 0) := rfl
set_option maxRecDepth 20000 in
theorem gk_f107_4 : gd_fetch 107 4 = some (4, .idiv, 1, 0, 0, 0, 0, 0) := rfl
set_option maxRecDepth 20000 in
theorem gk_f107_5 : gd_fetch 107 5 = some (5, .istore_n 2, 1, 0, 0, 0, 0, 0) := rfl
set_option maxRecDepth 20000 in
theorem gk_f107_6 : gd_fetch 107 6 = some (6, .iconst 0, 1, 0, 0, 0, 0, 0) := rfl
set_option maxRecDepth 20000 in
theorem gk_f107_7 : gd_fetch 107 7 = some (7, .istore_n 3, 1, 0, 0, 0, 0, 0) := rfl
set_option maxRecDepth 20000 in
theorem gk_f107_8 : gd_fetch 107 8 = some (8, .iload_n 3, 1, 0, 0, 0, 0, 0) := rfl
set_option maxRecDepth 20000 in
theorem gk_f107_9 : gd_fetch 107 9 = some (9, .iload_n 1, 1, 0, 0, 0, 0, 0) := rfl
set_option maxRecDepth 20000 in
theorem gk_f107_10 : gd_fetch 107 10 = some (10, .if_icmp .ge 104, 3, 0, 0, 0, 0, 0) := rfl
set_option maxRecDepth 20000 in
theorem gk_f107_13 : gd_fetch 107 13 = some (13, .iconst 0, 1, 0, 0, 0, 0, 0) := rfl
set_option maxRecDepth 20000 in
theorem gk_f107_14 : gd_fetch 107 14 = some (14, .istore 4, 2, 0, 0, 0, 0, 0) := rfl
set_option maxRecDepth 20000 in
theorem gk_f107_16 : gd_fetch 107 16 = some (16, .iconst 0, 1, 0, 0, 0, 0, 0) := rfl
set_option maxRecDepth 20000 in
theorem gk_f107_17 : gd_fetch 107 17 = some (17, .istore 5, 2, 0, 0, 0, 0, 0) := rfl
set_option maxRecDepth 20000 in
theorem gk_f107_19 : gd_fetch 107 19 = some (19, .iconst 0, 1, 0, 0, 0, 0, 0) := rfl
set_option maxRecDepth 20000 in
theorem gk_f107_20 : gd_fetch 107 20 = some (20, .istore 6, 2, 0, 0, 0, 0, 0) := rfl
set_option maxRecDepth 20000 in
theorem gk_f107_22 : gd_fetch 107 22 = some (22, .iload 6, 2, 0, 0, 0, 0, 0) := rfl
set_option maxRecDepth 20000 in
theorem gk_f107_24 : gd_fetch 107 24 = some (24, .iload_n 1, 1, 0, 0, 0, 0, 0) := rfl
set_option maxRecDepth 20000 in
theorem gk_f107_25 : gd_fetch 107 25 = some (25, .if_icmp .ge 61, 3, 0, 0, 0, 0, 0) := rfl
set_option maxRecDepth 20000 in
theorem gk_f107_28 : gd_fetch 107 28 = some (28, .iload 4, 2, 0, 0, 0, 0, 0) := rfl
set_option maxRecDepth 20000 in
theorem gk_f107_30 : gd_fetch 107 30 = some (30, .aload_n 0, 1, 0, 0, 0, 0, 0) := rfl
set_option maxRecDepth 20000 in
theorem gk_f107_31 : gd_fetch 107 31 = some (31, .getfield 15, 3, 402, 4, 1, 4, 1) := rfl
set_option maxRecDepth 20000 in
theorem gk_f107_34 : gd_fetch 107 34 = some (34, .iload 6, 2, 0, 0, 0, 0, 0) := rfl
set_option maxRecDepth 20000 in
theorem gk_f107_36 : gd_fetch 107 36 = some (36, .iaload, 1, 0, 0, 0, 0, 0) := rfl
set_option maxRecDepth 20000 in
theorem gk_f107_37 : gd_fetch 107 37 = some (37, .aload_n 0, 1, 0, 0, 0, 0, 0) := rfl
set_option maxRecDepth 20000 in
theorem gk_f107_38 : gd_fetch 107 38 = some (38, .getfield 15, 3, 402, 4, 1, 4, 1) := rfl
set_option maxRecDepth 20000 in
theorem gk_f107_41 : gd_fetch 107 41 = some (41, .iload_n 3, 1, 0, 0, 0, 0, 0) := rfl
set_option maxRecDepth 20000 in
theorem gk_f107_42 : gd_fetch 107 42 = some (42, .iaload, 1, 0, 0, 0, 0, 0) := rfl
set_option maxRecDepth 20000 in
theorem gk_f107_43 : gd_fetch 107 43 = some (43, .if_icmp .ge 7, 3, 0, 0, 0, 0, 0) := rfl
set_option maxRecDepth 20000 in
theorem gk_f107_46 : gd_fetch 107 46 = some (46, .iconst 1, 1, 0, 0, 0, 0, 0) := rfl
set_option maxRecDepth 20000 in
theorem gk_f107_47 : gd_fetch 107 47 = some (47, .goto 4, 3, 0, 0, 0, 0, 0) := rfl
set_option maxRecDepth 20000 in
theorem gk_f107_50 : gd_fetch 107 50 = some (50, .iconst 0, 1, 0, 0, 0, 0, 0) := rfl
set_option maxRecDepth 20000 in
theorem gk_f107_51 : gd_fetch 107 51 = some (51, .iadd, 1, 0, 0, 0, 0, 0) := rfl
set_option maxRecDepth 20000 in
theorem gk_f107_52 : gd_fetch 107 52 = some (52, .istore 4, 2, 0, 0, 0, 0, 0) := rfl
set_option maxRecDepth 20000 in
theorem gk_f107_54 : gd_fetch 107 54 = some (54, .iload 5, 2, 0, 0, 0, 0, 0) := rfl
set_option maxRecDepth 20000 in
theorem gk_f107_56 : gd_fetch 107 56 = some (56, .aload_n 0, 1, 0, 0, 0, 0, 0) := rfl
set_option maxRecDepth 20000 in
theorem gk_f107_57 : gd_fetch 107 57 = some (57, .getfield 15, 3, 402, 4, 1, 4, 1) := rfl
set_option maxRecDepth 20000 in
theorem gk_f107_60 : gd_fetch 107 60 = some (60, .iload 6, 2, 0, 0, 0, 0, 0) := rfl
set_option maxRecDepth 20000 in
theorem gk_f107_62 : gd_fetch 107 62 = some (62, .iaload, 1, 0, 0, 0, 0, 0) := rfl
set_option maxRecDepth 20000 in
theorem gk_f107_63 : gd_fetch 107 63 = some (63, .aload_n 0, 1, 0, 0, 0, 0, 0) := rfl
set_option maxRecDepth 20000 in
theorem gk_f107_64 : gd_fetch 107 64 = some (64, .getfield 15, 3, 402, 4, 1, 4, 1) := rfl
set_option maxRecDepth 20000 in
theorem gk_f107_67 : gd_fetch 107 67 = some (67, .iload_n 3, 1, 0, 0, 0, 0, 0) := rfl
set_option maxRecDepth 20000 in
theorem gk_f107_68 : gd_fetch 107 68 = some (68, .iaload, 1, 0, 0, 0, 0, 0) := rfl
set_option maxRecDepth 20000 in
theorem gk_f107_69 : gd_fetch 107 69 = some (69, .if_icmp .ne 7, 3, 0, 0, 0, 0, 0) := rfl
set_option maxRecDepth 20000 in
theorem gk_f107_72 : gd_fetch 107 72 = some (72, .iconst 1, 1, 0, 0, 0, 0, 0) := rfl
set_option maxRecDepth 20000 in
theorem gk_f107_73 : gd_fetch 107 73 = some (73, .goto 4, 3, 0, 0, 0, 0, 0) := rfl
set_option maxRecDepth 20000 in
theorem gk_f107_76 : gd_fetch 107 76 = some (76, .iconst 0, 1, 0, 0, 0, 0, 0) := rfl
set_option maxRecDepth 20000 in
theorem gk_f107_77 : gd_fetch 107 77 = some (77, .iadd, 1, 0, 0, 0, 0, 0) := rfl
set_option maxRecDepth 20000 in
theorem gk_f107_78 : gd_fetch 107 78 = some (78, .istore 5, 2, 0, 0, 0, 0, 0) := rfl
set_option maxRecDepth 20000 in
theorem gk_f107_80 : gd_fetch 107 80 = some (80, .iinc 6 1, 3, 0, 0, 0, 0, 0) := rfl
set_option maxRecDepth 20000 in
theorem gk_f107_83 : gd_fetch 107 83 = some (83, .goto (-61), 3, 0, 0, 0, 0, 0) := rfl
set_option maxRecDepth 20000 in
theorem gk_f107_86 : gd_fetch 107 86 = some (86, .iload 4, 2, 0, 0, 0, 0, 0) := rfl
set_option maxRecDepth 20000 in
theorem gk_f107_88 : gd_fetch 107 88 = some (88, .iload_n 2, 1, 0, 0, 0, 0, 0) := rfl
set_option maxRecDepth 20000 in
theorem gk_f107_89 : gd_fetch 107 89 = some (89, .if_icmp .gt 19, 3, 0, 0, 0, 0, 0) := rfl
set_option maxRecDepth 20000 in
theorem gk_f107_92 : gd_fetch 107 92 = some (92, .iload_n 2, 1, 0, 0, 0, 0, 0) := rfl
set_option maxRecDepth 20000 in
theorem gk_f107_93 : gd_fetch 107 93 = some (93, .iload 4, 2, 0, 0, 0, 0, 0) := rfl
set_option maxRecDepth 20000 in
theorem gk_f107_95 : gd_fetch 107 95 = some (95, .iload 5, 2, 0, 0, 0, 0, 0) := rfl
set_option maxRecDepth 20000 in
theorem gk_f107_97 : gd_fetch 107 97 = some (97, .iadd, 1, 0, 0, 0, 0, 0) := rfl
set_option maxRecDepth 20000 in
theorem gk_f107_98 : gd_fetch 107 98 = some (98, .if_icmp .ge 10, 3, 0, 0, 0, 0, 0) := rfl
set_option maxRecDepth 20000 in
theorem gk_f107_101 : gd_fetch 107 101 = some (101, .aload_n 0, 1, 0, 0, 0, 0, 0) := rfl
set_option maxRecDepth 20000 in
theorem gk_f107_102 : gd_fetch 107 102 = some (102, .getfield 15, 3, 402, 4, 1, 4, 1) := rfl
set_option maxRecDepth 20000 in
theorem gk_f107_105 : gd_fetch 107 105 = some (105, .iload_n 3, 1, 0, 0, 0, 0, 0) := rfl
set_option maxRecDepth 20000 in
theorem gk_f107_106 : gd_fetch 107 106 = some (106, .iaload, 1, 0, 0, 0, 0, 0) := rfl
set_option maxRecDepth 20000 in
theorem gk_f107_107 : gd_fetch 107 107 = some (107, .ireturn, 1, 0, 0, 0, 0, 0) := rfl
set_option maxRecDepth 20000 in
theorem gk_f107_108 : gd_fetch 107 108 = some (108, .iinc 3 1, 3, 0, 0, 0, 0, 0) := rfl
set_option maxRecDepth 20000 in
theorem gk_f107_111 : gd_fetch 107 111 = some (111, .goto (-103), 3, 0, 0, 0, 0, 0) := rfl
set_option maxRecDepth 20000 in
theorem gk_f107_114 : gd_fetch 107 114 = some (114, .iconst 0, 1, 0, 0, 0, 0, 0) := rfl
set_option maxRecDepth 20000 in
theorem gk_f107_115 : gd_fetch 107 115 = some (115, .ireturn, 1, 0, 0, 0, 0, 0) := rfl
set_option maxRecDepth 20000 in
set_option maxHeartbeats 4000000 in
theorem q_Ro_middleMark (r0 : Nat) (x1 : Int32) (m : gd_M) : gd_call 107 [.ref r0, .int x1] m = gd_Den (107, 8, [.ref r0, .int x1, .int ((x1 - 1) / 2), .int 0, .null, .null, .null], [], m) := by
  refine Eq.trans (show gd_call 107 [.ref r0, .int x1] m = gd_Den (107, 0, [.ref r0, .int x1, .null, .null, .null, .null, .null], [], m) from by unfold gd_call gd_ent; rw [gk_ml107]; rfl) ?_
  refine Eq.trans (D_iload_n (x := x1) gk_f107_0 rfl) ?_
  refine Eq.trans (D_iconst (x := 1) gk_f107_1 gk_c_1) ?_
  refine Eq.trans (D_isub gk_f107_2) ?_
  refine Eq.trans (D_iconst (x := 2) gk_f107_3 gk_c_2) ?_
  refine Eq.trans (D_idiv gk_f107_4) ?_
  refine Eq.trans (if_neg (by decide)) ?_
  refine Eq.trans (D_istore_n gk_f107_5 gk_st107_2) ?_
  refine Eq.trans (D_iconst (x := 0) gk_f107_6 gk_c_0) ?_
  refine Eq.trans (D_istore_n gk_f107_7 gk_st107_3) ?_
  rfl
set_option maxRecDepth 20000 in
set_option maxHeartbeats 4000000 in
theorem q_Ro_middleMark_8 (r0 : Nat) (x1 : Int32) (x2 : Int32) (x3 : Int32) (v4 : Value) (v5 : Value) (v6 : Value) (m : gd_M) : gd_Den (107, 8, [.ref r0, .int x1, .int x2, .int x3, v4, v5, v6], [], m) = if (x3 < x1 : Prop) then (gd_Den (107, 22, [.ref r0, .int x1, .int x2, .int x3, .int 0, .int 0, .int 0], [], m)) else (some (.int 0, m)) := by
  refine Eq.trans (D_iload_n (x := x3) gk_f107_8 rfl) ?_
  refine Eq.trans (D_iload_n (x := x1) gk_f107_9 rfl) ?_
  refine Eq.trans (D_ic_ge (t := 114) gk_f107_10 (by decide)) ?_
  refine gd_ite (fun h1 => ?_) (fun h2 => ?_)
  · refine Eq.trans (D_iconst (x := 0) gk_f107_13 gk_c_0) ?_
    refine Eq.trans (D_istore gk_f107_14 gk_st107_4) ?_
    refine Eq.trans (D_iconst (x := 0) gk_f107_16 gk_c_0) ?_
    refine Eq.trans (D_istore gk_f107_17 gk_st107_5) ?_
    refine Eq.trans (D_iconst (x := 0) gk_f107_19 gk_c_0) ?_
    refine Eq.trans (D_istore gk_f107_20 gk_st107_6) ?_
    rfl
  · refine Eq.trans (D_iconst (x := 0) gk_f107_114 gk_c_0) ?_
    refine Eq.trans (D_ireturn gk_f107_115 gk_rk107) ?_
    rfl
set_option maxRecDepth 20000 in
set_option maxHeartbeats 4000000 in
theorem q_Ro_middleMark_22 (r0 : Nat) (x1 : Int32) (x2 : Int32) (x3 : Int32) (x4 : Int32) (x5 : Int32) (x6 : Int32) (m : gd_M) : gd_Den (107, 22, [.ref r0, .int x1, .int x2, .int x3, .int x4, .int x5, .int x6], [], m) = if (x6 < x1 : Prop) then (if gd_ok (gN m) r0 4 = true then (if gd_okA (gN m) (gR m r0 1) 10 x6 = true then (if gd_okA (gN m) (gR m r0 1) 10 x3 = true then (if ((gI m (gR m r0 1) (x6 : Int32).toNatClampNeg) < (gI m (gR m r0 1) (x3 : Int32).toNatClampNeg) : Prop) then (if ((gI m (gR m r0 1) (x6 : Int32).toNatClampNeg) = (gI m (gR m r0 1) (x3 : Int32).toNatClampNeg) : Prop) then (gd_Den (107, 22, [.ref r0, .int x1, .int x2, .int x3, .int (x4 + 1), .int (x5 + 1), .int (x6 + 1)], [], m)) else (gd_Den (107, 22, [.ref r0, .int x1, .int x2, .int x3, .int (x4 + 1), .int (x5 + 0), .int (x6 + 1)], [], m))) else (if ((gI m (gR m r0 1) (x6 : Int32).toNatClampNeg) = (gI m (gR m r0 1) (x3 : Int32).toNatClampNeg) : Prop) then (gd_Den (107, 22, [.ref r0, .int x1, .int x2, .int x3, .int (x4 + 0), .int (x5 + 1), .int (x6 + 1)], [], m)) else (gd_Den (107, 22, [.ref r0, .int x1, .int x2, .int x3, .int (x4 + 0), .int (x5 + 0), .int (x6 + 1)], [], m)))) else none) else none) else none) else (if (x2 < x4 : Prop) then (gd_Den (107, 8, [.ref r0, .int x1, .int x2, .int (x3 + 1), .int x4, .int x5, .int x6], [], m)) else (if (x2 < (x4 + x5) : Prop) then (if gd_ok (gN m) r0 4 = true then (if gd_okA (gN m) (gR m r0 1) 10 x3 = true then (some (.int (gI m (gR m r0 1) (x3 : Int32).toNatClampNeg), m)) else none) else none) else (gd_Den (107, 8, [.ref r0, .int x1, .int x2, .int (x3 + 1), .int x4, .int x5, .int x6], [], m)))) := by
  refine Eq.trans (D_iload (x := x6) gk_f107_22 rfl) ?_
  refine Eq.trans (D_iload_n (x := x1) gk_f107_24 rfl) ?_
  refine Eq.trans (D_ic_ge (t := 86) gk_f107_25 (by decide)) ?_
  refine gd_ite (fun h1 => ?_) (fun h2 => ?_)
  · refine Eq.trans (D_iload (x := x4) gk_f107_28 rfl) ?_
    refine Eq.trans (D_aload_n (x := r0) gk_f107_30 rfl) ?_
    refine Eq.trans (D_gfR gk_f107_31 (by decide)) ?_
    refine gd_ite (fun h3 => ?_) (fun _ => rfl)
    refine Eq.trans (D_iload (x := x6) gk_f107_34 rfl) ?_
    refine Eq.trans (D_iald gk_f107_36 gk_n10_107) ?_
    refine gd_ite (fun h4 => ?_) (fun _ => rfl)
    refine Eq.trans (D_aload_n (x := r0) gk_f107_37 rfl) ?_
    refine Eq.trans (D_gfR gk_f107_38 (by decide)) ?_
    refine Eq.trans (if_pos h3) ?_
    refine Eq.trans (D_iload_n (x := x3) gk_f107_41 rfl) ?_
    refine Eq.trans (D_iald gk_f107_42 gk_n10_107) ?_
    refine gd_ite (fun h5 => ?_) (fun _ => rfl)
    refine Eq.trans (D_ic_ge (t := 50) gk_f107_43 (by decide)) ?_
    refine gd_ite (fun h6 => ?_) (fun h7 => ?_)
    · refine Eq.trans (D_iconst (x := 1) gk_f107_46 gk_c_1) ?_
      refine Eq.trans (D_goto (t := 51) gk_f107_47 (by decide)) ?_
      refine Eq.trans (D_iadd gk_f107_51) ?_
      refine Eq.trans (D_istore gk_f107_52 gk_st107_4) ?_
      refine Eq.trans (D_iload (x := x5) gk_f107_54 rfl) ?_
      refine Eq.trans (D_aload_n (x := r0) gk_f107_56 rfl) ?_
      refine Eq.trans (D_gfR gk_f107_57 (by decide)) ?_
      refine Eq.trans (if_pos h3) ?_
      refine Eq.trans (D_iload (x := x6) gk_f107_60 rfl) ?_
      refine Eq.trans (D_iald gk_f107_62 gk_n10_107) ?_
      refine Eq.trans (if_pos h4) ?_
      refine Eq.trans (D_aload_n (x := r0) gk_f107_63 rfl) ?_
      refine Eq.trans (D_gfR gk_f107_64 (by decide)) ?_
      refine Eq.trans (if_pos h3) ?_
      refine Eq.trans (D_iload_n (x := x3) gk_f107_67 rfl) ?_
      refine Eq.trans (D_iald gk_f107_68 gk_n10_107) ?_
      refine Eq.trans (if_pos h5) ?_
      refine Eq.trans (D_ic_ne (t := 76) gk_f107_69 (by decide)) ?_
      refine gd_ite (fun h8 => ?_) (fun h9 => ?_)
      · refine Eq.trans (D_iconst (x := 1) gk_f107_72 gk_c_1) ?_
        refine Eq.trans (D_goto (t := 77) gk_f107_73 (by decide)) ?_
        refine Eq.trans (D_iadd gk_f107_77) ?_
        refine Eq.trans (D_istore gk_f107_78 gk_st107_5) ?_
        refine Eq.trans (D_iinc (x := x6) (y := 1) gk_f107_80 rfl gk_c_1 gk_st107_6) ?_
        refine Eq.trans (D_goto (t := 22) gk_f107_83 (by decide)) ?_
        rfl
      · refine Eq.trans (D_iconst (x := 0) gk_f107_76 gk_c_0) ?_
        refine Eq.trans (D_iadd gk_f107_77) ?_
        refine Eq.trans (D_istore gk_f107_78 gk_st107_5) ?_
        refine Eq.trans (D_iinc (x := x6) (y := 1) gk_f107_80 rfl gk_c_1 gk_st107_6) ?_
        refine Eq.trans (D_goto (t := 22) gk_f107_83 (by decide)) ?_
        rfl
    · refine Eq.trans (D_iconst (x := 0) gk_f107_50 gk_c_0) ?_
      refine Eq.trans (D_iadd gk_f107_51) ?_
      refine Eq.trans (D_istore gk_f107_52 gk_st107_4) ?_
      refine Eq.trans (D_iload (x := x5) gk_f107_54 rfl) ?_
      refine Eq.trans (D_aload_n (x := r0) gk_f107_56 rfl) ?_
      refine Eq.trans (D_gfR gk_f107_57 (by decide)) ?_
      refine Eq.trans (if_pos h3) ?_
      refine Eq.trans (D_iload (x := x6) gk_f107_60 rfl) ?_
      refine Eq.trans (D_iald gk_f107_62 gk_n10_107) ?_
      refine Eq.trans (if_pos h4) ?_
      refine Eq.trans (D_aload_n (x := r0) gk_f107_63 rfl) ?_
      refine Eq.trans (D_gfR gk_f107_64 (by decide)) ?_
      refine Eq.trans (if_pos h3) ?_
      refine Eq.trans (D_iload_n (x := x3) gk_f107_67 rfl) ?_
      refine Eq.trans (D_iald gk_f107_68 gk_n10_107) ?_
      refine Eq.trans (if_pos h5) ?_
      refine Eq.trans (D_ic_ne (t := 76) gk_f107_69 (by decide)) ?_
      refine gd_ite (fun h10 => ?_) (fun h11 => ?_)
      · refine Eq.trans (D_iconst (x := 1) gk_f107_72 gk_c_1) ?_
        refine Eq.trans (D_goto (t := 77) gk_f107_73 (by decide)) ?_
        refine Eq.trans (D_iadd gk_f107_77) ?_
        refine Eq.trans (D_istore gk_f107_78 gk_st107_5) ?_
        refine Eq.trans (D_iinc (x := x6) (y := 1) gk_f107_80 rfl gk_c_1 gk_st107_6) ?_
        refine Eq.trans (D_goto (t := 22) gk_f107_83 (by decide)) ?_
        rfl
      · refine Eq.trans (D_iconst (x := 0) gk_f107_76 gk_c_0) ?_
        refine Eq.trans (D_iadd gk_f107_77) ?_
        refine Eq.trans (D_istore gk_f107_78 gk_st107_5) ?_
        refine Eq.trans (D_iinc (x := x6) (y := 1) gk_f107_80 rfl gk_c_1 gk_st107_6) ?_
        refine Eq.trans (D_goto (t := 22) gk_f107_83 (by decide)) ?_
        rfl
  · refine Eq.trans (D_iload (x := x4) gk_f107_86 rfl) ?_
    refine Eq.trans (D_iload_n (x := x2) gk_f107_88 rfl) ?_
    refine Eq.trans (D_ic_gt (t := 108) gk_f107_89 (by decide)) ?_
    refine gd_ite (fun h12 => ?_) (fun h13 => ?_)
    · refine Eq.trans (D_iinc (x := x3) (y := 1) gk_f107_108 rfl gk_c_1 gk_st107_3) ?_
      refine Eq.trans (D_goto (t := 8) gk_f107_111 (by decide)) ?_
      rfl
    · refine Eq.trans (D_iload_n (x := x2) gk_f107_92 rfl) ?_
      refine Eq.trans (D_iload (x := x4) gk_f107_93 rfl) ?_
      refine Eq.trans (D_iload (x := x5) gk_f107_95 rfl) ?_
      refine Eq.trans (D_iadd gk_f107_97) ?_
      refine Eq.trans (D_ic_ge (t := 108) gk_f107_98 (by decide)) ?_
      refine gd_ite (fun h14 => ?_) (fun h15 => ?_)
      · refine Eq.trans (D_aload_n (x := r0) gk_f107_101 rfl) ?_
        refine Eq.trans (D_gfR gk_f107_102 (by decide)) ?_
        refine gd_ite (fun h16 => ?_) (fun _ => rfl)
        refine Eq.trans (D_iload_n (x := x3) gk_f107_105 rfl) ?_
        refine Eq.trans (D_iald gk_f107_106 gk_n10_107) ?_
        refine gd_ite (fun h17 => ?_) (fun _ => rfl)
        refine Eq.trans (D_ireturn gk_f107_107 gk_rk107) ?_
        rfl
      · refine Eq.trans (D_iinc (x := x3) (y := 1) gk_f107_108 rfl gk_c_1 gk_st107_3) ?_
        refine Eq.trans (D_goto (t := 8) gk_f107_111 (by decide)) ?_
        rfl
/-! java/lang/Math.abs (I)I -/
set_option maxRecDepth 20000 in
theorem gk_f108_0 : gd_fetch 108 0 = some (0, .iload_n 0, 1, 0, 0, 0, 0, 0) := rfl
set_option maxRecDepth 20000 in
theorem gk_f108_1 : gd_fetch 108 1 = some (1, .ifCond .ge 8, 3, 0, 0, 0, 0, 0) := rfl
set_option maxRecDepth 20000 in
theorem gk_f108_4 : gd_fetch 108 4 = some (4, .iload_n 0, 1, 0, 0, 0, 0, 0) := rfl
set_option maxRecDepth 20000 in
theorem gk_f108_5 : gd_fetch 108 5 = some (5, .ineg, 1, 0, 0, 0, 0, 0) := rfl
set_option maxRecDepth 20000 in
theorem gk_f108_6 : gd_fetch 108 6 = some (6, .goto 4, 3, 0, 0, 0, 0, 0) := rfl
set_option maxRecDepth 20000 in
theorem gk_f108_9 : gd_fetch 108 9 = some (9, .iload_n 0, 1, 0, 0, 0, 0, 0) := rfl
set_option maxRecDepth 20000 in
theorem gk_f108_10 : gd_fetch 108 10 = some (10, .ireturn, 1, 0, 0, 0, 0, 0) := rfl
set_option maxRecDepth 20000 in
set_option maxHeartbeats 4000000 in
theorem q_Ma_abs (x0 : Int32) (m : gd_M) : gd_call 108 [.int x0] m = if (x0 < 0 : Prop) then (some (.int (-x0), m)) else (some (.int x0, m)) := by
  refine Eq.trans (show gd_call 108 [.int x0] m = gd_Den (108, 0, [.int x0], [], m) from by unfold gd_call gd_ent; rw [gk_ml108]; rfl) ?_
  refine Eq.trans (D_iload_n (x := x0) gk_f108_0 rfl) ?_
  refine Eq.trans (D_if_ge (t := 9) gk_f108_1 (by decide)) ?_
  refine gd_ite (fun h1 => ?_) (fun h2 => ?_)
  · refine Eq.trans (D_iload_n (x := x0) gk_f108_4 rfl) ?_
    refine Eq.trans (D_ineg gk_f108_5) ?_
    refine Eq.trans (D_goto (t := 10) gk_f108_6 (by decide)) ?_
    refine Eq.trans (D_ireturn gk_f108_10 gk_rk108) ?_
    rfl
  · refine Eq.trans (D_iload_n (x := x0) gk_f108_9 rfl) ?_
    refine Eq.trans (D_ireturn gk_f108_10 gk_rk108) ?_
    rfl
/-! GymDesk$Routine.askStrays (II)V -/
set_option maxRecDepth 20000 in
theorem gk_f109_0 : gd_fetch 109 0 = some (0, .aload_n 0, 1, 0, 0, 0, 0, 0) := rfl
set_option maxRecDepth 20000 in
theorem gk_f109_1 : gd_fetch 109 1 = some (1, .iload_n 1, 1, 0, 0, 0, 0, 0) := rfl
set_option maxRecDepth 20000 in
theorem gk_f109_2 : gd_fetch 109 2 = some (2, .invokevirtual 61, 3, 733, 107, 1, 0, 0) := rfl
set_option maxRecDepth 20000 in
theorem gk_f109_5 : gd_fetch 109 5 = some (5, .istore_n 3, 1, 0, 0, 0, 0, 0) := rfl
set_option maxRecDepth 20000 in
theorem gk_f109_6 : gd_fetch 109 6 = some (6, .iconst 0, 1, 0, 0, 0, 0, 0) := rfl
set_option maxRecDepth 20000 in
theorem gk_f109_7 : gd_fetch 109 7 = some (7, .istore 4, 2, 0, 0, 0, 0, 0) := rfl
set_option maxRecDepth 20000 in
theorem gk_f109_9 : gd_fetch 109 9 = some (9, .iload 4, 2, 0, 0, 0, 0, 0) := rfl
set_option maxRecDepth 20000 in
theorem gk_f109_11 : gd_fetch 109 11 = some (11, .iload_n 1, 1, 0, 0, 0, 0, 0) := rfl
set_option maxRecDepth 20000 in
theorem gk_f109_12 : gd_fetch 109 12 = some (12, .if_icmp .ge 38, 3, 0, 0, 0, 0, 0) := rfl
set_option maxRecDepth 20000 in
theorem gk_f109_15 : gd_fetch 109 15 = some (15, .aload_n 0, 1, 0, 0, 0, 0, 0) := rfl
set_option maxRecDepth 20000 in
theorem gk_f109_16 : gd_fetch 109 16 = some (16, .getfield 15, 3, 402, 4, 1, 4, 1) := rfl
set_option maxRecDepth 20000 in
theorem gk_f109_19 : gd_fetch 109 19 = some (19, .iload 4, 2, 0, 0, 0, 0, 0) := rfl
set_option maxRecDepth 20000 in
theorem gk_f109_21 : gd_fetch 109 21 = some (21, .iaload, 1, 0, 0, 0, 0, 0) := rfl
set_option maxRecDepth 20000 in
theorem gk_f109_22 : gd_fetch 109 22 = some (22, .iload_n 3, 1, 0, 0, 0, 0, 0) := rfl
set_option maxRecDepth 20000 in
theorem gk_f109_23 : gd_fetch 109 23 = some (23, .isub, 1, 0, 0, 0, 0, 0) := rfl
set_option maxRecDepth 20000 in
theorem gk_f109_24 : gd_fetch 109 24 = some (24, .invokestatic 65, 3, 737, 108, 1, 0, 0) := rfl
set_option maxRecDepth 20000 in
theorem gk_f109_27 : gd_fetch 109 27 = some (27, .iload_n 2, 1, 0, 0, 0, 0, 0) := rfl
set_option maxRecDepth 20000 in
theorem gk_f109_28 : gd_fetch 109 28 = some (28, .if_icmp .le 16, 3, 0, 0, 0, 0, 0) := rfl
set_option maxRecDepth 20000 in
theorem gk_f109_31 : gd_fetch 109 31 = some (31, .aload_n 0, 1, 0, 0, 0, 0, 0) := rfl
set_option maxRecDepth 20000 in
theorem gk_f109_32 : gd_fetch 109 32 = some (32, .dup, 1, 0, 0, 0, 0, 0) := rfl
set_option maxRecDepth 20000 in
theorem gk_f109_33 : gd_fetch 109 33 = some (33, .getfield 38, 3, 415, 4, 8, 0, 0) := rfl
set_option maxRecDepth 20000 in
theorem gk_f109_36 : gd_fetch 109 36 = some (36, .iconst 1, 1, 0, 0, 0, 0, 0) := rfl
set_option maxRecDepth 20000 in
theorem gk_f109_37 : gd_fetch 109 37 = some (37, .iload 4, 2, 0, 0, 0, 0, 0) := rfl
set_option maxRecDepth 20000 in
theorem gk_f109_39 : gd_fetch 109 39 = some (39, .ishl, 1, 0, 0, 0, 0, 0) := rfl
set_option maxRecDepth 20000 in
theorem gk_f109_40 : gd_fetch 109 40 = some (40, .ior, 1, 0, 0, 0, 0, 0) := rfl
set_option maxRecDepth 20000 in
theorem gk_f109_41 : gd_fetch 109 41 = some (41, .putfield 38, 3, 415, 4, 8, 0, 0) := rfl
set_option maxRecDepth 20000 in
theorem gk_f109_44 : gd_fetch 109 44 = some (44, .iinc 4 1, 3, 0, 0, 0, 0, 0) := rfl
set_option maxRecDepth 20000 in
theorem gk_f109_47 : gd_fetch 109 47 = some (47, .goto (-38), 3, 0, 0, 0, 0, 0) := rfl
set_option maxRecDepth 20000 in
theorem gk_f109_50 : gd_fetch 109 50 = some (50, .return_, 1, 0, 0, 0, 0, 0) := rfl
set_option maxRecDepth 20000 in
set_option maxHeartbeats 4000000 in
theorem q_Ro_askStrays (r0 : Nat) (x1 : Int32) (x2 : Int32) (m : gd_M) : gd_call 109 [.ref r0, .int x1, .int x2] m = if gd_ok (gN m) r0 4 = true then ((gd_call 107 [.ref r0, .int x1] m).bind (gd_kI fun z4 m2 => gd_Den (109, 9, [.ref r0, .int x1, .int x2, .int z4, .int 0], [], m2))) else none := by
  refine Eq.trans (show gd_call 109 [.ref r0, .int x1, .int x2] m = gd_Den (109, 0, [.ref r0, .int x1, .int x2, .null, .null], [], m) from by unfold gd_call gd_ent; rw [gk_ml109]; rfl) ?_
  refine Eq.trans (D_aload_n (x := r0) gk_f109_0 rfl) ?_
  refine Eq.trans (D_iload_n (x := x1) gk_f109_1 rfl) ?_
  refine Eq.trans (D_ivI (cl := 4) (args := [.ref r0, .int x1]) (rest := []) gk_f109_2 rfl rfl (gd_rmk gk_rm109_107 gk_ln107 gk_ml107 rfl rfl rfl) gk_rk107 (gd_hnd_n gk_nc109) gk_nc107 gk_n11_107 gk_cl107) ?_
  refine gd_ite (fun h1 => ?_) (fun _ => rfl)
  refine gd_bnd (gd_kI_c fun z4 m2 => ?_)
  refine Eq.trans (D_istore_n gk_f109_5 gk_st109_3) ?_
  refine Eq.trans (D_iconst (x := 0) gk_f109_6 gk_c_0) ?_
  refine Eq.trans (D_istore gk_f109_7 gk_st109_4) ?_
  rfl
set_option maxRecDepth 20000 in
set_option maxHeartbeats 4000000 in
theorem q_Ro_askStrays_9 (r0 : Nat) (x1 : Int32) (x2 : Int32) (x3 : Int32) (x4 : Int32) (m : gd_M) : gd_Den (109, 9, [.ref r0, .int x1, .int x2, .int x3, .int x4], [], m) = if (x4 < x1 : Prop) then (if gd_ok (gN m) r0 4 = true then (if gd_okA (gN m) (gR m r0 1) 10 x4 = true then ((gd_call 108 [.int ((gI m (gR m r0 1) (x4 : Int32).toNatClampNeg) - x3)] m).bind (gd_k0I fun z7 m5 => if (x2 < z7 : Prop) then (if gd_ok (gN m5) r0 4 = true then (gd_Den (109, 9, [.ref r0, .int x1, .int x2, .int x3, .int (x4 + 1)], [], (wI m5 r0 8 ((gI m5 r0 8) ||| ((1 : Int32) <<< (x4 &&& 31)))))) else none) else (gd_Den (109, 9, [.ref r0, .int x1, .int x2, .int x3, .int (x4 + 1)], [], m5)))) else none) else none) else (some (.null, m)) := by
  refine Eq.trans (D_iload (x := x4) gk_f109_9 rfl) ?_
  refine Eq.trans (D_iload_n (x := x1) gk_f109_11 rfl) ?_
  refine Eq.trans (D_ic_ge (t := 50) gk_f109_12 (by decide)) ?_
  refine gd_ite (fun h1 => ?_) (fun h2 => ?_)
  · refine Eq.trans (D_aload_n (x := r0) gk_f109_15 rfl) ?_
    refine Eq.trans (D_gfR gk_f109_16 (by decide)) ?_
    refine gd_ite (fun h3 => ?_) (fun _ => rfl)
    refine Eq.trans (D_iload (x := x4) gk_f109_19 rfl) ?_
    refine Eq.trans (D_iald gk_f109_21 gk_n10_109) ?_
    refine gd_ite (fun h4 => ?_) (fun _ => rfl)
    refine Eq.trans (D_iload_n (x := x3) gk_f109_22 rfl) ?_
    refine Eq.trans (D_isub gk_f109_23) ?_
    refine Eq.trans (D_isI (args := [.int ((gI m (gR m r0 1) (x4 : Int32).toNatClampNeg) - x3)]) (rest := []) gk_f109_24 rfl rfl rfl (gd_rmk gk_rm109_108 gk_ln108 gk_ml108 rfl rfl rfl) gk_rk108 (gd_hnd_n gk_nc109)) ?_
    refine gd_bnd (gd_k0I_c fun z7 m5 => ?_)
    refine Eq.trans (D_iload_n (x := x2) gk_f109_27 rfl) ?_
    refine Eq.trans (D_ic_le (t := 44) gk_f109_28 (by decide)) ?_
    refine gd_ite (fun h8 => ?_) (fun h9 => ?_)
    · refine Eq.trans (D_aload_n (x := r0) gk_f109_31 rfl) ?_
      refine Eq.trans (D_dupR gk_f109_32) ?_
      refine Eq.trans (D_gfI gk_f109_33 (by decide) (by decide) (by decide)) ?_
      refine gd_ite (fun h10 => ?_) (fun _ => rfl)
      refine Eq.trans (D_iconst (x := 1) gk_f109_36 gk_c_1) ?_
      refine Eq.trans (D_iload (x := x4) gk_f109_37 rfl) ?_
      refine Eq.trans (D_ishl gk_f109_39) ?_
      refine Eq.trans (D_ior gk_f109_40) ?_
      refine Eq.trans (D_pfI gk_f109_41) ?_
      refine Eq.trans (if_pos h10) ?_
      refine Eq.trans (D_iinc (x := x4) (y := 1) gk_f109_44 rfl gk_c_1 gk_st109_4) ?_
      refine Eq.trans (D_goto (t := 9) gk_f109_47 (by decide)) ?_
      rfl
    · refine Eq.trans (D_iinc (x := x4) (y := 1) gk_f109_44 rfl gk_c_1 gk_st109_4) ?_
      refine Eq.trans (D_goto (t := 9) gk_f109_47 (by decide)) ?_
      rfl
  · refine Eq.trans (D_vreturn gk_f109_50 gk_rk109) ?_
    rfl
/-! GymDesk$Routine.putMark (IIII)V -/
set_option maxRecDepth 20000 in
theorem gk_f110_0 : gd_fetch 110 0 = some (0, .aload_n 0, 1, 0, 0, 0, 0, 0) := rfl
set_option maxRecDepth 20000 in
theorem gk_f110_1 : gd_fetch 110 1 = some (1, .getfield 15, 3, 402, 4, 1, 4, 1) := rfl
set_option maxRecDepth 20000 in
theorem gk_f110_4 : gd_fetch 110 4 = some (4, .iload_n 1, 1, 0, 0, 0, 0, 0) := rfl
set_option maxRecDepth 20000 in
theorem gk_f110_5 : gd_fetch 110 5 = some (5, .iaload, 1, 0, 0, 0, 0, 0) := rfl
set_option maxRecDepth 20000 in
theorem gk_f110_6 : gd_fetch 110 6 = some (6, .iconst (-1), 1, 0, 0, 0, 0, 0) := rfl
set_option maxRecDepth 20000 in
theorem gk_f110_7 : gd_fetch 110 7 = some (7, .if_icmp .ne 7, 3, 0, 0, 0, 0, 0) := rfl
set_option maxRecDepth 20000 in
theorem gk_f110_10 : gd_fetch 110 10 = some (10, .iconst 1, 1, 0, 0, 0, 0, 0) := rfl
set_option maxRecDepth 20000 in
theorem gk_f110_11 : gd_fetch 110 11 = some (11, .goto 4, 3, 0, 0, 0, 0, 0) := rfl
set_option maxRecDepth 20000 in
theorem gk_f110_14 : gd_fetch 110 14 = some (14, .iconst 0, 1, 0, 0, 0, 0, 0) := rfl
set_option maxRecDepth 20000 in
theorem gk_f110_15 : gd_fetch 110 15 = some (15, .istore 5, 2, 0, 0, 0, 0, 0) := rfl
set_option maxRecDepth 20000 in
theorem gk_f110_17 : gd_fetch 110 17 = some (17, .aload_n 0, 1, 0, 0, 0, 0, 0) := rfl
set_option maxRecDepth 20000 in
theorem gk_f110_18 : gd_fetch 110 18 = some (18, .getfield 15, 3, 402, 4, 1, 4, 1) := rfl
set_option maxRecDepth 20000 in
theorem gk_f110_21 : gd_fetch 110 21 = some (21, .iload_n 1, 1, 0, 0, 0, 0, 0) := rfl
set_option maxRecDepth 20000 in
theorem gk_f110_22 : gd_fetch 110 22 = some (22, .iload_n 2, 1, 0, 0, 0, 0, 0) := rfl
set_option maxRecDepth 20000 in
theorem gk_f110_23 : gd_fetch 110 23 = some (23, .iastore, 1, 0, 0, 0, 0, 0) := rfl
set_option maxRecDepth 20000 in
theorem gk_f110_24 : gd_fetch 110 24 = some (24, .aload_n 0, 1, 0, 0, 0, 0, 0) := rfl
set_option maxRecDepth 20000 in
theorem gk_f110_25 : gd_fetch 110 25 = some (25, .dup, 1, 0, 0, 0, 0, 0) := rfl
set_option maxRecDepth 20000 in
theorem gk_f110_26 : gd_fetch 110 26 = some (26, .getfield 38, 3, 415, 4, 8, 0, 0) := rfl
set_option maxRecDepth 20000 in
theorem gk_f110_29 : gd_fetch 110 29 = some (29, .iconst 1, 1, 0, 0, 0, 0, 0) := rfl
set_option maxRecDepth 20000 in
theorem gk_f110_30 : gd_fetch 110 30 = some (30, .iload_n 1, 1, 0, 0, 0, 0, 0) := rfl
set_option maxRecDepth 20000 in
theorem gk_f110_31 : gd_fetch 110 31 = some (31, .ishl, 1, 0, 0, 0, 0, 0) := rfl
set_option maxRecDepth 20000 in
theorem gk_f110_32 : gd_fetch 110 32 = some (32, .iconst (-1), 1, 0, 0, 0, 0, 0) := rfl
set_option maxRecDepth 20000 in
theorem gk_f110_33 : gd_fetch 110 33 = some (33, .ixor, 1, 0, 0, 0, 0, 0) := rfl
set_option maxRecDepth 20000 in
theorem gk_f110_34 : gd_fetch 110 34 = some (34, .iand, 1, 0, 0, 0, 0, 0) := rfl
set_option maxRecDepth 20000 in
theorem gk_f110_35 : gd_fetch 110 35 = some (35, .putfield 38, 3, 415, 4, 8, 0, 0) := rfl
set_option maxRecDepth 20000 in
theorem gk_f110_38 : gd_fetch 110 38 = some (38, .iload 5, 2, 0, 0, 0, 0, 0) := rfl
set_option maxRecDepth 20000 in
theorem gk_f110_40 : gd_fetch 110 40 = some (40, .ifCond .eq 28, 3, 0, 0, 0, 0, 0) := rfl
set_option maxRecDepth 20000 in
theorem gk_f110_43 : gd_fetch 110 43 = some (43, .aload_n 0, 1, 0, 0, 0, 0, 0) := rfl
set_option maxRecDepth 20000 in
theorem gk_f110_44 : gd_fetch 110 44 = some (44, .dup, 1, 0, 0, 0, 0, 0) := rfl
set_option maxRecDepth 20000 in
theorem gk_f110_45 : gd_fetch 110 45 = some (45, .getfield 35, 3, 413, 4, 7, 0, 0) := rfl
set_option maxRecDepth 20000 in
theorem gk_f110_48 : gd_fetch 110 48 = some (48, .iconst 1, 1, 0, 0, 0, 0, 0) := rfl
set_option maxRecDepth 20000 in
theorem gk_f110_49 : gd_fetch 110 49 = some (49, .iadd, 1, 0, 0, 0, 0, 0) := rfl
set_option maxRecDepth 20000 in
theorem gk_f110_50 : gd_fetch 110 50 = some (50, .putfield 35, 3, 413, 4, 7, 0, 0) := rfl
set_option maxRecDepth 20000 in
theorem gk_f110_53 : gd_fetch 110 53 = some (53, .aload_n 0, 1, 0, 0, 0, 0, 0) := rfl
set_option maxRecDepth 20000 in
theorem gk_f110_54 : gd_fetch 110 54 = some (54, .getfield 35, 3, 413, 4, 7, 0, 0) := rfl
set_option maxRecDepth 20000 in
theorem gk_f110_57 : gd_fetch 110 57 = some (57, .iload_n 3, 1, 0, 0, 0, 0, 0) := rfl
set_option maxRecDepth 20000 in
theorem gk_f110_58 : gd_fetch 110 58 = some (58, .if_icmp .ne 10, 3, 0, 0, 0, 0, 0) := rfl
set_option maxRecDepth 20000 in
theorem gk_f110_61 : gd_fetch 110 61 = some (61, .aload_n 0, 1, 0, 0, 0, 0, 0) := rfl
set_option maxRecDepth 20000 in
theorem gk_f110_62 : gd_fetch 110 62 = some (62, .iload_n 3, 1, 0, 0, 0, 0, 0) := rfl
set_option maxRecDepth 20000 in
theorem gk_f110_63 : gd_fetch 110 63 = some (63, .iload 4, 2, 0, 0, 0, 0, 0) := rfl
set_option maxRecDepth 20000 in
theorem gk_f110_65 : gd_fetch 110 65 = some (65, .invokevirtual 57, 3, 729, 109, 2, 0, 0) := rfl
set_option maxRecDepth 20000 in
theorem gk_f110_68 : gd_fetch 110 68 = some (68, .return_, 1, 0, 0, 0, 0, 0) := rfl
set_option maxRecDepth 20000 in
set_option maxHeartbeats 4000000 in
theorem q_Ro_putMark (r0 : Nat) (x1 : Int32) (x2 : Int32) (x3 : Int32) (x4 : Int32) (m : gd_M) : gd_call 110 [.ref r0, .int x1, .int x2, .int x3, .int x4] m = if gd_ok (gN m) r0 4 = true then (if gd_okA (gN m) (gR m r0 1) 10 x1 = true then (if ((gI m (gR m r0 1) (x1 : Int32).toNatClampNeg) = (-1) : Prop) then (if ((gI (wI (wI (wI m (gR m r0 1) (x1 : Int32).toNatClampNeg x2) r0 8 ((gI (wI m (gR m r0 1) (x1 : Int32).toNatClampNeg x2) r0 8) &&& (((1 : Int32) <<< (x1 &&& 31)) ^^^ (-1)))) r0 7 ((gI (wI (wI m (gR m r0 1) (x1 : Int32).toNatClampNeg x2) r0 8 ((gI (wI m (gR m r0 1) (x1 : Int32).toNatClampNeg x2) r0 8) &&& (((1 : Int32) <<< (x1 &&& 31)) ^^^ (-1)))) r0 7) + 1)) r0 7) = x3 : Prop) then ((gd_call 109 [.ref r0, .int x3, .int x4] (wI (wI (wI m (gR m r0 1) (x1 : Int32).toNatClampNeg x2) r0 8 ((gI (wI m (gR m r0 1) (x1 : Int32).toNatClampNeg x2) r0 8) &&& (((1 : Int32) <<< (x1 &&& 31)) ^^^ (-1)))) r0 7 ((gI (wI (wI m (gR m r0 1) (x1 : Int32).toNatClampNeg x2) r0 8 ((gI (wI m (gR m r0 1) (x1 : Int32).toNatClampNeg x2) r0 8) &&& (((1 : Int32) <<< (x1 &&& 31)) ^^^ (-1)))) r0 7) + 1))).bind (gd_kV fun m7 => some (.null, m7))) else (some (.null, (wI (wI (wI m (gR m r0 1) (x1 : Int32).toNatClampNeg x2) r0 8 ((gI (wI m (gR m r0 1) (x1 : Int32).toNatClampNeg x2) r0 8) &&& (((1 : Int32) <<< (x1 &&& 31)) ^^^ (-1)))) r0 7 ((gI (wI (wI m (gR m r0 1) (x1 : Int32).toNatClampNeg x2) r0 8 ((gI (wI m (gR m r0 1) (x1 : Int32).toNatClampNeg x2) r0 8) &&& (((1 : Int32) <<< (x1 &&& 31)) ^^^ (-1)))) r0 7) + 1))))) else (some (.null, (wI (wI m (gR m r0 1) (x1 : Int32).toNatClampNeg x2) r0 8 ((gI (wI m (gR m r0 1) (x1 : Int32).toNatClampNeg x2) r0 8) &&& (((1 : Int32) <<< (x1 &&& 31)) ^^^ (-1))))))) else none) else none := by
  refine Eq.trans (show gd_call 110 [.ref r0, .int x1, .int x2, .int x3, .int x4] m = gd_Den (110, 0, [.ref r0, .int x1, .int x2, .int x3, .int x4, .null], [], m) from by unfold gd_call gd_ent; rw [gk_ml110]; rfl) ?_
  refine Eq.trans (D_aload_n (x := r0) gk_f110_0 rfl) ?_
  refine Eq.trans (D_gfR gk_f110_1 (by decide)) ?_
  refine gd_ite (fun h1 => ?_) (fun _ => rfl)
  refine Eq.trans (D_iload_n (x := x1) gk_f110_4 rfl) ?_
  refine Eq.trans (D_iald gk_f110_5 gk_n10_110) ?_
  refine gd_ite (fun h2 => ?_) (fun _ => rfl)
  refine Eq.trans (D_iconst (x := (-1)) gk_f110_6 gk_c_m1) ?_
  refine Eq.trans (D_ic_ne (t := 14) gk_f110_7 (by decide)) ?_
  refine gd_ite (fun h3 => ?_) (fun h4 => ?_)
  · refine Eq.trans (D_iconst (x := 1) gk_f110_10 gk_c_1) ?_
    refine Eq.trans (D_goto (t := 15) gk_f110_11 (by decide)) ?_
    refine Eq.trans (D_istore gk_f110_15 gk_st110_5) ?_
    refine Eq.trans (D_aload_n (x := r0) gk_f110_17 rfl) ?_
    refine Eq.trans (D_gfR gk_f110_18 (by decide)) ?_
    refine Eq.trans (if_pos h1) ?_
    refine Eq.trans (D_iload_n (x := x1) gk_f110_21 rfl) ?_
    refine Eq.trans (D_iload_n (x := x2) gk_f110_22 rfl) ?_
    refine Eq.trans (D_iast gk_f110_23) ?_
    refine Eq.trans (if_pos h2) ?_
    refine Eq.trans (D_aload_n (x := r0) gk_f110_24 rfl) ?_
    refine Eq.trans (D_dupR gk_f110_25) ?_
    refine Eq.trans (D_gfI gk_f110_26 (by decide) (by decide) (by decide)) ?_
    refine Eq.trans (if_pos h1) ?_
    refine Eq.trans (D_iconst (x := 1) gk_f110_29 gk_c_1) ?_
    refine Eq.trans (D_iload_n (x := x1) gk_f110_30 rfl) ?_
    refine Eq.trans (D_ishl gk_f110_31) ?_
    refine Eq.trans (D_iconst (x := (-1)) gk_f110_32 gk_c_m1) ?_
    refine Eq.trans (D_ixor gk_f110_33) ?_
    refine Eq.trans (D_iand gk_f110_34) ?_
    refine Eq.trans (D_pfI gk_f110_35) ?_
    refine Eq.trans (if_pos h1) ?_
    refine Eq.trans (D_iload (x := 1) gk_f110_38 rfl) ?_
    refine Eq.trans (D_if_eq (t := 68) gk_f110_40 (by decide)) ?_
    refine Eq.trans (if_neg (by decide)) ?_
    refine Eq.trans (D_aload_n (x := r0) gk_f110_43 rfl) ?_
    refine Eq.trans (D_dupR gk_f110_44) ?_
    refine Eq.trans (D_gfI gk_f110_45 (by decide) (by decide) (by decide)) ?_
    refine Eq.trans (if_pos h1) ?_
    refine Eq.trans (D_iconst (x := 1) gk_f110_48 gk_c_1) ?_
    refine Eq.trans (D_iadd gk_f110_49) ?_
    refine Eq.trans (D_pfI gk_f110_50) ?_
    refine Eq.trans (if_pos h1) ?_
    refine Eq.trans (D_aload_n (x := r0) gk_f110_53 rfl) ?_
    refine Eq.trans (D_gfI gk_f110_54 (by decide) (by decide) (by decide)) ?_
    refine Eq.trans (if_pos h1) ?_
    refine Eq.trans (D_iload_n (x := x3) gk_f110_57 rfl) ?_
    refine Eq.trans (D_ic_ne (t := 68) gk_f110_58 (by decide)) ?_
    refine gd_ite (fun h5 => ?_) (fun h6 => ?_)
    · refine Eq.trans (D_aload_n (x := r0) gk_f110_61 rfl) ?_
      refine Eq.trans (D_iload_n (x := x3) gk_f110_62 rfl) ?_
      refine Eq.trans (D_iload (x := x4) gk_f110_63 rfl) ?_
      refine Eq.trans (D_ivV (cl := 4) (args := [.ref r0, .int x3, .int x4]) (rest := []) gk_f110_65 rfl rfl (gd_rmk gk_rm110_109 gk_ln109 gk_ml109 rfl rfl rfl) gk_rk109 (gd_hnd_n gk_nc110) gk_nc109 gk_n11_109 gk_cl109) ?_
      refine Eq.trans (if_pos h1) ?_
      refine gd_bnd (gd_kV_c fun m7 => ?_)
      refine Eq.trans (D_vreturn gk_f110_68 gk_rk110) ?_
      rfl
    · refine Eq.trans (D_vreturn gk_f110_68 gk_rk110) ?_
      rfl
  · refine Eq.trans (D_iconst (x := 0) gk_f110_14 gk_c_0) ?_
    refine Eq.trans (D_istore gk_f110_15 gk_st110_5) ?_
    refine Eq.trans (D_aload_n (x := r0) gk_f110_17 rfl) ?_
    refine Eq.trans (D_gfR gk_f110_18 (by decide)) ?_
    refine Eq.trans (if_pos h1) ?_
    refine Eq.trans (D_iload_n (x := x1) gk_f110_21 rfl) ?_
    refine Eq.trans (D_iload_n (x := x2) gk_f110_22 rfl) ?_
    refine Eq.trans (D_iast gk_f110_23) ?_
    refine Eq.trans (if_pos h2) ?_
    refine Eq.trans (D_aload_n (x := r0) gk_f110_24 rfl) ?_
    refine Eq.trans (D_dupR gk_f110_25) ?_
    refine Eq.trans (D_gfI gk_f110_26 (by decide) (by decide) (by decide)) ?_
    refine Eq.trans (if_pos h1) ?_
    refine Eq.trans (D_iconst (x := 1) gk_f110_29 gk_c_1) ?_
    refine Eq.trans (D_iload_n (x := x1) gk_f110_30 rfl) ?_
    refine Eq.trans (D_ishl gk_f110_31) ?_
    refine Eq.trans (D_iconst (x := (-1)) gk_f110_32 gk_c_m1) ?_
    refine Eq.trans (D_ixor gk_f110_33) ?_
    refine Eq.trans (D_iand gk_f110_34) ?_
    refine Eq.trans (D_pfI gk_f110_35) ?_
    refine Eq.trans (if_pos h1) ?_
    refine Eq.trans (D_iload (x := 0) gk_f110_38 rfl) ?_
    refine Eq.trans (D_if_eq (t := 68) gk_f110_40 (by decide)) ?_
    refine Eq.trans (if_pos (by decide)) ?_
    refine Eq.trans (D_vreturn gk_f110_68 gk_rk110) ?_
    rfl
/-! GymDesk.mark (IIII)I -/
set_option maxRecDepth 20000 in
theorem gk_f111_0 : gd_fetch 111 0 = some (0, .aload_n 0, 1, 0, 0, 0, 0, 0) := rfl
set_option maxRecDepth 20000 in
theorem gk_f111_1 : gd_fetch 111 1 = some (1, .iload_n 1, 1, 0, 0, 0, 0, 0) := rfl
set_option maxRecDepth 20000 in
theorem gk_f111_2 : gd_fetch 111 2 = some (2, .iload_n 2, 1, 0, 0, 0, 0, 0) := rfl
set_option maxRecDepth 20000 in
theorem gk_f111_3 : gd_fetch 111 3 = some (3, .invokevirtual 124, 3, 685, 93, 2, 0, 0) := rfl
set_option maxRecDepth 20000 in
theorem gk_f111_6 : gd_fetch 111 6 = some (6, .astore 5, 2, 0, 0, 0, 0, 0) := rfl
set_option maxRecDepth 20000 in
theorem gk_f111_8 : gd_fetch 111 8 = some (8, .aload 5, 2, 0, 0, 0, 0, 0) := rfl
set_option maxRecDepth 20000 in
theorem gk_f111_10 : gd_fetch 111 10 = some (10, .ifnull 23, 3, 0, 0, 0, 0, 0) := rfl
set_option maxRecDepth 20000 in
theorem gk_f111_13 : gd_fetch 111 13 = some (13, .aload_n 0, 1, 0, 0, 0, 0, 0) := rfl
set_option maxRecDepth 20000 in
theorem gk_f111_14 : gd_fetch 111 14 = some (14, .iload_n 3, 1, 0, 0, 0, 0, 0) := rfl
set_option maxRecDepth 20000 in
theorem gk_f111_15 : gd_fetch 111 15 = some (15, .invokevirtual 148, 3, 717, 105, 1, 0, 0) := rfl
set_option maxRecDepth 20000 in
theorem gk_f111_18 : gd_fetch 111 18 = some (18, .ifCond .eq 15, 3, 0, 0, 0, 0, 0) := rfl
set_option maxRecDepth 20000 in
theorem gk_f111_21 : gd_fetch 111 21 = some (21, .iload 4, 2, 0, 0, 0, 0, 0) := rfl
set_option maxRecDepth 20000 in
theorem gk_f111_23 : gd_fetch 111 23 = some (23, .ifCond .lt 10, 3, 0, 0, 0, 0, 0) := rfl
set_option maxRecDepth 20000 in
theorem gk_f111_26 : gd_fetch 111 26 = some (26, .iload 4, 2, 0, 0, 0, 0, 0) := rfl
set_option maxRecDepth 20000 in
theorem gk_f111_28 : gd_fetch 111 28 = some (28, .bipush 100, 2, 0, 0, 0, 0, 0) := rfl
set_option maxRecDepth 20000 in
theorem gk_f111_30 : gd_fetch 111 30 = some (30, .if_icmp .le 6, 3, 0, 0, 0, 0, 0) := rfl
set_option maxRecDepth 20000 in
theorem gk_f111_33 : gd_fetch 111 33 = some (33, .bipush (-2), 2, 0, 0, 0, 0, 0) := rfl
set_option maxRecDepth 20000 in
theorem gk_f111_35 : gd_fetch 111 35 = some (35, .ireturn, 1, 0, 0, 0, 0, 0) := rfl
set_option maxRecDepth 20000 in
theorem gk_f111_36 : gd_fetch 111 36 = some (36, .aload 5, 2, 0, 0, 0, 0, 0) := rfl
set_option maxRecDepth 20000 in
theorem gk_f111_38 : gd_fetch 111 38 = some (38, .invokevirtual 138, 3, 705, 100, 0, 0, 0) := rfl
set_option maxRecDepth 20000 in
theorem gk_f111_41 : gd_fetch 111 41 = some (41, .ifCond .eq 12, 3, 0, 0, 0, 0, 0) := rfl
set_option maxRecDepth 20000 in
theorem gk_f111_44 : gd_fetch 111 44 = some (44, .aload 5, 2, 0, 0, 0, 0, 0) := rfl
set_option maxRecDepth 20000 in
theorem gk_f111_46 : gd_fetch 111 46 = some (46, .iload_n 3, 1, 0, 0, 0, 0, 0) := rfl
set_option maxRecDepth 20000 in
theorem gk_f111_47 : gd_fetch 111 47 = some (47, .invokevirtual 151, 3, 721, 106, 1, 0, 0) := rfl
set_option maxRecDepth 20000 in
theorem gk_f111_50 : gd_fetch 111 50 = some (50, .ifCond .ne 5, 3, 0, 0, 0, 0, 0) := rfl
set_option maxRecDepth 20000 in
theorem gk_f111_53 : gd_fetch 111 53 = some (53, .iconst (-1), 1, 0, 0, 0, 0, 0) := rfl
set_option maxRecDepth 20000 in
theorem gk_f111_54 : gd_fetch 111 54 = some (54, .ireturn, 1, 0, 0, 0, 0, 0) := rfl
set_option maxRecDepth 20000 in
theorem gk_f111_55 : gd_fetch 111 55 = some (55, .aload 5, 2, 0, 0, 0, 0, 0) := rfl
set_option maxRecDepth 20000 in
theorem gk_f111_57 : gd_fetch 111 57 = some (57, .iload_n 3, 1, 0, 0, 0, 0, 0) := rfl
set_option maxRecDepth 20000 in
theorem gk_f111_58 : gd_fetch 111 58 = some (58, .iload 4, 2, 0, 0, 0, 0, 0) := rfl
set_option maxRecDepth 20000 in
theorem gk_f111_60 : gd_fetch 111 60 = some (60, .aload_n 0, 1, 0, 0, 0, 0, 0) := rfl
set_option maxRecDepth 20000 in
theorem gk_f111_61 : gd_fetch 111 61 = some (61, .getfield 56, 3, 469, 6, 9, 4, 0) := rfl
set_option maxRecDepth 20000 in
theorem gk_f111_64 : gd_fetch 111 64 = some (64, .getfield 132, 3, 350, 1, 11, 4, 1) := rfl
set_option maxRecDepth 20000 in
theorem gk_f111_67 : gd_fetch 111 67 = some (67, .iconst 3, 1, 0, 0, 0, 0, 0) := rfl
set_option maxRecDepth 20000 in
theorem gk_f111_68 : gd_fetch 111 68 = some (68, .iaload, 1, 0, 0, 0, 0, 0) := rfl
set_option maxRecDepth 20000 in
theorem gk_f111_69 : gd_fetch 111 69 = some (69, .aload_n 0, 1, 0, 0, 0, 0, 0) := rfl
set_option maxRecDepth 20000 in
theorem gk_f111_70 : gd_fetch 111 70 = some (70, .getfield 56, 3, 469, 6, 9, 4, 0) := rfl
set_option maxRecDepth 20000 in
theorem gk_f111_73 : gd_fetch 111 73 = some (73, .getfield 132, 3, 350, 1, 11, 4, 1) := rfl
set_option maxRecDepth 20000 in
theorem gk_f111_76 : gd_fetch 111 76 = some (76, .iconst 4, 1, 0, 0, 0, 0, 0) := rfl
set_option maxRecDepth 20000 in
theorem gk_f111_77 : gd_fetch 111 77 = some (77, .iaload, 1, 0, 0, 0, 0, 0) := rfl
set_option maxRecDepth 20000 in
theorem gk_f111_78 : gd_fetch 111 78 = some (78, .invokevirtual 154, 3, 725, 110, 4, 0, 0) := rfl
set_option maxRecDepth 20000 in
theorem gk_f111_81 : gd_fetch 111 81 = some (81, .aload 5, 2, 0, 0, 0, 0, 0) := rfl
set_option maxRecDepth 20000 in
theorem gk_f111_83 : gd_fetch 111 83 = some (83, .getfield 158, 3, 414, 4, 7, 0, 0) := rfl
set_option maxRecDepth 20000 in
theorem gk_f111_86 : gd_fetch 111 86 = some (86, .ireturn, 1, 0, 0, 0, 0, 0) := rfl
set_option maxRecDepth 20000 in
set_option maxHeartbeats 4000000 in
theorem q_X_mark (r0 : Nat) (x1 : Int32) (x2 : Int32) (x3 : Int32) (x4 : Int32) (m : gd_M) : gd_call 111 [.ref r0, .int x1, .int x2, .int x3, .int x4] m = if gd_ok (gN m) r0 6 = true then ((gd_call 93 [.ref r0, .int x1, .int x2] m).bind (gd_kR fun o4 m2 => if o4 = 0 then (some (.int (-2), m2)) else if 8 ≤ o4 then (if gd_ok (gN m2) r0 6 = true then ((gd_call 105 [.ref r0, .int x3] m2).bind (gd_kI fun z11 m9 => if (z11 = 0 : Prop) then (some (.int (-2), m9)) else (if (x4 < 0 : Prop) then (some (.int (-2), m9)) else (if (100 < x4 : Prop) then (some (.int (-2), m9)) else (if gd_ok (gN m9) o4 4 = true then ((gd_call 100 [.ref o4] m9).bind (gd_kI fun z21 m19 => if (z21 = 0 : Prop) then (some (.int (-1), m19)) else (if gd_ok (gN m19) o4 4 = true then ((gd_call 106 [.ref o4, .int x3] m19).bind (gd_kI fun z27 m25 => if (z27 = 0 : Prop) then (some (.int (-1), m25)) else (if gd_ok (gN m25) r0 6 = true then (if gd_ok (gN m25) (gR m25 r0 9) 1 = true then (if gd_okA (gN m25) (gR m25 (gR m25 r0 9) 11) 10 3 = true then (if gd_okA (gN m25) (gR m25 (gR m25 r0 9) 11) 10 4 = true then (if gd_ok (gN m25) o4 4 = true then ((gd_call 110 [.ref o4, .int x3, .int x4, .int (gI m25 (gR m25 (gR m25 r0 9) 11) (3 : Int32).toNatClampNeg), .int (gI m25 (gR m25 (gR m25 r0 9) 11) (4 : Int32).toNatClampNeg)] m25).bind (gd_kV fun m35 => if gd_ok (gN m35) o4 4 = true then (some (.int (gI m35 o4 7), m35)) else none)) else none) else none) else none) else none) else none))) else none))) else none))))) else none) else none)) else none := by
  refine Eq.trans (show gd_call 111 [.ref r0, .int x1, .int x2, .int x3, .int x4] m = gd_Den (111, 0, [.ref r0, .int x1, .int x2, .int x3, .int x4, .null], [], m) from by unfold gd_call gd_ent; rw [gk_ml111]; rfl) ?_
  refine Eq.trans (D_aload_n (x := r0) gk_f111_0 rfl) ?_
  refine Eq.trans (D_iload_n (x := x1) gk_f111_1 rfl) ?_
  refine Eq.trans (D_iload_n (x := x2) gk_f111_2 rfl) ?_
  refine Eq.trans (D_ivR (cl := 6) (args := [.ref r0, .int x1, .int x2]) (rest := []) gk_f111_3 rfl rfl (gd_rmk gk_rm111_93 gk_ln93 gk_ml93 rfl rfl rfl) gk_rk93 (gd_hnd_n gk_nc111) gk_nc93 gk_n11_93 gk_cl93) ?_
  refine gd_ite (fun h1 => ?_) (fun _ => rfl)
  refine gd_bnd (gd_kR_c fun o4 m2 => ?_)
  refine Eq.trans (D_astore gk_f111_6 gk_st111_5) ?_
  refine Eq.trans (D_aload (x := o4) gk_f111_8 rfl) ?_
  refine Eq.trans (D_ifnull (t := 33) gk_f111_10 (by decide)) ?_
  refine gd_ite (fun h5 => ?_) (fun h6 => gd_ite (fun h7 => ?_) (fun _ => rfl))
  · refine Eq.trans (D_bipush (x := (-2)) gk_f111_33 gk_b_m2) ?_
    refine Eq.trans (D_ireturn gk_f111_35 gk_rk111) ?_
    rfl
  · refine Eq.trans (D_aload_n (x := r0) gk_f111_13 rfl) ?_
    refine Eq.trans (D_iload_n (x := x3) gk_f111_14 rfl) ?_
    refine Eq.trans (D_ivZ (cl := 6) (args := [.ref r0, .int x3]) (rest := []) gk_f111_15 rfl rfl (gd_rmk gk_rm111_105 gk_ln105 gk_ml105 rfl rfl rfl) gk_rk105 (gd_hnd_n gk_nc111) gk_nc105 gk_n11_105 gk_cl105) ?_
    refine gd_ite (fun h8 => ?_) (fun _ => rfl)
    refine gd_bnd (gd_kI_c fun z11 m9 => ?_)
    refine Eq.trans (D_if_eq (t := 33) gk_f111_18 (by decide)) ?_
    refine gd_ite (fun h12 => ?_) (fun h13 => ?_)
    · refine Eq.trans (D_bipush (x := (-2)) gk_f111_33 gk_b_m2) ?_
      refine Eq.trans (D_ireturn gk_f111_35 gk_rk111) ?_
      rfl
    · refine Eq.trans (D_iload (x := x4) gk_f111_21 rfl) ?_
      refine Eq.trans (D_if_lt (t := 33) gk_f111_23 (by decide)) ?_
      refine gd_ite (fun h14 => ?_) (fun h15 => ?_)
      · refine Eq.trans (D_bipush (x := (-2)) gk_f111_33 gk_b_m2) ?_
        refine Eq.trans (D_ireturn gk_f111_35 gk_rk111) ?_
        rfl
      · refine Eq.trans (D_iload (x := x4) gk_f111_26 rfl) ?_
        refine Eq.trans (D_bipush (x := 100) gk_f111_28 gk_b_100) ?_
        refine Eq.trans (D_ic_le (t := 36) gk_f111_30 (by decide)) ?_
        refine gd_ite (fun h16 => ?_) (fun h17 => ?_)
        · refine Eq.trans (D_bipush (x := (-2)) gk_f111_33 gk_b_m2) ?_
          refine Eq.trans (D_ireturn gk_f111_35 gk_rk111) ?_
          rfl
        · refine Eq.trans (D_aload (x := o4) gk_f111_36 rfl) ?_
          refine Eq.trans (D_ivZ (cl := 4) (args := [.ref o4]) (rest := []) gk_f111_38 rfl rfl (gd_rmk gk_rm111_100 gk_ln100 gk_ml100 rfl rfl rfl) gk_rk100 (gd_hnd_n gk_nc111) gk_nc100 gk_n11_100 gk_cl100) ?_
          refine gd_ite (fun h18 => ?_) (fun _ => rfl)
          refine gd_bnd (gd_kI_c fun z21 m19 => ?_)
          refine Eq.trans (D_if_eq (t := 53) gk_f111_41 (by decide)) ?_
          refine gd_ite (fun h22 => ?_) (fun h23 => ?_)
          · refine Eq.trans (D_iconst (x := (-1)) gk_f111_53 gk_c_m1) ?_
            refine Eq.trans (D_ireturn gk_f111_54 gk_rk111) ?_
            rfl
          · refine Eq.trans (D_aload (x := o4) gk_f111_44 rfl) ?_
            refine Eq.trans (D_iload_n (x := x3) gk_f111_46 rfl) ?_
            refine Eq.trans (D_ivZ (cl := 4) (args := [.ref o4, .int x3]) (rest := []) gk_f111_47 rfl rfl (gd_rmk gk_rm111_106 gk_ln106 gk_ml106 rfl rfl rfl) gk_rk106 (gd_hnd_n gk_nc111) gk_nc106 gk_n11_106 gk_cl106) ?_
            refine gd_ite (fun h24 => ?_) (fun _ => rfl)
            refine gd_bnd (gd_kI_c fun z27 m25 => ?_)
            refine Eq.trans (D_if_ne (t := 55) gk_f111_50 (by decide)) ?_
            refine gd_ite (fun h28 => ?_) (fun h29 => ?_)
            · refine Eq.trans (D_iconst (x := (-1)) gk_f111_53 gk_c_m1) ?_
              refine Eq.trans (D_ireturn gk_f111_54 gk_rk111) ?_
              rfl
            · refine Eq.trans (D_aload (x := o4) gk_f111_55 rfl) ?_
              refine Eq.trans (D_iload_n (x := x3) gk_f111_57 rfl) ?_
              refine Eq.trans (D_iload (x := x4) gk_f111_58 rfl) ?_
              refine Eq.trans (D_aload_n (x := r0) gk_f111_60 rfl) ?_
              refine Eq.trans (D_gfR gk_f111_61 (by decide)) ?_
              refine gd_ite (fun h30 => ?_) (fun _ => rfl)
              refine Eq.trans (D_gfR gk_f111_64 (by decide)) ?_
              refine gd_ite (fun h31 => ?_) (fun _ => rfl)
              refine Eq.trans (D_iconst (x := 3) gk_f111_67 gk_c_3) ?_
              refine Eq.trans (D_iald gk_f111_68 gk_n10_111) ?_
              refine gd_ite (fun h32 => ?_) (fun _ => rfl)
              refine Eq.trans (D_aload_n (x := r0) gk_f111_69 rfl) ?_
              refine Eq.trans (D_gfR gk_f111_70 (by decide)) ?_
              refine Eq.trans (if_pos h30) ?_
              refine Eq.trans (D_gfR gk_f111_73 (by decide)) ?_
              refine Eq.trans (if_pos h31) ?_
              refine Eq.trans (D_iconst (x := 4) gk_f111_76 gk_c_4) ?_
              refine Eq.trans (D_iald gk_f111_77 gk_n10_111) ?_
              refine gd_ite (fun h33 => ?_) (fun _ => rfl)
              refine Eq.trans (D_ivV (cl := 4) (args := [.ref o4, .int x3, .int x4, .int (gI m25 (gR m25 (gR m25 r0 9) 11) (3 : Int32).toNatClampNeg), .int (gI m25 (gR m25 (gR m25 r0 9) 11) (4 : Int32).toNatClampNeg)]) (rest := []) gk_f111_78 rfl rfl (gd_rmk gk_rm111_110 gk_ln110 gk_ml110 rfl rfl rfl) gk_rk110 (gd_hnd_n gk_nc111) gk_nc110 gk_n11_110 gk_cl110) ?_
              refine gd_ite (fun h34 => ?_) (fun _ => rfl)
              refine gd_bnd (gd_kV_c fun m35 => ?_)
              refine Eq.trans (D_aload (x := o4) gk_f111_81 rfl) ?_
              refine Eq.trans (D_gfI gk_f111_83 (by decide) (by decide) (by decide)) ?_
              refine gd_ite (fun h37 => ?_) (fun _ => rfl)
              refine Eq.trans (D_ireturn gk_f111_86 gk_rk111) ?_
              rfl
/-! GymDeskModel.ask (I)V -/
set_option maxRecDepth 20000 in
theorem gk_f112_0 : gd_fetch 112 0 = some (0, .iconst 0, 1, 0, 0, 0, 0, 0) := rfl
set_option maxRecDepth 20000 in
theorem gk_f112_1 : gd_fetch 112 1 = some (1, .istore_n 2, 1, 0, 0, 0, 0, 0) := rfl
set_option maxRecDepth 20000 in
theorem gk_f112_2 : gd_fetch 112 2 = some (2, .iconst 0, 1, 0, 0, 0, 0, 0) := rfl
set_option maxRecDepth 20000 in
theorem gk_f112_3 : gd_fetch 112 3 = some (3, .istore_n 3, 1, 0, 0, 0, 0, 0) := rfl
set_option maxRecDepth 20000 in
theorem gk_f112_4 : gd_fetch 112 4 = some (4, .iload_n 3, 1, 0, 0, 0, 0, 0) := rfl
set_option maxRecDepth 20000 in
theorem gk_f112_5 : gd_fetch 112 5 = some (5, .aload_n 0, 1, 0, 0, 0, 0, 0) := rfl
set_option maxRecDepth 20000 in
theorem gk_f112_6 : gd_fetch 112 6 = some (6, .getfield 19, 3, 1164, 9, 1, 4, 0) := rfl
set_option maxRecDepth 20000 in
theorem gk_f112_9 : gd_fetch 112 9 = some (9, .getfield 300, 3, 1073, 7, 21, 0, 0) := rfl
set_option maxRecDepth 20000 in
theorem gk_f112_12 : gd_fetch 112 12 = some (12, .if_icmp .ge 141, 3, 0, 0, 0, 0, 0) := rfl
set_option maxRecDepth 20000 in
theorem gk_f112_15 : gd_fetch 112 15 = some (15, .aload_n 0, 1, 0, 0, 0, 0, 0) := rfl
set_option maxRecDepth 20000 in
theorem gk_f112_16 : gd_fetch 112 16 = some (16, .getfield 60, 3, 1189, 9, 26, 4, 1) := rfl
set_option maxRecDepth 20000 in
theorem gk_f112_19 : gd_fetch 112 19 = some (19, .bipush 6, 2, 0, 0, 0, 0, 0) := rfl
set_option maxRecDepth 20000 in
theorem gk_f112_21 : gd_fetch 112 21 = some (21, .iload_n 1, 1, 0, 0, 0, 0, 0) := rfl
set_option maxRecDepth 20000 in
theorem gk_f112_22 : gd_fetch 112 22 = some (22, .imul, 1, 0, 0, 0, 0, 0) := rfl
set_option maxRecDepth 20000 in
theorem gk_f112_23 : gd_fetch 112 23 = some (23, .iload_n 3, 1, 0, 0, 0, 0, 0) := rfl
set_option maxRecDepth 20000 in
theorem gk_f112_24 : gd_fetch 112 24 = some (24, .iadd, 1, 0, 0, 0, 0, 0) := rfl
set_option maxRecDepth 20000 in
theorem gk_f112_25 : gd_fetch 112 25 = some (25, .iaload, 1, 0, 0, 0, 0, 0) := rfl
set_option maxRecDepth 20000 in
theorem gk_f112_26 : gd_fetch 112 26 = some (26, .istore 4, 2, 0, 0, 0, 0, 0) := rfl
set_option maxRecDepth 20000 in
theorem gk_f112_28 : gd_fetch 112 28 = some (28, .iconst 0, 1, 0, 0, 0, 0, 0) := rfl
set_option maxRecDepth 20000 in
theorem gk_f112_29 : gd_fetch 112 29 = some (29, .istore 5, 2, 0, 0, 0, 0, 0) := rfl
set_option maxRecDepth 20000 in
theorem gk_f112_31 : gd_fetch 112 31 = some (31, .iconst 0, 1, 0, 0, 0, 0, 0) := rfl
set_option maxRecDepth 20000 in
theorem gk_f112_32 : gd_fetch 112 32 = some (32, .istore 6, 2, 0, 0, 0, 0, 0) := rfl
set_option maxRecDepth 20000 in
theorem gk_f112_34 : gd_fetch 112 34 = some (34, .iconst 0, 1, 0, 0, 0, 0, 0) := rfl
set_option maxRecDepth 20000 in
theorem gk_f112_35 : gd_fetch 112 35 = some (35, .istore 7, 2, 0, 0, 0, 0, 0) := rfl
set_option maxRecDepth 20000 in
theorem gk_f112_37 : gd_fetch 112 37 = some (37, .iload 7, 2, 0, 0, 0, 0, 0) := rfl
set_option maxRecDepth 20000 in
theorem gk_f112_39 : gd_fetch 112 39 = some (39, .aload_n 0, 1, 0, 0, 0, 0, 0) := rfl
set_option maxRecDepth 20000 in
theorem gk_f112_40 : gd_fetch 112 40 = some (40, .getfield 19, 3, 1164, 9, 1, 4, 0) := rfl
set_option maxRecDepth 20000 in
theorem gk_f112_43 : gd_fetch 112 43 = some (43, .getfield 300, 3, 1073, 7, 21, 0, 0) := rfl
set_option maxRecDepth 20000 in
theorem gk_f112_46 : gd_fetch 112 46 = some (46, .if_icmp .ge 63, 3, 0, 0, 0, 0, 0) := rfl
set_option maxRecDepth 20000 in
theorem gk_f112_49 : gd_fetch 112 49 = some (49, .iload 5, 2, 0, 0, 0, 0, 0) := rfl
set_option maxRecDepth 20000 in
theorem gk_f112_51 : gd_fetch 112 51 = some (51, .aload_n 0, 1, 0, 0, 0, 0, 0) := rfl
set_option maxRecDepth 20000 in
theorem gk_f112_52 : gd_fetch 112 52 = some (52, .getfield 60, 3, 1189, 9, 26, 4, 1) := rfl
set_option maxRecDepth 20000 in
theorem gk_f112_55 : gd_fetch 112 55 = some (55, .bipush 6, 2, 0, 0, 0, 0, 0) := rfl
set_option maxRecDepth 20000 in
theorem gk_f112_57 : gd_fetch 112 57 = some (57, .iload_n 1, 1, 0, 0, 0, 0, 0) := rfl
set_option maxRecDepth 20000 in
theorem gk_f112_58 : gd_fetch 112 58 = some (58, .imul, 1, 0, 0, 0, 0, 0) := rfl
set_option maxRecDepth 20000 in
theorem gk_f112_59 : gd_fetch 112 59 = some (59, .iload 7, 2, 0, 0, 0, 0, 0) := rfl
set_option maxRecDepth 20000 in
theorem gk_f112_61 : gd_fetch 112 61 = some (61, .iadd, 1, 0, 0, 0, 0, 0) := rfl
set_option maxRecDepth 20000 in
theorem gk_f112_62 : gd_fetch 112 62 = some (62, .iaload, 1, 0, 0, 0, 0, 0) := rfl
set_option maxRecDepth 20000 in
theorem gk_f112_63 : gd_fetch 112 63 = some (63, .iload 4, 2, 0, 0, 0, 0, 0) := rfl
set_option maxRecDepth 20000 in
theorem gk_f112_65 : gd_fetch 112 65 = some (65, .if_icmp .ge 7, 3, 0, 0, 0, 0, 0) := rfl
set_option maxRecDepth 20000 in
theorem gk_f112_68 : gd_fetch 112 68 = some (68, .iconst 1, 1, 0, 0, 0, 0, 0) := rfl
set_option maxRecDepth 20000 in
theorem gk_f112_69 : gd_fetch 112 69 = some (69, .goto 4, 3, 0, 0, 0, 0, 0) := rfl
set_option maxRecDepth 20000 in
theorem gk_f112_72 : gd_fetch 112 72 = some (72, .iconst 0, 1, 0, 0, 0, 0, 0) := rfl
set_option maxRecDepth 20000 in
theorem gk_f112_73 : gd_fetch 112 73 = some (73, .iadd, 1, 0, 0, 0, 0, 0) := rfl
set_option maxRecDepth 20000 in
theorem gk_f112_74 : gd_fetch 112 74 = some (74, .istore 5, 2, 0, 0, 0, 0, 0) := rfl
set_option maxRecDepth 20000 in
theorem gk_f112_76 : gd_fetch 112 76 = some (76, .iload 6, 2, 0, 0, 0, 0, 0) := rfl
set_option maxRecDepth 20000 in
theorem gk_f112_78 : gd_fetch 112 78 = some (78, .aload_n 0, 1, 0, 0, 0, 0, 0) := rfl
set_option maxRecDepth 20000 in
theorem gk_f112_79 : gd_fetch 112 79 = some (79, .getfield 60, 3, 1189, 9, 26, 4, 1) := rfl
set_option maxRecDepth 20000 in
theorem gk_f112_82 : gd_fetch 112 82 = some (82, .bipush 6, 2, 0, 0, 0, 0, 0) := rfl
set_option maxRecDepth 20000 in
theorem gk_f112_84 : gd_fetch 112 84 = some (84, .iload_n 1, 1, 0, 0, 0, 0, 0) := rfl
set_option maxRecDepth 20000 in
theorem gk_f112_85 : gd_fetch 112 85 = some (85, .imul, 1, 0, 0, 0, 0, 0) := rfl
set_option maxRecDepth 20000 in
theorem gk_f112_86 : gd_fetch 112 86 = some (86, .iload 7, 2, 0, 0, 0, 0, 0) := rfl
set_option maxRecDepth 20000 in
theorem gk_f112_88 : gd_fetch 112 88 = some (88, .iadd, 1, 0, 0, 0, 0, 0) := rfl
set_option maxRecDepth 20000 in
theorem gk_f112_89 : gd_fetch 112 89 = some (89, .iaload, 1, 0, 0, 0, 0, 0) := rfl
set_option maxRecDepth 20000 in
theorem gk_f112_90 : gd_fetch 112 90 = some (90, .iload 4, 2, 0, 0, 0, 0, 0) := rfl
set_option maxRecDepth 20000 in
theorem gk_f112_92 : gd_fetch 112 92 = some (92, .if_icmp .ne 7, 3, 0, 0, 0, 0, 0) := rfl
set_option maxRecDepth 20000 in
theorem gk_f112_95 : gd_fetch 112 95 = some (95, .iconst 1, 1, 0, 0, 0, 0, 0) := rfl
set_option maxRecDepth 20000 in
theorem gk_f112_96 : gd_fetch 112 96 = some (96, .goto 4, 3, 0, 0, 0, 0, 0) := rfl
set_option maxRecDepth 20000 in
theorem gk_f112_99 : gd_fetch 112 99 = some (99, .iconst 0, 1, 0, 0, 0, 0, 0) := rfl
set_option maxRecDepth 20000 in
theorem gk_f112_100 : gd_fetch 112 100 = some (100, .iadd, 1, 0, 0, 0, 0, 0) := rfl
set_option maxRecDepth 20000 in
theorem gk_f112_101 : gd_fetch 112 101 = some (101, .istore 6, 2, 0, 0, 0, 0, 0) := rfl
set_option maxRecDepth 20000 in
theorem gk_f112_103 : gd_fetch 112 103 = some (103, .iinc 7 1, 3, 0, 0, 0, 0, 0) := rfl
set_option maxRecDepth 20000 in
theorem gk_f112_106 : gd_fetch 112 106 = some (106, .goto (-69), 3, 0, 0, 0, 0, 0) := rfl
set_option maxRecDepth 20000 in
theorem gk_f112_109 : gd_fetch 112 109 = some (109, .iload 5, 2, 0, 0, 0, 0, 0) := rfl
set_option maxRecDepth 20000 in
theorem gk_f112_111 : gd_fetch 112 111 = some (111, .aload_n 0, 1, 0, 0, 0, 0, 0) := rfl
set_option maxRecDepth 20000 in
theorem gk_f112_112 : gd_fetch 112 112 = some (112, .getfield 19, 3, 1164, 9, 1, 4, 0) := rfl
set_option maxRecDepth 20000 in
theorem gk_f112_115 : gd_fetch 112 115 = some (115, .getfield 300, 3, 1073, 7, 21, 0, 0) := rfl
set_option maxRecDepth 20000 in
theorem gk_f112_118 : gd_fetch 112 118 = some (118, .iconst 1, 1, 0, 0, 0, 0, 0) := rfl
set_option maxRecDepth 20000 in
theorem gk_f112_119 : gd_fetch 112 119 = some (119, .isub, 1, 0, 0, 0, 0, 0) := rfl
set_option maxRecDepth 20000 in
theorem gk_f112_120 : gd_fetch 112 120 = some (120, .iconst 2, 1, 0, 0, 0, 0, 0) := rfl
set_option maxRecDepth 20000 in
theorem gk_f112_121 : gd_fetch 112 121 = some (121, .idiv, 1, 0, 0, 0, 0, 0) := rfl
set_option maxRecDepth 20000 in
theorem gk_f112_122 : gd_fetch 112 122 = some (122, .if_icmp .gt 25, 3, 0, 0, 0, 0, 0) := rfl
set_option maxRecDepth 20000 in
theorem gk_f112_125 : gd_fetch 112 125 = some (125, .iload 5, 2, 0, 0, 0, 0, 0) := rfl
set_option maxRecDepth 20000 in
theorem gk_f112_127 : gd_fetch 112 127 = some (127, .iload 6, 2, 0, 0, 0, 0, 0) := rfl
set_option maxRecDepth 20000 in
theorem gk_f112_129 : gd_fetch 112 129 = some (129, .iadd, 1, 0, 0, 0, 0, 0) := rfl
set_option maxRecDepth 20000 in
theorem gk_f112_130 : gd_fetch 112 130 = some (130, .aload_n 0, 1, 0, 0, 0, 0, 0) := rfl
set_option maxRecDepth 20000 in
theorem gk_f112_131 : gd_fetch 112 131 = some (131, .getfield 19, 3, 1164, 9, 1, 4, 0) := rfl
set_option maxRecDepth 20000 in
theorem gk_f112_134 : gd_fetch 112 134 = some (134, .getfield 300, 3, 1073, 7, 21, 0, 0) := rfl
set_option maxRecDepth 20000 in
theorem gk_f112_137 : gd_fetch 112 137 = some (137, .iconst 1, 1, 0, 0, 0, 0, 0) := rfl
set_option maxRecDepth 20000 in
theorem gk_f112_138 : gd_fetch 112 138 = some (138, .isub, 1, 0, 0, 0, 0, 0) := rfl
set_option maxRecDepth 20000 in
theorem gk_f112_139 : gd_fetch 112 139 = some (139, .iconst 2, 1, 0, 0, 0, 0, 0) := rfl
set_option maxRecDepth 20000 in
theorem gk_f112_140 : gd_fetch 112 140 = some (140, .idiv, 1, 0, 0, 0, 0, 0) := rfl
set_option maxRecDepth 20000 in
theorem gk_f112_141 : gd_fetch 112 141 = some (141, .if_icmp .le 6, 3, 0, 0, 0, 0, 0) := rfl
set_option maxRecDepth 20000 in
theorem gk_f112_144 : gd_fetch 112 144 = some (144, .iload 4, 2, 0, 0, 0, 0, 0) := rfl
set_option maxRecDepth 20000 in
theorem gk_f112_146 : gd_fetch 112 146 = some (146, .istore_n 2, 1, 0, 0, 0, 0, 0) := rfl
set_option maxRecDepth 20000 in
theorem gk_f112_147 : gd_fetch 112 147 = some (147, .iinc 3 1, 3, 0, 0, 0, 0, 0) := rfl
set_option maxRecDepth 20000 in
theorem gk_f112_150 : gd_fetch 112 150 = some (150, .goto (-146), 3, 0, 0, 0, 0, 0) := rfl
set_option maxRecDepth 20000 in
theorem gk_f112_153 : gd_fetch 112 153 = some (153, .iconst 0, 1, 0, 0, 0, 0, 0) := rfl
set_option maxRecDepth 20000 in
theorem gk_f112_154 : gd_fetch 112 154 = some (154, .istore_n 3, 1, 0, 0, 0, 0, 0) := rfl
set_option maxRecDepth 20000 in
theorem gk_f112_155 : gd_fetch 112 155 = some (155, .iload_n 3, 1, 0, 0, 0, 0, 0) := rfl
set_option maxRecDepth 20000 in
theorem gk_f112_156 : gd_fetch 112 156 = some (156, .aload_n 0, 1, 0, 0, 0, 0, 0) := rfl
set_option maxRecDepth 20000 in
theorem gk_f112_157 : gd_fetch 112 157 = some (157, .getfield 19, 3, 1164, 9, 1, 4, 0) := rfl
set_option maxRecDepth 20000 in
theorem gk_f112_160 : gd_fetch 112 160 = some (160, .getfield 300, 3, 1073, 7, 21, 0, 0) := rfl
set_option maxRecDepth 20000 in
theorem gk_f112_163 : gd_fetch 112 163 = some (163, .if_icmp .ge 62, 3, 0, 0, 0, 0, 0) := rfl
set_option maxRecDepth 20000 in
theorem gk_f112_166 : gd_fetch 112 166 = some (166, .aload_n 0, 1, 0, 0, 0, 0, 0) := rfl
set_option maxRecDepth 20000 in
theorem gk_f112_167 : gd_fetch 112 167 = some (167, .getfield 60, 3, 1189, 9, 26, 4, 1) := rfl
set_option maxRecDepth 20000 in
theorem gk_f112_170 : gd_fetch 112 170 = some (170, .bipush 6, 2, 0, 0, 0, 0, 0) := rfl
set_option maxRecDepth 20000 in
theorem gk_f112_172 : gd_fetch 112 172 = some (172, .iload_n 1, 1, 0, 0, 0, 0, 0) := rfl
set_option maxRecDepth 20000 in
theorem gk_f112_173 : gd_fetch 112 173 = some (173, .imul, 1, 0, 0, 0, 0, 0) := rfl
set_option maxRecDepth 20000 in
theorem gk_f112_174 : gd_fetch 112 174 = some (174, .iload_n 3, 1, 0, 0, 0, 0, 0) := rfl
set_option maxRecDepth 20000 in
theorem gk_f112_175 : gd_fetch 112 175 = some (175, .iadd, 1, 0, 0, 0, 0, 0) := rfl
set_option maxRecDepth 20000 in
theorem gk_f112_176 : gd_fetch 112 176 = some (176, .iaload, 1, 0, 0, 0, 0, 0) := rfl
set_option maxRecDepth 20000 in
theorem gk_f112_177 : gd_fetch 112 177 = some (177, .istore 4, 2, 0, 0, 0, 0, 0) := rfl
set_option maxRecDepth 20000 in
theorem gk_f112_179 : gd_fetch 112 179 = some (179, .iload 4, 2, 0, 0, 0, 0, 0) := rfl
set_option maxRecDepth 20000 in
theorem gk_f112_181 : gd_fetch 112 181 = some (181, .iload_n 2, 1, 0, 0, 0, 0, 0) := rfl
set_option maxRecDepth 20000 in
theorem gk_f112_182 : gd_fetch 112 182 = some (182, .isub, 1, 0, 0, 0, 0, 0) := rfl
set_option maxRecDepth 20000 in
theorem gk_f112_183 : gd_fetch 112 183 = some (183, .aload_n 0, 1, 0, 0, 0, 0, 0) := rfl
set_option maxRecDepth 20000 in
theorem gk_f112_184 : gd_fetch 112 184 = some (184, .getfield 19, 3, 1164, 9, 1, 4, 0) := rfl
set_option maxRecDepth 20000 in
theorem gk_f112_187 : gd_fetch 112 187 = some (187, .getfield 303, 3, 1075, 7, 22, 0, 0) := rfl
set_option maxRecDepth 20000 in
theorem gk_f112_190 : gd_fetch 112 190 = some (190, .if_icmp .gt 17, 3, 0, 0, 0, 0, 0) := rfl
set_option maxRecDepth 20000 in
theorem gk_f112_193 : gd_fetch 112 193 = some (193, .iload_n 2, 1, 0, 0, 0, 0, 0) := rfl
set_option maxRecDepth 20000 in
theorem gk_f112_194 : gd_fetch 112 194 = some (194, .iload 4, 2, 0, 0, 0, 0, 0) := rfl
set_option maxRecDepth 20000 in
theorem gk_f112_196 : gd_fetch 112 196 = some (196, .isub, 1, 0, 0, 0, 0, 0) := rfl
set_option maxRecDepth 20000 in
theorem gk_f112_197 : gd_fetch 112 197 = some (197, .aload_n 0, 1, 0, 0, 0, 0, 0) := rfl
set_option maxRecDepth 20000 in
theorem gk_f112_198 : gd_fetch 112 198 = some (198, .getfield 19, 3, 1164, 9, 1, 4, 0) := rfl
set_option maxRecDepth 20000 in
theorem gk_f112_201 : gd_fetch 112 201 = some (201, .getfield 303, 3, 1075, 7, 22, 0, 0) := rfl
set_option maxRecDepth 20000 in
theorem gk_f112_204 : gd_fetch 112 204 = some (204, .if_icmp .le 15, 3, 0, 0, 0, 0, 0) := rfl
set_option maxRecDepth 20000 in
theorem gk_f112_207 : gd_fetch 112 207 = some (207, .aload_n 0, 1, 0, 0, 0, 0, 0) := rfl
set_option maxRecDepth 20000 in
theorem gk_f112_208 : gd_fetch 112 208 = some (208, .getfield 66, 3, 1191, 9, 28, 4, 1) := rfl
set_option maxRecDepth 20000 in
theorem gk_f112_211 : gd_fetch 112 211 = some (211, .iload_n 1, 1, 0, 0, 0, 0, 0) := rfl
set_option maxRecDepth 20000 in
theorem gk_f112_212 : gd_fetch 112 212 = some (212, .dup2, 1, 0, 0, 0, 0, 0) := rfl
set_option maxRecDepth 20000 in
theorem gk_f112_213 : gd_fetch 112 213 = some (213, .iaload, 1, 0, 0, 0, 0, 0) := rfl
set_option maxRecDepth 20000 in
theorem gk_f112_214 : gd_fetch 112 214 = some (214, .iconst 1, 1, 0, 0, 0, 0, 0) := rfl
set_option maxRecDepth 20000 in
theorem gk_f112_215 : gd_fetch 112 215 = some (215, .iload_n 3, 1, 0, 0, 0, 0, 0) := rfl
set_option maxRecDepth 20000 in
theorem gk_f112_216 : gd_fetch 112 216 = some (216, .ishl, 1, 0, 0, 0, 0, 0) := rfl
set_option maxRecDepth 20000 in
theorem gk_f112_217 : gd_fetch 112 217 = some (217, .ior, 1, 0, 0, 0, 0, 0) := rfl
set_option maxRecDepth 20000 in
theorem gk_f112_218 : gd_fetch 112 218 = some (218, .iastore, 1, 0, 0, 0, 0, 0) := rfl
set_option maxRecDepth 20000 in
theorem gk_f112_219 : gd_fetch 112 219 = some (219, .iinc 3 1, 3, 0, 0, 0, 0, 0) := rfl
set_option maxRecDepth 20000 in
theorem gk_f112_222 : gd_fetch 112 222 = some (222, .goto (-67), 3, 0, 0, 0, 0, 0) := rfl
set_option maxRecDepth 20000 in
theorem gk_f112_225 : gd_fetch 112 225 = some (225, .return_, 1, 0, 0, 0, 0, 0) := rfl
set_option maxRecDepth 20000 in
set_option maxHeartbeats 4000000 in
theorem q_Mo_ask (r0 : Nat) (x1 : Int32) (m : gd_M) : gd_call 112 [.ref r0, .int x1] m = gd_Den (112, 4, [.ref r0, .int x1, .int 0, .int 0, .null, .null, .null, .null], [], m) := by
  refine Eq.trans (show gd_call 112 [.ref r0, .int x1] m = gd_Den (112, 0, [.ref r0, .int x1, .null, .null, .null, .null, .null, .null], [], m) from by unfold gd_call gd_ent; rw [gk_ml112]; rfl) ?_
  refine Eq.trans (D_iconst (x := 0) gk_f112_0 gk_c_0) ?_
  refine Eq.trans (D_istore_n gk_f112_1 gk_st112_2) ?_
  refine Eq.trans (D_iconst (x := 0) gk_f112_2 gk_c_0) ?_
  refine Eq.trans (D_istore_n gk_f112_3 gk_st112_3) ?_
  rfl
set_option maxRecDepth 20000 in
set_option maxHeartbeats 4000000 in
theorem q_Mo_ask_4 (r0 : Nat) (x1 : Int32) (x2 : Int32) (x3 : Int32) (v4 : Value) (v5 : Value) (v6 : Value) (v7 : Value) (m : gd_M) : gd_Den (112, 4, [.ref r0, .int x1, .int x2, .int x3, v4, v5, v6, v7], [], m) = if gd_ok (gN m) r0 9 = true then (if gd_ok (gN m) (gR m r0 1) 7 = true then (if (x3 < (gI m (gR m r0 1) 21) : Prop) then (if gd_okA (gN m) (gR m r0 26) 10 ((6 * x1) + x3) = true then (gd_Den (112, 37, [.ref r0, .int x1, .int x2, .int x3, .int (gI m (gR m r0 26) (((6 * x1) + x3) : Int32).toNatClampNeg), .int 0, .int 0, .int 0], [], m)) else none) else (gd_Den (112, 155, [.ref r0, .int x1, .int x2, .int 0, v4, v5, v6, v7], [], m))) else none) else none := by
  refine Eq.trans (D_iload_n (x := x3) gk_f112_4 rfl) ?_
  refine Eq.trans (D_aload_n (x := r0) gk_f112_5 rfl) ?_
  refine Eq.trans (D_gfR gk_f112_6 (by decide)) ?_
  refine gd_ite (fun h1 => ?_) (fun _ => rfl)
  refine Eq.trans (D_gfI gk_f112_9 (by decide) (by decide) (by decide)) ?_
  refine gd_ite (fun h2 => ?_) (fun _ => rfl)
  refine Eq.trans (D_ic_ge (t := 153) gk_f112_12 (by decide)) ?_
  refine gd_ite (fun h3 => ?_) (fun h4 => ?_)
  · refine Eq.trans (D_aload_n (x := r0) gk_f112_15 rfl) ?_
    refine Eq.trans (D_gfR gk_f112_16 (by decide)) ?_
    refine Eq.trans (if_pos h1) ?_
    refine Eq.trans (D_bipush (x := 6) gk_f112_19 gk_b_6) ?_
    refine Eq.trans (D_iload_n (x := x1) gk_f112_21 rfl) ?_
    refine Eq.trans (D_imul gk_f112_22) ?_
    refine Eq.trans (D_iload_n (x := x3) gk_f112_23 rfl) ?_
    refine Eq.trans (D_iadd gk_f112_24) ?_
    refine Eq.trans (D_iald gk_f112_25 gk_n10_112) ?_
    refine gd_ite (fun h5 => ?_) (fun _ => rfl)
    refine Eq.trans (D_istore gk_f112_26 gk_st112_4) ?_
    refine Eq.trans (D_iconst (x := 0) gk_f112_28 gk_c_0) ?_
    refine Eq.trans (D_istore gk_f112_29 gk_st112_5) ?_
    refine Eq.trans (D_iconst (x := 0) gk_f112_31 gk_c_0) ?_
    refine Eq.trans (D_istore gk_f112_32 gk_st112_6) ?_
    refine Eq.trans (D_iconst (x := 0) gk_f112_34 gk_c_0) ?_
    refine Eq.trans (D_istore gk_f112_35 gk_st112_7) ?_
    rfl
  · refine Eq.trans (D_iconst (x := 0) gk_f112_153 gk_c_0) ?_
    refine Eq.trans (D_istore_n gk_f112_154 gk_st112_3) ?_
    rfl
set_option maxRecDepth 20000 in
set_option maxHeartbeats 4000000 in
theorem q_Mo_ask_37 (r0 : Nat) (x1 : Int32) (x2 : Int32) (x3 : Int32) (x4 : Int32) (x5 : Int32) (x6 : Int32) (x7 : Int32) (m : gd_M) : gd_Den (112, 37, [.ref r0, .int x1, .int x2, .int x3, .int x4, .int x5, .int x6, .int x7], [], m) = if gd_ok (gN m) r0 9 = true then (if gd_ok (gN m) (gR m r0 1) 7 = true then (if (x7 < (gI m (gR m r0 1) 21) : Prop) then (if gd_okA (gN m) (gR m r0 26) 10 ((6 * x1) + x7) = true then (if ((gI m (gR m r0 26) (((6 * x1) + x7) : Int32).toNatClampNeg) < x4 : Prop) then (if ((gI m (gR m r0 26) (((6 * x1) + x7) : Int32).toNatClampNeg) = x4 : Prop) then (gd_Den (112, 37, [.ref r0, .int x1, .int x2, .int x3, .int x4, .int (x5 + 1), .int (x6 + 1), .int (x7 + 1)], [], m)) else (gd_Den (112, 37, [.ref r0, .int x1, .int x2, .int x3, .int x4, .int (x5 + 1), .int (x6 + 0), .int (x7 + 1)], [], m))) else (if ((gI m (gR m r0 26) (((6 * x1) + x7) : Int32).toNatClampNeg) = x4 : Prop) then (gd_Den (112, 37, [.ref r0, .int x1, .int x2, .int x3, .int x4, .int (x5 + 0), .int (x6 + 1), .int (x7 + 1)], [], m)) else (gd_Den (112, 37, [.ref r0, .int x1, .int x2, .int x3, .int x4, .int (x5 + 0), .int (x6 + 0), .int (x7 + 1)], [], m)))) else none) else (if ((((gI m (gR m r0 1) 21) - 1) / 2) < x5 : Prop) then (gd_Den (112, 4, [.ref r0, .int x1, .int x2, .int (x3 + 1), .int x4, .int x5, .int x6, .int x7], [], m)) else (if ((((gI m (gR m r0 1) 21) - 1) / 2) < (x5 + x6) : Prop) then (gd_Den (112, 4, [.ref r0, .int x1, .int x4, .int (x3 + 1), .int x4, .int x5, .int x6, .int x7], [], m)) else (gd_Den (112, 4, [.ref r0, .int x1, .int x2, .int (x3 + 1), .int x4, .int x5, .int x6, .int x7], [], m))))) else none) else none := by
  refine Eq.trans (D_iload (x := x7) gk_f112_37 rfl) ?_
  refine Eq.trans (D_aload_n (x := r0) gk_f112_39 rfl) ?_
  refine Eq.trans (D_gfR gk_f112_40 (by decide)) ?_
  refine gd_ite (fun h1 => ?_) (fun _ => rfl)
  refine Eq.trans (D_gfI gk_f112_43 (by decide) (by decide) (by decide)) ?_
  refine gd_ite (fun h2 => ?_) (fun _ => rfl)
  refine Eq.trans (D_ic_ge (t := 109) gk_f112_46 (by decide)) ?_
  refine gd_ite (fun h3 => ?_) (fun h4 => ?_)
  · refine Eq.trans (D_iload (x := x5) gk_f112_49 rfl) ?_
    refine Eq.trans (D_aload_n (x := r0) gk_f112_51 rfl) ?_
    refine Eq.trans (D_gfR gk_f112_52 (by decide)) ?_
    refine Eq.trans (if_pos h1) ?_
    refine Eq.trans (D_bipush (x := 6) gk_f112_55 gk_b_6) ?_
    refine Eq.trans (D_iload_n (x := x1) gk_f112_57 rfl) ?_
    refine Eq.trans (D_imul gk_f112_58) ?_
    refine Eq.trans (D_iload (x := x7) gk_f112_59 rfl) ?_
    refine Eq.trans (D_iadd gk_f112_61) ?_
    refine Eq.trans (D_iald gk_f112_62 gk_n10_112) ?_
    refine gd_ite (fun h5 => ?_) (fun _ => rfl)
    refine Eq.trans (D_iload (x := x4) gk_f112_63 rfl) ?_
    refine Eq.trans (D_ic_ge (t := 72) gk_f112_65 (by decide)) ?_
    refine gd_ite (fun h6 => ?_) (fun h7 => ?_)
    · refine Eq.trans (D_iconst (x := 1) gk_f112_68 gk_c_1) ?_
      refine Eq.trans (D_goto (t := 73) gk_f112_69 (by decide)) ?_
      refine Eq.trans (D_iadd gk_f112_73) ?_
      refine Eq.trans (D_istore gk_f112_74 gk_st112_5) ?_
      refine Eq.trans (D_iload (x := x6) gk_f112_76 rfl) ?_
      refine Eq.trans (D_aload_n (x := r0) gk_f112_78 rfl) ?_
      refine Eq.trans (D_gfR gk_f112_79 (by decide)) ?_
      refine Eq.trans (if_pos h1) ?_
      refine Eq.trans (D_bipush (x := 6) gk_f112_82 gk_b_6) ?_
      refine Eq.trans (D_iload_n (x := x1) gk_f112_84 rfl) ?_
      refine Eq.trans (D_imul gk_f112_85) ?_
      refine Eq.trans (D_iload (x := x7) gk_f112_86 rfl) ?_
      refine Eq.trans (D_iadd gk_f112_88) ?_
      refine Eq.trans (D_iald gk_f112_89 gk_n10_112) ?_
      refine Eq.trans (if_pos h5) ?_
      refine Eq.trans (D_iload (x := x4) gk_f112_90 rfl) ?_
      refine Eq.trans (D_ic_ne (t := 99) gk_f112_92 (by decide)) ?_
      refine gd_ite (fun h8 => ?_) (fun h9 => ?_)
      · refine Eq.trans (D_iconst (x := 1) gk_f112_95 gk_c_1) ?_
        refine Eq.trans (D_goto (t := 100) gk_f112_96 (by decide)) ?_
        refine Eq.trans (D_iadd gk_f112_100) ?_
        refine Eq.trans (D_istore gk_f112_101 gk_st112_6) ?_
        refine Eq.trans (D_iinc (x := x7) (y := 1) gk_f112_103 rfl gk_c_1 gk_st112_7) ?_
        refine Eq.trans (D_goto (t := 37) gk_f112_106 (by decide)) ?_
        rfl
      · refine Eq.trans (D_iconst (x := 0) gk_f112_99 gk_c_0) ?_
        refine Eq.trans (D_iadd gk_f112_100) ?_
        refine Eq.trans (D_istore gk_f112_101 gk_st112_6) ?_
        refine Eq.trans (D_iinc (x := x7) (y := 1) gk_f112_103 rfl gk_c_1 gk_st112_7) ?_
        refine Eq.trans (D_goto (t := 37) gk_f112_106 (by decide)) ?_
        rfl
    · refine Eq.trans (D_iconst (x := 0) gk_f112_72 gk_c_0) ?_
      refine Eq.trans (D_iadd gk_f112_73) ?_
      refine Eq.trans (D_istore gk_f112_74 gk_st112_5) ?_
      refine Eq.trans (D_iload (x := x6) gk_f112_76 rfl) ?_
      refine Eq.trans (D_aload_n (x := r0) gk_f112_78 rfl) ?_
      refine Eq.trans (D_gfR gk_f112_79 (by decide)) ?_
      refine Eq.trans (if_pos h1) ?_
      refine Eq.trans (D_bipush (x := 6) gk_f112_82 gk_b_6) ?_
      refine Eq.trans (D_iload_n (x := x1) gk_f112_84 rfl) ?_
      refine Eq.trans (D_imul gk_f112_85) ?_
      refine Eq.trans (D_iload (x := x7) gk_f112_86 rfl) ?_
      refine Eq.trans (D_iadd gk_f112_88) ?_
      refine Eq.trans (D_iald gk_f112_89 gk_n10_112) ?_
      refine Eq.trans (if_pos h5) ?_
      refine Eq.trans (D_iload (x := x4) gk_f112_90 rfl) ?_
      refine Eq.trans (D_ic_ne (t := 99) gk_f112_92 (by decide)) ?_
      refine gd_ite (fun h10 => ?_) (fun h11 => ?_)
      · refine Eq.trans (D_iconst (x := 1) gk_f112_95 gk_c_1) ?_
        refine Eq.trans (D_goto (t := 100) gk_f112_96 (by decide)) ?_
        refine Eq.trans (D_iadd gk_f112_100) ?_
        refine Eq.trans (D_istore gk_f112_101 gk_st112_6) ?_
        refine Eq.trans (D_iinc (x := x7) (y := 1) gk_f112_103 rfl gk_c_1 gk_st112_7) ?_
        refine Eq.trans (D_goto (t := 37) gk_f112_106 (by decide)) ?_
        rfl
      · refine Eq.trans (D_iconst (x := 0) gk_f112_99 gk_c_0) ?_
        refine Eq.trans (D_iadd gk_f112_100) ?_
        refine Eq.trans (D_istore gk_f112_101 gk_st112_6) ?_
        refine Eq.trans (D_iinc (x := x7) (y := 1) gk_f112_103 rfl gk_c_1 gk_st112_7) ?_
        refine Eq.trans (D_goto (t := 37) gk_f112_106 (by decide)) ?_
        rfl
  · refine Eq.trans (D_iload (x := x5) gk_f112_109 rfl) ?_
    refine Eq.trans (D_aload_n (x := r0) gk_f112_111 rfl) ?_
    refine Eq.trans (D_gfR gk_f112_112 (by decide)) ?_
    refine Eq.trans (if_pos h1) ?_
    refine Eq.trans (D_gfI gk_f112_115 (by decide) (by decide) (by decide)) ?_
    refine Eq.trans (if_pos h2) ?_
    refine Eq.trans (D_iconst (x := 1) gk_f112_118 gk_c_1) ?_
    refine Eq.trans (D_isub gk_f112_119) ?_
    refine Eq.trans (D_iconst (x := 2) gk_f112_120 gk_c_2) ?_
    refine Eq.trans (D_idiv gk_f112_121) ?_
    refine Eq.trans (if_neg (by decide)) ?_
    refine Eq.trans (D_ic_gt (t := 147) gk_f112_122 (by decide)) ?_
    refine gd_ite (fun h12 => ?_) (fun h13 => ?_)
    · refine Eq.trans (D_iinc (x := x3) (y := 1) gk_f112_147 rfl gk_c_1 gk_st112_3) ?_
      refine Eq.trans (D_goto (t := 4) gk_f112_150 (by decide)) ?_
      rfl
    · refine Eq.trans (D_iload (x := x5) gk_f112_125 rfl) ?_
      refine Eq.trans (D_iload (x := x6) gk_f112_127 rfl) ?_
      refine Eq.trans (D_iadd gk_f112_129) ?_
      refine Eq.trans (D_aload_n (x := r0) gk_f112_130 rfl) ?_
      refine Eq.trans (D_gfR gk_f112_131 (by decide)) ?_
      refine Eq.trans (if_pos h1) ?_
      refine Eq.trans (D_gfI gk_f112_134 (by decide) (by decide) (by decide)) ?_
      refine Eq.trans (if_pos h2) ?_
      refine Eq.trans (D_iconst (x := 1) gk_f112_137 gk_c_1) ?_
      refine Eq.trans (D_isub gk_f112_138) ?_
      refine Eq.trans (D_iconst (x := 2) gk_f112_139 gk_c_2) ?_
      refine Eq.trans (D_idiv gk_f112_140) ?_
      refine Eq.trans (if_neg (by decide)) ?_
      refine Eq.trans (D_ic_le (t := 147) gk_f112_141 (by decide)) ?_
      refine gd_ite (fun h14 => ?_) (fun h15 => ?_)
      · refine Eq.trans (D_iload (x := x4) gk_f112_144 rfl) ?_
        refine Eq.trans (D_istore_n gk_f112_146 gk_st112_2) ?_
        refine Eq.trans (D_iinc (x := x3) (y := 1) gk_f112_147 rfl gk_c_1 gk_st112_3) ?_
        refine Eq.trans (D_goto (t := 4) gk_f112_150 (by decide)) ?_
        rfl
      · refine Eq.trans (D_iinc (x := x3) (y := 1) gk_f112_147 rfl gk_c_1 gk_st112_3) ?_
        refine Eq.trans (D_goto (t := 4) gk_f112_150 (by decide)) ?_
        rfl
set_option maxRecDepth 20000 in
set_option maxHeartbeats 4000000 in
theorem q_Mo_ask_155 (r0 : Nat) (x1 : Int32) (x2 : Int32) (x3 : Int32) (v4 : Value) (v5 : Value) (v6 : Value) (v7 : Value) (m : gd_M) : gd_Den (112, 155, [.ref r0, .int x1, .int x2, .int x3, v4, v5, v6, v7], [], m) = if gd_ok (gN m) r0 9 = true then (if gd_ok (gN m) (gR m r0 1) 7 = true then (if (x3 < (gI m (gR m r0 1) 21) : Prop) then (if gd_okA (gN m) (gR m r0 26) 10 ((6 * x1) + x3) = true then (if ((gI m (gR m r0 1) 22) < ((gI m (gR m r0 26) (((6 * x1) + x3) : Int32).toNatClampNeg) - x2) : Prop) then (if gd_okA (gN m) (gR m r0 28) 10 x1 = true then (gd_Den (112, 155, [.ref r0, .int x1, .int x2, .int (x3 + 1), .int (gI m (gR m r0 26) (((6 * x1) + x3) : Int32).toNatClampNeg), v5, v6, v7], [], (wI m (gR m r0 28) (x1 : Int32).toNatClampNeg ((gI m (gR m r0 28) (x1 : Int32).toNatClampNeg) ||| ((1 : Int32) <<< (x3 &&& 31)))))) else none) else (if ((gI m (gR m r0 1) 22) < (x2 - (gI m (gR m r0 26) (((6 * x1) + x3) : Int32).toNatClampNeg)) : Prop) then (if gd_okA (gN m) (gR m r0 28) 10 x1 = true then (gd_Den (112, 155, [.ref r0, .int x1, .int x2, .int (x3 + 1), .int (gI m (gR m r0 26) (((6 * x1) + x3) : Int32).toNatClampNeg), v5, v6, v7], [], (wI m (gR m r0 28) (x1 : Int32).toNatClampNeg ((gI m (gR m r0 28) (x1 : Int32).toNatClampNeg) ||| ((1 : Int32) <<< (x3 &&& 31)))))) else none) else (gd_Den (112, 155, [.ref r0, .int x1, .int x2, .int (x3 + 1), .int (gI m (gR m r0 26) (((6 * x1) + x3) : Int32).toNatClampNeg), v5, v6, v7], [], m)))) else none) else (some (.null, m))) else none) else none := by
  refine Eq.trans (D_iload_n (x := x3) gk_f112_155 rfl) ?_
  refine Eq.trans (D_aload_n (x := r0) gk_f112_156 rfl) ?_
  refine Eq.trans (D_gfR gk_f112_157 (by decide)) ?_
  refine gd_ite (fun h1 => ?_) (fun _ => rfl)
  refine Eq.trans (D_gfI gk_f112_160 (by decide) (by decide) (by decide)) ?_
  refine gd_ite (fun h2 => ?_) (fun _ => rfl)
  refine Eq.trans (D_ic_ge (t := 225) gk_f112_163 (by decide)) ?_
  refine gd_ite (fun h3 => ?_) (fun h4 => ?_)
  · refine Eq.trans (D_aload_n (x := r0) gk_f112_166 rfl) ?_
    refine Eq.trans (D_gfR gk_f112_167 (by decide)) ?_
    refine Eq.trans (if_pos h1) ?_
    refine Eq.trans (D_bipush (x := 6) gk_f112_170 gk_b_6) ?_
    refine Eq.trans (D_iload_n (x := x1) gk_f112_172 rfl) ?_
    refine Eq.trans (D_imul gk_f112_173) ?_
    refine Eq.trans (D_iload_n (x := x3) gk_f112_174 rfl) ?_
    refine Eq.trans (D_iadd gk_f112_175) ?_
    refine Eq.trans (D_iald gk_f112_176 gk_n10_112) ?_
    refine gd_ite (fun h5 => ?_) (fun _ => rfl)
    refine Eq.trans (D_istore gk_f112_177 gk_st112_4) ?_
    refine Eq.trans (D_iload (x := (gI m (gR m r0 26) (((6 * x1) + x3) : Int32).toNatClampNeg)) gk_f112_179 rfl) ?_
    refine Eq.trans (D_iload_n (x := x2) gk_f112_181 rfl) ?_
    refine Eq.trans (D_isub gk_f112_182) ?_
    refine Eq.trans (D_aload_n (x := r0) gk_f112_183 rfl) ?_
    refine Eq.trans (D_gfR gk_f112_184 (by decide)) ?_
    refine Eq.trans (if_pos h1) ?_
    refine Eq.trans (D_gfI gk_f112_187 (by decide) (by decide) (by decide)) ?_
    refine Eq.trans (if_pos h2) ?_
    refine Eq.trans (D_ic_gt (t := 207) gk_f112_190 (by decide)) ?_
    refine gd_ite (fun h6 => ?_) (fun h7 => ?_)
    · refine Eq.trans (D_aload_n (x := r0) gk_f112_207 rfl) ?_
      refine Eq.trans (D_gfR gk_f112_208 (by decide)) ?_
      refine Eq.trans (if_pos h1) ?_
      refine Eq.trans (D_iload_n (x := x1) gk_f112_211 rfl) ?_
      refine Eq.trans (D_dup2 gk_f112_212) ?_
      refine Eq.trans (D_iald gk_f112_213 gk_n10_112) ?_
      refine gd_ite (fun h8 => ?_) (fun _ => rfl)
      refine Eq.trans (D_iconst (x := 1) gk_f112_214 gk_c_1) ?_
      refine Eq.trans (D_iload_n (x := x3) gk_f112_215 rfl) ?_
      refine Eq.trans (D_ishl gk_f112_216) ?_
      refine Eq.trans (D_ior gk_f112_217) ?_
      refine Eq.trans (D_iast gk_f112_218) ?_
      refine Eq.trans (if_pos h8) ?_
      refine Eq.trans (D_iinc (x := x3) (y := 1) gk_f112_219 rfl gk_c_1 gk_st112_3) ?_
      refine Eq.trans (D_goto (t := 155) gk_f112_222 (by decide)) ?_
      rfl
    · refine Eq.trans (D_iload_n (x := x2) gk_f112_193 rfl) ?_
      refine Eq.trans (D_iload (x := (gI m (gR m r0 26) (((6 * x1) + x3) : Int32).toNatClampNeg)) gk_f112_194 rfl) ?_
      refine Eq.trans (D_isub gk_f112_196) ?_
      refine Eq.trans (D_aload_n (x := r0) gk_f112_197 rfl) ?_
      refine Eq.trans (D_gfR gk_f112_198 (by decide)) ?_
      refine Eq.trans (if_pos h1) ?_
      refine Eq.trans (D_gfI gk_f112_201 (by decide) (by decide) (by decide)) ?_
      refine Eq.trans (if_pos h2) ?_
      refine Eq.trans (D_ic_le (t := 219) gk_f112_204 (by decide)) ?_
      refine gd_ite (fun h9 => ?_) (fun h10 => ?_)
      · refine Eq.trans (D_aload_n (x := r0) gk_f112_207 rfl) ?_
        refine Eq.trans (D_gfR gk_f112_208 (by decide)) ?_
        refine Eq.trans (if_pos h1) ?_
        refine Eq.trans (D_iload_n (x := x1) gk_f112_211 rfl) ?_
        refine Eq.trans (D_dup2 gk_f112_212) ?_
        refine Eq.trans (D_iald gk_f112_213 gk_n10_112) ?_
        refine gd_ite (fun h11 => ?_) (fun _ => rfl)
        refine Eq.trans (D_iconst (x := 1) gk_f112_214 gk_c_1) ?_
        refine Eq.trans (D_iload_n (x := x3) gk_f112_215 rfl) ?_
        refine Eq.trans (D_ishl gk_f112_216) ?_
        refine Eq.trans (D_ior gk_f112_217) ?_
        refine Eq.trans (D_iast gk_f112_218) ?_
        refine Eq.trans (if_pos h11) ?_
        refine Eq.trans (D_iinc (x := x3) (y := 1) gk_f112_219 rfl gk_c_1 gk_st112_3) ?_
        refine Eq.trans (D_goto (t := 155) gk_f112_222 (by decide)) ?_
        rfl
      · refine Eq.trans (D_iinc (x := x3) (y := 1) gk_f112_219 rfl gk_c_1 gk_st112_3) ?_
        refine Eq.trans (D_goto (t := 155) gk_f112_222 (by decide)) ?_
        rfl
  · refine Eq.trans (D_vreturn gk_f112_225 gk_rk112) ?_
    rfl
/-! GymDeskModel.mark (IIII)I -/
set_option maxRecDepth 20000 in
theorem gk_f113_0 : gd_fetch 113 0 = some (0, .aload_n 0, 1, 0, 0, 0, 0, 0) := rfl
set_option maxRecDepth 20000 in
theorem gk_f113_1 : gd_fetch 113 1 = some (1, .iload_n 1, 1, 0, 0, 0, 0, 0) := rfl
set_option maxRecDepth 20000 in
theorem gk_f113_2 : gd_fetch 113 2 = some (2, .iload_n 2, 1, 0, 0, 0, 0, 0) := rfl
set_option maxRecDepth 20000 in
theorem gk_f113_3 : gd_fetch 113 3 = some (3, .invokevirtual 335, 3, 1407, 98, 2, 0, 0) := rfl
set_option maxRecDepth 20000 in
theorem gk_f113_6 : gd_fetch 113 6 = some (6, .ifCond .eq 31, 3, 0, 0, 0, 0, 0) := rfl
set_option maxRecDepth 20000 in
theorem gk_f113_9 : gd_fetch 113 9 = some (9, .iload_n 3, 1, 0, 0, 0, 0, 0) := rfl
set_option maxRecDepth 20000 in
theorem gk_f113_10 : gd_fetch 113 10 = some (10, .iconst 0, 1, 0, 0, 0, 0, 0) := rfl
set_option maxRecDepth 20000 in
theorem gk_f113_11 : gd_fetch 113 11 = some (11, .aload_n 0, 1, 0, 0, 0, 0, 0) := rfl
set_option maxRecDepth 20000 in
theorem gk_f113_12 : gd_fetch 113 12 = some (12, .getfield 19, 3, 1164, 9, 1, 4, 0) := rfl
set_option maxRecDepth 20000 in
theorem gk_f113_15 : gd_fetch 113 15 = some (15, .getfield 300, 3, 1073, 7, 21, 0, 0) := rfl
set_option maxRecDepth 20000 in
theorem gk_f113_18 : gd_fetch 113 18 = some (18, .iconst 1, 1, 0, 0, 0, 0, 0) := rfl
set_option maxRecDepth 20000 in
theorem gk_f113_19 : gd_fetch 113 19 = some (19, .isub, 1, 0, 0, 0, 0, 0) := rfl
set_option maxRecDepth 20000 in
theorem gk_f113_20 : gd_fetch 113 20 = some (20, .invokestatic 192, 3, 1360, 71, 3, 0, 0) := rfl
set_option maxRecDepth 20000 in
theorem gk_f113_23 : gd_fetch 113 23 = some (23, .ifCond .eq 14, 3, 0, 0, 0, 0, 0) := rfl
set_option maxRecDepth 20000 in
theorem gk_f113_26 : gd_fetch 113 26 = some (26, .iload 4, 2, 0, 0, 0, 0, 0) := rfl
set_option maxRecDepth 20000 in
theorem gk_f113_28 : gd_fetch 113 28 = some (28, .iconst 0, 1, 0, 0, 0, 0, 0) := rfl
set_option maxRecDepth 20000 in
theorem gk_f113_29 : gd_fetch 113 29 = some (29, .bipush 100, 2, 0, 0, 0, 0, 0) := rfl
set_option maxRecDepth 20000 in
theorem gk_f113_31 : gd_fetch 113 31 = some (31, .invokestatic 192, 3, 1360, 71, 3, 0, 0) := rfl
set_option maxRecDepth 20000 in
theorem gk_f113_34 : gd_fetch 113 34 = some (34, .ifCond .ne 6, 3, 0, 0, 0, 0, 0) := rfl
set_option maxRecDepth 20000 in
theorem gk_f113_37 : gd_fetch 113 37 = some (37, .bipush (-2), 2, 0, 0, 0, 0, 0) := rfl
set_option maxRecDepth 20000 in
theorem gk_f113_39 : gd_fetch 113 39 = some (39, .ireturn, 1, 0, 0, 0, 0, 0) := rfl
set_option maxRecDepth 20000 in
theorem gk_f113_40 : gd_fetch 113 40 = some (40, .iconst 4, 1, 0, 0, 0, 0, 0) := rfl
set_option maxRecDepth 20000 in
theorem gk_f113_41 : gd_fetch 113 41 = some (41, .iload_n 1, 1, 0, 0, 0, 0, 0) := rfl
set_option maxRecDepth 20000 in
theorem gk_f113_42 : gd_fetch 113 42 = some (42, .imul, 1, 0, 0, 0, 0, 0) := rfl
set_option maxRecDepth 20000 in
theorem gk_f113_43 : gd_fetch 113 43 = some (43, .iload_n 2, 1, 0, 0, 0, 0, 0) := rfl
set_option maxRecDepth 20000 in
theorem gk_f113_44 : gd_fetch 113 44 = some (44, .iadd, 1, 0, 0, 0, 0, 0) := rfl
set_option maxRecDepth 20000 in
theorem gk_f113_45 : gd_fetch 113 45 = some (45, .istore 5, 2, 0, 0, 0, 0, 0) := rfl
set_option maxRecDepth 20000 in
theorem gk_f113_47 : gd_fetch 113 47 = some (47, .bipush 6, 2, 0, 0, 0, 0, 0) := rfl
set_option maxRecDepth 20000 in
theorem gk_f113_49 : gd_fetch 113 49 = some (49, .iload 5, 2, 0, 0, 0, 0, 0) := rfl
set_option maxRecDepth 20000 in
theorem gk_f113_51 : gd_fetch 113 51 = some (51, .imul, 1, 0, 0, 0, 0, 0) := rfl
set_option maxRecDepth 20000 in
theorem gk_f113_52 : gd_fetch 113 52 = some (52, .iload_n 3, 1, 0, 0, 0, 0, 0) := rfl
set_option maxRecDepth 20000 in
theorem gk_f113_53 : gd_fetch 113 53 = some (53, .iadd, 1, 0, 0, 0, 0, 0) := rfl
set_option maxRecDepth 20000 in
theorem gk_f113_54 : gd_fetch 113 54 = some (54, .istore 6, 2, 0, 0, 0, 0, 0) := rfl
set_option maxRecDepth 20000 in
theorem gk_f113_56 : gd_fetch 113 56 = some (56, .aload_n 0, 1, 0, 0, 0, 0, 0) := rfl
set_option maxRecDepth 20000 in
theorem gk_f113_57 : gd_fetch 113 57 = some (57, .iload 5, 2, 0, 0, 0, 0, 0) := rfl
set_option maxRecDepth 20000 in
theorem gk_f113_59 : gd_fetch 113 59 = some (59, .invokevirtual 339, 3, 1419, 103, 1, 0, 0) := rfl
set_option maxRecDepth 20000 in
theorem gk_f113_62 : gd_fetch 113 62 = some (62, .ifCond .eq 28, 3, 0, 0, 0, 0, 0) := rfl
set_option maxRecDepth 20000 in
theorem gk_f113_65 : gd_fetch 113 65 = some (65, .aload_n 0, 1, 0, 0, 0, 0, 0) := rfl
set_option maxRecDepth 20000 in
theorem gk_f113_66 : gd_fetch 113 66 = some (66, .getfield 60, 3, 1189, 9, 26, 4, 1) := rfl
set_option maxRecDepth 20000 in
theorem gk_f113_69 : gd_fetch 113 69 = some (69, .iload 6, 2, 0, 0, 0, 0, 0) := rfl
set_option maxRecDepth 20000 in
theorem gk_f113_71 : gd_fetch 113 71 = some (71, .iaload, 1, 0, 0, 0, 0, 0) := rfl
set_option maxRecDepth 20000 in
theorem gk_f113_72 : gd_fetch 113 72 = some (72, .iconst (-1), 1, 0, 0, 0, 0, 0) := rfl
set_option maxRecDepth 20000 in
theorem gk_f113_73 : gd_fetch 113 73 = some (73, .if_icmp .eq 19, 3, 0, 0, 0, 0, 0) := rfl
set_option maxRecDepth 20000 in
theorem gk_f113_76 : gd_fetch 113 76 = some (76, .aload_n 0, 1, 0, 0, 0, 0, 0) := rfl
set_option maxRecDepth 20000 in
theorem gk_f113_77 : gd_fetch 113 77 = some (77, .getfield 66, 3, 1191, 9, 28, 4, 1) := rfl
set_option maxRecDepth 20000 in
theorem gk_f113_80 : gd_fetch 113 80 = some (80, .iload 5, 2, 0, 0, 0, 0, 0) := rfl
set_option maxRecDepth 20000 in
theorem gk_f113_82 : gd_fetch 113 82 = some (82, .iaload, 1, 0, 0, 0, 0, 0) := rfl
set_option maxRecDepth 20000 in
theorem gk_f113_83 : gd_fetch 113 83 = some (83, .iload_n 3, 1, 0, 0, 0, 0, 0) := rfl
set_option maxRecDepth 20000 in
theorem gk_f113_84 : gd_fetch 113 84 = some (84, .ishr, 1, 0, 0, 0, 0, 0) := rfl
set_option maxRecDepth 20000 in
theorem gk_f113_85 : gd_fetch 113 85 = some (85, .iconst 1, 1, 0, 0, 0, 0, 0) := rfl
set_option maxRecDepth 20000 in
theorem gk_f113_86 : gd_fetch 113 86 = some (86, .iand, 1, 0, 0, 0, 0, 0) := rfl
set_option maxRecDepth 20000 in
theorem gk_f113_87 : gd_fetch 113 87 = some (87, .ifCond .ne 5, 3, 0, 0, 0, 0, 0) := rfl
set_option maxRecDepth 20000 in
theorem gk_f113_90 : gd_fetch 113 90 = some (90, .iconst (-1), 1, 0, 0, 0, 0, 0) := rfl
set_option maxRecDepth 20000 in
theorem gk_f113_91 : gd_fetch 113 91 = some (91, .ireturn, 1, 0, 0, 0, 0, 0) := rfl
set_option maxRecDepth 20000 in
theorem gk_f113_92 : gd_fetch 113 92 = some (92, .aload_n 0, 1, 0, 0, 0, 0, 0) := rfl
set_option maxRecDepth 20000 in
theorem gk_f113_93 : gd_fetch 113 93 = some (93, .getfield 60, 3, 1189, 9, 26, 4, 1) := rfl
set_option maxRecDepth 20000 in
theorem gk_f113_96 : gd_fetch 113 96 = some (96, .iload 6, 2, 0, 0, 0, 0, 0) := rfl
set_option maxRecDepth 20000 in
theorem gk_f113_98 : gd_fetch 113 98 = some (98, .iaload, 1, 0, 0, 0, 0, 0) := rfl
set_option maxRecDepth 20000 in
theorem gk_f113_99 : gd_fetch 113 99 = some (99, .iconst (-1), 1, 0, 0, 0, 0, 0) := rfl
set_option maxRecDepth 20000 in
theorem gk_f113_100 : gd_fetch 113 100 = some (100, .if_icmp .ne 7, 3, 0, 0, 0, 0, 0) := rfl
set_option maxRecDepth 20000 in
theorem gk_f113_103 : gd_fetch 113 103 = some (103, .iconst 1, 1, 0, 0, 0, 0, 0) := rfl
set_option maxRecDepth 20000 in
theorem gk_f113_104 : gd_fetch 113 104 = some (104, .goto 4, 3, 0, 0, 0, 0, 0) := rfl
set_option maxRecDepth 20000 in
theorem gk_f113_107 : gd_fetch 113 107 = some (107, .iconst 0, 1, 0, 0, 0, 0, 0) := rfl
set_option maxRecDepth 20000 in
theorem gk_f113_108 : gd_fetch 113 108 = some (108, .istore 7, 2, 0, 0, 0, 0, 0) := rfl
set_option maxRecDepth 20000 in
theorem gk_f113_110 : gd_fetch 113 110 = some (110, .aload_n 0, 1, 0, 0, 0, 0, 0) := rfl
set_option maxRecDepth 20000 in
theorem gk_f113_111 : gd_fetch 113 111 = some (111, .getfield 60, 3, 1189, 9, 26, 4, 1) := rfl
set_option maxRecDepth 20000 in
theorem gk_f113_114 : gd_fetch 113 114 = some (114, .iload 6, 2, 0, 0, 0, 0, 0) := rfl
set_option maxRecDepth 20000 in
theorem gk_f113_116 : gd_fetch 113 116 = some (116, .iload 4, 2, 0, 0, 0, 0, 0) := rfl
set_option maxRecDepth 20000 in
theorem gk_f113_118 : gd_fetch 113 118 = some (118, .iastore, 1, 0, 0, 0, 0, 0) := rfl
set_option maxRecDepth 20000 in
theorem gk_f113_119 : gd_fetch 113 119 = some (119, .aload_n 0, 1, 0, 0, 0, 0, 0) := rfl
set_option maxRecDepth 20000 in
theorem gk_f113_120 : gd_fetch 113 120 = some (120, .getfield 66, 3, 1191, 9, 28, 4, 1) := rfl
set_option maxRecDepth 20000 in
theorem gk_f113_123 : gd_fetch 113 123 = some (123, .iload 5, 2, 0, 0, 0, 0, 0) := rfl
set_option maxRecDepth 20000 in
theorem gk_f113_125 : gd_fetch 113 125 = some (125, .dup2, 1, 0, 0, 0, 0, 0) := rfl
set_option maxRecDepth 20000 in
theorem gk_f113_126 : gd_fetch 113 126 = some (126, .iaload, 1, 0, 0, 0, 0, 0) := rfl
set_option maxRecDepth 20000 in
theorem gk_f113_127 : gd_fetch 113 127 = some (127, .iconst 1, 1, 0, 0, 0, 0, 0) := rfl
set_option maxRecDepth 20000 in
theorem gk_f113_128 : gd_fetch 113 128 = some (128, .iload_n 3, 1, 0, 0, 0, 0, 0) := rfl
set_option maxRecDepth 20000 in
theorem gk_f113_129 : gd_fetch 113 129 = some (129, .ishl, 1, 0, 0, 0, 0, 0) := rfl
set_option maxRecDepth 20000 in
theorem gk_f113_130 : gd_fetch 113 130 = some (130, .iconst (-1), 1, 0, 0, 0, 0, 0) := rfl
set_option maxRecDepth 20000 in
theorem gk_f113_131 : gd_fetch 113 131 = some (131, .ixor, 1, 0, 0, 0, 0, 0) := rfl
set_option maxRecDepth 20000 in
theorem gk_f113_132 : gd_fetch 113 132 = some (132, .iand, 1, 0, 0, 0, 0, 0) := rfl
set_option maxRecDepth 20000 in
theorem gk_f113_133 : gd_fetch 113 133 = some (133, .iastore, 1, 0, 0, 0, 0, 0) := rfl
set_option maxRecDepth 20000 in
theorem gk_f113_134 : gd_fetch 113 134 = some (134, .iload 7, 2, 0, 0, 0, 0, 0) := rfl
set_option maxRecDepth 20000 in
theorem gk_f113_136 : gd_fetch 113 136 = some (136, .ifCond .ne 11, 3, 0, 0, 0, 0, 0) := rfl
set_option maxRecDepth 20000 in
theorem gk_f113_139 : gd_fetch 113 139 = some (139, .aload_n 0, 1, 0, 0, 0, 0, 0) := rfl
set_option maxRecDepth 20000 in
theorem gk_f113_140 : gd_fetch 113 140 = some (140, .getfield 63, 3, 1190, 9, 27, 4, 1) := rfl
set_option maxRecDepth 20000 in
theorem gk_f113_143 : gd_fetch 113 143 = some (143, .iload 5, 2, 0, 0, 0, 0, 0) := rfl
set_option maxRecDepth 20000 in
theorem gk_f113_145 : gd_fetch 113 145 = some (145, .iaload, 1, 0, 0, 0, 0, 0) := rfl
set_option maxRecDepth 20000 in
theorem gk_f113_146 : gd_fetch 113 146 = some (146, .ireturn, 1, 0, 0, 0, 0, 0) := rfl
set_option maxRecDepth 20000 in
theorem gk_f113_147 : gd_fetch 113 147 = some (147, .aload_n 0, 1, 0, 0, 0, 0, 0) := rfl
set_option maxRecDepth 20000 in
theorem gk_f113_148 : gd_fetch 113 148 = some (148, .getfield 63, 3, 1190, 9, 27, 4, 1) := rfl
set_option maxRecDepth 20000 in
theorem gk_f113_151 : gd_fetch 113 151 = some (151, .iload 5, 2, 0, 0, 0, 0, 0) := rfl
set_option maxRecDepth 20000 in
theorem gk_f113_153 : gd_fetch 113 153 = some (153, .dup2, 1, 0, 0, 0, 0, 0) := rfl
set_option maxRecDepth 20000 in
theorem gk_f113_154 : gd_fetch 113 154 = some (154, .iaload, 1, 0, 0, 0, 0, 0) := rfl
set_option maxRecDepth 20000 in
theorem gk_f113_155 : gd_fetch 113 155 = some (155, .iconst 1, 1, 0, 0, 0, 0, 0) := rfl
set_option maxRecDepth 20000 in
theorem gk_f113_156 : gd_fetch 113 156 = some (156, .iadd, 1, 0, 0, 0, 0, 0) := rfl
set_option maxRecDepth 20000 in
theorem gk_f113_157 : gd_fetch 113 157 = some (157, .iastore, 1, 0, 0, 0, 0, 0) := rfl
set_option maxRecDepth 20000 in
theorem gk_f113_158 : gd_fetch 113 158 = some (158, .aload_n 0, 1, 0, 0, 0, 0, 0) := rfl
set_option maxRecDepth 20000 in
theorem gk_f113_159 : gd_fetch 113 159 = some (159, .getfield 63, 3, 1190, 9, 27, 4, 1) := rfl
set_option maxRecDepth 20000 in
theorem gk_f113_162 : gd_fetch 113 162 = some (162, .iload 5, 2, 0, 0, 0, 0, 0) := rfl
set_option maxRecDepth 20000 in
theorem gk_f113_164 : gd_fetch 113 164 = some (164, .iaload, 1, 0, 0, 0, 0, 0) := rfl
set_option maxRecDepth 20000 in
theorem gk_f113_165 : gd_fetch 113 165 = some (165, .aload_n 0, 1, 0, 0, 0, 0, 0) := rfl
set_option maxRecDepth 20000 in
theorem gk_f113_166 : gd_fetch 113 166 = some (166, .getfield 19, 3, 1164, 9, 1, 4, 0) := rfl
set_option maxRecDepth 20000 in
theorem gk_f113_169 : gd_fetch 113 169 = some (169, .getfield 300, 3, 1073, 7, 21, 0, 0) := rfl
set_option maxRecDepth 20000 in
theorem gk_f113_172 : gd_fetch 113 172 = some (172, .if_icmp .ne 9, 3, 0, 0, 0, 0, 0) := rfl
set_option maxRecDepth 20000 in
theorem gk_f113_175 : gd_fetch 113 175 = some (175, .aload_n 0, 1, 0, 0, 0, 0, 0) := rfl
set_option maxRecDepth 20000 in
theorem gk_f113_176 : gd_fetch 113 176 = some (176, .iload 5, 2, 0, 0, 0, 0, 0) := rfl
set_option maxRecDepth 20000 in
theorem gk_f113_178 : gd_fetch 113 178 = some (178, .invokevirtual 342, 3, 1427, 112, 1, 0, 0) := rfl
set_option maxRecDepth 20000 in
theorem gk_f113_181 : gd_fetch 113 181 = some (181, .aload_n 0, 1, 0, 0, 0, 0, 0) := rfl
set_option maxRecDepth 20000 in
theorem gk_f113_182 : gd_fetch 113 182 = some (182, .getfield 63, 3, 1190, 9, 27, 4, 1) := rfl
set_option maxRecDepth 20000 in
theorem gk_f113_185 : gd_fetch 113 185 = some (185, .iload 5, 2, 0, 0, 0, 0, 0) := rfl
set_option maxRecDepth 20000 in
theorem gk_f113_187 : gd_fetch 113 187 = some (187, .iaload, 1, 0, 0, 0, 0, 0) := rfl
set_option maxRecDepth 20000 in
theorem gk_f113_188 : gd_fetch 113 188 = some (188, .ireturn, 1, 0, 0, 0, 0, 0) := rfl
set_option maxRecDepth 20000 in
set_option maxHeartbeats 4000000 in
theorem q_Mo_mark (r0 : Nat) (x1 : Int32) (x2 : Int32) (x3 : Int32) (x4 : Int32) (m : gd_M) : gd_call 113 [.ref r0, .int x1, .int x2, .int x3, .int x4] m = if gd_ok (gN m) r0 9 = true then ((gd_call 98 [.ref r0, .int x1, .int x2] m).bind (gd_kI fun z4 m2 => if (z4 = 0 : Prop) then (some (.int (-2), m2)) else (if gd_ok (gN m2) r0 9 = true then (if gd_ok (gN m2) (gR m2 r0 1) 7 = true then ((gd_call 71 [.int x3, .int 0, .int ((gI m2 (gR m2 r0 1) 21) - 1)] m2).bind (gd_k0I fun z11 m9 => if (z11 = 0 : Prop) then (some (.int (-2), m9)) else ((gd_call 71 [.int x4, .int 0, .int 100] m9).bind (gd_k0I fun z16 m14 => if (z16 = 0 : Prop) then (some (.int (-2), m14)) else (if gd_ok (gN m14) r0 9 = true then ((gd_call 103 [.ref r0, .int ((4 * x1) + x2)] m14).bind (gd_kI fun z22 m20 => if (z22 = 0 : Prop) then (some (.int (-1), m20)) else (if gd_ok (gN m20) r0 9 = true then (if gd_okA (gN m20) (gR m20 r0 26) 10 ((6 * ((4 * x1) + x2)) + x3) = true then (if ((gI m20 (gR m20 r0 26) (((6 * ((4 * x1) + x2)) + x3) : Int32).toNatClampNeg) = (-1) : Prop) then (gd_Den (113, 92, [.ref r0, .int x1, .int x2, .int x3, .int x4, .int ((4 * x1) + x2), .int ((6 * ((4 * x1) + x2)) + x3), .null], [], m20)) else (if gd_okA (gN m20) (gR m20 r0 28) 10 ((4 * x1) + x2) = true then (if (((((gI m20 (gR m20 r0 28) (((4 * x1) + x2) : Int32).toNatClampNeg) : Int32) >>> (x3 &&& 31)) &&& 1) = 0 : Prop) then (some (.int (-1), m20)) else (gd_Den (113, 92, [.ref r0, .int x1, .int x2, .int x3, .int x4, .int ((4 * x1) + x2), .int ((6 * ((4 * x1) + x2)) + x3), .null], [], m20))) else none)) else none) else none))) else none))))) else none) else none))) else none := by
  refine Eq.trans (show gd_call 113 [.ref r0, .int x1, .int x2, .int x3, .int x4] m = gd_Den (113, 0, [.ref r0, .int x1, .int x2, .int x3, .int x4, .null, .null, .null], [], m) from by unfold gd_call gd_ent; rw [gk_ml113]; rfl) ?_
  refine Eq.trans (D_aload_n (x := r0) gk_f113_0 rfl) ?_
  refine Eq.trans (D_iload_n (x := x1) gk_f113_1 rfl) ?_
  refine Eq.trans (D_iload_n (x := x2) gk_f113_2 rfl) ?_
  refine Eq.trans (D_ivZ (cl := 9) (args := [.ref r0, .int x1, .int x2]) (rest := []) gk_f113_3 rfl rfl (gd_rmk gk_rm113_98 gk_ln98 gk_ml98 rfl rfl rfl) gk_rk98 (gd_hnd_n gk_nc113) gk_nc98 gk_n11_98 gk_cl98) ?_
  refine gd_ite (fun h1 => ?_) (fun _ => rfl)
  refine gd_bnd (gd_kI_c fun z4 m2 => ?_)
  refine Eq.trans (D_if_eq (t := 37) gk_f113_6 (by decide)) ?_
  refine gd_ite (fun h5 => ?_) (fun h6 => ?_)
  · refine Eq.trans (D_bipush (x := (-2)) gk_f113_37 gk_b_m2) ?_
    refine Eq.trans (D_ireturn gk_f113_39 gk_rk113) ?_
    rfl
  · refine Eq.trans (D_iload_n (x := x3) gk_f113_9 rfl) ?_
    refine Eq.trans (D_iconst (x := 0) gk_f113_10 gk_c_0) ?_
    refine Eq.trans (D_aload_n (x := r0) gk_f113_11 rfl) ?_
    refine Eq.trans (D_gfR gk_f113_12 (by decide)) ?_
    refine gd_ite (fun h7 => ?_) (fun _ => rfl)
    refine Eq.trans (D_gfI gk_f113_15 (by decide) (by decide) (by decide)) ?_
    refine gd_ite (fun h8 => ?_) (fun _ => rfl)
    refine Eq.trans (D_iconst (x := 1) gk_f113_18 gk_c_1) ?_
    refine Eq.trans (D_isub gk_f113_19) ?_
    refine Eq.trans (D_isZ (args := [.int x3, .int 0, .int ((gI m2 (gR m2 r0 1) 21) - 1)]) (rest := []) gk_f113_20 rfl rfl rfl (gd_rmk gk_rm113_71 gk_ln71 gk_ml71 rfl rfl rfl) gk_rk71 (gd_hnd_n gk_nc113)) ?_
    refine gd_bnd (gd_k0I_c fun z11 m9 => ?_)
    refine Eq.trans (D_if_eq (t := 37) gk_f113_23 (by decide)) ?_
    refine gd_ite (fun h12 => ?_) (fun h13 => ?_)
    · refine Eq.trans (D_bipush (x := (-2)) gk_f113_37 gk_b_m2) ?_
      refine Eq.trans (D_ireturn gk_f113_39 gk_rk113) ?_
      rfl
    · refine Eq.trans (D_iload (x := x4) gk_f113_26 rfl) ?_
      refine Eq.trans (D_iconst (x := 0) gk_f113_28 gk_c_0) ?_
      refine Eq.trans (D_bipush (x := 100) gk_f113_29 gk_b_100) ?_
      refine Eq.trans (D_isZ (args := [.int x4, .int 0, .int 100]) (rest := []) gk_f113_31 rfl rfl rfl (gd_rmk gk_rm113_71 gk_ln71 gk_ml71 rfl rfl rfl) gk_rk71 (gd_hnd_n gk_nc113)) ?_
      refine gd_bnd (gd_k0I_c fun z16 m14 => ?_)
      refine Eq.trans (D_if_ne (t := 40) gk_f113_34 (by decide)) ?_
      refine gd_ite (fun h17 => ?_) (fun h18 => ?_)
      · refine Eq.trans (D_bipush (x := (-2)) gk_f113_37 gk_b_m2) ?_
        refine Eq.trans (D_ireturn gk_f113_39 gk_rk113) ?_
        rfl
      · refine Eq.trans (D_iconst (x := 4) gk_f113_40 gk_c_4) ?_
        refine Eq.trans (D_iload_n (x := x1) gk_f113_41 rfl) ?_
        refine Eq.trans (D_imul gk_f113_42) ?_
        refine Eq.trans (D_iload_n (x := x2) gk_f113_43 rfl) ?_
        refine Eq.trans (D_iadd gk_f113_44) ?_
        refine Eq.trans (D_istore gk_f113_45 gk_st113_5) ?_
        refine Eq.trans (D_bipush (x := 6) gk_f113_47 gk_b_6) ?_
        refine Eq.trans (D_iload (x := ((4 * x1) + x2)) gk_f113_49 rfl) ?_
        refine Eq.trans (D_imul gk_f113_51) ?_
        refine Eq.trans (D_iload_n (x := x3) gk_f113_52 rfl) ?_
        refine Eq.trans (D_iadd gk_f113_53) ?_
        refine Eq.trans (D_istore gk_f113_54 gk_st113_6) ?_
        refine Eq.trans (D_aload_n (x := r0) gk_f113_56 rfl) ?_
        refine Eq.trans (D_iload (x := ((4 * x1) + x2)) gk_f113_57 rfl) ?_
        refine Eq.trans (D_ivZ (cl := 9) (args := [.ref r0, .int ((4 * x1) + x2)]) (rest := []) gk_f113_59 rfl rfl (gd_rmk gk_rm113_103 gk_ln103 gk_ml103 rfl rfl rfl) gk_rk103 (gd_hnd_n gk_nc113) gk_nc103 gk_n11_103 gk_cl103) ?_
        refine gd_ite (fun h19 => ?_) (fun _ => rfl)
        refine gd_bnd (gd_kI_c fun z22 m20 => ?_)
        refine Eq.trans (D_if_eq (t := 90) gk_f113_62 (by decide)) ?_
        refine gd_ite (fun h23 => ?_) (fun h24 => ?_)
        · refine Eq.trans (D_iconst (x := (-1)) gk_f113_90 gk_c_m1) ?_
          refine Eq.trans (D_ireturn gk_f113_91 gk_rk113) ?_
          rfl
        · refine Eq.trans (D_aload_n (x := r0) gk_f113_65 rfl) ?_
          refine Eq.trans (D_gfR gk_f113_66 (by decide)) ?_
          refine gd_ite (fun h25 => ?_) (fun _ => rfl)
          refine Eq.trans (D_iload (x := ((6 * ((4 * x1) + x2)) + x3)) gk_f113_69 rfl) ?_
          refine Eq.trans (D_iald gk_f113_71 gk_n10_113) ?_
          refine gd_ite (fun h26 => ?_) (fun _ => rfl)
          refine Eq.trans (D_iconst (x := (-1)) gk_f113_72 gk_c_m1) ?_
          refine Eq.trans (D_ic_eq (t := 92) gk_f113_73 (by decide)) ?_
          refine gd_ite (fun h27 => ?_) (fun h28 => ?_)
          · rfl
          · refine Eq.trans (D_aload_n (x := r0) gk_f113_76 rfl) ?_
            refine Eq.trans (D_gfR gk_f113_77 (by decide)) ?_
            refine Eq.trans (if_pos h25) ?_
            refine Eq.trans (D_iload (x := ((4 * x1) + x2)) gk_f113_80 rfl) ?_
            refine Eq.trans (D_iald gk_f113_82 gk_n10_113) ?_
            refine gd_ite (fun h29 => ?_) (fun _ => rfl)
            refine Eq.trans (D_iload_n (x := x3) gk_f113_83 rfl) ?_
            refine Eq.trans (D_ishr gk_f113_84) ?_
            refine Eq.trans (D_iconst (x := 1) gk_f113_85 gk_c_1) ?_
            refine Eq.trans (D_iand gk_f113_86) ?_
            refine Eq.trans (D_if_ne (t := 92) gk_f113_87 (by decide)) ?_
            refine gd_ite (fun h30 => ?_) (fun h31 => ?_)
            · refine Eq.trans (D_iconst (x := (-1)) gk_f113_90 gk_c_m1) ?_
              refine Eq.trans (D_ireturn gk_f113_91 gk_rk113) ?_
              rfl
            · rfl
set_option maxRecDepth 20000 in
set_option maxHeartbeats 4000000 in
theorem q_Mo_mark_92 (r0 : Nat) (x1 : Int32) (x2 : Int32) (x3 : Int32) (x4 : Int32) (x5 : Int32) (x6 : Int32) (m : gd_M) : gd_Den (113, 92, [.ref r0, .int x1, .int x2, .int x3, .int x4, .int x5, .int x6, .null], [], m) = if gd_ok (gN m) r0 9 = true then (if gd_okA (gN m) (gR m r0 26) 10 x6 = true then (if ((gI m (gR m r0 26) (x6 : Int32).toNatClampNeg) = (-1) : Prop) then (if gd_okA (gN m) (gR m r0 28) 10 x5 = true then (if gd_okA (gN m) (gR m r0 27) 10 x5 = true then (if gd_ok (gN m) (gR m r0 1) 7 = true then (if ((gI (wI (wI (wI m (gR m r0 26) (x6 : Int32).toNatClampNeg x4) (gR m r0 28) (x5 : Int32).toNatClampNeg ((gI (wI m (gR m r0 26) (x6 : Int32).toNatClampNeg x4) (gR m r0 28) (x5 : Int32).toNatClampNeg) &&& (((1 : Int32) <<< (x3 &&& 31)) ^^^ (-1)))) (gR m r0 27) (x5 : Int32).toNatClampNeg ((gI (wI (wI m (gR m r0 26) (x6 : Int32).toNatClampNeg x4) (gR m r0 28) (x5 : Int32).toNatClampNeg ((gI (wI m (gR m r0 26) (x6 : Int32).toNatClampNeg x4) (gR m r0 28) (x5 : Int32).toNatClampNeg) &&& (((1 : Int32) <<< (x3 &&& 31)) ^^^ (-1)))) (gR m r0 27) (x5 : Int32).toNatClampNeg) + 1)) (gR m r0 27) (x5 : Int32).toNatClampNeg) = (gI (wI (wI (wI m (gR m r0 26) (x6 : Int32).toNatClampNeg x4) (gR m r0 28) (x5 : Int32).toNatClampNeg ((gI (wI m (gR m r0 26) (x6 : Int32).toNatClampNeg x4) (gR m r0 28) (x5 : Int32).toNatClampNeg) &&& (((1 : Int32) <<< (x3 &&& 31)) ^^^ (-1)))) (gR m r0 27) (x5 : Int32).toNatClampNeg ((gI (wI (wI m (gR m r0 26) (x6 : Int32).toNatClampNeg x4) (gR m r0 28) (x5 : Int32).toNatClampNeg ((gI (wI m (gR m r0 26) (x6 : Int32).toNatClampNeg x4) (gR m r0 28) (x5 : Int32).toNatClampNeg) &&& (((1 : Int32) <<< (x3 &&& 31)) ^^^ (-1)))) (gR m r0 27) (x5 : Int32).toNatClampNeg) + 1)) (gR m r0 1) 21) : Prop) then ((gd_call 112 [.ref r0, .int x5] (wI (wI (wI m (gR m r0 26) (x6 : Int32).toNatClampNeg x4) (gR m r0 28) (x5 : Int32).toNatClampNeg ((gI (wI m (gR m r0 26) (x6 : Int32).toNatClampNeg x4) (gR m r0 28) (x5 : Int32).toNatClampNeg) &&& (((1 : Int32) <<< (x3 &&& 31)) ^^^ (-1)))) (gR m r0 27) (x5 : Int32).toNatClampNeg ((gI (wI (wI m (gR m r0 26) (x6 : Int32).toNatClampNeg x4) (gR m r0 28) (x5 : Int32).toNatClampNeg ((gI (wI m (gR m r0 26) (x6 : Int32).toNatClampNeg x4) (gR m r0 28) (x5 : Int32).toNatClampNeg) &&& (((1 : Int32) <<< (x3 &&& 31)) ^^^ (-1)))) (gR m r0 27) (x5 : Int32).toNatClampNeg) + 1))).bind (gd_kV fun m10 => if gd_ok (gN m10) r0 9 = true then (if gd_okA (gN m10) (gR m10 r0 27) 10 x5 = true then (some (.int (gI m10 (gR m10 r0 27) (x5 : Int32).toNatClampNeg), m10)) else none) else none)) else (some (.int (gI (wI (wI (wI m (gR m r0 26) (x6 : Int32).toNatClampNeg x4) (gR m r0 28) (x5 : Int32).toNatClampNeg ((gI (wI m (gR m r0 26) (x6 : Int32).toNatClampNeg x4) (gR m r0 28) (x5 : Int32).toNatClampNeg) &&& (((1 : Int32) <<< (x3 &&& 31)) ^^^ (-1)))) (gR m r0 27) (x5 : Int32).toNatClampNeg ((gI (wI (wI m (gR m r0 26) (x6 : Int32).toNatClampNeg x4) (gR m r0 28) (x5 : Int32).toNatClampNeg ((gI (wI m (gR m r0 26) (x6 : Int32).toNatClampNeg x4) (gR m r0 28) (x5 : Int32).toNatClampNeg) &&& (((1 : Int32) <<< (x3 &&& 31)) ^^^ (-1)))) (gR m r0 27) (x5 : Int32).toNatClampNeg) + 1)) (gR m r0 27) (x5 : Int32).toNatClampNeg), (wI (wI (wI m (gR m r0 26) (x6 : Int32).toNatClampNeg x4) (gR m r0 28) (x5 : Int32).toNatClampNeg ((gI (wI m (gR m r0 26) (x6 : Int32).toNatClampNeg x4) (gR m r0 28) (x5 : Int32).toNatClampNeg) &&& (((1 : Int32) <<< (x3 &&& 31)) ^^^ (-1)))) (gR m r0 27) (x5 : Int32).toNatClampNeg ((gI (wI (wI m (gR m r0 26) (x6 : Int32).toNatClampNeg x4) (gR m r0 28) (x5 : Int32).toNatClampNeg ((gI (wI m (gR m r0 26) (x6 : Int32).toNatClampNeg x4) (gR m r0 28) (x5 : Int32).toNatClampNeg) &&& (((1 : Int32) <<< (x3 &&& 31)) ^^^ (-1)))) (gR m r0 27) (x5 : Int32).toNatClampNeg) + 1))))) else none) else none) else none) else (if gd_okA (gN m) (gR m r0 28) 10 x5 = true then (if gd_okA (gN m) (gR m r0 27) 10 x5 = true then (some (.int (gI (wI (wI m (gR m r0 26) (x6 : Int32).toNatClampNeg x4) (gR m r0 28) (x5 : Int32).toNatClampNeg ((gI (wI m (gR m r0 26) (x6 : Int32).toNatClampNeg x4) (gR m r0 28) (x5 : Int32).toNatClampNeg) &&& (((1 : Int32) <<< (x3 &&& 31)) ^^^ (-1)))) (gR m r0 27) (x5 : Int32).toNatClampNeg), (wI (wI m (gR m r0 26) (x6 : Int32).toNatClampNeg x4) (gR m r0 28) (x5 : Int32).toNatClampNeg ((gI (wI m (gR m r0 26) (x6 : Int32).toNatClampNeg x4) (gR m r0 28) (x5 : Int32).toNatClampNeg) &&& (((1 : Int32) <<< (x3 &&& 31)) ^^^ (-1)))))) else none) else none)) else none) else none := by
  refine Eq.trans (D_aload_n (x := r0) gk_f113_92 rfl) ?_
  refine Eq.trans (D_gfR gk_f113_93 (by decide)) ?_
  refine gd_ite (fun h1 => ?_) (fun _ => rfl)
  refine Eq.trans (D_iload (x := x6) gk_f113_96 rfl) ?_
  refine Eq.trans (D_iald gk_f113_98 gk_n10_113) ?_
  refine gd_ite (fun h2 => ?_) (fun _ => rfl)
  refine Eq.trans (D_iconst (x := (-1)) gk_f113_99 gk_c_m1) ?_
  refine Eq.trans (D_ic_ne (t := 107) gk_f113_100 (by decide)) ?_
  refine gd_ite (fun h3 => ?_) (fun h4 => ?_)
  · refine Eq.trans (D_iconst (x := 1) gk_f113_103 gk_c_1) ?_
    refine Eq.trans (D_goto (t := 108) gk_f113_104 (by decide)) ?_
    refine Eq.trans (D_istore gk_f113_108 gk_st113_7) ?_
    refine Eq.trans (D_aload_n (x := r0) gk_f113_110 rfl) ?_
    refine Eq.trans (D_gfR gk_f113_111 (by decide)) ?_
    refine Eq.trans (if_pos h1) ?_
    refine Eq.trans (D_iload (x := x6) gk_f113_114 rfl) ?_
    refine Eq.trans (D_iload (x := x4) gk_f113_116 rfl) ?_
    refine Eq.trans (D_iast gk_f113_118) ?_
    refine Eq.trans (if_pos h2) ?_
    refine Eq.trans (D_aload_n (x := r0) gk_f113_119 rfl) ?_
    refine Eq.trans (D_gfR gk_f113_120 (by decide)) ?_
    refine Eq.trans (if_pos h1) ?_
    refine Eq.trans (D_iload (x := x5) gk_f113_123 rfl) ?_
    refine Eq.trans (D_dup2 gk_f113_125) ?_
    refine Eq.trans (D_iald gk_f113_126 gk_n10_113) ?_
    refine gd_ite (fun h5 => ?_) (fun _ => rfl)
    refine Eq.trans (D_iconst (x := 1) gk_f113_127 gk_c_1) ?_
    refine Eq.trans (D_iload_n (x := x3) gk_f113_128 rfl) ?_
    refine Eq.trans (D_ishl gk_f113_129) ?_
    refine Eq.trans (D_iconst (x := (-1)) gk_f113_130 gk_c_m1) ?_
    refine Eq.trans (D_ixor gk_f113_131) ?_
    refine Eq.trans (D_iand gk_f113_132) ?_
    refine Eq.trans (D_iast gk_f113_133) ?_
    refine Eq.trans (if_pos h5) ?_
    refine Eq.trans (D_iload (x := 1) gk_f113_134 rfl) ?_
    refine Eq.trans (D_if_ne (t := 147) gk_f113_136 (by decide)) ?_
    refine Eq.trans (if_neg (by decide)) ?_
    refine Eq.trans (D_aload_n (x := r0) gk_f113_147 rfl) ?_
    refine Eq.trans (D_gfR gk_f113_148 (by decide)) ?_
    refine Eq.trans (if_pos h1) ?_
    refine Eq.trans (D_iload (x := x5) gk_f113_151 rfl) ?_
    refine Eq.trans (D_dup2 gk_f113_153) ?_
    refine Eq.trans (D_iald gk_f113_154 gk_n10_113) ?_
    refine gd_ite (fun h6 => ?_) (fun _ => rfl)
    refine Eq.trans (D_iconst (x := 1) gk_f113_155 gk_c_1) ?_
    refine Eq.trans (D_iadd gk_f113_156) ?_
    refine Eq.trans (D_iast gk_f113_157) ?_
    refine Eq.trans (if_pos h6) ?_
    refine Eq.trans (D_aload_n (x := r0) gk_f113_158 rfl) ?_
    refine Eq.trans (D_gfR gk_f113_159 (by decide)) ?_
    refine Eq.trans (if_pos h1) ?_
    refine Eq.trans (D_iload (x := x5) gk_f113_162 rfl) ?_
    refine Eq.trans (D_iald gk_f113_164 gk_n10_113) ?_
    refine Eq.trans (if_pos h6) ?_
    refine Eq.trans (D_aload_n (x := r0) gk_f113_165 rfl) ?_
    refine Eq.trans (D_gfR gk_f113_166 (by decide)) ?_
    refine Eq.trans (if_pos h1) ?_
    refine Eq.trans (D_gfI gk_f113_169 (by decide) (by decide) (by decide)) ?_
    refine gd_ite (fun h7 => ?_) (fun _ => rfl)
    refine Eq.trans (D_ic_ne (t := 181) gk_f113_172 (by decide)) ?_
    refine gd_ite (fun h8 => ?_) (fun h9 => ?_)
    · refine Eq.trans (D_aload_n (x := r0) gk_f113_175 rfl) ?_
      refine Eq.trans (D_iload (x := x5) gk_f113_176 rfl) ?_
      refine Eq.trans (D_ivV (cl := 9) (args := [.ref r0, .int x5]) (rest := []) gk_f113_178 rfl rfl (gd_rmk gk_rm113_112 gk_ln112 gk_ml112 rfl rfl rfl) gk_rk112 (gd_hnd_n gk_nc113) gk_nc112 gk_n11_112 gk_cl112) ?_
      refine Eq.trans (if_pos h1) ?_
      refine gd_bnd (gd_kV_c fun m10 => ?_)
      refine Eq.trans (D_aload_n (x := r0) gk_f113_181 rfl) ?_
      refine Eq.trans (D_gfR gk_f113_182 (by decide)) ?_
      refine gd_ite (fun h12 => ?_) (fun _ => rfl)
      refine Eq.trans (D_iload (x := x5) gk_f113_185 rfl) ?_
      refine Eq.trans (D_iald gk_f113_187 gk_n10_113) ?_
      refine gd_ite (fun h13 => ?_) (fun _ => rfl)
      refine Eq.trans (D_ireturn gk_f113_188 gk_rk113) ?_
      rfl
    · refine Eq.trans (D_aload_n (x := r0) gk_f113_181 rfl) ?_
      refine Eq.trans (D_gfR gk_f113_182 (by decide)) ?_
      refine Eq.trans (if_pos h1) ?_
      refine Eq.trans (D_iload (x := x5) gk_f113_185 rfl) ?_
      refine Eq.trans (D_iald gk_f113_187 gk_n10_113) ?_
      refine Eq.trans (if_pos h6) ?_
      refine Eq.trans (D_ireturn gk_f113_188 gk_rk113) ?_
      rfl
  · refine Eq.trans (D_iconst (x := 0) gk_f113_107 gk_c_0) ?_
    refine Eq.trans (D_istore gk_f113_108 gk_st113_7) ?_
    refine Eq.trans (D_aload_n (x := r0) gk_f113_110 rfl) ?_
    refine Eq.trans (D_gfR gk_f113_111 (by decide)) ?_
    refine Eq.trans (if_pos h1) ?_
    refine Eq.trans (D_iload (x := x6) gk_f113_114 rfl) ?_
    refine Eq.trans (D_iload (x := x4) gk_f113_116 rfl) ?_
    refine Eq.trans (D_iast gk_f113_118) ?_
    refine Eq.trans (if_pos h2) ?_
    refine Eq.trans (D_aload_n (x := r0) gk_f113_119 rfl) ?_
    refine Eq.trans (D_gfR gk_f113_120 (by decide)) ?_
    refine Eq.trans (if_pos h1) ?_
    refine Eq.trans (D_iload (x := x5) gk_f113_123 rfl) ?_
    refine Eq.trans (D_dup2 gk_f113_125) ?_
    refine Eq.trans (D_iald gk_f113_126 gk_n10_113) ?_
    refine gd_ite (fun h14 => ?_) (fun _ => rfl)
    refine Eq.trans (D_iconst (x := 1) gk_f113_127 gk_c_1) ?_
    refine Eq.trans (D_iload_n (x := x3) gk_f113_128 rfl) ?_
    refine Eq.trans (D_ishl gk_f113_129) ?_
    refine Eq.trans (D_iconst (x := (-1)) gk_f113_130 gk_c_m1) ?_
    refine Eq.trans (D_ixor gk_f113_131) ?_
    refine Eq.trans (D_iand gk_f113_132) ?_
    refine Eq.trans (D_iast gk_f113_133) ?_
    refine Eq.trans (if_pos h14) ?_
    refine Eq.trans (D_iload (x := 0) gk_f113_134 rfl) ?_
    refine Eq.trans (D_if_ne (t := 147) gk_f113_136 (by decide)) ?_
    refine Eq.trans (if_pos (by decide)) ?_
    refine Eq.trans (D_aload_n (x := r0) gk_f113_139 rfl) ?_
    refine Eq.trans (D_gfR gk_f113_140 (by decide)) ?_
    refine Eq.trans (if_pos h1) ?_
    refine Eq.trans (D_iload (x := x5) gk_f113_143 rfl) ?_
    refine Eq.trans (D_iald gk_f113_145 gk_n10_113) ?_
    refine gd_ite (fun h15 => ?_) (fun _ => rfl)
    refine Eq.trans (D_ireturn gk_f113_146 gk_rk113) ?_
    rfl
/-! GymDesk.asked (II)I -/
set_option maxRecDepth 20000 in
theorem gk_f114_0 : gd_fetch 114 0 = some (0, .aload_n 0, 1, 0, 0, 0, 0, 0) := rfl
set_option maxRecDepth 20000 in
theorem gk_f114_1 : gd_fetch 114 1 = some (1, .iload_n 1, 1, 0, 0, 0, 0, 0) := rfl
set_option maxRecDepth 20000 in
theorem gk_f114_2 : gd_fetch 114 2 = some (2, .iload_n 2, 1, 0, 0, 0, 0, 0) := rfl
set_option maxRecDepth 20000 in
theorem gk_f114_3 : gd_fetch 114 3 = some (3, .invokevirtual 124, 3, 685, 93, 2, 0, 0) := rfl
set_option maxRecDepth 20000 in
theorem gk_f114_6 : gd_fetch 114 6 = some (6, .astore_n 3, 1, 0, 0, 0, 0, 0) := rfl
set_option maxRecDepth 20000 in
theorem gk_f114_7 : gd_fetch 114 7 = some (7, .aload_n 3, 1, 0, 0, 0, 0, 0) := rfl
set_option maxRecDepth 20000 in
theorem gk_f114_8 : gd_fetch 114 8 = some (8, .ifnonnull 6, 3, 0, 0, 0, 0, 0) := rfl
set_option maxRecDepth 20000 in
theorem gk_f114_11 : gd_fetch 114 11 = some (11, .bipush (-2), 2, 0, 0, 0, 0, 0) := rfl
set_option maxRecDepth 20000 in
theorem gk_f114_13 : gd_fetch 114 13 = some (13, .ireturn, 1, 0, 0, 0, 0, 0) := rfl
set_option maxRecDepth 20000 in
theorem gk_f114_14 : gd_fetch 114 14 = some (14, .aload_n 3, 1, 0, 0, 0, 0, 0) := rfl
set_option maxRecDepth 20000 in
theorem gk_f114_15 : gd_fetch 114 15 = some (15, .getfield 82, 3, 406, 4, 3, 1, 0) := rfl
set_option maxRecDepth 20000 in
theorem gk_f114_18 : gd_fetch 114 18 = some (18, .ifCond .eq 10, 3, 0, 0, 0, 0, 0) := rfl
set_option maxRecDepth 20000 in
theorem gk_f114_21 : gd_fetch 114 21 = some (21, .aload_n 3, 1, 0, 0, 0, 0, 0) := rfl
set_option maxRecDepth 20000 in
theorem gk_f114_22 : gd_fetch 114 22 = some (22, .getfield 161, 3, 416, 4, 8, 0, 0) := rfl
set_option maxRecDepth 20000 in
theorem gk_f114_25 : gd_fetch 114 25 = some (25, .goto 4, 3, 0, 0, 0, 0, 0) := rfl
set_option maxRecDepth 20000 in
theorem gk_f114_28 : gd_fetch 114 28 = some (28, .iconst (-1), 1, 0, 0, 0, 0, 0) := rfl
set_option maxRecDepth 20000 in
theorem gk_f114_29 : gd_fetch 114 29 = some (29, .ireturn, 1, 0, 0, 0, 0, 0) := rfl
set_option maxRecDepth 20000 in
set_option maxHeartbeats 4000000 in
theorem q_X_asked (r0 : Nat) (x1 : Int32) (x2 : Int32) (m : gd_M) : gd_call 114 [.ref r0, .int x1, .int x2] m = if gd_ok (gN m) r0 6 = true then ((gd_call 93 [.ref r0, .int x1, .int x2] m).bind (gd_kR fun o4 m2 => if o4 = 0 then (some (.int (-2), m2)) else if 8 ≤ o4 then (if gd_ok (gN m2) o4 4 = true then (if ((gI m2 o4 3) = 0 : Prop) then (some (.int (-1), m2)) else (some (.int (gI m2 o4 8), m2))) else none) else none)) else none := by
  refine Eq.trans (show gd_call 114 [.ref r0, .int x1, .int x2] m = gd_Den (114, 0, [.ref r0, .int x1, .int x2, .null], [], m) from by unfold gd_call gd_ent; rw [gk_ml114]; rfl) ?_
  refine Eq.trans (D_aload_n (x := r0) gk_f114_0 rfl) ?_
  refine Eq.trans (D_iload_n (x := x1) gk_f114_1 rfl) ?_
  refine Eq.trans (D_iload_n (x := x2) gk_f114_2 rfl) ?_
  refine Eq.trans (D_ivR (cl := 6) (args := [.ref r0, .int x1, .int x2]) (rest := []) gk_f114_3 rfl rfl (gd_rmk gk_rm114_93 gk_ln93 gk_ml93 rfl rfl rfl) gk_rk93 (gd_hnd_n gk_nc114) gk_nc93 gk_n11_93 gk_cl93) ?_
  refine gd_ite (fun h1 => ?_) (fun _ => rfl)
  refine gd_bnd (gd_kR_c fun o4 m2 => ?_)
  refine Eq.trans (D_astore_n gk_f114_6 gk_st114_3) ?_
  refine Eq.trans (D_aload_n (x := o4) gk_f114_7 rfl) ?_
  refine Eq.trans (D_ifnonnull (t := 14) gk_f114_8 (by decide)) ?_
  refine gd_ite (fun h5 => ?_) (fun h6 => gd_ite (fun h7 => ?_) (fun _ => rfl))
  · refine Eq.trans (D_bipush (x := (-2)) gk_f114_11 gk_b_m2) ?_
    refine Eq.trans (D_ireturn gk_f114_13 gk_rk114) ?_
    rfl
  · refine Eq.trans (D_aload_n (x := o4) gk_f114_14 rfl) ?_
    refine Eq.trans (D_gfI gk_f114_15 (by decide) (by decide) (by decide)) ?_
    refine gd_ite (fun h8 => ?_) (fun _ => rfl)
    refine Eq.trans (D_if_eq (t := 28) gk_f114_18 (by decide)) ?_
    refine gd_ite (fun h9 => ?_) (fun h10 => ?_)
    · refine Eq.trans (D_iconst (x := (-1)) gk_f114_28 gk_c_m1) ?_
      refine Eq.trans (D_ireturn gk_f114_29 gk_rk114) ?_
      rfl
    · refine Eq.trans (D_aload_n (x := o4) gk_f114_21 rfl) ?_
      refine Eq.trans (D_gfI gk_f114_22 (by decide) (by decide) (by decide)) ?_
      refine Eq.trans (if_pos h8) ?_
      refine Eq.trans (D_goto (t := 29) gk_f114_25 (by decide)) ?_
      refine Eq.trans (D_ireturn gk_f114_29 gk_rk114) ?_
      rfl
/-! GymDeskModel.asked (II)I -/
set_option maxRecDepth 20000 in
theorem gk_f115_0 : gd_fetch 115 0 = some (0, .aload_n 0, 1, 0, 0, 0, 0, 0) := rfl
set_option maxRecDepth 20000 in
theorem gk_f115_1 : gd_fetch 115 1 = some (1, .iload_n 1, 1, 0, 0, 0, 0, 0) := rfl
set_option maxRecDepth 20000 in
theorem gk_f115_2 : gd_fetch 115 2 = some (2, .iload_n 2, 1, 0, 0, 0, 0, 0) := rfl
set_option maxRecDepth 20000 in
theorem gk_f115_3 : gd_fetch 115 3 = some (3, .invokevirtual 335, 3, 1407, 98, 2, 0, 0) := rfl
set_option maxRecDepth 20000 in
theorem gk_f115_6 : gd_fetch 115 6 = some (6, .ifCond .ne 6, 3, 0, 0, 0, 0, 0) := rfl
set_option maxRecDepth 20000 in
theorem gk_f115_9 : gd_fetch 115 9 = some (9, .bipush (-2), 2, 0, 0, 0, 0, 0) := rfl
set_option maxRecDepth 20000 in
theorem gk_f115_11 : gd_fetch 115 11 = some (11, .ireturn, 1, 0, 0, 0, 0, 0) := rfl
set_option maxRecDepth 20000 in
theorem gk_f115_12 : gd_fetch 115 12 = some (12, .aload_n 0, 1, 0, 0, 0, 0, 0) := rfl
set_option maxRecDepth 20000 in
theorem gk_f115_13 : gd_fetch 115 13 = some (13, .getfield 51, 3, 1186, 9, 23, 4, 1) := rfl
set_option maxRecDepth 20000 in
theorem gk_f115_16 : gd_fetch 115 16 = some (16, .iconst 4, 1, 0, 0, 0, 0, 0) := rfl
set_option maxRecDepth 20000 in
theorem gk_f115_17 : gd_fetch 115 17 = some (17, .iload_n 1, 1, 0, 0, 0, 0, 0) := rfl
set_option maxRecDepth 20000 in
theorem gk_f115_18 : gd_fetch 115 18 = some (18, .imul, 1, 0, 0, 0, 0, 0) := rfl
set_option maxRecDepth 20000 in
theorem gk_f115_19 : gd_fetch 115 19 = some (19, .iload_n 2, 1, 0, 0, 0, 0, 0) := rfl
set_option maxRecDepth 20000 in
theorem gk_f115_20 : gd_fetch 115 20 = some (20, .iadd, 1, 0, 0, 0, 0, 0) := rfl
set_option maxRecDepth 20000 in
theorem gk_f115_21 : gd_fetch 115 21 = some (21, .baload, 1, 0, 0, 0, 0, 0) := rfl
set_option maxRecDepth 20000 in
theorem gk_f115_22 : gd_fetch 115 22 = some (22, .ifCond .eq 16, 3, 0, 0, 0, 0, 0) := rfl
set_option maxRecDepth 20000 in
theorem gk_f115_25 : gd_fetch 115 25 = some (25, .aload_n 0, 1, 0, 0, 0, 0, 0) := rfl
set_option maxRecDepth 20000 in
theorem gk_f115_26 : gd_fetch 115 26 = some (26, .getfield 66, 3, 1191, 9, 28, 4, 1) := rfl
set_option maxRecDepth 20000 in
theorem gk_f115_29 : gd_fetch 115 29 = some (29, .iconst 4, 1, 0, 0, 0, 0, 0) := rfl
set_option maxRecDepth 20000 in
theorem gk_f115_30 : gd_fetch 115 30 = some (30, .iload_n 1, 1, 0, 0, 0, 0, 0) := rfl
set_option maxRecDepth 20000 in
theorem gk_f115_31 : gd_fetch 115 31 = some (31, .imul, 1, 0, 0, 0, 0, 0) := rfl
set_option maxRecDepth 20000 in
theorem gk_f115_32 : gd_fetch 115 32 = some (32, .iload_n 2, 1, 0, 0, 0, 0, 0) := rfl
set_option maxRecDepth 20000 in
theorem gk_f115_33 : gd_fetch 115 33 = some (33, .iadd, 1, 0, 0, 0, 0, 0) := rfl
set_option maxRecDepth 20000 in
theorem gk_f115_34 : gd_fetch 115 34 = some (34, .iaload, 1, 0, 0, 0, 0, 0) := rfl
set_option maxRecDepth 20000 in
theorem gk_f115_35 : gd_fetch 115 35 = some (35, .goto 4, 3, 0, 0, 0, 0, 0) := rfl
set_option maxRecDepth 20000 in
theorem gk_f115_38 : gd_fetch 115 38 = some (38, .iconst (-1), 1, 0, 0, 0, 0, 0) := rfl
set_option maxRecDepth 20000 in
theorem gk_f115_39 : gd_fetch 115 39 = some (39, .ireturn, 1, 0, 0, 0, 0, 0) := rfl
set_option maxRecDepth 20000 in
set_option maxHeartbeats 4000000 in
theorem q_Mo_asked (r0 : Nat) (x1 : Int32) (x2 : Int32) (m : gd_M) : gd_call 115 [.ref r0, .int x1, .int x2] m = if gd_ok (gN m) r0 9 = true then ((gd_call 98 [.ref r0, .int x1, .int x2] m).bind (gd_kI fun z4 m2 => if (z4 = 0 : Prop) then (some (.int (-2), m2)) else (if gd_ok (gN m2) r0 9 = true then (if gd_okA (gN m2) (gR m2 r0 23) 11 ((4 * x1) + x2) = true then (if ((gI m2 (gR m2 r0 23) (((4 * x1) + x2) : Int32).toNatClampNeg) = 0 : Prop) then (some (.int (-1), m2)) else (if gd_okA (gN m2) (gR m2 r0 28) 10 ((4 * x1) + x2) = true then (some (.int (gI m2 (gR m2 r0 28) (((4 * x1) + x2) : Int32).toNatClampNeg), m2)) else none)) else none) else none))) else none := by
  refine Eq.trans (show gd_call 115 [.ref r0, .int x1, .int x2] m = gd_Den (115, 0, [.ref r0, .int x1, .int x2], [], m) from by unfold gd_call gd_ent; rw [gk_ml115]; rfl) ?_
  refine Eq.trans (D_aload_n (x := r0) gk_f115_0 rfl) ?_
  refine Eq.trans (D_iload_n (x := x1) gk_f115_1 rfl) ?_
  refine Eq.trans (D_iload_n (x := x2) gk_f115_2 rfl) ?_
  refine Eq.trans (D_ivZ (cl := 9) (args := [.ref r0, .int x1, .int x2]) (rest := []) gk_f115_3 rfl rfl (gd_rmk gk_rm115_98 gk_ln98 gk_ml98 rfl rfl rfl) gk_rk98 (gd_hnd_n gk_nc115) gk_nc98 gk_n11_98 gk_cl98) ?_
  refine gd_ite (fun h1 => ?_) (fun _ => rfl)
  refine gd_bnd (gd_kI_c fun z4 m2 => ?_)
  refine Eq.trans (D_if_ne (t := 12) gk_f115_6 (by decide)) ?_
  refine gd_ite (fun h5 => ?_) (fun h6 => ?_)
  · refine Eq.trans (D_bipush (x := (-2)) gk_f115_9 gk_b_m2) ?_
    refine Eq.trans (D_ireturn gk_f115_11 gk_rk115) ?_
    rfl
  · refine Eq.trans (D_aload_n (x := r0) gk_f115_12 rfl) ?_
    refine Eq.trans (D_gfR gk_f115_13 (by decide)) ?_
    refine gd_ite (fun h7 => ?_) (fun _ => rfl)
    refine Eq.trans (D_iconst (x := 4) gk_f115_16 gk_c_4) ?_
    refine Eq.trans (D_iload_n (x := x1) gk_f115_17 rfl) ?_
    refine Eq.trans (D_imul gk_f115_18) ?_
    refine Eq.trans (D_iload_n (x := x2) gk_f115_19 rfl) ?_
    refine Eq.trans (D_iadd gk_f115_20) ?_
    refine Eq.trans (D_bald (kd := 11) gk_f115_21 gk_n12_115 gk_bk115) ?_
    refine gd_ite (fun h8 => ?_) (fun _ => rfl)
    refine Eq.trans (D_if_eq (t := 38) gk_f115_22 (by decide)) ?_
    refine gd_ite (fun h9 => ?_) (fun h10 => ?_)
    · refine Eq.trans (D_iconst (x := (-1)) gk_f115_38 gk_c_m1) ?_
      refine Eq.trans (D_ireturn gk_f115_39 gk_rk115) ?_
      rfl
    · refine Eq.trans (D_aload_n (x := r0) gk_f115_25 rfl) ?_
      refine Eq.trans (D_gfR gk_f115_26 (by decide)) ?_
      refine Eq.trans (if_pos h7) ?_
      refine Eq.trans (D_iconst (x := 4) gk_f115_29 gk_c_4) ?_
      refine Eq.trans (D_iload_n (x := x1) gk_f115_30 rfl) ?_
      refine Eq.trans (D_imul gk_f115_31) ?_
      refine Eq.trans (D_iload_n (x := x2) gk_f115_32 rfl) ?_
      refine Eq.trans (D_iadd gk_f115_33) ?_
      refine Eq.trans (D_iald gk_f115_34 gk_n10_115) ?_
      refine gd_ite (fun h11 => ?_) (fun _ => rfl)
      refine Eq.trans (D_goto (t := 39) gk_f115_35 (by decide)) ?_
      refine Eq.trans (D_ireturn gk_f115_39 gk_rk115) ?_
      rfl
/-! GymDesk$Routine.hasEntry (I)Z -/
set_option maxRecDepth 20000 in
theorem gk_f116_0 : gd_fetch 116 0 = some (0, .iload_n 1, 1, 0, 0, 0, 0, 0) := rfl
set_option maxRecDepth 20000 in
theorem gk_f116_1 : gd_fetch 116 1 = some (1, .ifCond .lt 15, 3, 0, 0, 0, 0, 0) := rfl
set_option maxRecDepth 20000 in
theorem gk_f116_4 : gd_fetch 116 4 = some (4, .iload_n 1, 1, 0, 0, 0, 0, 0) := rfl
set_option maxRecDepth 20000 in
theorem gk_f116_5 : gd_fetch 116 5 = some (5, .aload_n 0, 1, 0, 0, 0, 0, 0) := rfl
set_option maxRecDepth 20000 in
theorem gk_f116_6 : gd_fetch 116 6 = some (6, .getfield 31, 3, 411, 4, 6, 0, 0) := rfl
set_option maxRecDepth 20000 in
theorem gk_f116_9 : gd_fetch 116 9 = some (9, .if_icmp .ge 7, 3, 0, 0, 0, 0, 0) := rfl
set_option maxRecDepth 20000 in
theorem gk_f116_12 : gd_fetch 116 12 = some (12, .iconst 1, 1, 0, 0, 0, 0, 0) := rfl
set_option maxRecDepth 20000 in
theorem gk_f116_13 : gd_fetch 116 13 = some (13, .goto 4, 3, 0, 0, 0, 0, 0) := rfl
set_option maxRecDepth 20000 in
theorem gk_f116_16 : gd_fetch 116 16 = some (16, .iconst 0, 1, 0, 0, 0, 0, 0) := rfl
set_option maxRecDepth 20000 in
theorem gk_f116_17 : gd_fetch 116 17 = some (17, .ireturn, 1, 0, 0, 0, 0, 0) := rfl
set_option maxRecDepth 20000 in
set_option maxHeartbeats 4000000 in
theorem q_Ro_hasEntry (r0 : Nat) (x1 : Int32) (m : gd_M) : gd_call 116 [.ref r0, .int x1] m = if (x1 < 0 : Prop) then (some (.int 0, m)) else (if gd_ok (gN m) r0 4 = true then (if (x1 < (gI m r0 6) : Prop) then (some (.int 1, m)) else (some (.int 0, m))) else none) := by
  refine Eq.trans (show gd_call 116 [.ref r0, .int x1] m = gd_Den (116, 0, [.ref r0, .int x1], [], m) from by unfold gd_call gd_ent; rw [gk_ml116]; rfl) ?_
  refine Eq.trans (D_iload_n (x := x1) gk_f116_0 rfl) ?_
  refine Eq.trans (D_if_lt (t := 16) gk_f116_1 (by decide)) ?_
  refine gd_ite (fun h1 => ?_) (fun h2 => ?_)
  · refine Eq.trans (D_iconst (x := 0) gk_f116_16 gk_c_0) ?_
    refine Eq.trans (D_zreturn gk_f116_17 gk_rk116) ?_
    exact if_pos rfl
  · refine Eq.trans (D_iload_n (x := x1) gk_f116_4 rfl) ?_
    refine Eq.trans (D_aload_n (x := r0) gk_f116_5 rfl) ?_
    refine Eq.trans (D_gfI gk_f116_6 (by decide) (by decide) (by decide)) ?_
    refine gd_ite (fun h3 => ?_) (fun _ => rfl)
    refine Eq.trans (D_ic_ge (t := 16) gk_f116_9 (by decide)) ?_
    refine gd_ite (fun h4 => ?_) (fun h5 => ?_)
    · refine Eq.trans (D_iconst (x := 1) gk_f116_12 gk_c_1) ?_
      refine Eq.trans (D_goto (t := 17) gk_f116_13 (by decide)) ?_
      refine Eq.trans (D_zreturn gk_f116_17 gk_rk116) ?_
      exact if_pos rfl
    · refine Eq.trans (D_iconst (x := 0) gk_f116_16 gk_c_0) ?_
      refine Eq.trans (D_zreturn gk_f116_17 gk_rk116) ?_
      exact if_pos rfl
/-! java/lang/Integer.bitCount (I)I -/
set_option maxRecDepth 20000 in
theorem gk_f117_0 : gd_fetch 117 0 = some (0, .iload_n 0, 1, 0, 0, 0, 0, 0) := rfl
set_option maxRecDepth 20000 in
theorem gk_f117_1 : gd_fetch 117 1 = some (1, .iload_n 0, 1, 0, 0, 0, 0, 0) := rfl
set_option maxRecDepth 20000 in
theorem gk_f117_2 : gd_fetch 117 2 = some (2, .iconst 1, 1, 0, 0, 0, 0, 0) := rfl
set_option maxRecDepth 20000 in
theorem gk_f117_3 : gd_fetch 117 3 = some (3, .iushr, 1, 0, 0, 0, 0, 0) := rfl
set_option maxRecDepth 20000 in
theorem gk_f117_4 : gd_fetch 117 4 = some (4, .ldc_w 265, 3, 759, 0, 0, 0, 1431655765) := rfl
set_option maxRecDepth 20000 in
theorem gk_f117_7 : gd_fetch 117 7 = some (7, .iand, 1, 0, 0, 0, 0, 0) := rfl
set_option maxRecDepth 20000 in
theorem gk_f117_8 : gd_fetch 117 8 = some (8, .isub, 1, 0, 0, 0, 0, 0) := rfl
set_option maxRecDepth 20000 in
theorem gk_f117_9 : gd_fetch 117 9 = some (9, .istore_n 0, 1, 0, 0, 0, 0, 0) := rfl
set_option maxRecDepth 20000 in
theorem gk_f117_10 : gd_fetch 117 10 = some (10, .iload_n 0, 1, 0, 0, 0, 0, 0) := rfl
set_option maxRecDepth 20000 in
theorem gk_f117_11 : gd_fetch 117 11 = some (11, .ldc_w 266, 3, 760, 0, 0, 0, 858993459) := rfl
set_option maxRecDepth 20000 in
theorem gk_f117_14 : gd_fetch 117 14 = some (14, .iand, 1, 0, 0, 0, 0, 0) := rfl
set_option maxRecDepth 20000 in
theorem gk_f117_15 : gd_fetch 117 15 = some (15, .iload_n 0, 1, 0, 0, 0, 0, 0) := rfl
set_option maxRecDepth 20000 in
theorem gk_f117_16 : gd_fetch 117 16 = some (16, .iconst 2, 1, 0, 0, 0, 0, 0) := rfl
set_option maxRecDepth 20000 in
theorem gk_f117_17 : gd_fetch 117 17 = some (17, .iushr, 1, 0, 0, 0, 0, 0) := rfl
set_option maxRecDepth 20000 in
theorem gk_f117_18 : gd_fetch 117 18 = some (18, .ldc_w 266, 3, 760, 0, 0, 0, 858993459) := rfl
set_option maxRecDepth 20000 in
theorem gk_f117_21 : gd_fetch 117 21 = some (21, .iand, 1, 0, 0, 0, 0, 0) := rfl
set_option maxRecDepth 20000 in
theorem gk_f117_22 : gd_fetch 117 22 = some (22, .iadd, 1, 0, 0, 0, 0, 0) := rfl
set_option maxRecDepth 20000 in
theorem gk_f117_23 : gd_fetch 117 23 = some (23, .istore_n 0, 1, 0, 0, 0, 0, 0) := rfl
set_option maxRecDepth 20000 in
theorem gk_f117_24 : gd_fetch 117 24 = some (24, .iload_n 0, 1, 0, 0, 0, 0, 0) := rfl
set_option maxRecDepth 20000 in
theorem gk_f117_25 : gd_fetch 117 25 = some (25, .iload_n 0, 1, 0, 0, 0, 0, 0) := rfl
set_option maxRecDepth 20000 in
theorem gk_f117_26 : gd_fetch 117 26 = some (26, .iconst 4, 1, 0, 0, 0, 0, 0) := rfl
set_option maxRecDepth 20000 in
theorem gk_f117_27 : gd_fetch 117 27 = some (27, .iushr, 1, 0, 0, 0, 0, 0) := rfl
set_option maxRecDepth 20000 in
theorem gk_f117_28 : gd_fetch 117 28 = some (28, .iadd, 1, 0, 0, 0, 0, 0) := rfl
set_option maxRecDepth 20000 in
theorem gk_f117_29 : gd_fetch 117 29 = some (29, .ldc_w 267, 3, 761, 0, 0, 0, 252645135) := rfl
set_option maxRecDepth 20000 in
theorem gk_f117_32 : gd_fetch 117 32 = some (32, .iand, 1, 0, 0, 0, 0, 0) := rfl
set_option maxRecDepth 20000 in
theorem gk_f117_33 : gd_fetch 117 33 = some (33, .istore_n 0, 1, 0, 0, 0, 0, 0) := rfl
set_option maxRecDepth 20000 in
theorem gk_f117_34 : gd_fetch 117 34 = some (34, .iload_n 0, 1, 0, 0, 0, 0, 0) := rfl
set_option maxRecDepth 20000 in
theorem gk_f117_35 : gd_fetch 117 35 = some (35, .iload_n 0, 1, 0, 0, 0, 0, 0) := rfl
set_option maxRecDepth 20000 in
theorem gk_f117_36 : gd_fetch 117 36 = some (36, .bipush 8, 2, 0, 0, 0, 0, 0) := rfl
set_option maxRecDepth 20000 in
theorem gk_f117_38 : gd_fetch 117 38 = some (38, .iushr, 1, 0, 0, 0, 0, 0) := rfl
set_option maxRecDepth 20000 in
theorem gk_f117_39 : gd_fetch 117 39 = some (39, .iadd, 1, 0, 0, 0, 0, 0) := rfl
set_option maxRecDepth 20000 in
theorem gk_f117_40 : gd_fetch 117 40 = some (40, .istore_n 0, 1, 0, 0, 0, 0, 0) := rfl
set_option maxRecDepth 20000 in
theorem gk_f117_41 : gd_fetch 117 41 = some (41, .iload_n 0, 1, 0, 0, 0, 0, 0) := rfl
set_option maxRecDepth 20000 in
theorem gk_f117_42 : gd_fetch 117 42 = some (42, .iload_n 0, 1, 0, 0, 0, 0, 0) := rfl
set_option maxRecDepth 20000 in
theorem gk_f117_43 : gd_fetch 117 43 = some (43, .bipush 16, 2, 0, 0, 0, 0, 0) := rfl
set_option maxRecDepth 20000 in
theorem gk_f117_45 : gd_fetch 117 45 = some (45, .iushr, 1, 0, 0, 0, 0, 0) := rfl
set_option maxRecDepth 20000 in
theorem gk_f117_46 : gd_fetch 117 46 = some (46, .iadd, 1, 0, 0, 0, 0, 0) := rfl
set_option maxRecDepth 20000 in
theorem gk_f117_47 : gd_fetch 117 47 = some (47, .istore_n 0, 1, 0, 0, 0, 0, 0) := rfl
set_option maxRecDepth 20000 in
theorem gk_f117_48 : gd_fetch 117 48 = some (48, .iload_n 0, 1, 0, 0, 0, 0, 0) := rfl
set_option maxRecDepth 20000 in
theorem gk_f117_49 : gd_fetch 117 49 = some (49, .bipush 63, 2, 0, 0, 0, 0, 0) := rfl
set_option maxRecDepth 20000 in
theorem gk_f117_51 : gd_fetch 117 51 = some (51, .iand, 1, 0, 0, 0, 0, 0) := rfl
set_option maxRecDepth 20000 in
theorem gk_f117_52 : gd_fetch 117 52 = some (52, .ireturn, 1, 0, 0, 0, 0, 0) := rfl
set_option maxRecDepth 20000 in
set_option maxHeartbeats 4000000 in
theorem q_In_bitCount (x0 : Int32) (m : gd_M) : gd_call 117 [.int x0] m = some (.int ((((((((x0 - ((((x0 : Int32).toUInt32 >>> ((1 : Int32).toUInt32 &&& Int32.toUInt32 31)).toInt32) &&& 1431655765)) &&& 858993459) + (((((x0 - ((((x0 : Int32).toUInt32 >>> ((1 : Int32).toUInt32 &&& Int32.toUInt32 31)).toInt32) &&& 1431655765)) : Int32).toUInt32 >>> ((2 : Int32).toUInt32 &&& Int32.toUInt32 31)).toInt32) &&& 858993459)) + ((((((x0 - ((((x0 : Int32).toUInt32 >>> ((1 : Int32).toUInt32 &&& Int32.toUInt32 31)).toInt32) &&& 1431655765)) &&& 858993459) + (((((x0 - ((((x0 : Int32).toUInt32 >>> ((1 : Int32).toUInt32 &&& Int32.toUInt32 31)).toInt32) &&& 1431655765)) : Int32).toUInt32 >>> ((2 : Int32).toUInt32 &&& Int32.toUInt32 31)).toInt32) &&& 858993459)) : Int32).toUInt32 >>> ((4 : Int32).toUInt32 &&& Int32.toUInt32 31)).toInt32)) &&& 252645135) + ((((((((x0 - ((((x0 : Int32).toUInt32 >>> ((1 : Int32).toUInt32 &&& Int32.toUInt32 31)).toInt32) &&& 1431655765)) &&& 858993459) + (((((x0 - ((((x0 : Int32).toUInt32 >>> ((1 : Int32).toUInt32 &&& Int32.toUInt32 31)).toInt32) &&& 1431655765)) : Int32).toUInt32 >>> ((2 : Int32).toUInt32 &&& Int32.toUInt32 31)).toInt32) &&& 858993459)) + ((((((x0 - ((((x0 : Int32).toUInt32 >>> ((1 : Int32).toUInt32 &&& Int32.toUInt32 31)).toInt32) &&& 1431655765)) &&& 858993459) + (((((x0 - ((((x0 : Int32).toUInt32 >>> ((1 : Int32).toUInt32 &&& Int32.toUInt32 31)).toInt32) &&& 1431655765)) : Int32).toUInt32 >>> ((2 : Int32).toUInt32 &&& Int32.toUInt32 31)).toInt32) &&& 858993459)) : Int32).toUInt32 >>> ((4 : Int32).toUInt32 &&& Int32.toUInt32 31)).toInt32)) &&& 252645135) : Int32).toUInt32 >>> ((8 : Int32).toUInt32 &&& Int32.toUInt32 31)).toInt32)) + (((((((((x0 - ((((x0 : Int32).toUInt32 >>> ((1 : Int32).toUInt32 &&& Int32.toUInt32 31)).toInt32) &&& 1431655765)) &&& 858993459) + (((((x0 - ((((x0 : Int32).toUInt32 >>> ((1 : Int32).toUInt32 &&& Int32.toUInt32 31)).toInt32) &&& 1431655765)) : Int32).toUInt32 >>> ((2 : Int32).toUInt32 &&& Int32.toUInt32 31)).toInt32) &&& 858993459)) + ((((((x0 - ((((x0 : Int32).toUInt32 >>> ((1 : Int32).toUInt32 &&& Int32.toUInt32 31)).toInt32) &&& 1431655765)) &&& 858993459) + (((((x0 - ((((x0 : Int32).toUInt32 >>> ((1 : Int32).toUInt32 &&& Int32.toUInt32 31)).toInt32) &&& 1431655765)) : Int32).toUInt32 >>> ((2 : Int32).toUInt32 &&& Int32.toUInt32 31)).toInt32) &&& 858993459)) : Int32).toUInt32 >>> ((4 : Int32).toUInt32 &&& Int32.toUInt32 31)).toInt32)) &&& 252645135) + ((((((((x0 - ((((x0 : Int32).toUInt32 >>> ((1 : Int32).toUInt32 &&& Int32.toUInt32 31)).toInt32) &&& 1431655765)) &&& 858993459) + (((((x0 - ((((x0 : Int32).toUInt32 >>> ((1 : Int32).toUInt32 &&& Int32.toUInt32 31)).toInt32) &&& 1431655765)) : Int32).toUInt32 >>> ((2 : Int32).toUInt32 &&& Int32.toUInt32 31)).toInt32) &&& 858993459)) + ((((((x0 - ((((x0 : Int32).toUInt32 >>> ((1 : Int32).toUInt32 &&& Int32.toUInt32 31)).toInt32) &&& 1431655765)) &&& 858993459) + (((((x0 - ((((x0 : Int32).toUInt32 >>> ((1 : Int32).toUInt32 &&& Int32.toUInt32 31)).toInt32) &&& 1431655765)) : Int32).toUInt32 >>> ((2 : Int32).toUInt32 &&& Int32.toUInt32 31)).toInt32) &&& 858993459)) : Int32).toUInt32 >>> ((4 : Int32).toUInt32 &&& Int32.toUInt32 31)).toInt32)) &&& 252645135) : Int32).toUInt32 >>> ((8 : Int32).toUInt32 &&& Int32.toUInt32 31)).toInt32)) : Int32).toUInt32 >>> ((16 : Int32).toUInt32 &&& Int32.toUInt32 31)).toInt32)) &&& 63), m) := by
  refine Eq.trans (show gd_call 117 [.int x0] m = gd_Den (117, 0, [.int x0], [], m) from by unfold gd_call gd_ent; rw [gk_ml117]; rfl) ?_
  refine Eq.trans (D_iload_n (x := x0) gk_f117_0 rfl) ?_
  refine Eq.trans (D_iload_n (x := x0) gk_f117_1 rfl) ?_
  refine Eq.trans (D_iconst (x := 1) gk_f117_2 gk_c_1) ?_
  refine Eq.trans (D_iushr gk_f117_3) ?_
  refine Eq.trans (D_ldc_w (x := 1431655765) gk_f117_4 gk_c_1431655765) ?_
  refine Eq.trans (D_iand gk_f117_7) ?_
  refine Eq.trans (D_isub gk_f117_8) ?_
  refine Eq.trans (D_istore_n gk_f117_9 gk_st117_0) ?_
  refine Eq.trans (D_iload_n (x := (x0 - ((((x0 : Int32).toUInt32 >>> ((1 : Int32).toUInt32 &&& Int32.toUInt32 31)).toInt32) &&& 1431655765))) gk_f117_10 rfl) ?_
  refine Eq.trans (D_ldc_w (x := 858993459) gk_f117_11 gk_c_858993459) ?_
  refine Eq.trans (D_iand gk_f117_14) ?_
  refine Eq.trans (D_iload_n (x := (x0 - ((((x0 : Int32).toUInt32 >>> ((1 : Int32).toUInt32 &&& Int32.toUInt32 31)).toInt32) &&& 1431655765))) gk_f117_15 rfl) ?_
  refine Eq.trans (D_iconst (x := 2) gk_f117_16 gk_c_2) ?_
  refine Eq.trans (D_iushr gk_f117_17) ?_
  refine Eq.trans (D_ldc_w (x := 858993459) gk_f117_18 gk_c_858993459) ?_
  refine Eq.trans (D_iand gk_f117_21) ?_
  refine Eq.trans (D_iadd gk_f117_22) ?_
  refine Eq.trans (D_istore_n gk_f117_23 gk_st117_0) ?_
  refine Eq.trans (D_iload_n (x := (((x0 - ((((x0 : Int32).toUInt32 >>> ((1 : Int32).toUInt32 &&& Int32.toUInt32 31)).toInt32) &&& 1431655765)) &&& 858993459) + (((((x0 - ((((x0 : Int32).toUInt32 >>> ((1 : Int32).toUInt32 &&& Int32.toUInt32 31)).toInt32) &&& 1431655765)) : Int32).toUInt32 >>> ((2 : Int32).toUInt32 &&& Int32.toUInt32 31)).toInt32) &&& 858993459))) gk_f117_24 rfl) ?_
  refine Eq.trans (D_iload_n (x := (((x0 - ((((x0 : Int32).toUInt32 >>> ((1 : Int32).toUInt32 &&& Int32.toUInt32 31)).toInt32) &&& 1431655765)) &&& 858993459) + (((((x0 - ((((x0 : Int32).toUInt32 >>> ((1 : Int32).toUInt32 &&& Int32.toUInt32 31)).toInt32) &&& 1431655765)) : Int32).toUInt32 >>> ((2 : Int32).toUInt32 &&& Int32.toUInt32 31)).toInt32) &&& 858993459))) gk_f117_25 rfl) ?_
  refine Eq.trans (D_iconst (x := 4) gk_f117_26 gk_c_4) ?_
  refine Eq.trans (D_iushr gk_f117_27) ?_
  refine Eq.trans (D_iadd gk_f117_28) ?_
  refine Eq.trans (D_ldc_w (x := 252645135) gk_f117_29 gk_c_252645135) ?_
  refine Eq.trans (D_iand gk_f117_32) ?_
  refine Eq.trans (D_istore_n gk_f117_33 gk_st117_0) ?_
  refine Eq.trans (D_iload_n (x := (((((x0 - ((((x0 : Int32).toUInt32 >>> ((1 : Int32).toUInt32 &&& Int32.toUInt32 31)).toInt32) &&& 1431655765)) &&& 858993459) + (((((x0 - ((((x0 : Int32).toUInt32 >>> ((1 : Int32).toUInt32 &&& Int32.toUInt32 31)).toInt32) &&& 1431655765)) : Int32).toUInt32 >>> ((2 : Int32).toUInt32 &&& Int32.toUInt32 31)).toInt32) &&& 858993459)) + ((((((x0 - ((((x0 : Int32).toUInt32 >>> ((1 : Int32).toUInt32 &&& Int32.toUInt32 31)).toInt32) &&& 1431655765)) &&& 858993459) + (((((x0 - ((((x0 : Int32).toUInt32 >>> ((1 : Int32).toUInt32 &&& Int32.toUInt32 31)).toInt32) &&& 1431655765)) : Int32).toUInt32 >>> ((2 : Int32).toUInt32 &&& Int32.toUInt32 31)).toInt32) &&& 858993459)) : Int32).toUInt32 >>> ((4 : Int32).toUInt32 &&& Int32.toUInt32 31)).toInt32)) &&& 252645135)) gk_f117_34 rfl) ?_
  refine Eq.trans (D_iload_n (x := (((((x0 - ((((x0 : Int32).toUInt32 >>> ((1 : Int32).toUInt32 &&& Int32.toUInt32 31)).toInt32) &&& 1431655765)) &&& 858993459) + (((((x0 - ((((x0 : Int32).toUInt32 >>> ((1 : Int32).toUInt32 &&& Int32.toUInt32 31)).toInt32) &&& 1431655765)) : Int32).toUInt32 >>> ((2 : Int32).toUInt32 &&& Int32.toUInt32 31)).toInt32) &&& 858993459)) + ((((((x0 - ((((x0 : Int32).toUInt32 >>> ((1 : Int32).toUInt32 &&& Int32.toUInt32 31)).toInt32) &&& 1431655765)) &&& 858993459) + (((((x0 - ((((x0 : Int32).toUInt32 >>> ((1 : Int32).toUInt32 &&& Int32.toUInt32 31)).toInt32) &&& 1431655765)) : Int32).toUInt32 >>> ((2 : Int32).toUInt32 &&& Int32.toUInt32 31)).toInt32) &&& 858993459)) : Int32).toUInt32 >>> ((4 : Int32).toUInt32 &&& Int32.toUInt32 31)).toInt32)) &&& 252645135)) gk_f117_35 rfl) ?_
  refine Eq.trans (D_bipush (x := 8) gk_f117_36 gk_b_8) ?_
  refine Eq.trans (D_iushr gk_f117_38) ?_
  refine Eq.trans (D_iadd gk_f117_39) ?_
  refine Eq.trans (D_istore_n gk_f117_40 gk_st117_0) ?_
  refine Eq.trans (D_iload_n (x := ((((((x0 - ((((x0 : Int32).toUInt32 >>> ((1 : Int32).toUInt32 &&& Int32.toUInt32 31)).toInt32) &&& 1431655765)) &&& 858993459) + (((((x0 - ((((x0 : Int32).toUInt32 >>> ((1 : Int32).toUInt32 &&& Int32.toUInt32 31)).toInt32) &&& 1431655765)) : Int32).toUInt32 >>> ((2 : Int32).toUInt32 &&& Int32.toUInt32 31)).toInt32) &&& 858993459)) + ((((((x0 - ((((x0 : Int32).toUInt32 >>> ((1 : Int32).toUInt32 &&& Int32.toUInt32 31)).toInt32) &&& 1431655765)) &&& 858993459) + (((((x0 - ((((x0 : Int32).toUInt32 >>> ((1 : Int32).toUInt32 &&& Int32.toUInt32 31)).toInt32) &&& 1431655765)) : Int32).toUInt32 >>> ((2 : Int32).toUInt32 &&& Int32.toUInt32 31)).toInt32) &&& 858993459)) : Int32).toUInt32 >>> ((4 : Int32).toUInt32 &&& Int32.toUInt32 31)).toInt32)) &&& 252645135) + ((((((((x0 - ((((x0 : Int32).toUInt32 >>> ((1 : Int32).toUInt32 &&& Int32.toUInt32 31)).toInt32) &&& 1431655765)) &&& 858993459) + (((((x0 - ((((x0 : Int32).toUInt32 >>> ((1 : Int32).toUInt32 &&& Int32.toUInt32 31)).toInt32) &&& 1431655765)) : Int32).toUInt32 >>> ((2 : Int32).toUInt32 &&& Int32.toUInt32 31)).toInt32) &&& 858993459)) + ((((((x0 - ((((x0 : Int32).toUInt32 >>> ((1 : Int32).toUInt32 &&& Int32.toUInt32 31)).toInt32) &&& 1431655765)) &&& 858993459) + (((((x0 - ((((x0 : Int32).toUInt32 >>> ((1 : Int32).toUInt32 &&& Int32.toUInt32 31)).toInt32) &&& 1431655765)) : Int32).toUInt32 >>> ((2 : Int32).toUInt32 &&& Int32.toUInt32 31)).toInt32) &&& 858993459)) : Int32).toUInt32 >>> ((4 : Int32).toUInt32 &&& Int32.toUInt32 31)).toInt32)) &&& 252645135) : Int32).toUInt32 >>> ((8 : Int32).toUInt32 &&& Int32.toUInt32 31)).toInt32))) gk_f117_41 rfl) ?_
  refine Eq.trans (D_iload_n (x := ((((((x0 - ((((x0 : Int32).toUInt32 >>> ((1 : Int32).toUInt32 &&& Int32.toUInt32 31)).toInt32) &&& 1431655765)) &&& 858993459) + (((((x0 - ((((x0 : Int32).toUInt32 >>> ((1 : Int32).toUInt32 &&& Int32.toUInt32 31)).toInt32) &&& 1431655765)) : Int32).toUInt32 >>> ((2 : Int32).toUInt32 &&& Int32.toUInt32 31)).toInt32) &&& 858993459)) + ((((((x0 - ((((x0 : Int32).toUInt32 >>> ((1 : Int32).toUInt32 &&& Int32.toUInt32 31)).toInt32) &&& 1431655765)) &&& 858993459) + (((((x0 - ((((x0 : Int32).toUInt32 >>> ((1 : Int32).toUInt32 &&& Int32.toUInt32 31)).toInt32) &&& 1431655765)) : Int32).toUInt32 >>> ((2 : Int32).toUInt32 &&& Int32.toUInt32 31)).toInt32) &&& 858993459)) : Int32).toUInt32 >>> ((4 : Int32).toUInt32 &&& Int32.toUInt32 31)).toInt32)) &&& 252645135) + ((((((((x0 - ((((x0 : Int32).toUInt32 >>> ((1 : Int32).toUInt32 &&& Int32.toUInt32 31)).toInt32) &&& 1431655765)) &&& 858993459) + (((((x0 - ((((x0 : Int32).toUInt32 >>> ((1 : Int32).toUInt32 &&& Int32.toUInt32 31)).toInt32) &&& 1431655765)) : Int32).toUInt32 >>> ((2 : Int32).toUInt32 &&& Int32.toUInt32 31)).toInt32) &&& 858993459)) + ((((((x0 - ((((x0 : Int32).toUInt32 >>> ((1 : Int32).toUInt32 &&& Int32.toUInt32 31)).toInt32) &&& 1431655765)) &&& 858993459) + (((((x0 - ((((x0 : Int32).toUInt32 >>> ((1 : Int32).toUInt32 &&& Int32.toUInt32 31)).toInt32) &&& 1431655765)) : Int32).toUInt32 >>> ((2 : Int32).toUInt32 &&& Int32.toUInt32 31)).toInt32) &&& 858993459)) : Int32).toUInt32 >>> ((4 : Int32).toUInt32 &&& Int32.toUInt32 31)).toInt32)) &&& 252645135) : Int32).toUInt32 >>> ((8 : Int32).toUInt32 &&& Int32.toUInt32 31)).toInt32))) gk_f117_42 rfl) ?_
  refine Eq.trans (D_bipush (x := 16) gk_f117_43 gk_b_16) ?_
  refine Eq.trans (D_iushr gk_f117_45) ?_
  refine Eq.trans (D_iadd gk_f117_46) ?_
  refine Eq.trans (D_istore_n gk_f117_47 gk_st117_0) ?_
  refine Eq.trans (D_iload_n (x := (((((((x0 - ((((x0 : Int32).toUInt32 >>> ((1 : Int32).toUInt32 &&& Int32.toUInt32 31)).toInt32) &&& 1431655765)) &&& 858993459) + (((((x0 - ((((x0 : Int32).toUInt32 >>> ((1 : Int32).toUInt32 &&& Int32.toUInt32 31)).toInt32) &&& 1431655765)) : Int32).toUInt32 >>> ((2 : Int32).toUInt32 &&& Int32.toUInt32 31)).toInt32) &&& 858993459)) + ((((((x0 - ((((x0 : Int32).toUInt32 >>> ((1 : Int32).toUInt32 &&& Int32.toUInt32 31)).toInt32) &&& 1431655765)) &&& 858993459) + (((((x0 - ((((x0 : Int32).toUInt32 >>> ((1 : Int32).toUInt32 &&& Int32.toUInt32 31)).toInt32) &&& 1431655765)) : Int32).toUInt32 >>> ((2 : Int32).toUInt32 &&& Int32.toUInt32 31)).toInt32) &&& 858993459)) : Int32).toUInt32 >>> ((4 : Int32).toUInt32 &&& Int32.toUInt32 31)).toInt32)) &&& 252645135) + ((((((((x0 - ((((x0 : Int32).toUInt32 >>> ((1 : Int32).toUInt32 &&& Int32.toUInt32 31)).toInt32) &&& 1431655765)) &&& 858993459) + (((((x0 - ((((x0 : Int32).toUInt32 >>> ((1 : Int32).toUInt32 &&& Int32.toUInt32 31)).toInt32) &&& 1431655765)) : Int32).toUInt32 >>> ((2 : Int32).toUInt32 &&& Int32.toUInt32 31)).toInt32) &&& 858993459)) + ((((((x0 - ((((x0 : Int32).toUInt32 >>> ((1 : Int32).toUInt32 &&& Int32.toUInt32 31)).toInt32) &&& 1431655765)) &&& 858993459) + (((((x0 - ((((x0 : Int32).toUInt32 >>> ((1 : Int32).toUInt32 &&& Int32.toUInt32 31)).toInt32) &&& 1431655765)) : Int32).toUInt32 >>> ((2 : Int32).toUInt32 &&& Int32.toUInt32 31)).toInt32) &&& 858993459)) : Int32).toUInt32 >>> ((4 : Int32).toUInt32 &&& Int32.toUInt32 31)).toInt32)) &&& 252645135) : Int32).toUInt32 >>> ((8 : Int32).toUInt32 &&& Int32.toUInt32 31)).toInt32)) + (((((((((x0 - ((((x0 : Int32).toUInt32 >>> ((1 : Int32).toUInt32 &&& Int32.toUInt32 31)).toInt32) &&& 1431655765)) &&& 858993459) + (((((x0 - ((((x0 : Int32).toUInt32 >>> ((1 : Int32).toUInt32 &&& Int32.toUInt32 31)).toInt32) &&& 1431655765)) : Int32).toUInt32 >>> ((2 : Int32).toUInt32 &&& Int32.toUInt32 31)).toInt32) &&& 858993459)) + ((((((x0 - ((((x0 : Int32).toUInt32 >>> ((1 : Int32).toUInt32 &&& Int32.toUInt32 31)).toInt32) &&& 1431655765)) &&& 858993459) + (((((x0 - ((((x0 : Int32).toUInt32 >>> ((1 : Int32).toUInt32 &&& Int32.toUInt32 31)).toInt32) &&& 1431655765)) : Int32).toUInt32 >>> ((2 : Int32).toUInt32 &&& Int32.toUInt32 31)).toInt32) &&& 858993459)) : Int32).toUInt32 >>> ((4 : Int32).toUInt32 &&& Int32.toUInt32 31)).toInt32)) &&& 252645135) + ((((((((x0 - ((((x0 : Int32).toUInt32 >>> ((1 : Int32).toUInt32 &&& Int32.toUInt32 31)).toInt32) &&& 1431655765)) &&& 858993459) + (((((x0 - ((((x0 : Int32).toUInt32 >>> ((1 : Int32).toUInt32 &&& Int32.toUInt32 31)).toInt32) &&& 1431655765)) : Int32).toUInt32 >>> ((2 : Int32).toUInt32 &&& Int32.toUInt32 31)).toInt32) &&& 858993459)) + ((((((x0 - ((((x0 : Int32).toUInt32 >>> ((1 : Int32).toUInt32 &&& Int32.toUInt32 31)).toInt32) &&& 1431655765)) &&& 858993459) + (((((x0 - ((((x0 : Int32).toUInt32 >>> ((1 : Int32).toUInt32 &&& Int32.toUInt32 31)).toInt32) &&& 1431655765)) : Int32).toUInt32 >>> ((2 : Int32).toUInt32 &&& Int32.toUInt32 31)).toInt32) &&& 858993459)) : Int32).toUInt32 >>> ((4 : Int32).toUInt32 &&& Int32.toUInt32 31)).toInt32)) &&& 252645135) : Int32).toUInt32 >>> ((8 : Int32).toUInt32 &&& Int32.toUInt32 31)).toInt32)) : Int32).toUInt32 >>> ((16 : Int32).toUInt32 &&& Int32.toUInt32 31)).toInt32))) gk_f117_48 rfl) ?_
  refine Eq.trans (D_bipush (x := 63) gk_f117_49 gk_b_63) ?_
  refine Eq.trans (D_iand gk_f117_51) ?_
  refine Eq.trans (D_ireturn gk_f117_52 gk_rk117) ?_
  rfl
/-! GymDesk$Routine.takenOff (LGymDesk$Code;)I -/
set_option maxRecDepth 20000 in
theorem gk_f118_0 : gd_fetch 118 0 = some (0, .iconst 0, 1, 0, 0, 0, 0, 0) := rfl
set_option maxRecDepth 20000 in
theorem gk_f118_1 : gd_fetch 118 1 = some (1, .istore_n 2, 1, 0, 0, 0, 0, 0) := rfl
set_option maxRecDepth 20000 in
theorem gk_f118_2 : gd_fetch 118 2 = some (2, .iconst 0, 1, 0, 0, 0, 0, 0) := rfl
set_option maxRecDepth 20000 in
theorem gk_f118_3 : gd_fetch 118 3 = some (3, .istore_n 3, 1, 0, 0, 0, 0, 0) := rfl
set_option maxRecDepth 20000 in
theorem gk_f118_4 : gd_fetch 118 4 = some (4, .iload_n 3, 1, 0, 0, 0, 0, 0) := rfl
set_option maxRecDepth 20000 in
theorem gk_f118_5 : gd_fetch 118 5 = some (5, .aload_n 1, 1, 0, 0, 0, 0, 0) := rfl
set_option maxRecDepth 20000 in
theorem gk_f118_6 : gd_fetch 118 6 = some (6, .getfield 70, 3, 360, 1, 14, 0, 0) := rfl
set_option maxRecDepth 20000 in
theorem gk_f118_9 : gd_fetch 118 9 = some (9, .if_icmp .ge 49, 3, 0, 0, 0, 0, 0) := rfl
set_option maxRecDepth 20000 in
theorem gk_f118_12 : gd_fetch 118 12 = some (12, .aload_n 0, 1, 0, 0, 0, 0, 0) := rfl
set_option maxRecDepth 20000 in
theorem gk_f118_13 : gd_fetch 118 13 = some (13, .getfield 18, 3, 403, 4, 2, 4, 1) := rfl
set_option maxRecDepth 20000 in
theorem gk_f118_16 : gd_fetch 118 16 = some (16, .iload_n 3, 1, 0, 0, 0, 0, 0) := rfl
set_option maxRecDepth 20000 in
theorem gk_f118_17 : gd_fetch 118 17 = some (17, .iaload, 1, 0, 0, 0, 0, 0) := rfl
set_option maxRecDepth 20000 in
theorem gk_f118_18 : gd_fetch 118 18 = some (18, .invokestatic 73, 3, 756, 117, 1, 0, 0) := rfl
set_option maxRecDepth 20000 in
theorem gk_f118_21 : gd_fetch 118 21 = some (21, .istore 4, 2, 0, 0, 0, 0, 0) := rfl
set_option maxRecDepth 20000 in
theorem gk_f118_23 : gd_fetch 118 23 = some (23, .aload_n 1, 1, 0, 0, 0, 0, 0) := rfl
set_option maxRecDepth 20000 in
theorem gk_f118_24 : gd_fetch 118 24 = some (24, .getfield 78, 3, 334, 1, 7, 4, 1) := rfl
set_option maxRecDepth 20000 in
theorem gk_f118_27 : gd_fetch 118 27 = some (27, .iload_n 3, 1, 0, 0, 0, 0, 0) := rfl
set_option maxRecDepth 20000 in
theorem gk_f118_28 : gd_fetch 118 28 = some (28, .baload, 1, 0, 0, 0, 0, 0) := rfl
set_option maxRecDepth 20000 in
theorem gk_f118_29 : gd_fetch 118 29 = some (29, .ifCond .ne 11, 3, 0, 0, 0, 0, 0) := rfl
set_option maxRecDepth 20000 in
theorem gk_f118_32 : gd_fetch 118 32 = some (32, .iload 4, 2, 0, 0, 0, 0, 0) := rfl
set_option maxRecDepth 20000 in
theorem gk_f118_34 : gd_fetch 118 34 = some (34, .iconst 1, 1, 0, 0, 0, 0, 0) := rfl
set_option maxRecDepth 20000 in
theorem gk_f118_35 : gd_fetch 118 35 = some (35, .invokestatic 82, 3, 762, 27, 2, 0, 0) := rfl
set_option maxRecDepth 20000 in
theorem gk_f118_38 : gd_fetch 118 38 = some (38, .istore 4, 2, 0, 0, 0, 0, 0) := rfl
set_option maxRecDepth 20000 in
theorem gk_f118_40 : gd_fetch 118 40 = some (40, .iload_n 2, 1, 0, 0, 0, 0, 0) := rfl
set_option maxRecDepth 20000 in
theorem gk_f118_41 : gd_fetch 118 41 = some (41, .aload_n 1, 1, 0, 0, 0, 0, 0) := rfl
set_option maxRecDepth 20000 in
theorem gk_f118_42 : gd_fetch 118 42 = some (42, .getfield 86, 3, 332, 1, 6, 4, 1) := rfl
set_option maxRecDepth 20000 in
theorem gk_f118_45 : gd_fetch 118 45 = some (45, .iload_n 3, 1, 0, 0, 0, 0, 0) := rfl
set_option maxRecDepth 20000 in
theorem gk_f118_46 : gd_fetch 118 46 = some (46, .iaload, 1, 0, 0, 0, 0, 0) := rfl
set_option maxRecDepth 20000 in
theorem gk_f118_47 : gd_fetch 118 47 = some (47, .iload 4, 2, 0, 0, 0, 0, 0) := rfl
set_option maxRecDepth 20000 in
theorem gk_f118_49 : gd_fetch 118 49 = some (49, .imul, 1, 0, 0, 0, 0, 0) := rfl
set_option maxRecDepth 20000 in
theorem gk_f118_50 : gd_fetch 118 50 = some (50, .iadd, 1, 0, 0, 0, 0, 0) := rfl
set_option maxRecDepth 20000 in
theorem gk_f118_51 : gd_fetch 118 51 = some (51, .istore_n 2, 1, 0, 0, 0, 0, 0) := rfl
set_option maxRecDepth 20000 in
theorem gk_f118_52 : gd_fetch 118 52 = some (52, .iinc 3 1, 3, 0, 0, 0, 0, 0) := rfl
set_option maxRecDepth 20000 in
theorem gk_f118_55 : gd_fetch 118 55 = some (55, .goto (-51), 3, 0, 0, 0, 0, 0) := rfl
set_option maxRecDepth 20000 in
theorem gk_f118_58 : gd_fetch 118 58 = some (58, .iload_n 2, 1, 0, 0, 0, 0, 0) := rfl
set_option maxRecDepth 20000 in
theorem gk_f118_59 : gd_fetch 118 59 = some (59, .ireturn, 1, 0, 0, 0, 0, 0) := rfl
set_option maxRecDepth 20000 in
set_option maxHeartbeats 4000000 in
theorem q_Ro_takenOff (r0 : Nat) (r1 : Nat) (m : gd_M) : gd_call 118 [.ref r0, .ref r1] m = gd_Den (118, 4, [.ref r0, .ref r1, .int 0, .int 0, .null], [], m) := by
  refine Eq.trans (show gd_call 118 [.ref r0, .ref r1] m = gd_Den (118, 0, [.ref r0, .ref r1, .null, .null, .null], [], m) from by unfold gd_call gd_ent; rw [gk_ml118]; rfl) ?_
  refine Eq.trans (D_iconst (x := 0) gk_f118_0 gk_c_0) ?_
  refine Eq.trans (D_istore_n gk_f118_1 gk_st118_2) ?_
  refine Eq.trans (D_iconst (x := 0) gk_f118_2 gk_c_0) ?_
  refine Eq.trans (D_istore_n gk_f118_3 gk_st118_3) ?_
  rfl
set_option maxRecDepth 20000 in
set_option maxHeartbeats 4000000 in
theorem q_Ro_takenOff_4 (r0 : Nat) (r1 : Nat) (x2 : Int32) (x3 : Int32) (v4 : Value) (m : gd_M) : gd_Den (118, 4, [.ref r0, .ref r1, .int x2, .int x3, v4], [], m) = if gd_ok (gN m) r1 1 = true then (if (x3 < (gI m r1 14) : Prop) then (if gd_ok (gN m) r0 4 = true then (if gd_okA (gN m) (gR m r0 2) 10 x3 = true then ((gd_call 117 [.int (gI m (gR m r0 2) (x3 : Int32).toNatClampNeg)] m).bind (gd_k0I fun z8 m6 => if gd_ok (gN m6) r1 1 = true then (if gd_okA (gN m6) (gR m6 r1 7) 11 x3 = true then (if ((gI m6 (gR m6 r1 7) (x3 : Int32).toNatClampNeg) = 0 : Prop) then ((gd_call 27 [.int z8, .int 1] m6).bind (gd_k0I fun z15 m13 => if gd_ok (gN m13) r1 1 = true then (if gd_okA (gN m13) (gR m13 r1 6) 10 x3 = true then (gd_Den (118, 4, [.ref r0, .ref r1, .int (x2 + ((gI m13 (gR m13 r1 6) (x3 : Int32).toNatClampNeg) * z15)), .int (x3 + 1), .int z15], [], m13)) else none) else none)) else (if gd_okA (gN m6) (gR m6 r1 6) 10 x3 = true then (gd_Den (118, 4, [.ref r0, .ref r1, .int (x2 + ((gI m6 (gR m6 r1 6) (x3 : Int32).toNatClampNeg) * z8)), .int (x3 + 1), .int z8], [], m6)) else none)) else none) else none)) else none) else none) else (some (.int x2, m))) else none := by
  refine Eq.trans (D_iload_n (x := x3) gk_f118_4 rfl) ?_
  refine Eq.trans (D_aload_n (x := r1) gk_f118_5 rfl) ?_
  refine Eq.trans (D_gfI gk_f118_6 (by decide) (by decide) (by decide)) ?_
  refine gd_ite (fun h1 => ?_) (fun _ => rfl)
  refine Eq.trans (D_ic_ge (t := 58) gk_f118_9 (by decide)) ?_
  refine gd_ite (fun h2 => ?_) (fun h3 => ?_)
  · refine Eq.trans (D_aload_n (x := r0) gk_f118_12 rfl) ?_
    refine Eq.trans (D_gfR gk_f118_13 (by decide)) ?_
    refine gd_ite (fun h4 => ?_) (fun _ => rfl)
    refine Eq.trans (D_iload_n (x := x3) gk_f118_16 rfl) ?_
    refine Eq.trans (D_iald gk_f118_17 gk_n10_118) ?_
    refine gd_ite (fun h5 => ?_) (fun _ => rfl)
    refine Eq.trans (D_isI (args := [.int (gI m (gR m r0 2) (x3 : Int32).toNatClampNeg)]) (rest := []) gk_f118_18 rfl rfl rfl (gd_rmk gk_rm118_117 gk_ln117 gk_ml117 rfl rfl rfl) gk_rk117 (gd_hnd_n gk_nc118)) ?_
    refine gd_bnd (gd_k0I_c fun z8 m6 => ?_)
    refine Eq.trans (D_istore gk_f118_21 gk_st118_4) ?_
    refine Eq.trans (D_aload_n (x := r1) gk_f118_23 rfl) ?_
    refine Eq.trans (D_gfR gk_f118_24 (by decide)) ?_
    refine gd_ite (fun h9 => ?_) (fun _ => rfl)
    refine Eq.trans (D_iload_n (x := x3) gk_f118_27 rfl) ?_
    refine Eq.trans (D_bald (kd := 11) gk_f118_28 gk_n12_118 gk_bk118) ?_
    refine gd_ite (fun h10 => ?_) (fun _ => rfl)
    refine Eq.trans (D_if_ne (t := 40) gk_f118_29 (by decide)) ?_
    refine gd_ite (fun h11 => ?_) (fun h12 => ?_)
    · refine Eq.trans (D_iload (x := z8) gk_f118_32 rfl) ?_
      refine Eq.trans (D_iconst (x := 1) gk_f118_34 gk_c_1) ?_
      refine Eq.trans (D_isI (args := [.int z8, .int 1]) (rest := []) gk_f118_35 rfl rfl rfl (gd_rmk gk_rm118_27 gk_ln27 gk_ml27 rfl rfl rfl) gk_rk27 (gd_hnd_n gk_nc118)) ?_
      refine gd_bnd (gd_k0I_c fun z15 m13 => ?_)
      refine Eq.trans (D_istore gk_f118_38 gk_st118_4) ?_
      refine Eq.trans (D_iload_n (x := x2) gk_f118_40 rfl) ?_
      refine Eq.trans (D_aload_n (x := r1) gk_f118_41 rfl) ?_
      refine Eq.trans (D_gfR gk_f118_42 (by decide)) ?_
      refine gd_ite (fun h16 => ?_) (fun _ => rfl)
      refine Eq.trans (D_iload_n (x := x3) gk_f118_45 rfl) ?_
      refine Eq.trans (D_iald gk_f118_46 gk_n10_118) ?_
      refine gd_ite (fun h17 => ?_) (fun _ => rfl)
      refine Eq.trans (D_iload (x := z15) gk_f118_47 rfl) ?_
      refine Eq.trans (D_imul gk_f118_49) ?_
      refine Eq.trans (D_iadd gk_f118_50) ?_
      refine Eq.trans (D_istore_n gk_f118_51 gk_st118_2) ?_
      refine Eq.trans (D_iinc (x := x3) (y := 1) gk_f118_52 rfl gk_c_1 gk_st118_3) ?_
      refine Eq.trans (D_goto (t := 4) gk_f118_55 (by decide)) ?_
      rfl
    · refine Eq.trans (D_iload_n (x := x2) gk_f118_40 rfl) ?_
      refine Eq.trans (D_aload_n (x := r1) gk_f118_41 rfl) ?_
      refine Eq.trans (D_gfR gk_f118_42 (by decide)) ?_
      refine Eq.trans (if_pos h9) ?_
      refine Eq.trans (D_iload_n (x := x3) gk_f118_45 rfl) ?_
      refine Eq.trans (D_iald gk_f118_46 gk_n10_118) ?_
      refine gd_ite (fun h18 => ?_) (fun _ => rfl)
      refine Eq.trans (D_iload (x := z8) gk_f118_47 rfl) ?_
      refine Eq.trans (D_imul gk_f118_49) ?_
      refine Eq.trans (D_iadd gk_f118_50) ?_
      refine Eq.trans (D_istore_n gk_f118_51 gk_st118_2) ?_
      refine Eq.trans (D_iinc (x := x3) (y := 1) gk_f118_52 rfl gk_c_1 gk_st118_3) ?_
      refine Eq.trans (D_goto (t := 4) gk_f118_55 (by decide)) ?_
      rfl
  · refine Eq.trans (D_iload_n (x := x2) gk_f118_58 rfl) ?_
    refine Eq.trans (D_ireturn gk_f118_59 gk_rk118) ?_
    rfl
/-! GymDesk.see (IIIII)I -/
set_option maxRecDepth 20000 in
theorem gk_f119_0 : gd_fetch 119 0 = some (0, .aload_n 0, 1, 0, 0, 0, 0, 0) := rfl
set_option maxRecDepth 20000 in
theorem gk_f119_1 : gd_fetch 119 1 = some (1, .iload_n 1, 1, 0, 0, 0, 0, 0) := rfl
set_option maxRecDepth 20000 in
theorem gk_f119_2 : gd_fetch 119 2 = some (2, .iload_n 2, 1, 0, 0, 0, 0, 0) := rfl
set_option maxRecDepth 20000 in
theorem gk_f119_3 : gd_fetch 119 3 = some (3, .invokevirtual 124, 3, 685, 93, 2, 0, 0) := rfl
set_option maxRecDepth 20000 in
theorem gk_f119_6 : gd_fetch 119 6 = some (6, .astore 6, 2, 0, 0, 0, 0, 0) := rfl
set_option maxRecDepth 20000 in
theorem gk_f119_8 : gd_fetch 119 8 = some (8, .aload 6, 2, 0, 0, 0, 0, 0) := rfl
set_option maxRecDepth 20000 in
theorem gk_f119_10 : gd_fetch 119 10 = some (10, .ifnull 28, 3, 0, 0, 0, 0, 0) := rfl
set_option maxRecDepth 20000 in
theorem gk_f119_13 : gd_fetch 119 13 = some (13, .aload_n 0, 1, 0, 0, 0, 0, 0) := rfl
set_option maxRecDepth 20000 in
theorem gk_f119_14 : gd_fetch 119 14 = some (14, .iload_n 3, 1, 0, 0, 0, 0, 0) := rfl
set_option maxRecDepth 20000 in
theorem gk_f119_15 : gd_fetch 119 15 = some (15, .invokevirtual 148, 3, 717, 105, 1, 0, 0) := rfl
set_option maxRecDepth 20000 in
theorem gk_f119_18 : gd_fetch 119 18 = some (18, .ifCond .eq 20, 3, 0, 0, 0, 0, 0) := rfl
set_option maxRecDepth 20000 in
theorem gk_f119_21 : gd_fetch 119 21 = some (21, .iload 4, 2, 0, 0, 0, 0, 0) := rfl
set_option maxRecDepth 20000 in
theorem gk_f119_23 : gd_fetch 119 23 = some (23, .ifCond .lt 15, 3, 0, 0, 0, 0, 0) := rfl
set_option maxRecDepth 20000 in
theorem gk_f119_26 : gd_fetch 119 26 = some (26, .iload 4, 2, 0, 0, 0, 0, 0) := rfl
set_option maxRecDepth 20000 in
theorem gk_f119_28 : gd_fetch 119 28 = some (28, .aload_n 0, 1, 0, 0, 0, 0, 0) := rfl
set_option maxRecDepth 20000 in
theorem gk_f119_29 : gd_fetch 119 29 = some (29, .getfield 56, 3, 469, 6, 9, 4, 0) := rfl
set_option maxRecDepth 20000 in
theorem gk_f119_32 : gd_fetch 119 32 = some (32, .getfield 164, 3, 361, 1, 14, 0, 0) := rfl
set_option maxRecDepth 20000 in
theorem gk_f119_35 : gd_fetch 119 35 = some (35, .if_icmp .lt 6, 3, 0, 0, 0, 0, 0) := rfl
set_option maxRecDepth 20000 in
theorem gk_f119_38 : gd_fetch 119 38 = some (38, .bipush (-2), 2, 0, 0, 0, 0, 0) := rfl
set_option maxRecDepth 20000 in
theorem gk_f119_40 : gd_fetch 119 40 = some (40, .ireturn, 1, 0, 0, 0, 0, 0) := rfl
set_option maxRecDepth 20000 in
theorem gk_f119_41 : gd_fetch 119 41 = some (41, .aload 6, 2, 0, 0, 0, 0, 0) := rfl
set_option maxRecDepth 20000 in
theorem gk_f119_43 : gd_fetch 119 43 = some (43, .invokevirtual 138, 3, 705, 100, 0, 0, 0) := rfl
set_option maxRecDepth 20000 in
theorem gk_f119_46 : gd_fetch 119 46 = some (46, .ifCond .eq 13, 3, 0, 0, 0, 0, 0) := rfl
set_option maxRecDepth 20000 in
theorem gk_f119_49 : gd_fetch 119 49 = some (49, .aload 6, 2, 0, 0, 0, 0, 0) := rfl
set_option maxRecDepth 20000 in
theorem gk_f119_51 : gd_fetch 119 51 = some (51, .iload 5, 2, 0, 0, 0, 0, 0) := rfl
set_option maxRecDepth 20000 in
theorem gk_f119_53 : gd_fetch 119 53 = some (53, .invokevirtual 167, 3, 748, 116, 1, 0, 0) := rfl
set_option maxRecDepth 20000 in
theorem gk_f119_56 : gd_fetch 119 56 = some (56, .ifCond .ne 5, 3, 0, 0, 0, 0, 0) := rfl
set_option maxRecDepth 20000 in
theorem gk_f119_59 : gd_fetch 119 59 = some (59, .iconst (-1), 1, 0, 0, 0, 0, 0) := rfl
set_option maxRecDepth 20000 in
theorem gk_f119_60 : gd_fetch 119 60 = some (60, .ireturn, 1, 0, 0, 0, 0, 0) := rfl
set_option maxRecDepth 20000 in
theorem gk_f119_61 : gd_fetch 119 61 = some (61, .aload 6, 2, 0, 0, 0, 0, 0) := rfl
set_option maxRecDepth 20000 in
theorem gk_f119_63 : gd_fetch 119 63 = some (63, .getfield 170, 3, 404, 4, 2, 4, 1) := rfl
set_option maxRecDepth 20000 in
theorem gk_f119_66 : gd_fetch 119 66 = some (66, .iload 4, 2, 0, 0, 0, 0, 0) := rfl
set_option maxRecDepth 20000 in
theorem gk_f119_68 : gd_fetch 119 68 = some (68, .dup2, 1, 0, 0, 0, 0, 0) := rfl
set_option maxRecDepth 20000 in
theorem gk_f119_69 : gd_fetch 119 69 = some (69, .iaload, 1, 0, 0, 0, 0, 0) := rfl
set_option maxRecDepth 20000 in
theorem gk_f119_70 : gd_fetch 119 70 = some (70, .iconst 1, 1, 0, 0, 0, 0, 0) := rfl
set_option maxRecDepth 20000 in
theorem gk_f119_71 : gd_fetch 119 71 = some (71, .iload 5, 2, 0, 0, 0, 0, 0) := rfl
set_option maxRecDepth 20000 in
theorem gk_f119_73 : gd_fetch 119 73 = some (73, .ishl, 1, 0, 0, 0, 0, 0) := rfl
set_option maxRecDepth 20000 in
theorem gk_f119_74 : gd_fetch 119 74 = some (74, .ior, 1, 0, 0, 0, 0, 0) := rfl
set_option maxRecDepth 20000 in
theorem gk_f119_75 : gd_fetch 119 75 = some (75, .iastore, 1, 0, 0, 0, 0, 0) := rfl
set_option maxRecDepth 20000 in
theorem gk_f119_76 : gd_fetch 119 76 = some (76, .aload 6, 2, 0, 0, 0, 0, 0) := rfl
set_option maxRecDepth 20000 in
theorem gk_f119_78 : gd_fetch 119 78 = some (78, .aload_n 0, 1, 0, 0, 0, 0, 0) := rfl
set_option maxRecDepth 20000 in
theorem gk_f119_79 : gd_fetch 119 79 = some (79, .getfield 56, 3, 469, 6, 9, 4, 0) := rfl
set_option maxRecDepth 20000 in
theorem gk_f119_82 : gd_fetch 119 82 = some (82, .invokevirtual 173, 3, 752, 118, 1, 0, 0) := rfl
set_option maxRecDepth 20000 in
theorem gk_f119_85 : gd_fetch 119 85 = some (85, .ireturn, 1, 0, 0, 0, 0, 0) := rfl
set_option maxRecDepth 20000 in
set_option maxHeartbeats 4000000 in
theorem q_X_see (r0 : Nat) (x1 : Int32) (x2 : Int32) (x3 : Int32) (x4 : Int32) (x5 : Int32) (m : gd_M) : gd_call 119 [.ref r0, .int x1, .int x2, .int x3, .int x4, .int x5] m = if gd_ok (gN m) r0 6 = true then ((gd_call 93 [.ref r0, .int x1, .int x2] m).bind (gd_kR fun o4 m2 => if o4 = 0 then (some (.int (-2), m2)) else if 8 ≤ o4 then (if gd_ok (gN m2) r0 6 = true then ((gd_call 105 [.ref r0, .int x3] m2).bind (gd_kI fun z11 m9 => if (z11 = 0 : Prop) then (some (.int (-2), m9)) else (if (x4 < 0 : Prop) then (some (.int (-2), m9)) else (if gd_ok (gN m9) r0 6 = true then (if gd_ok (gN m9) (gR m9 r0 9) 1 = true then (if (x4 < (gI m9 (gR m9 r0 9) 14) : Prop) then (if gd_ok (gN m9) o4 4 = true then ((gd_call 100 [.ref o4] m9).bind (gd_kI fun z23 m21 => if (z23 = 0 : Prop) then (some (.int (-1), m21)) else (if gd_ok (gN m21) o4 4 = true then ((gd_call 116 [.ref o4, .int x5] m21).bind (gd_kI fun z29 m27 => if (z29 = 0 : Prop) then (some (.int (-1), m27)) else (if gd_ok (gN m27) o4 4 = true then (if gd_okA (gN m27) (gR m27 o4 2) 10 x4 = true then (if gd_ok (gN m27) r0 6 = true then ((gd_call 118 [.ref o4, .ref (gR m27 r0 9)] (wI m27 (gR m27 o4 2) (x4 : Int32).toNatClampNeg ((gI m27 (gR m27 o4 2) (x4 : Int32).toNatClampNeg) ||| ((1 : Int32) <<< (x5 &&& 31))))).bind (gd_kI fun z37 m35 => some (.int z37, m35))) else none) else none) else none))) else none))) else none) else (some (.int (-2), m9))) else none) else none)))) else none) else none)) else none := by
  refine Eq.trans (show gd_call 119 [.ref r0, .int x1, .int x2, .int x3, .int x4, .int x5] m = gd_Den (119, 0, [.ref r0, .int x1, .int x2, .int x3, .int x4, .int x5, .null], [], m) from by unfold gd_call gd_ent; rw [gk_ml119]; rfl) ?_
  refine Eq.trans (D_aload_n (x := r0) gk_f119_0 rfl) ?_
  refine Eq.trans (D_iload_n (x := x1) gk_f119_1 rfl) ?_
  refine Eq.trans (D_iload_n (x := x2) gk_f119_2 rfl) ?_
  refine Eq.trans (D_ivR (cl := 6) (args := [.ref r0, .int x1, .int x2]) (rest := []) gk_f119_3 rfl rfl (gd_rmk gk_rm119_93 gk_ln93 gk_ml93 rfl rfl rfl) gk_rk93 (gd_hnd_n gk_nc119) gk_nc93 gk_n11_93 gk_cl93) ?_
  refine gd_ite (fun h1 => ?_) (fun _ => rfl)
  refine gd_bnd (gd_kR_c fun o4 m2 => ?_)
  refine Eq.trans (D_astore gk_f119_6 gk_st119_6) ?_
  refine Eq.trans (D_aload (x := o4) gk_f119_8 rfl) ?_
  refine Eq.trans (D_ifnull (t := 38) gk_f119_10 (by decide)) ?_
  refine gd_ite (fun h5 => ?_) (fun h6 => gd_ite (fun h7 => ?_) (fun _ => rfl))
  · refine Eq.trans (D_bipush (x := (-2)) gk_f119_38 gk_b_m2) ?_
    refine Eq.trans (D_ireturn gk_f119_40 gk_rk119) ?_
    rfl
  · refine Eq.trans (D_aload_n (x := r0) gk_f119_13 rfl) ?_
    refine Eq.trans (D_iload_n (x := x3) gk_f119_14 rfl) ?_
    refine Eq.trans (D_ivZ (cl := 6) (args := [.ref r0, .int x3]) (rest := []) gk_f119_15 rfl rfl (gd_rmk gk_rm119_105 gk_ln105 gk_ml105 rfl rfl rfl) gk_rk105 (gd_hnd_n gk_nc119) gk_nc105 gk_n11_105 gk_cl105) ?_
    refine gd_ite (fun h8 => ?_) (fun _ => rfl)
    refine gd_bnd (gd_kI_c fun z11 m9 => ?_)
    refine Eq.trans (D_if_eq (t := 38) gk_f119_18 (by decide)) ?_
    refine gd_ite (fun h12 => ?_) (fun h13 => ?_)
    · refine Eq.trans (D_bipush (x := (-2)) gk_f119_38 gk_b_m2) ?_
      refine Eq.trans (D_ireturn gk_f119_40 gk_rk119) ?_
      rfl
    · refine Eq.trans (D_iload (x := x4) gk_f119_21 rfl) ?_
      refine Eq.trans (D_if_lt (t := 38) gk_f119_23 (by decide)) ?_
      refine gd_ite (fun h14 => ?_) (fun h15 => ?_)
      · refine Eq.trans (D_bipush (x := (-2)) gk_f119_38 gk_b_m2) ?_
        refine Eq.trans (D_ireturn gk_f119_40 gk_rk119) ?_
        rfl
      · refine Eq.trans (D_iload (x := x4) gk_f119_26 rfl) ?_
        refine Eq.trans (D_aload_n (x := r0) gk_f119_28 rfl) ?_
        refine Eq.trans (D_gfR gk_f119_29 (by decide)) ?_
        refine gd_ite (fun h16 => ?_) (fun _ => rfl)
        refine Eq.trans (D_gfI gk_f119_32 (by decide) (by decide) (by decide)) ?_
        refine gd_ite (fun h17 => ?_) (fun _ => rfl)
        refine Eq.trans (D_ic_lt (t := 41) gk_f119_35 (by decide)) ?_
        refine gd_ite (fun h18 => ?_) (fun h19 => ?_)
        · refine Eq.trans (D_aload (x := o4) gk_f119_41 rfl) ?_
          refine Eq.trans (D_ivZ (cl := 4) (args := [.ref o4]) (rest := []) gk_f119_43 rfl rfl (gd_rmk gk_rm119_100 gk_ln100 gk_ml100 rfl rfl rfl) gk_rk100 (gd_hnd_n gk_nc119) gk_nc100 gk_n11_100 gk_cl100) ?_
          refine gd_ite (fun h20 => ?_) (fun _ => rfl)
          refine gd_bnd (gd_kI_c fun z23 m21 => ?_)
          refine Eq.trans (D_if_eq (t := 59) gk_f119_46 (by decide)) ?_
          refine gd_ite (fun h24 => ?_) (fun h25 => ?_)
          · refine Eq.trans (D_iconst (x := (-1)) gk_f119_59 gk_c_m1) ?_
            refine Eq.trans (D_ireturn gk_f119_60 gk_rk119) ?_
            rfl
          · refine Eq.trans (D_aload (x := o4) gk_f119_49 rfl) ?_
            refine Eq.trans (D_iload (x := x5) gk_f119_51 rfl) ?_
            refine Eq.trans (D_ivZ (cl := 4) (args := [.ref o4, .int x5]) (rest := []) gk_f119_53 rfl rfl (gd_rmk gk_rm119_116 gk_ln116 gk_ml116 rfl rfl rfl) gk_rk116 (gd_hnd_n gk_nc119) gk_nc116 gk_n11_116 gk_cl116) ?_
            refine gd_ite (fun h26 => ?_) (fun _ => rfl)
            refine gd_bnd (gd_kI_c fun z29 m27 => ?_)
            refine Eq.trans (D_if_ne (t := 61) gk_f119_56 (by decide)) ?_
            refine gd_ite (fun h30 => ?_) (fun h31 => ?_)
            · refine Eq.trans (D_iconst (x := (-1)) gk_f119_59 gk_c_m1) ?_
              refine Eq.trans (D_ireturn gk_f119_60 gk_rk119) ?_
              rfl
            · refine Eq.trans (D_aload (x := o4) gk_f119_61 rfl) ?_
              refine Eq.trans (D_gfR gk_f119_63 (by decide)) ?_
              refine gd_ite (fun h32 => ?_) (fun _ => rfl)
              refine Eq.trans (D_iload (x := x4) gk_f119_66 rfl) ?_
              refine Eq.trans (D_dup2 gk_f119_68) ?_
              refine Eq.trans (D_iald gk_f119_69 gk_n10_119) ?_
              refine gd_ite (fun h33 => ?_) (fun _ => rfl)
              refine Eq.trans (D_iconst (x := 1) gk_f119_70 gk_c_1) ?_
              refine Eq.trans (D_iload (x := x5) gk_f119_71 rfl) ?_
              refine Eq.trans (D_ishl gk_f119_73) ?_
              refine Eq.trans (D_ior gk_f119_74) ?_
              refine Eq.trans (D_iast gk_f119_75) ?_
              refine Eq.trans (if_pos h33) ?_
              refine Eq.trans (D_aload (x := o4) gk_f119_76 rfl) ?_
              refine Eq.trans (D_aload_n (x := r0) gk_f119_78 rfl) ?_
              refine Eq.trans (D_gfR gk_f119_79 (by decide)) ?_
              refine gd_ite (fun h34 => ?_) (fun _ => rfl)
              refine Eq.trans (D_ivI (cl := 4) (args := [.ref o4, .ref (gR m27 r0 9)]) (rest := []) gk_f119_82 rfl rfl (gd_rmk gk_rm119_118 gk_ln118 gk_ml118 rfl rfl rfl) gk_rk118 (gd_hnd_n gk_nc119) gk_nc118 gk_n11_118 gk_cl118) ?_
              refine Eq.trans (if_pos h32) ?_
              refine gd_bnd (gd_kI_c fun z37 m35 => ?_)
              refine Eq.trans (D_ireturn gk_f119_85 gk_rk119) ?_
              rfl
        · refine Eq.trans (D_bipush (x := (-2)) gk_f119_38 gk_b_m2) ?_
          refine Eq.trans (D_ireturn gk_f119_40 gk_rk119) ?_
          rfl
/-! GymDeskModel.off (I)I -/
set_option maxRecDepth 20000 in
theorem gk_f120_0 : gd_fetch 120 0 = some (0, .iconst 0, 1, 0, 0, 0, 0, 0) := rfl
set_option maxRecDepth 20000 in
theorem gk_f120_1 : gd_fetch 120 1 = some (1, .istore_n 2, 1, 0, 0, 0, 0, 0) := rfl
set_option maxRecDepth 20000 in
theorem gk_f120_2 : gd_fetch 120 2 = some (2, .iconst 0, 1, 0, 0, 0, 0, 0) := rfl
set_option maxRecDepth 20000 in
theorem gk_f120_3 : gd_fetch 120 3 = some (3, .istore_n 3, 1, 0, 0, 0, 0, 0) := rfl
set_option maxRecDepth 20000 in
theorem gk_f120_4 : gd_fetch 120 4 = some (4, .iload_n 3, 1, 0, 0, 0, 0, 0) := rfl
set_option maxRecDepth 20000 in
theorem gk_f120_5 : gd_fetch 120 5 = some (5, .aload_n 0, 1, 0, 0, 0, 0, 0) := rfl
set_option maxRecDepth 20000 in
theorem gk_f120_6 : gd_fetch 120 6 = some (6, .getfield 19, 3, 1164, 9, 1, 4, 0) := rfl
set_option maxRecDepth 20000 in
theorem gk_f120_9 : gd_fetch 120 9 = some (9, .getfield 241, 3, 1035, 7, 2, 0, 0) := rfl
set_option maxRecDepth 20000 in
theorem gk_f120_12 : gd_fetch 120 12 = some (12, .if_icmp .ge 107, 3, 0, 0, 0, 0, 0) := rfl
set_option maxRecDepth 20000 in
theorem gk_f120_15 : gd_fetch 120 15 = some (15, .iconst 0, 1, 0, 0, 0, 0, 0) := rfl
set_option maxRecDepth 20000 in
theorem gk_f120_16 : gd_fetch 120 16 = some (16, .istore 4, 2, 0, 0, 0, 0, 0) := rfl
set_option maxRecDepth 20000 in
theorem gk_f120_18 : gd_fetch 120 18 = some (18, .iconst 0, 1, 0, 0, 0, 0, 0) := rfl
set_option maxRecDepth 20000 in
theorem gk_f120_19 : gd_fetch 120 19 = some (19, .istore 5, 2, 0, 0, 0, 0, 0) := rfl
set_option maxRecDepth 20000 in
theorem gk_f120_21 : gd_fetch 120 21 = some (21, .iload 5, 2, 0, 0, 0, 0, 0) := rfl
set_option maxRecDepth 20000 in
theorem gk_f120_23 : gd_fetch 120 23 = some (23, .bipush 16, 2, 0, 0, 0, 0, 0) := rfl
set_option maxRecDepth 20000 in
theorem gk_f120_25 : gd_fetch 120 25 = some (25, .if_icmp .ge 40, 3, 0, 0, 0, 0, 0) := rfl
set_option maxRecDepth 20000 in
theorem gk_f120_28 : gd_fetch 120 28 = some (28, .iload 4, 2, 0, 0, 0, 0, 0) := rfl
set_option maxRecDepth 20000 in
theorem gk_f120_30 : gd_fetch 120 30 = some (30, .aload_n 0, 1, 0, 0, 0, 0, 0) := rfl
set_option maxRecDepth 20000 in
theorem gk_f120_31 : gd_fetch 120 31 = some (31, .getfield 69, 3, 1192, 9, 29, 4, 1) := rfl
set_option maxRecDepth 20000 in
theorem gk_f120_34 : gd_fetch 120 34 = some (34, .sipush 160, 3, 0, 0, 0, 0, 0) := rfl
set_option maxRecDepth 20000 in
theorem gk_f120_37 : gd_fetch 120 37 = some (37, .iload_n 1, 1, 0, 0, 0, 0, 0) := rfl
set_option maxRecDepth 20000 in
theorem gk_f120_38 : gd_fetch 120 38 = some (38, .imul, 1, 0, 0, 0, 0, 0) := rfl
set_option maxRecDepth 20000 in
theorem gk_f120_39 : gd_fetch 120 39 = some (39, .bipush 16, 2, 0, 0, 0, 0, 0) := rfl
set_option maxRecDepth 20000 in
theorem gk_f120_41 : gd_fetch 120 41 = some (41, .iload_n 3, 1, 0, 0, 0, 0, 0) := rfl
set_option maxRecDepth 20000 in
theorem gk_f120_42 : gd_fetch 120 42 = some (42, .imul, 1, 0, 0, 0, 0, 0) := rfl
set_option maxRecDepth 20000 in
theorem gk_f120_43 : gd_fetch 120 43 = some (43, .iadd, 1, 0, 0, 0, 0, 0) := rfl
set_option maxRecDepth 20000 in
theorem gk_f120_44 : gd_fetch 120 44 = some (44, .iload 5, 2, 0, 0, 0, 0, 0) := rfl
set_option maxRecDepth 20000 in
theorem gk_f120_46 : gd_fetch 120 46 = some (46, .iadd, 1, 0, 0, 0, 0, 0) := rfl
set_option maxRecDepth 20000 in
theorem gk_f120_47 : gd_fetch 120 47 = some (47, .baload, 1, 0, 0, 0, 0, 0) := rfl
set_option maxRecDepth 20000 in
theorem gk_f120_48 : gd_fetch 120 48 = some (48, .ifCond .eq 7, 3, 0, 0, 0, 0, 0) := rfl
set_option maxRecDepth 20000 in
theorem gk_f120_51 : gd_fetch 120 51 = some (51, .iconst 1, 1, 0, 0, 0, 0, 0) := rfl
set_option maxRecDepth 20000 in
theorem gk_f120_52 : gd_fetch 120 52 = some (52, .goto 4, 3, 0, 0, 0, 0, 0) := rfl
set_option maxRecDepth 20000 in
theorem gk_f120_55 : gd_fetch 120 55 = some (55, .iconst 0, 1, 0, 0, 0, 0, 0) := rfl
set_option maxRecDepth 20000 in
theorem gk_f120_56 : gd_fetch 120 56 = some (56, .iadd, 1, 0, 0, 0, 0, 0) := rfl
set_option maxRecDepth 20000 in
theorem gk_f120_57 : gd_fetch 120 57 = some (57, .istore 4, 2, 0, 0, 0, 0, 0) := rfl
set_option maxRecDepth 20000 in
theorem gk_f120_59 : gd_fetch 120 59 = some (59, .iinc 5 1, 3, 0, 0, 0, 0, 0) := rfl
set_option maxRecDepth 20000 in
theorem gk_f120_62 : gd_fetch 120 62 = some (62, .goto (-41), 3, 0, 0, 0, 0, 0) := rfl
set_option maxRecDepth 20000 in
theorem gk_f120_65 : gd_fetch 120 65 = some (65, .iload_n 2, 1, 0, 0, 0, 0, 0) := rfl
set_option maxRecDepth 20000 in
theorem gk_f120_66 : gd_fetch 120 66 = some (66, .iload 4, 2, 0, 0, 0, 0, 0) := rfl
set_option maxRecDepth 20000 in
theorem gk_f120_68 : gd_fetch 120 68 = some (68, .ifCond .ne 7, 3, 0, 0, 0, 0, 0) := rfl
set_option maxRecDepth 20000 in
theorem gk_f120_71 : gd_fetch 120 71 = some (71, .iconst 0, 1, 0, 0, 0, 0, 0) := rfl
set_option maxRecDepth 20000 in
theorem gk_f120_72 : gd_fetch 120 72 = some (72, .goto 39, 3, 0, 0, 0, 0, 0) := rfl
set_option maxRecDepth 20000 in
theorem gk_f120_75 : gd_fetch 120 75 = some (75, .aload_n 0, 1, 0, 0, 0, 0, 0) := rfl
set_option maxRecDepth 20000 in
theorem gk_f120_76 : gd_fetch 120 76 = some (76, .getfield 19, 3, 1164, 9, 1, 4, 0) := rfl
set_option maxRecDepth 20000 in
theorem gk_f120_79 : gd_fetch 120 79 = some (79, .getfield 253, 3, 1059, 7, 14, 4, 1) := rfl
set_option maxRecDepth 20000 in
theorem gk_f120_82 : gd_fetch 120 82 = some (82, .iload_n 3, 1, 0, 0, 0, 0, 0) := rfl
set_option maxRecDepth 20000 in
theorem gk_f120_83 : gd_fetch 120 83 = some (83, .baload, 1, 0, 0, 0, 0, 0) := rfl
set_option maxRecDepth 20000 in
theorem gk_f120_84 : gd_fetch 120 84 = some (84, .ifCond .eq 18, 3, 0, 0, 0, 0, 0) := rfl
set_option maxRecDepth 20000 in
theorem gk_f120_87 : gd_fetch 120 87 = some (87, .iload 4, 2, 0, 0, 0, 0, 0) := rfl
set_option maxRecDepth 20000 in
theorem gk_f120_89 : gd_fetch 120 89 = some (89, .aload_n 0, 1, 0, 0, 0, 0, 0) := rfl
set_option maxRecDepth 20000 in
theorem gk_f120_90 : gd_fetch 120 90 = some (90, .getfield 19, 3, 1164, 9, 1, 4, 0) := rfl
set_option maxRecDepth 20000 in
theorem gk_f120_93 : gd_fetch 120 93 = some (93, .getfield 250, 3, 1057, 7, 13, 4, 1) := rfl
set_option maxRecDepth 20000 in
theorem gk_f120_96 : gd_fetch 120 96 = some (96, .iload_n 3, 1, 0, 0, 0, 0, 0) := rfl
set_option maxRecDepth 20000 in
theorem gk_f120_97 : gd_fetch 120 97 = some (97, .iaload, 1, 0, 0, 0, 0, 0) := rfl
set_option maxRecDepth 20000 in
theorem gk_f120_98 : gd_fetch 120 98 = some (98, .imul, 1, 0, 0, 0, 0, 0) := rfl
set_option maxRecDepth 20000 in
theorem gk_f120_99 : gd_fetch 120 99 = some (99, .goto 12, 3, 0, 0, 0, 0, 0) := rfl
set_option maxRecDepth 20000 in
theorem gk_f120_102 : gd_fetch 120 102 = some (102, .aload_n 0, 1, 0, 0, 0, 0, 0) := rfl
set_option maxRecDepth 20000 in
theorem gk_f120_103 : gd_fetch 120 103 = some (103, .getfield 19, 3, 1164, 9, 1, 4, 0) := rfl
set_option maxRecDepth 20000 in
theorem gk_f120_106 : gd_fetch 120 106 = some (106, .getfield 250, 3, 1057, 7, 13, 4, 1) := rfl
set_option maxRecDepth 20000 in
theorem gk_f120_109 : gd_fetch 120 109 = some (109, .iload_n 3, 1, 0, 0, 0, 0, 0) := rfl
set_option maxRecDepth 20000 in
theorem gk_f120_110 : gd_fetch 120 110 = some (110, .iaload, 1, 0, 0, 0, 0, 0) := rfl
set_option maxRecDepth 20000 in
theorem gk_f120_111 : gd_fetch 120 111 = some (111, .iadd, 1, 0, 0, 0, 0, 0) := rfl
set_option maxRecDepth 20000 in
theorem gk_f120_112 : gd_fetch 120 112 = some (112, .istore_n 2, 1, 0, 0, 0, 0, 0) := rfl
set_option maxRecDepth 20000 in
theorem gk_f120_113 : gd_fetch 120 113 = some (113, .iinc 3 1, 3, 0, 0, 0, 0, 0) := rfl
set_option maxRecDepth 20000 in
theorem gk_f120_116 : gd_fetch 120 116 = some (116, .goto (-112), 3, 0, 0, 0, 0, 0) := rfl
set_option maxRecDepth 20000 in
theorem gk_f120_119 : gd_fetch 120 119 = some (119, .iload_n 2, 1, 0, 0, 0, 0, 0) := rfl
set_option maxRecDepth 20000 in
theorem gk_f120_120 : gd_fetch 120 120 = some (120, .ireturn, 1, 0, 0, 0, 0, 0) := rfl
set_option maxRecDepth 20000 in
set_option maxHeartbeats 4000000 in
theorem q_Mo_off (r0 : Nat) (x1 : Int32) (m : gd_M) : gd_call 120 [.ref r0, .int x1] m = gd_Den (120, 4, [.ref r0, .int x1, .int 0, .int 0, .null, .null], [], m) := by
  refine Eq.trans (show gd_call 120 [.ref r0, .int x1] m = gd_Den (120, 0, [.ref r0, .int x1, .null, .null, .null, .null], [], m) from by unfold gd_call gd_ent; rw [gk_ml120]; rfl) ?_
  refine Eq.trans (D_iconst (x := 0) gk_f120_0 gk_c_0) ?_
  refine Eq.trans (D_istore_n gk_f120_1 gk_st120_2) ?_
  refine Eq.trans (D_iconst (x := 0) gk_f120_2 gk_c_0) ?_
  refine Eq.trans (D_istore_n gk_f120_3 gk_st120_3) ?_
  rfl
set_option maxRecDepth 20000 in
set_option maxHeartbeats 4000000 in
theorem q_Mo_off_4 (r0 : Nat) (x1 : Int32) (x2 : Int32) (x3 : Int32) (v4 : Value) (v5 : Value) (m : gd_M) : gd_Den (120, 4, [.ref r0, .int x1, .int x2, .int x3, v4, v5], [], m) = if gd_ok (gN m) r0 9 = true then (if gd_ok (gN m) (gR m r0 1) 7 = true then (if (x3 < (gI m (gR m r0 1) 2) : Prop) then (gd_Den (120, 21, [.ref r0, .int x1, .int x2, .int x3, .int 0, .int 0], [], m)) else (some (.int x2, m))) else none) else none := by
  refine Eq.trans (D_iload_n (x := x3) gk_f120_4 rfl) ?_
  refine Eq.trans (D_aload_n (x := r0) gk_f120_5 rfl) ?_
  refine Eq.trans (D_gfR gk_f120_6 (by decide)) ?_
  refine gd_ite (fun h1 => ?_) (fun _ => rfl)
  refine Eq.trans (D_gfI gk_f120_9 (by decide) (by decide) (by decide)) ?_
  refine gd_ite (fun h2 => ?_) (fun _ => rfl)
  refine Eq.trans (D_ic_ge (t := 119) gk_f120_12 (by decide)) ?_
  refine gd_ite (fun h3 => ?_) (fun h4 => ?_)
  · refine Eq.trans (D_iconst (x := 0) gk_f120_15 gk_c_0) ?_
    refine Eq.trans (D_istore gk_f120_16 gk_st120_4) ?_
    refine Eq.trans (D_iconst (x := 0) gk_f120_18 gk_c_0) ?_
    refine Eq.trans (D_istore gk_f120_19 gk_st120_5) ?_
    rfl
  · refine Eq.trans (D_iload_n (x := x2) gk_f120_119 rfl) ?_
    refine Eq.trans (D_ireturn gk_f120_120 gk_rk120) ?_
    rfl
set_option maxRecDepth 20000 in
set_option maxHeartbeats 4000000 in
theorem q_Mo_off_21 (r0 : Nat) (x1 : Int32) (x2 : Int32) (x3 : Int32) (x4 : Int32) (x5 : Int32) (m : gd_M) : gd_Den (120, 21, [.ref r0, .int x1, .int x2, .int x3, .int x4, .int x5], [], m) = if (x5 < 16 : Prop) then (if gd_ok (gN m) r0 9 = true then (if gd_okA (gN m) (gR m r0 29) 11 (((160 * x1) + (16 * x3)) + x5) = true then (if ((gI m (gR m r0 29) ((((160 * x1) + (16 * x3)) + x5) : Int32).toNatClampNeg) = 0 : Prop) then (gd_Den (120, 21, [.ref r0, .int x1, .int x2, .int x3, .int (x4 + 0), .int (x5 + 1)], [], m)) else (gd_Den (120, 21, [.ref r0, .int x1, .int x2, .int x3, .int (x4 + 1), .int (x5 + 1)], [], m))) else none) else none) else (if (x4 = 0 : Prop) then (gd_Den (120, 4, [.ref r0, .int x1, .int (x2 + 0), .int (x3 + 1), .int x4, .int x5], [], m)) else (if gd_ok (gN m) r0 9 = true then (if gd_ok (gN m) (gR m r0 1) 7 = true then (if gd_okA (gN m) (gR m (gR m r0 1) 14) 11 x3 = true then (if ((gI m (gR m (gR m r0 1) 14) (x3 : Int32).toNatClampNeg) = 0 : Prop) then (if gd_okA (gN m) (gR m (gR m r0 1) 13) 10 x3 = true then (gd_Den (120, 4, [.ref r0, .int x1, .int (x2 + (gI m (gR m (gR m r0 1) 13) (x3 : Int32).toNatClampNeg)), .int (x3 + 1), .int x4, .int x5], [], m)) else none) else (if gd_okA (gN m) (gR m (gR m r0 1) 13) 10 x3 = true then (gd_Den (120, 4, [.ref r0, .int x1, .int (x2 + (x4 * (gI m (gR m (gR m r0 1) 13) (x3 : Int32).toNatClampNeg))), .int (x3 + 1), .int x4, .int x5], [], m)) else none)) else none) else none) else none)) := by
  refine Eq.trans (D_iload (x := x5) gk_f120_21 rfl) ?_
  refine Eq.trans (D_bipush (x := 16) gk_f120_23 gk_b_16) ?_
  refine Eq.trans (D_ic_ge (t := 65) gk_f120_25 (by decide)) ?_
  refine gd_ite (fun h1 => ?_) (fun h2 => ?_)
  · refine Eq.trans (D_iload (x := x4) gk_f120_28 rfl) ?_
    refine Eq.trans (D_aload_n (x := r0) gk_f120_30 rfl) ?_
    refine Eq.trans (D_gfR gk_f120_31 (by decide)) ?_
    refine gd_ite (fun h3 => ?_) (fun _ => rfl)
    refine Eq.trans (D_sipush (x := 160) gk_f120_34 gk_s_160) ?_
    refine Eq.trans (D_iload_n (x := x1) gk_f120_37 rfl) ?_
    refine Eq.trans (D_imul gk_f120_38) ?_
    refine Eq.trans (D_bipush (x := 16) gk_f120_39 gk_b_16) ?_
    refine Eq.trans (D_iload_n (x := x3) gk_f120_41 rfl) ?_
    refine Eq.trans (D_imul gk_f120_42) ?_
    refine Eq.trans (D_iadd gk_f120_43) ?_
    refine Eq.trans (D_iload (x := x5) gk_f120_44 rfl) ?_
    refine Eq.trans (D_iadd gk_f120_46) ?_
    refine Eq.trans (D_bald (kd := 11) gk_f120_47 gk_n12_120 gk_bk120) ?_
    refine gd_ite (fun h4 => ?_) (fun _ => rfl)
    refine Eq.trans (D_if_eq (t := 55) gk_f120_48 (by decide)) ?_
    refine gd_ite (fun h5 => ?_) (fun h6 => ?_)
    · refine Eq.trans (D_iconst (x := 0) gk_f120_55 gk_c_0) ?_
      refine Eq.trans (D_iadd gk_f120_56) ?_
      refine Eq.trans (D_istore gk_f120_57 gk_st120_4) ?_
      refine Eq.trans (D_iinc (x := x5) (y := 1) gk_f120_59 rfl gk_c_1 gk_st120_5) ?_
      refine Eq.trans (D_goto (t := 21) gk_f120_62 (by decide)) ?_
      rfl
    · refine Eq.trans (D_iconst (x := 1) gk_f120_51 gk_c_1) ?_
      refine Eq.trans (D_goto (t := 56) gk_f120_52 (by decide)) ?_
      refine Eq.trans (D_iadd gk_f120_56) ?_
      refine Eq.trans (D_istore gk_f120_57 gk_st120_4) ?_
      refine Eq.trans (D_iinc (x := x5) (y := 1) gk_f120_59 rfl gk_c_1 gk_st120_5) ?_
      refine Eq.trans (D_goto (t := 21) gk_f120_62 (by decide)) ?_
      rfl
  · refine Eq.trans (D_iload_n (x := x2) gk_f120_65 rfl) ?_
    refine Eq.trans (D_iload (x := x4) gk_f120_66 rfl) ?_
    refine Eq.trans (D_if_ne (t := 75) gk_f120_68 (by decide)) ?_
    refine gd_ite (fun h7 => ?_) (fun h8 => ?_)
    · refine Eq.trans (D_iconst (x := 0) gk_f120_71 gk_c_0) ?_
      refine Eq.trans (D_goto (t := 111) gk_f120_72 (by decide)) ?_
      refine Eq.trans (D_iadd gk_f120_111) ?_
      refine Eq.trans (D_istore_n gk_f120_112 gk_st120_2) ?_
      refine Eq.trans (D_iinc (x := x3) (y := 1) gk_f120_113 rfl gk_c_1 gk_st120_3) ?_
      refine Eq.trans (D_goto (t := 4) gk_f120_116 (by decide)) ?_
      rfl
    · refine Eq.trans (D_aload_n (x := r0) gk_f120_75 rfl) ?_
      refine Eq.trans (D_gfR gk_f120_76 (by decide)) ?_
      refine gd_ite (fun h9 => ?_) (fun _ => rfl)
      refine Eq.trans (D_gfR gk_f120_79 (by decide)) ?_
      refine gd_ite (fun h10 => ?_) (fun _ => rfl)
      refine Eq.trans (D_iload_n (x := x3) gk_f120_82 rfl) ?_
      refine Eq.trans (D_bald (kd := 11) gk_f120_83 gk_n12_120 gk_bk120) ?_
      refine gd_ite (fun h11 => ?_) (fun _ => rfl)
      refine Eq.trans (D_if_eq (t := 102) gk_f120_84 (by decide)) ?_
      refine gd_ite (fun h12 => ?_) (fun h13 => ?_)
      · refine Eq.trans (D_aload_n (x := r0) gk_f120_102 rfl) ?_
        refine Eq.trans (D_gfR gk_f120_103 (by decide)) ?_
        refine Eq.trans (if_pos h9) ?_
        refine Eq.trans (D_gfR gk_f120_106 (by decide)) ?_
        refine Eq.trans (if_pos h10) ?_
        refine Eq.trans (D_iload_n (x := x3) gk_f120_109 rfl) ?_
        refine Eq.trans (D_iald gk_f120_110 gk_n10_120) ?_
        refine gd_ite (fun h14 => ?_) (fun _ => rfl)
        refine Eq.trans (D_iadd gk_f120_111) ?_
        refine Eq.trans (D_istore_n gk_f120_112 gk_st120_2) ?_
        refine Eq.trans (D_iinc (x := x3) (y := 1) gk_f120_113 rfl gk_c_1 gk_st120_3) ?_
        refine Eq.trans (D_goto (t := 4) gk_f120_116 (by decide)) ?_
        rfl
      · refine Eq.trans (D_iload (x := x4) gk_f120_87 rfl) ?_
        refine Eq.trans (D_aload_n (x := r0) gk_f120_89 rfl) ?_
        refine Eq.trans (D_gfR gk_f120_90 (by decide)) ?_
        refine Eq.trans (if_pos h9) ?_
        refine Eq.trans (D_gfR gk_f120_93 (by decide)) ?_
        refine Eq.trans (if_pos h10) ?_
        refine Eq.trans (D_iload_n (x := x3) gk_f120_96 rfl) ?_
        refine Eq.trans (D_iald gk_f120_97 gk_n10_120) ?_
        refine gd_ite (fun h15 => ?_) (fun _ => rfl)
        refine Eq.trans (D_imul gk_f120_98) ?_
        refine Eq.trans (D_goto (t := 111) gk_f120_99 (by decide)) ?_
        refine Eq.trans (D_iadd gk_f120_111) ?_
        refine Eq.trans (D_istore_n gk_f120_112 gk_st120_2) ?_
        refine Eq.trans (D_iinc (x := x3) (y := 1) gk_f120_113 rfl gk_c_1 gk_st120_3) ?_
        refine Eq.trans (D_goto (t := 4) gk_f120_116 (by decide)) ?_
        rfl
/-! GymDeskModel.see (IIIII)I -/
set_option maxRecDepth 20000 in
theorem gk_f121_0 : gd_fetch 121 0 = some (0, .aload_n 0, 1, 0, 0, 0, 0, 0) := rfl
set_option maxRecDepth 20000 in
theorem gk_f121_1 : gd_fetch 121 1 = some (1, .iload_n 1, 1, 0, 0, 0, 0, 0) := rfl
set_option maxRecDepth 20000 in
theorem gk_f121_2 : gd_fetch 121 2 = some (2, .iload_n 2, 1, 0, 0, 0, 0, 0) := rfl
set_option maxRecDepth 20000 in
theorem gk_f121_3 : gd_fetch 121 3 = some (3, .invokevirtual 335, 3, 1407, 98, 2, 0, 0) := rfl
set_option maxRecDepth 20000 in
theorem gk_f121_6 : gd_fetch 121 6 = some (6, .ifCond .eq 38, 3, 0, 0, 0, 0, 0) := rfl
set_option maxRecDepth 20000 in
theorem gk_f121_9 : gd_fetch 121 9 = some (9, .iload_n 3, 1, 0, 0, 0, 0, 0) := rfl
set_option maxRecDepth 20000 in
theorem gk_f121_10 : gd_fetch 121 10 = some (10, .iconst 0, 1, 0, 0, 0, 0, 0) := rfl
set_option maxRecDepth 20000 in
theorem gk_f121_11 : gd_fetch 121 11 = some (11, .aload_n 0, 1, 0, 0, 0, 0, 0) := rfl
set_option maxRecDepth 20000 in
theorem gk_f121_12 : gd_fetch 121 12 = some (12, .getfield 19, 3, 1164, 9, 1, 4, 0) := rfl
set_option maxRecDepth 20000 in
theorem gk_f121_15 : gd_fetch 121 15 = some (15, .getfield 300, 3, 1073, 7, 21, 0, 0) := rfl
set_option maxRecDepth 20000 in
theorem gk_f121_18 : gd_fetch 121 18 = some (18, .iconst 1, 1, 0, 0, 0, 0, 0) := rfl
set_option maxRecDepth 20000 in
theorem gk_f121_19 : gd_fetch 121 19 = some (19, .isub, 1, 0, 0, 0, 0, 0) := rfl
set_option maxRecDepth 20000 in
theorem gk_f121_20 : gd_fetch 121 20 = some (20, .invokestatic 192, 3, 1360, 71, 3, 0, 0) := rfl
set_option maxRecDepth 20000 in
theorem gk_f121_23 : gd_fetch 121 23 = some (23, .ifCond .eq 21, 3, 0, 0, 0, 0, 0) := rfl
set_option maxRecDepth 20000 in
theorem gk_f121_26 : gd_fetch 121 26 = some (26, .iload 4, 2, 0, 0, 0, 0, 0) := rfl
set_option maxRecDepth 20000 in
theorem gk_f121_28 : gd_fetch 121 28 = some (28, .iconst 0, 1, 0, 0, 0, 0, 0) := rfl
set_option maxRecDepth 20000 in
theorem gk_f121_29 : gd_fetch 121 29 = some (29, .aload_n 0, 1, 0, 0, 0, 0, 0) := rfl
set_option maxRecDepth 20000 in
theorem gk_f121_30 : gd_fetch 121 30 = some (30, .getfield 19, 3, 1164, 9, 1, 4, 0) := rfl
set_option maxRecDepth 20000 in
theorem gk_f121_33 : gd_fetch 121 33 = some (33, .getfield 241, 3, 1035, 7, 2, 0, 0) := rfl
set_option maxRecDepth 20000 in
theorem gk_f121_36 : gd_fetch 121 36 = some (36, .iconst 1, 1, 0, 0, 0, 0, 0) := rfl
set_option maxRecDepth 20000 in
theorem gk_f121_37 : gd_fetch 121 37 = some (37, .isub, 1, 0, 0, 0, 0, 0) := rfl
set_option maxRecDepth 20000 in
theorem gk_f121_38 : gd_fetch 121 38 = some (38, .invokestatic 192, 3, 1360, 71, 3, 0, 0) := rfl
set_option maxRecDepth 20000 in
theorem gk_f121_41 : gd_fetch 121 41 = some (41, .ifCond .ne 6, 3, 0, 0, 0, 0, 0) := rfl
set_option maxRecDepth 20000 in
theorem gk_f121_44 : gd_fetch 121 44 = some (44, .bipush (-2), 2, 0, 0, 0, 0, 0) := rfl
set_option maxRecDepth 20000 in
theorem gk_f121_46 : gd_fetch 121 46 = some (46, .ireturn, 1, 0, 0, 0, 0, 0) := rfl
set_option maxRecDepth 20000 in
theorem gk_f121_47 : gd_fetch 121 47 = some (47, .iconst 4, 1, 0, 0, 0, 0, 0) := rfl
set_option maxRecDepth 20000 in
theorem gk_f121_48 : gd_fetch 121 48 = some (48, .iload_n 1, 1, 0, 0, 0, 0, 0) := rfl
set_option maxRecDepth 20000 in
theorem gk_f121_49 : gd_fetch 121 49 = some (49, .imul, 1, 0, 0, 0, 0, 0) := rfl
set_option maxRecDepth 20000 in
theorem gk_f121_50 : gd_fetch 121 50 = some (50, .iload_n 2, 1, 0, 0, 0, 0, 0) := rfl
set_option maxRecDepth 20000 in
theorem gk_f121_51 : gd_fetch 121 51 = some (51, .iadd, 1, 0, 0, 0, 0, 0) := rfl
set_option maxRecDepth 20000 in
theorem gk_f121_52 : gd_fetch 121 52 = some (52, .istore 6, 2, 0, 0, 0, 0, 0) := rfl
set_option maxRecDepth 20000 in
theorem gk_f121_54 : gd_fetch 121 54 = some (54, .aload_n 0, 1, 0, 0, 0, 0, 0) := rfl
set_option maxRecDepth 20000 in
theorem gk_f121_55 : gd_fetch 121 55 = some (55, .iload 6, 2, 0, 0, 0, 0, 0) := rfl
set_option maxRecDepth 20000 in
theorem gk_f121_57 : gd_fetch 121 57 = some (57, .invokevirtual 339, 3, 1419, 103, 1, 0, 0) := rfl
set_option maxRecDepth 20000 in
theorem gk_f121_60 : gd_fetch 121 60 = some (60, .ifCond .eq 21, 3, 0, 0, 0, 0, 0) := rfl
set_option maxRecDepth 20000 in
theorem gk_f121_63 : gd_fetch 121 63 = some (63, .iload 5, 2, 0, 0, 0, 0, 0) := rfl
set_option maxRecDepth 20000 in
theorem gk_f121_65 : gd_fetch 121 65 = some (65, .iconst 0, 1, 0, 0, 0, 0, 0) := rfl
set_option maxRecDepth 20000 in
theorem gk_f121_66 : gd_fetch 121 66 = some (66, .aload_n 0, 1, 0, 0, 0, 0, 0) := rfl
set_option maxRecDepth 20000 in
theorem gk_f121_67 : gd_fetch 121 67 = some (67, .getfield 54, 3, 1187, 9, 24, 4, 1) := rfl
set_option maxRecDepth 20000 in
theorem gk_f121_70 : gd_fetch 121 70 = some (70, .iload 6, 2, 0, 0, 0, 0, 0) := rfl
set_option maxRecDepth 20000 in
theorem gk_f121_72 : gd_fetch 121 72 = some (72, .iaload, 1, 0, 0, 0, 0, 0) := rfl
set_option maxRecDepth 20000 in
theorem gk_f121_73 : gd_fetch 121 73 = some (73, .iconst 1, 1, 0, 0, 0, 0, 0) := rfl
set_option maxRecDepth 20000 in
theorem gk_f121_74 : gd_fetch 121 74 = some (74, .isub, 1, 0, 0, 0, 0, 0) := rfl
set_option maxRecDepth 20000 in
theorem gk_f121_75 : gd_fetch 121 75 = some (75, .invokestatic 192, 3, 1360, 71, 3, 0, 0) := rfl
set_option maxRecDepth 20000 in
theorem gk_f121_78 : gd_fetch 121 78 = some (78, .ifCond .ne 5, 3, 0, 0, 0, 0, 0) := rfl
set_option maxRecDepth 20000 in
theorem gk_f121_81 : gd_fetch 121 81 = some (81, .iconst (-1), 1, 0, 0, 0, 0, 0) := rfl
set_option maxRecDepth 20000 in
theorem gk_f121_82 : gd_fetch 121 82 = some (82, .ireturn, 1, 0, 0, 0, 0, 0) := rfl
set_option maxRecDepth 20000 in
theorem gk_f121_83 : gd_fetch 121 83 = some (83, .aload_n 0, 1, 0, 0, 0, 0, 0) := rfl
set_option maxRecDepth 20000 in
theorem gk_f121_84 : gd_fetch 121 84 = some (84, .getfield 69, 3, 1192, 9, 29, 4, 1) := rfl
set_option maxRecDepth 20000 in
theorem gk_f121_87 : gd_fetch 121 87 = some (87, .sipush 160, 3, 0, 0, 0, 0, 0) := rfl
set_option maxRecDepth 20000 in
theorem gk_f121_90 : gd_fetch 121 90 = some (90, .iload 6, 2, 0, 0, 0, 0, 0) := rfl
set_option maxRecDepth 20000 in
theorem gk_f121_92 : gd_fetch 121 92 = some (92, .imul, 1, 0, 0, 0, 0, 0) := rfl
set_option maxRecDepth 20000 in
theorem gk_f121_93 : gd_fetch 121 93 = some (93, .bipush 16, 2, 0, 0, 0, 0, 0) := rfl
set_option maxRecDepth 20000 in
theorem gk_f121_95 : gd_fetch 121 95 = some (95, .iload 4, 2, 0, 0, 0, 0, 0) := rfl
set_option maxRecDepth 20000 in
theorem gk_f121_97 : gd_fetch 121 97 = some (97, .imul, 1, 0, 0, 0, 0, 0) := rfl
set_option maxRecDepth 20000 in
theorem gk_f121_98 : gd_fetch 121 98 = some (98, .iadd, 1, 0, 0, 0, 0, 0) := rfl
set_option maxRecDepth 20000 in
theorem gk_f121_99 : gd_fetch 121 99 = some (99, .iload 5, 2, 0, 0, 0, 0, 0) := rfl
set_option maxRecDepth 20000 in
theorem gk_f121_101 : gd_fetch 121 101 = some (101, .iadd, 1, 0, 0, 0, 0, 0) := rfl
set_option maxRecDepth 20000 in
theorem gk_f121_102 : gd_fetch 121 102 = some (102, .iconst 1, 1, 0, 0, 0, 0, 0) := rfl
set_option maxRecDepth 20000 in
theorem gk_f121_103 : gd_fetch 121 103 = some (103, .bastore, 1, 0, 0, 0, 0, 0) := rfl
set_option maxRecDepth 20000 in
theorem gk_f121_104 : gd_fetch 121 104 = some (104, .aload_n 0, 1, 0, 0, 0, 0, 0) := rfl
set_option maxRecDepth 20000 in
theorem gk_f121_105 : gd_fetch 121 105 = some (105, .iload 6, 2, 0, 0, 0, 0, 0) := rfl
set_option maxRecDepth 20000 in
theorem gk_f121_107 : gd_fetch 121 107 = some (107, .invokevirtual 345, 3, 1439, 120, 1, 0, 0) := rfl
set_option maxRecDepth 20000 in
theorem gk_f121_110 : gd_fetch 121 110 = some (110, .ireturn, 1, 0, 0, 0, 0, 0) := rfl
set_option maxRecDepth 20000 in
set_option maxHeartbeats 4000000 in
theorem q_Mo_see_5 (r0 : Nat) (x1 : Int32) (x2 : Int32) (x3 : Int32) (x4 : Int32) (x5 : Int32) (m : gd_M) : gd_call 121 [.ref r0, .int x1, .int x2, .int x3, .int x4, .int x5] m = if gd_ok (gN m) r0 9 = true then ((gd_call 98 [.ref r0, .int x1, .int x2] m).bind (gd_kI fun z4 m2 => if (z4 = 0 : Prop) then (some (.int (-2), m2)) else (if gd_ok (gN m2) r0 9 = true then (if gd_ok (gN m2) (gR m2 r0 1) 7 = true then ((gd_call 71 [.int x3, .int 0, .int ((gI m2 (gR m2 r0 1) 21) - 1)] m2).bind (gd_k0I fun z11 m9 => if (z11 = 0 : Prop) then (some (.int (-2), m9)) else (if gd_ok (gN m9) r0 9 = true then (if gd_ok (gN m9) (gR m9 r0 1) 7 = true then ((gd_call 71 [.int x4, .int 0, .int ((gI m9 (gR m9 r0 1) 2) - 1)] m9).bind (gd_k0I fun z18 m16 => if (z18 = 0 : Prop) then (some (.int (-2), m16)) else (if gd_ok (gN m16) r0 9 = true then ((gd_call 103 [.ref r0, .int ((4 * x1) + x2)] m16).bind (gd_kI fun z24 m22 => if (z24 = 0 : Prop) then (some (.int (-1), m22)) else (if gd_ok (gN m22) r0 9 = true then (if gd_okA (gN m22) (gR m22 r0 24) 10 ((4 * x1) + x2) = true then ((gd_call 71 [.int x5, .int 0, .int ((gI m22 (gR m22 r0 24) (((4 * x1) + x2) : Int32).toNatClampNeg) - 1)] m22).bind (gd_k0I fun z31 m29 => if (z31 = 0 : Prop) then (some (.int (-1), m29)) else (if gd_ok (gN m29) r0 9 = true then (if gd_okA (gN m29) (gR m29 r0 29) 11 (((160 * ((4 * x1) + x2)) + (16 * x4)) + x5) = true then ((gd_call 120 [.ref r0, .int ((4 * x1) + x2)] (wI m29 (gR m29 r0 29) ((((160 * ((4 * x1) + x2)) + (16 * x4)) + x5) : Int32).toNatClampNeg (vp_nar .boolean 1))).bind (gd_kI fun z38 m36 => some (.int z38, m36))) else none) else none))) else none) else none))) else none))) else none) else none))) else none) else none))) else none := by
  refine Eq.trans (show gd_call 121 [.ref r0, .int x1, .int x2, .int x3, .int x4, .int x5] m = gd_Den (121, 0, [.ref r0, .int x1, .int x2, .int x3, .int x4, .int x5, .null], [], m) from by unfold gd_call gd_ent; rw [gk_ml121]; rfl) ?_
  refine Eq.trans (D_aload_n (x := r0) gk_f121_0 rfl) ?_
  refine Eq.trans (D_iload_n (x := x1) gk_f121_1 rfl) ?_
  refine Eq.trans (D_iload_n (x := x2) gk_f121_2 rfl) ?_
  refine Eq.trans (D_ivZ (cl := 9) (args := [.ref r0, .int x1, .int x2]) (rest := []) gk_f121_3 rfl rfl (gd_rmk gk_rm121_98 gk_ln98 gk_ml98 rfl rfl rfl) gk_rk98 (gd_hnd_n gk_nc121) gk_nc98 gk_n11_98 gk_cl98) ?_
  refine gd_ite (fun h1 => ?_) (fun _ => rfl)
  refine gd_bnd (gd_kI_c fun z4 m2 => ?_)
  refine Eq.trans (D_if_eq (t := 44) gk_f121_6 (by decide)) ?_
  refine gd_ite (fun h5 => ?_) (fun h6 => ?_)
  · refine Eq.trans (D_bipush (x := (-2)) gk_f121_44 gk_b_m2) ?_
    refine Eq.trans (D_ireturn gk_f121_46 gk_rk121) ?_
    rfl
  · refine Eq.trans (D_iload_n (x := x3) gk_f121_9 rfl) ?_
    refine Eq.trans (D_iconst (x := 0) gk_f121_10 gk_c_0) ?_
    refine Eq.trans (D_aload_n (x := r0) gk_f121_11 rfl) ?_
    refine Eq.trans (D_gfR gk_f121_12 (by decide)) ?_
    refine gd_ite (fun h7 => ?_) (fun _ => rfl)
    refine Eq.trans (D_gfI gk_f121_15 (by decide) (by decide) (by decide)) ?_
    refine gd_ite (fun h8 => ?_) (fun _ => rfl)
    refine Eq.trans (D_iconst (x := 1) gk_f121_18 gk_c_1) ?_
    refine Eq.trans (D_isub gk_f121_19) ?_
    refine Eq.trans (D_isZ (args := [.int x3, .int 0, .int ((gI m2 (gR m2 r0 1) 21) - 1)]) (rest := []) gk_f121_20 rfl rfl rfl (gd_rmk gk_rm121_71 gk_ln71 gk_ml71 rfl rfl rfl) gk_rk71 (gd_hnd_n gk_nc121)) ?_
    refine gd_bnd (gd_k0I_c fun z11 m9 => ?_)
    refine Eq.trans (D_if_eq (t := 44) gk_f121_23 (by decide)) ?_
    refine gd_ite (fun h12 => ?_) (fun h13 => ?_)
    · refine Eq.trans (D_bipush (x := (-2)) gk_f121_44 gk_b_m2) ?_
      refine Eq.trans (D_ireturn gk_f121_46 gk_rk121) ?_
      rfl
    · refine Eq.trans (D_iload (x := x4) gk_f121_26 rfl) ?_
      refine Eq.trans (D_iconst (x := 0) gk_f121_28 gk_c_0) ?_
      refine Eq.trans (D_aload_n (x := r0) gk_f121_29 rfl) ?_
      refine Eq.trans (D_gfR gk_f121_30 (by decide)) ?_
      refine gd_ite (fun h14 => ?_) (fun _ => rfl)
      refine Eq.trans (D_gfI gk_f121_33 (by decide) (by decide) (by decide)) ?_
      refine gd_ite (fun h15 => ?_) (fun _ => rfl)
      refine Eq.trans (D_iconst (x := 1) gk_f121_36 gk_c_1) ?_
      refine Eq.trans (D_isub gk_f121_37) ?_
      refine Eq.trans (D_isZ (args := [.int x4, .int 0, .int ((gI m9 (gR m9 r0 1) 2) - 1)]) (rest := []) gk_f121_38 rfl rfl rfl (gd_rmk gk_rm121_71 gk_ln71 gk_ml71 rfl rfl rfl) gk_rk71 (gd_hnd_n gk_nc121)) ?_
      refine gd_bnd (gd_k0I_c fun z18 m16 => ?_)
      refine Eq.trans (D_if_ne (t := 47) gk_f121_41 (by decide)) ?_
      refine gd_ite (fun h19 => ?_) (fun h20 => ?_)
      · refine Eq.trans (D_bipush (x := (-2)) gk_f121_44 gk_b_m2) ?_
        refine Eq.trans (D_ireturn gk_f121_46 gk_rk121) ?_
        rfl
      · refine Eq.trans (D_iconst (x := 4) gk_f121_47 gk_c_4) ?_
        refine Eq.trans (D_iload_n (x := x1) gk_f121_48 rfl) ?_
        refine Eq.trans (D_imul gk_f121_49) ?_
        refine Eq.trans (D_iload_n (x := x2) gk_f121_50 rfl) ?_
        refine Eq.trans (D_iadd gk_f121_51) ?_
        refine Eq.trans (D_istore gk_f121_52 gk_st121_6) ?_
        refine Eq.trans (D_aload_n (x := r0) gk_f121_54 rfl) ?_
        refine Eq.trans (D_iload (x := ((4 * x1) + x2)) gk_f121_55 rfl) ?_
        refine Eq.trans (D_ivZ (cl := 9) (args := [.ref r0, .int ((4 * x1) + x2)]) (rest := []) gk_f121_57 rfl rfl (gd_rmk gk_rm121_103 gk_ln103 gk_ml103 rfl rfl rfl) gk_rk103 (gd_hnd_n gk_nc121) gk_nc103 gk_n11_103 gk_cl103) ?_
        refine gd_ite (fun h21 => ?_) (fun _ => rfl)
        refine gd_bnd (gd_kI_c fun z24 m22 => ?_)
        refine Eq.trans (D_if_eq (t := 81) gk_f121_60 (by decide)) ?_
        refine gd_ite (fun h25 => ?_) (fun h26 => ?_)
        · refine Eq.trans (D_iconst (x := (-1)) gk_f121_81 gk_c_m1) ?_
          refine Eq.trans (D_ireturn gk_f121_82 gk_rk121) ?_
          rfl
        · refine Eq.trans (D_iload (x := x5) gk_f121_63 rfl) ?_
          refine Eq.trans (D_iconst (x := 0) gk_f121_65 gk_c_0) ?_
          refine Eq.trans (D_aload_n (x := r0) gk_f121_66 rfl) ?_
          refine Eq.trans (D_gfR gk_f121_67 (by decide)) ?_
          refine gd_ite (fun h27 => ?_) (fun _ => rfl)
          refine Eq.trans (D_iload (x := ((4 * x1) + x2)) gk_f121_70 rfl) ?_
          refine Eq.trans (D_iald gk_f121_72 gk_n10_121) ?_
          refine gd_ite (fun h28 => ?_) (fun _ => rfl)
          refine Eq.trans (D_iconst (x := 1) gk_f121_73 gk_c_1) ?_
          refine Eq.trans (D_isub gk_f121_74) ?_
          refine Eq.trans (D_isZ (args := [.int x5, .int 0, .int ((gI m22 (gR m22 r0 24) (((4 * x1) + x2) : Int32).toNatClampNeg) - 1)]) (rest := []) gk_f121_75 rfl rfl rfl (gd_rmk gk_rm121_71 gk_ln71 gk_ml71 rfl rfl rfl) gk_rk71 (gd_hnd_n gk_nc121)) ?_
          refine gd_bnd (gd_k0I_c fun z31 m29 => ?_)
          refine Eq.trans (D_if_ne (t := 83) gk_f121_78 (by decide)) ?_
          refine gd_ite (fun h32 => ?_) (fun h33 => ?_)
          · refine Eq.trans (D_iconst (x := (-1)) gk_f121_81 gk_c_m1) ?_
            refine Eq.trans (D_ireturn gk_f121_82 gk_rk121) ?_
            rfl
          · refine Eq.trans (D_aload_n (x := r0) gk_f121_83 rfl) ?_
            refine Eq.trans (D_gfR gk_f121_84 (by decide)) ?_
            refine gd_ite (fun h34 => ?_) (fun _ => rfl)
            refine Eq.trans (D_sipush (x := 160) gk_f121_87 gk_s_160) ?_
            refine Eq.trans (D_iload (x := ((4 * x1) + x2)) gk_f121_90 rfl) ?_
            refine Eq.trans (D_imul gk_f121_92) ?_
            refine Eq.trans (D_bipush (x := 16) gk_f121_93 gk_b_16) ?_
            refine Eq.trans (D_iload (x := x4) gk_f121_95 rfl) ?_
            refine Eq.trans (D_imul gk_f121_97) ?_
            refine Eq.trans (D_iadd gk_f121_98) ?_
            refine Eq.trans (D_iload (x := x5) gk_f121_99 rfl) ?_
            refine Eq.trans (D_iadd gk_f121_101) ?_
            refine Eq.trans (D_iconst (x := 1) gk_f121_102 gk_c_1) ?_
            refine Eq.trans (D_bastZ gk_f121_103 gk_b12_121) ?_
            refine gd_ite (fun h35 => ?_) (fun _ => rfl)
            refine Eq.trans (D_aload_n (x := r0) gk_f121_104 rfl) ?_
            refine Eq.trans (D_iload (x := ((4 * x1) + x2)) gk_f121_105 rfl) ?_
            refine Eq.trans (D_ivI (cl := 9) (args := [.ref r0, .int ((4 * x1) + x2)]) (rest := []) gk_f121_107 rfl rfl (gd_rmk gk_rm121_120 gk_ln120 gk_ml120 rfl rfl rfl) gk_rk120 (gd_hnd_n gk_nc121) gk_nc120 gk_n11_120 gk_cl120) ?_
            refine Eq.trans (if_pos h34) ?_
            refine gd_bnd (gd_kI_c fun z38 m36 => ?_)
            refine Eq.trans (D_ireturn gk_f121_110 gk_rk121) ?_
            rfl
/-! GymDesk$Routine.counting ()I -/
set_option maxRecDepth 20000 in
theorem gk_f122_0 : gd_fetch 122 0 = some (0, .iconst 0, 1, 0, 0, 0, 0, 0) := rfl
set_option maxRecDepth 20000 in
theorem gk_f122_1 : gd_fetch 122 1 = some (1, .istore_n 1, 1, 0, 0, 0, 0, 0) := rfl
set_option maxRecDepth 20000 in
theorem gk_f122_2 : gd_fetch 122 2 = some (2, .iload_n 1, 1, 0, 0, 0, 0, 0) := rfl
set_option maxRecDepth 20000 in
theorem gk_f122_3 : gd_fetch 122 3 = some (3, .aload_n 0, 1, 0, 0, 0, 0, 0) := rfl
set_option maxRecDepth 20000 in
theorem gk_f122_4 : gd_fetch 122 4 = some (4, .getfield 31, 3, 411, 4, 6, 0, 0) := rfl
set_option maxRecDepth 20000 in
theorem gk_f122_7 : gd_fetch 122 7 = some (7, .if_icmp .ge 21, 3, 0, 0, 0, 0, 0) := rfl
set_option maxRecDepth 20000 in
theorem gk_f122_10 : gd_fetch 122 10 = some (10, .aload_n 0, 1, 0, 0, 0, 0, 0) := rfl
set_option maxRecDepth 20000 in
theorem gk_f122_11 : gd_fetch 122 11 = some (11, .getfield 9, 3, 399, 4, 0, 4, 1) := rfl
set_option maxRecDepth 20000 in
theorem gk_f122_14 : gd_fetch 122 14 = some (14, .iload_n 1, 1, 0, 0, 0, 0, 0) := rfl
set_option maxRecDepth 20000 in
theorem gk_f122_15 : gd_fetch 122 15 = some (15, .iaload, 1, 0, 0, 0, 0, 0) := rfl
set_option maxRecDepth 20000 in
theorem gk_f122_16 : gd_fetch 122 16 = some (16, .iconst (-1), 1, 0, 0, 0, 0, 0) := rfl
set_option maxRecDepth 20000 in
theorem gk_f122_17 : gd_fetch 122 17 = some (17, .if_icmp .ne 5, 3, 0, 0, 0, 0, 0) := rfl
set_option maxRecDepth 20000 in
theorem gk_f122_20 : gd_fetch 122 20 = some (20, .iload_n 1, 1, 0, 0, 0, 0, 0) := rfl
set_option maxRecDepth 20000 in
theorem gk_f122_21 : gd_fetch 122 21 = some (21, .ireturn, 1, 0, 0, 0, 0, 0) := rfl
set_option maxRecDepth 20000 in
theorem gk_f122_22 : gd_fetch 122 22 = some (22, .iinc 1 1, 3, 0, 0, 0, 0, 0) := rfl
set_option maxRecDepth 20000 in
theorem gk_f122_25 : gd_fetch 122 25 = some (25, .goto (-23), 3, 0, 0, 0, 0, 0) := rfl
set_option maxRecDepth 20000 in
theorem gk_f122_28 : gd_fetch 122 28 = some (28, .aload_n 0, 1, 0, 0, 0, 0, 0) := rfl
set_option maxRecDepth 20000 in
theorem gk_f122_29 : gd_fetch 122 29 = some (29, .getfield 31, 3, 411, 4, 6, 0, 0) := rfl
set_option maxRecDepth 20000 in
theorem gk_f122_32 : gd_fetch 122 32 = some (32, .ireturn, 1, 0, 0, 0, 0, 0) := rfl
set_option maxRecDepth 20000 in
set_option maxHeartbeats 4000000 in
theorem q_Ro_counting (r0 : Nat) (m : gd_M) : gd_call 122 [.ref r0] m = gd_Den (122, 2, [.ref r0, .int 0], [], m) := by
  refine Eq.trans (show gd_call 122 [.ref r0] m = gd_Den (122, 0, [.ref r0, .null], [], m) from by unfold gd_call gd_ent; rw [gk_ml122]; rfl) ?_
  refine Eq.trans (D_iconst (x := 0) gk_f122_0 gk_c_0) ?_
  refine Eq.trans (D_istore_n gk_f122_1 gk_st122_1) ?_
  rfl
set_option maxRecDepth 20000 in
set_option maxHeartbeats 4000000 in
theorem q_Ro_counting_2 (r0 : Nat) (x1 : Int32) (m : gd_M) : gd_Den (122, 2, [.ref r0, .int x1], [], m) = if gd_ok (gN m) r0 4 = true then (if (x1 < (gI m r0 6) : Prop) then (if gd_okA (gN m) (gR m r0 0) 10 x1 = true then (if ((gI m (gR m r0 0) (x1 : Int32).toNatClampNeg) = (-1) : Prop) then (some (.int x1, m)) else (gd_Den (122, 2, [.ref r0, .int (x1 + 1)], [], m))) else none) else (some (.int (gI m r0 6), m))) else none := by
  refine Eq.trans (D_iload_n (x := x1) gk_f122_2 rfl) ?_
  refine Eq.trans (D_aload_n (x := r0) gk_f122_3 rfl) ?_
  refine Eq.trans (D_gfI gk_f122_4 (by decide) (by decide) (by decide)) ?_
  refine gd_ite (fun h1 => ?_) (fun _ => rfl)
  refine Eq.trans (D_ic_ge (t := 28) gk_f122_7 (by decide)) ?_
  refine gd_ite (fun h2 => ?_) (fun h3 => ?_)
  · refine Eq.trans (D_aload_n (x := r0) gk_f122_10 rfl) ?_
    refine Eq.trans (D_gfR gk_f122_11 (by decide)) ?_
    refine Eq.trans (if_pos h1) ?_
    refine Eq.trans (D_iload_n (x := x1) gk_f122_14 rfl) ?_
    refine Eq.trans (D_iald gk_f122_15 gk_n10_122) ?_
    refine gd_ite (fun h4 => ?_) (fun _ => rfl)
    refine Eq.trans (D_iconst (x := (-1)) gk_f122_16 gk_c_m1) ?_
    refine Eq.trans (D_ic_ne (t := 22) gk_f122_17 (by decide)) ?_
    refine gd_ite (fun h5 => ?_) (fun h6 => ?_)
    · refine Eq.trans (D_iload_n (x := x1) gk_f122_20 rfl) ?_
      refine Eq.trans (D_ireturn gk_f122_21 gk_rk122) ?_
      rfl
    · refine Eq.trans (D_iinc (x := x1) (y := 1) gk_f122_22 rfl gk_c_1 gk_st122_1) ?_
      refine Eq.trans (D_goto (t := 2) gk_f122_25 (by decide)) ?_
      rfl
  · refine Eq.trans (D_aload_n (x := r0) gk_f122_28 rfl) ?_
    refine Eq.trans (D_gfI gk_f122_29 (by decide) (by decide) (by decide)) ?_
    refine Eq.trans (if_pos h1) ?_
    refine Eq.trans (D_ireturn gk_f122_32 gk_rk122) ?_
    rfl
/-! GymDesk$Routine.repeats (LGymDesk$Code;)I -/
set_option maxRecDepth 20000 in
theorem gk_f123_0 : gd_fetch 123 0 = some (0, .aload_n 0, 1, 0, 0, 0, 0, 0) := rfl
set_option maxRecDepth 20000 in
theorem gk_f123_1 : gd_fetch 123 1 = some (1, .invokevirtual 44, 3, 783, 122, 0, 0, 0) := rfl
set_option maxRecDepth 20000 in
theorem gk_f123_4 : gd_fetch 123 4 = some (4, .istore_n 2, 1, 0, 0, 0, 0, 0) := rfl
set_option maxRecDepth 20000 in
theorem gk_f123_5 : gd_fetch 123 5 = some (5, .iconst 0, 1, 0, 0, 0, 0, 0) := rfl
set_option maxRecDepth 20000 in
theorem gk_f123_6 : gd_fetch 123 6 = some (6, .istore_n 3, 1, 0, 0, 0, 0, 0) := rfl
set_option maxRecDepth 20000 in
theorem gk_f123_7 : gd_fetch 123 7 = some (7, .iconst 0, 1, 0, 0, 0, 0, 0) := rfl
set_option maxRecDepth 20000 in
theorem gk_f123_8 : gd_fetch 123 8 = some (8, .istore 4, 2, 0, 0, 0, 0, 0) := rfl
set_option maxRecDepth 20000 in
theorem gk_f123_10 : gd_fetch 123 10 = some (10, .iconst 0, 1, 0, 0, 0, 0, 0) := rfl
set_option maxRecDepth 20000 in
theorem gk_f123_11 : gd_fetch 123 11 = some (11, .istore 5, 2, 0, 0, 0, 0, 0) := rfl
set_option maxRecDepth 20000 in
theorem gk_f123_13 : gd_fetch 123 13 = some (13, .iload 5, 2, 0, 0, 0, 0, 0) := rfl
set_option maxRecDepth 20000 in
theorem gk_f123_15 : gd_fetch 123 15 = some (15, .iload_n 2, 1, 0, 0, 0, 0, 0) := rfl
set_option maxRecDepth 20000 in
theorem gk_f123_16 : gd_fetch 123 16 = some (16, .if_icmp .ge 63, 3, 0, 0, 0, 0, 0) := rfl
set_option maxRecDepth 20000 in
theorem gk_f123_19 : gd_fetch 123 19 = some (19, .aload_n 0, 1, 0, 0, 0, 0, 0) := rfl
set_option maxRecDepth 20000 in
theorem gk_f123_20 : gd_fetch 123 20 = some (20, .getfield 9, 3, 399, 4, 0, 4, 1) := rfl
set_option maxRecDepth 20000 in
theorem gk_f123_23 : gd_fetch 123 23 = some (23, .iload 5, 2, 0, 0, 0, 0, 0) := rfl
set_option maxRecDepth 20000 in
theorem gk_f123_25 : gd_fetch 123 25 = some (25, .iaload, 1, 0, 0, 0, 0, 0) := rfl
set_option maxRecDepth 20000 in
theorem gk_f123_26 : gd_fetch 123 26 = some (26, .istore 6, 2, 0, 0, 0, 0, 0) := rfl
set_option maxRecDepth 20000 in
theorem gk_f123_28 : gd_fetch 123 28 = some (28, .aload_n 1, 1, 0, 0, 0, 0, 0) := rfl
set_option maxRecDepth 20000 in
theorem gk_f123_29 : gd_fetch 123 29 = some (29, .iload 6, 2, 0, 0, 0, 0, 0) := rfl
set_option maxRecDepth 20000 in
theorem gk_f123_31 : gd_fetch 123 31 = some (31, .invokevirtual 48, 3, 784, 85, 1, 0, 0) := rfl
set_option maxRecDepth 20000 in
theorem gk_f123_34 : gd_fetch 123 34 = some (34, .ifCond .eq 15, 3, 0, 0, 0, 0, 0) := rfl
set_option maxRecDepth 20000 in
theorem gk_f123_37 : gd_fetch 123 37 = some (37, .iconst 1, 1, 0, 0, 0, 0, 0) := rfl
set_option maxRecDepth 20000 in
theorem gk_f123_38 : gd_fetch 123 38 = some (38, .aload_n 1, 1, 0, 0, 0, 0, 0) := rfl
set_option maxRecDepth 20000 in
theorem gk_f123_39 : gd_fetch 123 39 = some (39, .getfield 54, 3, 326, 1, 2, 4, 1) := rfl
set_option maxRecDepth 20000 in
theorem gk_f123_42 : gd_fetch 123 42 = some (42, .iload 6, 2, 0, 0, 0, 0, 0) := rfl
set_option maxRecDepth 20000 in
theorem gk_f123_44 : gd_fetch 123 44 = some (44, .iaload, 1, 0, 0, 0, 0, 0) := rfl
set_option maxRecDepth 20000 in
theorem gk_f123_45 : gd_fetch 123 45 = some (45, .ishl, 1, 0, 0, 0, 0, 0) := rfl
set_option maxRecDepth 20000 in
theorem gk_f123_46 : gd_fetch 123 46 = some (46, .goto 4, 3, 0, 0, 0, 0, 0) := rfl
set_option maxRecDepth 20000 in
theorem gk_f123_49 : gd_fetch 123 49 = some (49, .iconst 0, 1, 0, 0, 0, 0, 0) := rfl
set_option maxRecDepth 20000 in
theorem gk_f123_50 : gd_fetch 123 50 = some (50, .istore 7, 2, 0, 0, 0, 0, 0) := rfl
set_option maxRecDepth 20000 in
theorem gk_f123_52 : gd_fetch 123 52 = some (52, .iload_n 3, 1, 0, 0, 0, 0, 0) := rfl
set_option maxRecDepth 20000 in
theorem gk_f123_53 : gd_fetch 123 53 = some (53, .iload 7, 2, 0, 0, 0, 0, 0) := rfl
set_option maxRecDepth 20000 in
theorem gk_f123_55 : gd_fetch 123 55 = some (55, .iand, 1, 0, 0, 0, 0, 0) := rfl
set_option maxRecDepth 20000 in
theorem gk_f123_56 : gd_fetch 123 56 = some (56, .ifCond .eq 12, 3, 0, 0, 0, 0, 0) := rfl
set_option maxRecDepth 20000 in
theorem gk_f123_59 : gd_fetch 123 59 = some (59, .iload 4, 2, 0, 0, 0, 0, 0) := rfl
set_option maxRecDepth 20000 in
theorem gk_f123_61 : gd_fetch 123 61 = some (61, .iconst 1, 1, 0, 0, 0, 0, 0) := rfl
set_option maxRecDepth 20000 in
theorem gk_f123_62 : gd_fetch 123 62 = some (62, .iload 5, 2, 0, 0, 0, 0, 0) := rfl
set_option maxRecDepth 20000 in
theorem gk_f123_64 : gd_fetch 123 64 = some (64, .ishl, 1, 0, 0, 0, 0, 0) := rfl
set_option maxRecDepth 20000 in
theorem gk_f123_65 : gd_fetch 123 65 = some (65, .ior, 1, 0, 0, 0, 0, 0) := rfl
set_option maxRecDepth 20000 in
theorem gk_f123_66 : gd_fetch 123 66 = some (66, .istore 4, 2, 0, 0, 0, 0, 0) := rfl
set_option maxRecDepth 20000 in
theorem gk_f123_68 : gd_fetch 123 68 = some (68, .iload_n 3, 1, 0, 0, 0, 0, 0) := rfl
set_option maxRecDepth 20000 in
theorem gk_f123_69 : gd_fetch 123 69 = some (69, .iload 7, 2, 0, 0, 0, 0, 0) := rfl
set_option maxRecDepth 20000 in
theorem gk_f123_71 : gd_fetch 123 71 = some (71, .ior, 1, 0, 0, 0, 0, 0) := rfl
set_option maxRecDepth 20000 in
theorem gk_f123_72 : gd_fetch 123 72 = some (72, .istore_n 3, 1, 0, 0, 0, 0, 0) := rfl
set_option maxRecDepth 20000 in
theorem gk_f123_73 : gd_fetch 123 73 = some (73, .iinc 5 1, 3, 0, 0, 0, 0, 0) := rfl
set_option maxRecDepth 20000 in
theorem gk_f123_76 : gd_fetch 123 76 = some (76, .goto (-63), 3, 0, 0, 0, 0, 0) := rfl
set_option maxRecDepth 20000 in
theorem gk_f123_79 : gd_fetch 123 79 = some (79, .iload 4, 2, 0, 0, 0, 0, 0) := rfl
set_option maxRecDepth 20000 in
theorem gk_f123_81 : gd_fetch 123 81 = some (81, .ireturn, 1, 0, 0, 0, 0, 0) := rfl
set_option maxRecDepth 20000 in
set_option maxHeartbeats 4000000 in
theorem q_Ro_repeats (r0 : Nat) (r1 : Nat) (m : gd_M) : gd_call 123 [.ref r0, .ref r1] m = if gd_ok (gN m) r0 4 = true then ((gd_call 122 [.ref r0] m).bind (gd_kI fun z4 m2 => gd_Den (123, 13, [.ref r0, .ref r1, .int z4, .int 0, .int 0, .int 0, .null, .null], [], m2))) else none := by
  refine Eq.trans (show gd_call 123 [.ref r0, .ref r1] m = gd_Den (123, 0, [.ref r0, .ref r1, .null, .null, .null, .null, .null, .null], [], m) from by unfold gd_call gd_ent; rw [gk_ml123]; rfl) ?_
  refine Eq.trans (D_aload_n (x := r0) gk_f123_0 rfl) ?_
  refine Eq.trans (D_ivI (cl := 4) (args := [.ref r0]) (rest := []) gk_f123_1 rfl rfl (gd_rmk gk_rm123_122 gk_ln122 gk_ml122 rfl rfl rfl) gk_rk122 (gd_hnd_n gk_nc123) gk_nc122 gk_n11_122 gk_cl122) ?_
  refine gd_ite (fun h1 => ?_) (fun _ => rfl)
  refine gd_bnd (gd_kI_c fun z4 m2 => ?_)
  refine Eq.trans (D_istore_n gk_f123_4 gk_st123_2) ?_
  refine Eq.trans (D_iconst (x := 0) gk_f123_5 gk_c_0) ?_
  refine Eq.trans (D_istore_n gk_f123_6 gk_st123_3) ?_
  refine Eq.trans (D_iconst (x := 0) gk_f123_7 gk_c_0) ?_
  refine Eq.trans (D_istore gk_f123_8 gk_st123_4) ?_
  refine Eq.trans (D_iconst (x := 0) gk_f123_10 gk_c_0) ?_
  refine Eq.trans (D_istore gk_f123_11 gk_st123_5) ?_
  rfl
set_option maxRecDepth 20000 in
set_option maxHeartbeats 4000000 in
theorem q_Ro_repeats_13 (r0 : Nat) (r1 : Nat) (x2 : Int32) (x3 : Int32) (x4 : Int32) (x5 : Int32) (v6 : Value) (v7 : Value) (m : gd_M) : gd_Den (123, 13, [.ref r0, .ref r1, .int x2, .int x3, .int x4, .int x5, v6, v7], [], m) = if (x5 < x2 : Prop) then (if gd_ok (gN m) r0 4 = true then (if gd_okA (gN m) (gR m r0 0) 10 x5 = true then (if gd_ok (gN m) r1 1 = true then ((gd_call 85 [.ref r1, .int (gI m (gR m r0 0) (x5 : Int32).toNatClampNeg)] m).bind (gd_kI fun z8 m6 => if (z8 = 0 : Prop) then (if ((x3 &&& 0) = 0 : Prop) then (gd_Den (123, 13, [.ref r0, .ref r1, .int x2, .int (x3 ||| 0), .int x4, .int (x5 + 1), .int (gI m (gR m r0 0) (x5 : Int32).toNatClampNeg), .int 0], [], m6)) else (gd_Den (123, 13, [.ref r0, .ref r1, .int x2, .int (x3 ||| 0), .int (x4 ||| ((1 : Int32) <<< (x5 &&& 31))), .int (x5 + 1), .int (gI m (gR m r0 0) (x5 : Int32).toNatClampNeg), .int 0], [], m6))) else (if gd_ok (gN m6) r1 1 = true then (if gd_okA (gN m6) (gR m6 r1 2) 10 (gI m (gR m r0 0) (x5 : Int32).toNatClampNeg) = true then (if ((x3 &&& ((1 : Int32) <<< ((gI m6 (gR m6 r1 2) ((gI m (gR m r0 0) (x5 : Int32).toNatClampNeg) : Int32).toNatClampNeg) &&& 31))) = 0 : Prop) then (gd_Den (123, 13, [.ref r0, .ref r1, .int x2, .int (x3 ||| ((1 : Int32) <<< ((gI m6 (gR m6 r1 2) ((gI m (gR m r0 0) (x5 : Int32).toNatClampNeg) : Int32).toNatClampNeg) &&& 31))), .int x4, .int (x5 + 1), .int (gI m (gR m r0 0) (x5 : Int32).toNatClampNeg), .int ((1 : Int32) <<< ((gI m6 (gR m6 r1 2) ((gI m (gR m r0 0) (x5 : Int32).toNatClampNeg) : Int32).toNatClampNeg) &&& 31))], [], m6)) else (gd_Den (123, 13, [.ref r0, .ref r1, .int x2, .int (x3 ||| ((1 : Int32) <<< ((gI m6 (gR m6 r1 2) ((gI m (gR m r0 0) (x5 : Int32).toNatClampNeg) : Int32).toNatClampNeg) &&& 31))), .int (x4 ||| ((1 : Int32) <<< (x5 &&& 31))), .int (x5 + 1), .int (gI m (gR m r0 0) (x5 : Int32).toNatClampNeg), .int ((1 : Int32) <<< ((gI m6 (gR m6 r1 2) ((gI m (gR m r0 0) (x5 : Int32).toNatClampNeg) : Int32).toNatClampNeg) &&& 31))], [], m6))) else none) else none))) else none) else none) else none) else (some (.int x4, m)) := by
  refine Eq.trans (D_iload (x := x5) gk_f123_13 rfl) ?_
  refine Eq.trans (D_iload_n (x := x2) gk_f123_15 rfl) ?_
  refine Eq.trans (D_ic_ge (t := 79) gk_f123_16 (by decide)) ?_
  refine gd_ite (fun h1 => ?_) (fun h2 => ?_)
  · refine Eq.trans (D_aload_n (x := r0) gk_f123_19 rfl) ?_
    refine Eq.trans (D_gfR gk_f123_20 (by decide)) ?_
    refine gd_ite (fun h3 => ?_) (fun _ => rfl)
    refine Eq.trans (D_iload (x := x5) gk_f123_23 rfl) ?_
    refine Eq.trans (D_iald gk_f123_25 gk_n10_123) ?_
    refine gd_ite (fun h4 => ?_) (fun _ => rfl)
    refine Eq.trans (D_istore gk_f123_26 gk_st123_6) ?_
    refine Eq.trans (D_aload_n (x := r1) gk_f123_28 rfl) ?_
    refine Eq.trans (D_iload (x := (gI m (gR m r0 0) (x5 : Int32).toNatClampNeg)) gk_f123_29 rfl) ?_
    refine Eq.trans (D_ivZ (cl := 1) (args := [.ref r1, .int (gI m (gR m r0 0) (x5 : Int32).toNatClampNeg)]) (rest := []) gk_f123_31 rfl rfl (gd_rmk gk_rm123_85 gk_ln85 gk_ml85 rfl rfl rfl) gk_rk85 (gd_hnd_n gk_nc123) gk_nc85 gk_n11_85 gk_cl85) ?_
    refine gd_ite (fun h5 => ?_) (fun _ => rfl)
    refine gd_bnd (gd_kI_c fun z8 m6 => ?_)
    refine Eq.trans (D_if_eq (t := 49) gk_f123_34 (by decide)) ?_
    refine gd_ite (fun h9 => ?_) (fun h10 => ?_)
    · refine Eq.trans (D_iconst (x := 0) gk_f123_49 gk_c_0) ?_
      refine Eq.trans (D_istore gk_f123_50 gk_st123_7) ?_
      refine Eq.trans (D_iload_n (x := x3) gk_f123_52 rfl) ?_
      refine Eq.trans (D_iload (x := 0) gk_f123_53 rfl) ?_
      refine Eq.trans (D_iand gk_f123_55) ?_
      refine Eq.trans (D_if_eq (t := 68) gk_f123_56 (by decide)) ?_
      refine gd_ite (fun h11 => ?_) (fun h12 => ?_)
      · refine Eq.trans (D_iload_n (x := x3) gk_f123_68 rfl) ?_
        refine Eq.trans (D_iload (x := 0) gk_f123_69 rfl) ?_
        refine Eq.trans (D_ior gk_f123_71) ?_
        refine Eq.trans (D_istore_n gk_f123_72 gk_st123_3) ?_
        refine Eq.trans (D_iinc (x := x5) (y := 1) gk_f123_73 rfl gk_c_1 gk_st123_5) ?_
        refine Eq.trans (D_goto (t := 13) gk_f123_76 (by decide)) ?_
        rfl
      · refine Eq.trans (D_iload (x := x4) gk_f123_59 rfl) ?_
        refine Eq.trans (D_iconst (x := 1) gk_f123_61 gk_c_1) ?_
        refine Eq.trans (D_iload (x := x5) gk_f123_62 rfl) ?_
        refine Eq.trans (D_ishl gk_f123_64) ?_
        refine Eq.trans (D_ior gk_f123_65) ?_
        refine Eq.trans (D_istore gk_f123_66 gk_st123_4) ?_
        refine Eq.trans (D_iload_n (x := x3) gk_f123_68 rfl) ?_
        refine Eq.trans (D_iload (x := 0) gk_f123_69 rfl) ?_
        refine Eq.trans (D_ior gk_f123_71) ?_
        refine Eq.trans (D_istore_n gk_f123_72 gk_st123_3) ?_
        refine Eq.trans (D_iinc (x := x5) (y := 1) gk_f123_73 rfl gk_c_1 gk_st123_5) ?_
        refine Eq.trans (D_goto (t := 13) gk_f123_76 (by decide)) ?_
        rfl
    · refine Eq.trans (D_iconst (x := 1) gk_f123_37 gk_c_1) ?_
      refine Eq.trans (D_aload_n (x := r1) gk_f123_38 rfl) ?_
      refine Eq.trans (D_gfR gk_f123_39 (by decide)) ?_
      refine gd_ite (fun h13 => ?_) (fun _ => rfl)
      refine Eq.trans (D_iload (x := (gI m (gR m r0 0) (x5 : Int32).toNatClampNeg)) gk_f123_42 rfl) ?_
      refine Eq.trans (D_iald gk_f123_44 gk_n10_123) ?_
      refine gd_ite (fun h14 => ?_) (fun _ => rfl)
      refine Eq.trans (D_ishl gk_f123_45) ?_
      refine Eq.trans (D_goto (t := 50) gk_f123_46 (by decide)) ?_
      refine Eq.trans (D_istore gk_f123_50 gk_st123_7) ?_
      refine Eq.trans (D_iload_n (x := x3) gk_f123_52 rfl) ?_
      refine Eq.trans (D_iload (x := ((1 : Int32) <<< ((gI m6 (gR m6 r1 2) ((gI m (gR m r0 0) (x5 : Int32).toNatClampNeg) : Int32).toNatClampNeg) &&& 31))) gk_f123_53 rfl) ?_
      refine Eq.trans (D_iand gk_f123_55) ?_
      refine Eq.trans (D_if_eq (t := 68) gk_f123_56 (by decide)) ?_
      refine gd_ite (fun h15 => ?_) (fun h16 => ?_)
      · refine Eq.trans (D_iload_n (x := x3) gk_f123_68 rfl) ?_
        refine Eq.trans (D_iload (x := ((1 : Int32) <<< ((gI m6 (gR m6 r1 2) ((gI m (gR m r0 0) (x5 : Int32).toNatClampNeg) : Int32).toNatClampNeg) &&& 31))) gk_f123_69 rfl) ?_
        refine Eq.trans (D_ior gk_f123_71) ?_
        refine Eq.trans (D_istore_n gk_f123_72 gk_st123_3) ?_
        refine Eq.trans (D_iinc (x := x5) (y := 1) gk_f123_73 rfl gk_c_1 gk_st123_5) ?_
        refine Eq.trans (D_goto (t := 13) gk_f123_76 (by decide)) ?_
        rfl
      · refine Eq.trans (D_iload (x := x4) gk_f123_59 rfl) ?_
        refine Eq.trans (D_iconst (x := 1) gk_f123_61 gk_c_1) ?_
        refine Eq.trans (D_iload (x := x5) gk_f123_62 rfl) ?_
        refine Eq.trans (D_ishl gk_f123_64) ?_
        refine Eq.trans (D_ior gk_f123_65) ?_
        refine Eq.trans (D_istore gk_f123_66 gk_st123_4) ?_
        refine Eq.trans (D_iload_n (x := x3) gk_f123_68 rfl) ?_
        refine Eq.trans (D_iload (x := ((1 : Int32) <<< ((gI m6 (gR m6 r1 2) ((gI m (gR m r0 0) (x5 : Int32).toNatClampNeg) : Int32).toNatClampNeg) &&& 31))) gk_f123_69 rfl) ?_
        refine Eq.trans (D_ior gk_f123_71) ?_
        refine Eq.trans (D_istore_n gk_f123_72 gk_st123_3) ?_
        refine Eq.trans (D_iinc (x := x5) (y := 1) gk_f123_73 rfl gk_c_1 gk_st123_5) ?_
        refine Eq.trans (D_goto (t := 13) gk_f123_76 (by decide)) ?_
        rfl
  · refine Eq.trans (D_iload (x := x4) gk_f123_79 rfl) ?_
    refine Eq.trans (D_ireturn gk_f123_81 gk_rk123) ?_
    rfl
/-! GymDesk$Chooser.layOut (LGymDesk$Code;LGymDesk$Routine;II)V -/
set_option maxRecDepth 20000 in
theorem gk_f124_0 : gd_fetch 124 0 = some (0, .iconst 0, 1, 0, 0, 0, 0, 0) := rfl
set_option maxRecDepth 20000 in
theorem gk_f124_1 : gd_fetch 124 1 = some (1, .istore 5, 2, 0, 0, 0, 0, 0) := rfl
set_option maxRecDepth 20000 in
theorem gk_f124_3 : gd_fetch 124 3 = some (3, .iload 5, 2, 0, 0, 0, 0, 0) := rfl
set_option maxRecDepth 20000 in
theorem gk_f124_5 : gd_fetch 124 5 = some (5, .iconst 5, 1, 0, 0, 0, 0, 0) := rfl
set_option maxRecDepth 20000 in
theorem gk_f124_6 : gd_fetch 124 6 = some (6, .if_icmp .ge 17, 3, 0, 0, 0, 0, 0) := rfl
set_option maxRecDepth 20000 in
theorem gk_f124_9 : gd_fetch 124 9 = some (9, .aload_n 0, 1, 0, 0, 0, 0, 0) := rfl
set_option maxRecDepth 20000 in
theorem gk_f124_10 : gd_fetch 124 10 = some (10, .getfield 18, 3, 247, 0, 2, 4, 1) := rfl
set_option maxRecDepth 20000 in
theorem gk_f124_13 : gd_fetch 124 13 = some (13, .iload 5, 2, 0, 0, 0, 0, 0) := rfl
set_option maxRecDepth 20000 in
theorem gk_f124_15 : gd_fetch 124 15 = some (15, .iconst 1, 1, 0, 0, 0, 0, 0) := rfl
set_option maxRecDepth 20000 in
theorem gk_f124_16 : gd_fetch 124 16 = some (16, .iastore, 1, 0, 0, 0, 0, 0) := rfl
set_option maxRecDepth 20000 in
theorem gk_f124_17 : gd_fetch 124 17 = some (17, .iinc 5 1, 3, 0, 0, 0, 0, 0) := rfl
set_option maxRecDepth 20000 in
theorem gk_f124_20 : gd_fetch 124 20 = some (20, .goto (-17), 3, 0, 0, 0, 0, 0) := rfl
set_option maxRecDepth 20000 in
theorem gk_f124_23 : gd_fetch 124 23 = some (23, .iconst 0, 1, 0, 0, 0, 0, 0) := rfl
set_option maxRecDepth 20000 in
theorem gk_f124_24 : gd_fetch 124 24 = some (24, .istore 5, 2, 0, 0, 0, 0, 0) := rfl
set_option maxRecDepth 20000 in
theorem gk_f124_26 : gd_fetch 124 26 = some (26, .iload 5, 2, 0, 0, 0, 0, 0) := rfl
set_option maxRecDepth 20000 in
theorem gk_f124_28 : gd_fetch 124 28 = some (28, .iload_n 3, 1, 0, 0, 0, 0, 0) := rfl
set_option maxRecDepth 20000 in
theorem gk_f124_29 : gd_fetch 124 29 = some (29, .if_icmp .ge 86, 3, 0, 0, 0, 0, 0) := rfl
set_option maxRecDepth 20000 in
theorem gk_f124_32 : gd_fetch 124 32 = some (32, .iload 4, 2, 0, 0, 0, 0, 0) := rfl
set_option maxRecDepth 20000 in
theorem gk_f124_34 : gd_fetch 124 34 = some (34, .iload 5, 2, 0, 0, 0, 0, 0) := rfl
set_option maxRecDepth 20000 in
theorem gk_f124_36 : gd_fetch 124 36 = some (36, .ishr, 1, 0, 0, 0, 0, 0) := rfl
set_option maxRecDepth 20000 in
theorem gk_f124_37 : gd_fetch 124 37 = some (37, .iconst 1, 1, 0, 0, 0, 0, 0) := rfl
set_option maxRecDepth 20000 in
theorem gk_f124_38 : gd_fetch 124 38 = some (38, .iand, 1, 0, 0, 0, 0, 0) := rfl
set_option maxRecDepth 20000 in
theorem gk_f124_39 : gd_fetch 124 39 = some (39, .ifCond .ne 70, 3, 0, 0, 0, 0, 0) := rfl
set_option maxRecDepth 20000 in
theorem gk_f124_42 : gd_fetch 124 42 = some (42, .aload_n 1, 1, 0, 0, 0, 0, 0) := rfl
set_option maxRecDepth 20000 in
theorem gk_f124_43 : gd_fetch 124 43 = some (43, .aload_n 2, 1, 0, 0, 0, 0, 0) := rfl
set_option maxRecDepth 20000 in
theorem gk_f124_44 : gd_fetch 124 44 = some (44, .getfield 49, 3, 400, 4, 0, 4, 1) := rfl
set_option maxRecDepth 20000 in
theorem gk_f124_47 : gd_fetch 124 47 = some (47, .iload 5, 2, 0, 0, 0, 0, 0) := rfl
set_option maxRecDepth 20000 in
theorem gk_f124_49 : gd_fetch 124 49 = some (49, .iaload, 1, 0, 0, 0, 0, 0) := rfl
set_option maxRecDepth 20000 in
theorem gk_f124_50 : gd_fetch 124 50 = some (50, .invokevirtual 52, 3, 789, 85, 1, 0, 0) := rfl
set_option maxRecDepth 20000 in
theorem gk_f124_53 : gd_fetch 124 53 = some (53, .ifCond .eq 56, 3, 0, 0, 0, 0, 0) := rfl
set_option maxRecDepth 20000 in
theorem gk_f124_56 : gd_fetch 124 56 = some (56, .aload_n 1, 1, 0, 0, 0, 0, 0) := rfl
set_option maxRecDepth 20000 in
theorem gk_f124_57 : gd_fetch 124 57 = some (57, .getfield 58, 3, 322, 1, 1, 4, 1) := rfl
set_option maxRecDepth 20000 in
theorem gk_f124_60 : gd_fetch 124 60 = some (60, .aload_n 2, 1, 0, 0, 0, 0, 0) := rfl
set_option maxRecDepth 20000 in
theorem gk_f124_61 : gd_fetch 124 61 = some (61, .getfield 49, 3, 400, 4, 0, 4, 1) := rfl
set_option maxRecDepth 20000 in
theorem gk_f124_64 : gd_fetch 124 64 = some (64, .iload 5, 2, 0, 0, 0, 0, 0) := rfl
set_option maxRecDepth 20000 in
theorem gk_f124_66 : gd_fetch 124 66 = some (66, .iaload, 1, 0, 0, 0, 0, 0) := rfl
set_option maxRecDepth 20000 in
theorem gk_f124_67 : gd_fetch 124 67 = some (67, .iaload, 1, 0, 0, 0, 0, 0) := rfl
set_option maxRecDepth 20000 in
theorem gk_f124_68 : gd_fetch 124 68 = some (68, .istore 6, 2, 0, 0, 0, 0, 0) := rfl
set_option maxRecDepth 20000 in
theorem gk_f124_70 : gd_fetch 124 70 = some (70, .aload_n 1, 1, 0, 0, 0, 0, 0) := rfl
set_option maxRecDepth 20000 in
theorem gk_f124_71 : gd_fetch 124 71 = some (71, .getfield 61, 3, 344, 1, 10, 4, 1) := rfl
set_option maxRecDepth 20000 in
theorem gk_f124_74 : gd_fetch 124 74 = some (74, .iload 6, 2, 0, 0, 0, 0, 0) := rfl
set_option maxRecDepth 20000 in
theorem gk_f124_76 : gd_fetch 124 76 = some (76, .iaload, 1, 0, 0, 0, 0, 0) := rfl
set_option maxRecDepth 20000 in
theorem gk_f124_77 : gd_fetch 124 77 = some (77, .iconst (-1), 1, 0, 0, 0, 0, 0) := rfl
set_option maxRecDepth 20000 in
theorem gk_f124_78 : gd_fetch 124 78 = some (78, .if_icmp .eq 20, 3, 0, 0, 0, 0, 0) := rfl
set_option maxRecDepth 20000 in
theorem gk_f124_81 : gd_fetch 124 81 = some (81, .aload_n 0, 1, 0, 0, 0, 0, 0) := rfl
set_option maxRecDepth 20000 in
theorem gk_f124_82 : gd_fetch 124 82 = some (82, .getfield 18, 3, 247, 0, 2, 4, 1) := rfl
set_option maxRecDepth 20000 in
theorem gk_f124_85 : gd_fetch 124 85 = some (85, .iload 6, 2, 0, 0, 0, 0, 0) := rfl
set_option maxRecDepth 20000 in
theorem gk_f124_87 : gd_fetch 124 87 = some (87, .iaload, 1, 0, 0, 0, 0, 0) := rfl
set_option maxRecDepth 20000 in
theorem gk_f124_88 : gd_fetch 124 88 = some (88, .aload_n 1, 1, 0, 0, 0, 0, 0) := rfl
set_option maxRecDepth 20000 in
theorem gk_f124_89 : gd_fetch 124 89 = some (89, .getfield 61, 3, 344, 1, 10, 4, 1) := rfl
set_option maxRecDepth 20000 in
theorem gk_f124_92 : gd_fetch 124 92 = some (92, .iload 6, 2, 0, 0, 0, 0, 0) := rfl
set_option maxRecDepth 20000 in
theorem gk_f124_94 : gd_fetch 124 94 = some (94, .iaload, 1, 0, 0, 0, 0, 0) := rfl
set_option maxRecDepth 20000 in
theorem gk_f124_95 : gd_fetch 124 95 = some (95, .if_icmp .gt 14, 3, 0, 0, 0, 0, 0) := rfl
set_option maxRecDepth 20000 in
theorem gk_f124_98 : gd_fetch 124 98 = some (98, .aload_n 0, 1, 0, 0, 0, 0, 0) := rfl
set_option maxRecDepth 20000 in
theorem gk_f124_99 : gd_fetch 124 99 = some (99, .getfield 18, 3, 247, 0, 2, 4, 1) := rfl
set_option maxRecDepth 20000 in
theorem gk_f124_102 : gd_fetch 124 102 = some (102, .iload 6, 2, 0, 0, 0, 0, 0) := rfl
set_option maxRecDepth 20000 in
theorem gk_f124_104 : gd_fetch 124 104 = some (104, .dup2, 1, 0, 0, 0, 0, 0) := rfl
set_option maxRecDepth 20000 in
theorem gk_f124_105 : gd_fetch 124 105 = some (105, .iaload, 1, 0, 0, 0, 0, 0) := rfl
set_option maxRecDepth 20000 in
theorem gk_f124_106 : gd_fetch 124 106 = some (106, .iconst 1, 1, 0, 0, 0, 0, 0) := rfl
set_option maxRecDepth 20000 in
theorem gk_f124_107 : gd_fetch 124 107 = some (107, .iadd, 1, 0, 0, 0, 0, 0) := rfl
set_option maxRecDepth 20000 in
theorem gk_f124_108 : gd_fetch 124 108 = some (108, .iastore, 1, 0, 0, 0, 0, 0) := rfl
set_option maxRecDepth 20000 in
theorem gk_f124_109 : gd_fetch 124 109 = some (109, .iinc 5 1, 3, 0, 0, 0, 0, 0) := rfl
set_option maxRecDepth 20000 in
theorem gk_f124_112 : gd_fetch 124 112 = some (112, .goto (-86), 3, 0, 0, 0, 0, 0) := rfl
set_option maxRecDepth 20000 in
theorem gk_f124_115 : gd_fetch 124 115 = some (115, .aload_n 0, 1, 0, 0, 0, 0, 0) := rfl
set_option maxRecDepth 20000 in
theorem gk_f124_116 : gd_fetch 124 116 = some (116, .iconst 1, 1, 0, 0, 0, 0, 0) := rfl
set_option maxRecDepth 20000 in
theorem gk_f124_117 : gd_fetch 124 117 = some (117, .putfield 64, 3, 249, 0, 4, 0, 0) := rfl
set_option maxRecDepth 20000 in
theorem gk_f124_120 : gd_fetch 124 120 = some (120, .iconst 0, 1, 0, 0, 0, 0, 0) := rfl
set_option maxRecDepth 20000 in
theorem gk_f124_121 : gd_fetch 124 121 = some (121, .istore 5, 2, 0, 0, 0, 0, 0) := rfl
set_option maxRecDepth 20000 in
theorem gk_f124_123 : gd_fetch 124 123 = some (123, .iload 5, 2, 0, 0, 0, 0, 0) := rfl
set_option maxRecDepth 20000 in
theorem gk_f124_125 : gd_fetch 124 125 = some (125, .iconst 5, 1, 0, 0, 0, 0, 0) := rfl
set_option maxRecDepth 20000 in
theorem gk_f124_126 : gd_fetch 124 126 = some (126, .if_icmp .ge 36, 3, 0, 0, 0, 0, 0) := rfl
set_option maxRecDepth 20000 in
theorem gk_f124_129 : gd_fetch 124 129 = some (129, .aload_n 0, 1, 0, 0, 0, 0, 0) := rfl
set_option maxRecDepth 20000 in
theorem gk_f124_130 : gd_fetch 124 130 = some (130, .getfield 21, 3, 248, 0, 3, 4, 1) := rfl
set_option maxRecDepth 20000 in
theorem gk_f124_133 : gd_fetch 124 133 = some (133, .iload 5, 2, 0, 0, 0, 0, 0) := rfl
set_option maxRecDepth 20000 in
theorem gk_f124_135 : gd_fetch 124 135 = some (135, .aload_n 0, 1, 0, 0, 0, 0, 0) := rfl
set_option maxRecDepth 20000 in
theorem gk_f124_136 : gd_fetch 124 136 = some (136, .getfield 64, 3, 249, 0, 4, 0, 0) := rfl
set_option maxRecDepth 20000 in
theorem gk_f124_139 : gd_fetch 124 139 = some (139, .iastore, 1, 0, 0, 0, 0, 0) := rfl
set_option maxRecDepth 20000 in
theorem gk_f124_140 : gd_fetch 124 140 = some (140, .aload_n 0, 1, 0, 0, 0, 0, 0) := rfl
set_option maxRecDepth 20000 in
theorem gk_f124_141 : gd_fetch 124 141 = some (141, .dup, 1, 0, 0, 0, 0, 0) := rfl
set_option maxRecDepth 20000 in
theorem gk_f124_142 : gd_fetch 124 142 = some (142, .getfield 64, 3, 249, 0, 4, 0, 0) := rfl
set_option maxRecDepth 20000 in
theorem gk_f124_145 : gd_fetch 124 145 = some (145, .aload_n 0, 1, 0, 0, 0, 0, 0) := rfl
set_option maxRecDepth 20000 in
theorem gk_f124_146 : gd_fetch 124 146 = some (146, .getfield 18, 3, 247, 0, 2, 4, 1) := rfl
set_option maxRecDepth 20000 in
theorem gk_f124_149 : gd_fetch 124 149 = some (149, .iload 5, 2, 0, 0, 0, 0, 0) := rfl
set_option maxRecDepth 20000 in
theorem gk_f124_151 : gd_fetch 124 151 = some (151, .iaload, 1, 0, 0, 0, 0, 0) := rfl
set_option maxRecDepth 20000 in
theorem gk_f124_152 : gd_fetch 124 152 = some (152, .imul, 1, 0, 0, 0, 0, 0) := rfl
set_option maxRecDepth 20000 in
theorem gk_f124_153 : gd_fetch 124 153 = some (153, .putfield 64, 3, 249, 0, 4, 0, 0) := rfl
set_option maxRecDepth 20000 in
theorem gk_f124_156 : gd_fetch 124 156 = some (156, .iinc 5 1, 3, 0, 0, 0, 0, 0) := rfl
set_option maxRecDepth 20000 in
theorem gk_f124_159 : gd_fetch 124 159 = some (159, .goto (-36), 3, 0, 0, 0, 0, 0) := rfl
set_option maxRecDepth 20000 in
theorem gk_f124_162 : gd_fetch 124 162 = some (162, .aload_n 0, 1, 0, 0, 0, 0, 0) := rfl
set_option maxRecDepth 20000 in
theorem gk_f124_163 : gd_fetch 124 163 = some (163, .aload_n 0, 1, 0, 0, 0, 0, 0) := rfl
set_option maxRecDepth 20000 in
theorem gk_f124_164 : gd_fetch 124 164 = some (164, .getfield 64, 3, 249, 0, 4, 0, 0) := rfl
set_option maxRecDepth 20000 in
theorem gk_f124_167 : gd_fetch 124 167 = some (167, .sipush 1280, 3, 0, 0, 0, 0, 0) := rfl
set_option maxRecDepth 20000 in
theorem gk_f124_170 : gd_fetch 124 170 = some (170, .invokestatic 68, 3, 790, 27, 2, 0, 0) := rfl
set_option maxRecDepth 20000 in
theorem gk_f124_173 : gd_fetch 124 173 = some (173, .putfield 64, 3, 249, 0, 4, 0, 0) := rfl
set_option maxRecDepth 20000 in
theorem gk_f124_176 : gd_fetch 124 176 = some (176, .iconst 0, 1, 0, 0, 0, 0, 0) := rfl
set_option maxRecDepth 20000 in
theorem gk_f124_177 : gd_fetch 124 177 = some (177, .istore 5, 2, 0, 0, 0, 0, 0) := rfl
set_option maxRecDepth 20000 in
theorem gk_f124_179 : gd_fetch 124 179 = some (179, .iload 5, 2, 0, 0, 0, 0, 0) := rfl
set_option maxRecDepth 20000 in
theorem gk_f124_181 : gd_fetch 124 181 = some (181, .aload_n 0, 1, 0, 0, 0, 0, 0) := rfl
set_option maxRecDepth 20000 in
theorem gk_f124_182 : gd_fetch 124 182 = some (182, .getfield 64, 3, 249, 0, 4, 0, 0) := rfl
set_option maxRecDepth 20000 in
theorem gk_f124_185 : gd_fetch 124 185 = some (185, .if_icmp .ge 27, 3, 0, 0, 0, 0, 0) := rfl
set_option maxRecDepth 20000 in
theorem gk_f124_188 : gd_fetch 124 188 = some (188, .aload_n 0, 1, 0, 0, 0, 0, 0) := rfl
set_option maxRecDepth 20000 in
theorem gk_f124_189 : gd_fetch 124 189 = some (189, .getfield 11, 3, 245, 0, 0, 4, 1) := rfl
set_option maxRecDepth 20000 in
theorem gk_f124_192 : gd_fetch 124 192 = some (192, .iload 5, 2, 0, 0, 0, 0, 0) := rfl
set_option maxRecDepth 20000 in
theorem gk_f124_194 : gd_fetch 124 194 = some (194, .ldc 74, 2, 791, 0, 0, 0, (-1073741824)) := rfl
set_option maxRecDepth 20000 in
theorem gk_f124_196 : gd_fetch 124 196 = some (196, .iastore, 1, 0, 0, 0, 0, 0) := rfl
set_option maxRecDepth 20000 in
theorem gk_f124_197 : gd_fetch 124 197 = some (197, .aload_n 0, 1, 0, 0, 0, 0, 0) := rfl
set_option maxRecDepth 20000 in
theorem gk_f124_198 : gd_fetch 124 198 = some (198, .getfield 15, 3, 246, 0, 1, 4, 1) := rfl
set_option maxRecDepth 20000 in
theorem gk_f124_201 : gd_fetch 124 201 = some (201, .iload 5, 2, 0, 0, 0, 0, 0) := rfl
set_option maxRecDepth 20000 in
theorem gk_f124_203 : gd_fetch 124 203 = some (203, .ldc 74, 2, 791, 0, 0, 0, (-1073741824)) := rfl
set_option maxRecDepth 20000 in
theorem gk_f124_205 : gd_fetch 124 205 = some (205, .iastore, 1, 0, 0, 0, 0, 0) := rfl
set_option maxRecDepth 20000 in
theorem gk_f124_206 : gd_fetch 124 206 = some (206, .iinc 5 1, 3, 0, 0, 0, 0, 0) := rfl
set_option maxRecDepth 20000 in
theorem gk_f124_209 : gd_fetch 124 209 = some (209, .goto (-30), 3, 0, 0, 0, 0, 0) := rfl
set_option maxRecDepth 20000 in
theorem gk_f124_212 : gd_fetch 124 212 = some (212, .aload_n 0, 1, 0, 0, 0, 0, 0) := rfl
set_option maxRecDepth 20000 in
theorem gk_f124_213 : gd_fetch 124 213 = some (213, .getfield 11, 3, 245, 0, 0, 4, 1) := rfl
set_option maxRecDepth 20000 in
theorem gk_f124_216 : gd_fetch 124 216 = some (216, .iconst 0, 1, 0, 0, 0, 0, 0) := rfl
set_option maxRecDepth 20000 in
theorem gk_f124_217 : gd_fetch 124 217 = some (217, .iconst 0, 1, 0, 0, 0, 0, 0) := rfl
set_option maxRecDepth 20000 in
theorem gk_f124_218 : gd_fetch 124 218 = some (218, .iastore, 1, 0, 0, 0, 0, 0) := rfl
set_option maxRecDepth 20000 in
theorem gk_f124_219 : gd_fetch 124 219 = some (219, .return_, 1, 0, 0, 0, 0, 0) := rfl
set_option maxRecDepth 20000 in
set_option maxHeartbeats 4000000 in
theorem q_Ch_layOut (r0 : Nat) (r1 : Nat) (r2 : Nat) (x3 : Int32) (x4 : Int32) (m : gd_M) : gd_call 124 [.ref r0, .ref r1, .ref r2, .int x3, .int x4] m = gd_Den (124, 3, [.ref r0, .ref r1, .ref r2, .int x3, .int x4, .int 0, .null], [], m) := by
  refine Eq.trans (show gd_call 124 [.ref r0, .ref r1, .ref r2, .int x3, .int x4] m = gd_Den (124, 0, [.ref r0, .ref r1, .ref r2, .int x3, .int x4, .null, .null], [], m) from by unfold gd_call gd_ent; rw [gk_ml124]; rfl) ?_
  refine Eq.trans (D_iconst (x := 0) gk_f124_0 gk_c_0) ?_
  refine Eq.trans (D_istore gk_f124_1 gk_st124_5) ?_
  rfl
set_option maxRecDepth 20000 in
set_option maxHeartbeats 4000000 in
theorem q_Ch_layOut_3 (r0 : Nat) (r1 : Nat) (r2 : Nat) (x3 : Int32) (x4 : Int32) (x5 : Int32) (m : gd_M) : gd_Den (124, 3, [.ref r0, .ref r1, .ref r2, .int x3, .int x4, .int x5, .null], [], m) = if (x5 < 5 : Prop) then (if gd_ok (gN m) r0 0 = true then (if gd_okA (gN m) (gR m r0 2) 10 x5 = true then (gd_Den (124, 3, [.ref r0, .ref r1, .ref r2, .int x3, .int x4, .int (x5 + 1), .null], [], (wI m (gR m r0 2) (x5 : Int32).toNatClampNeg 1))) else none) else none) else (gd_Den (124, 26, [.ref r0, .ref r1, .ref r2, .int x3, .int x4, .int 0, .null], [], m)) := by
  refine Eq.trans (D_iload (x := x5) gk_f124_3 rfl) ?_
  refine Eq.trans (D_iconst (x := 5) gk_f124_5 gk_c_5) ?_
  refine Eq.trans (D_ic_ge (t := 23) gk_f124_6 (by decide)) ?_
  refine gd_ite (fun h1 => ?_) (fun h2 => ?_)
  · refine Eq.trans (D_aload_n (x := r0) gk_f124_9 rfl) ?_
    refine Eq.trans (D_gfR gk_f124_10 (by decide)) ?_
    refine gd_ite (fun h3 => ?_) (fun _ => rfl)
    refine Eq.trans (D_iload (x := x5) gk_f124_13 rfl) ?_
    refine Eq.trans (D_iconst (x := 1) gk_f124_15 gk_c_1) ?_
    refine Eq.trans (D_iast gk_f124_16) ?_
    refine gd_ite (fun h4 => ?_) (fun _ => rfl)
    refine Eq.trans (D_iinc (x := x5) (y := 1) gk_f124_17 rfl gk_c_1 gk_st124_5) ?_
    refine Eq.trans (D_goto (t := 3) gk_f124_20 (by decide)) ?_
    rfl
  · refine Eq.trans (D_iconst (x := 0) gk_f124_23 gk_c_0) ?_
    refine Eq.trans (D_istore gk_f124_24 gk_st124_5) ?_
    rfl
set_option maxRecDepth 20000 in
set_option maxHeartbeats 4000000 in
theorem q_Ch_layOut_26 (r0 : Nat) (r1 : Nat) (r2 : Nat) (x3 : Int32) (x4 : Int32) (x5 : Int32) (v6 : Value) (m : gd_M) : gd_Den (124, 26, [.ref r0, .ref r1, .ref r2, .int x3, .int x4, .int x5, v6], [], m) = if (x5 < x3 : Prop) then (if ((((x4 : Int32) >>> (x5 &&& 31)) &&& 1) = 0 : Prop) then (if gd_ok (gN m) r2 4 = true then (if gd_okA (gN m) (gR m r2 0) 10 x5 = true then (if gd_ok (gN m) r1 1 = true then ((gd_call 85 [.ref r1, .int (gI m (gR m r2 0) (x5 : Int32).toNatClampNeg)] m).bind (gd_kI fun z10 m8 => if (z10 = 0 : Prop) then (gd_Den (124, 26, [.ref r0, .ref r1, .ref r2, .int x3, .int x4, .int (x5 + 1), v6], [], m8)) else (if gd_ok (gN m8) r1 1 = true then (if gd_ok (gN m8) r2 4 = true then (if gd_okA (gN m8) (gR m8 r2 0) 10 x5 = true then (if gd_okA (gN m8) (gR m8 r1 1) 10 (gI m8 (gR m8 r2 0) (x5 : Int32).toNatClampNeg) = true then (if gd_okA (gN m8) (gR m8 r1 10) 10 (gI m8 (gR m8 r1 1) ((gI m8 (gR m8 r2 0) (x5 : Int32).toNatClampNeg) : Int32).toNatClampNeg) = true then (if ((gI m8 (gR m8 r1 10) ((gI m8 (gR m8 r1 1) ((gI m8 (gR m8 r2 0) (x5 : Int32).toNatClampNeg) : Int32).toNatClampNeg) : Int32).toNatClampNeg) = (-1) : Prop) then (if gd_ok (gN m8) r0 0 = true then (if gd_okA (gN m8) (gR m8 r0 2) 10 (gI m8 (gR m8 r1 1) ((gI m8 (gR m8 r2 0) (x5 : Int32).toNatClampNeg) : Int32).toNatClampNeg) = true then (gd_Den (124, 26, [.ref r0, .ref r1, .ref r2, .int x3, .int x4, .int (x5 + 1), .int (gI m8 (gR m8 r1 1) ((gI m8 (gR m8 r2 0) (x5 : Int32).toNatClampNeg) : Int32).toNatClampNeg)], [], (wI m8 (gR m8 r0 2) ((gI m8 (gR m8 r1 1) ((gI m8 (gR m8 r2 0) (x5 : Int32).toNatClampNeg) : Int32).toNatClampNeg) : Int32).toNatClampNeg ((gI m8 (gR m8 r0 2) ((gI m8 (gR m8 r1 1) ((gI m8 (gR m8 r2 0) (x5 : Int32).toNatClampNeg) : Int32).toNatClampNeg) : Int32).toNatClampNeg) + 1)))) else none) else none) else (if gd_ok (gN m8) r0 0 = true then (if gd_okA (gN m8) (gR m8 r0 2) 10 (gI m8 (gR m8 r1 1) ((gI m8 (gR m8 r2 0) (x5 : Int32).toNatClampNeg) : Int32).toNatClampNeg) = true then (if ((gI m8 (gR m8 r1 10) ((gI m8 (gR m8 r1 1) ((gI m8 (gR m8 r2 0) (x5 : Int32).toNatClampNeg) : Int32).toNatClampNeg) : Int32).toNatClampNeg) < (gI m8 (gR m8 r0 2) ((gI m8 (gR m8 r1 1) ((gI m8 (gR m8 r2 0) (x5 : Int32).toNatClampNeg) : Int32).toNatClampNeg) : Int32).toNatClampNeg) : Prop) then (gd_Den (124, 26, [.ref r0, .ref r1, .ref r2, .int x3, .int x4, .int (x5 + 1), .int (gI m8 (gR m8 r1 1) ((gI m8 (gR m8 r2 0) (x5 : Int32).toNatClampNeg) : Int32).toNatClampNeg)], [], m8)) else (gd_Den (124, 26, [.ref r0, .ref r1, .ref r2, .int x3, .int x4, .int (x5 + 1), .int (gI m8 (gR m8 r1 1) ((gI m8 (gR m8 r2 0) (x5 : Int32).toNatClampNeg) : Int32).toNatClampNeg)], [], (wI m8 (gR m8 r0 2) ((gI m8 (gR m8 r1 1) ((gI m8 (gR m8 r2 0) (x5 : Int32).toNatClampNeg) : Int32).toNatClampNeg) : Int32).toNatClampNeg ((gI m8 (gR m8 r0 2) ((gI m8 (gR m8 r1 1) ((gI m8 (gR m8 r2 0) (x5 : Int32).toNatClampNeg) : Int32).toNatClampNeg) : Int32).toNatClampNeg) + 1))))) else none) else none)) else none) else none) else none) else none) else none))) else none) else none) else none) else (gd_Den (124, 26, [.ref r0, .ref r1, .ref r2, .int x3, .int x4, .int (x5 + 1), v6], [], m))) else (if gd_ok (gN m) r0 0 = true then (gd_Den (124, 123, [.ref r0, .ref r1, .ref r2, .int x3, .int x4, .int 0, v6], [], (wI m r0 4 1))) else none) := by
  refine Eq.trans (D_iload (x := x5) gk_f124_26 rfl) ?_
  refine Eq.trans (D_iload_n (x := x3) gk_f124_28 rfl) ?_
  refine Eq.trans (D_ic_ge (t := 115) gk_f124_29 (by decide)) ?_
  refine gd_ite (fun h1 => ?_) (fun h2 => ?_)
  · refine Eq.trans (D_iload (x := x4) gk_f124_32 rfl) ?_
    refine Eq.trans (D_iload (x := x5) gk_f124_34 rfl) ?_
    refine Eq.trans (D_ishr gk_f124_36) ?_
    refine Eq.trans (D_iconst (x := 1) gk_f124_37 gk_c_1) ?_
    refine Eq.trans (D_iand gk_f124_38) ?_
    refine Eq.trans (D_if_ne (t := 109) gk_f124_39 (by decide)) ?_
    refine gd_ite (fun h3 => ?_) (fun h4 => ?_)
    · refine Eq.trans (D_aload_n (x := r1) gk_f124_42 rfl) ?_
      refine Eq.trans (D_aload_n (x := r2) gk_f124_43 rfl) ?_
      refine Eq.trans (D_gfR gk_f124_44 (by decide)) ?_
      refine gd_ite (fun h5 => ?_) (fun _ => rfl)
      refine Eq.trans (D_iload (x := x5) gk_f124_47 rfl) ?_
      refine Eq.trans (D_iald gk_f124_49 gk_n10_124) ?_
      refine gd_ite (fun h6 => ?_) (fun _ => rfl)
      refine Eq.trans (D_ivZ (cl := 1) (args := [.ref r1, .int (gI m (gR m r2 0) (x5 : Int32).toNatClampNeg)]) (rest := []) gk_f124_50 rfl rfl (gd_rmk gk_rm124_85 gk_ln85 gk_ml85 rfl rfl rfl) gk_rk85 (gd_hnd_n gk_nc124) gk_nc85 gk_n11_85 gk_cl85) ?_
      refine gd_ite (fun h7 => ?_) (fun _ => rfl)
      refine gd_bnd (gd_kI_c fun z10 m8 => ?_)
      refine Eq.trans (D_if_eq (t := 109) gk_f124_53 (by decide)) ?_
      refine gd_ite (fun h11 => ?_) (fun h12 => ?_)
      · refine Eq.trans (D_iinc (x := x5) (y := 1) gk_f124_109 rfl gk_c_1 gk_st124_5) ?_
        refine Eq.trans (D_goto (t := 26) gk_f124_112 (by decide)) ?_
        rfl
      · refine Eq.trans (D_aload_n (x := r1) gk_f124_56 rfl) ?_
        refine Eq.trans (D_gfR gk_f124_57 (by decide)) ?_
        refine gd_ite (fun h13 => ?_) (fun _ => rfl)
        refine Eq.trans (D_aload_n (x := r2) gk_f124_60 rfl) ?_
        refine Eq.trans (D_gfR gk_f124_61 (by decide)) ?_
        refine gd_ite (fun h14 => ?_) (fun _ => rfl)
        refine Eq.trans (D_iload (x := x5) gk_f124_64 rfl) ?_
        refine Eq.trans (D_iald gk_f124_66 gk_n10_124) ?_
        refine gd_ite (fun h15 => ?_) (fun _ => rfl)
        refine Eq.trans (D_iald gk_f124_67 gk_n10_124) ?_
        refine gd_ite (fun h16 => ?_) (fun _ => rfl)
        refine Eq.trans (D_istore gk_f124_68 gk_st124_6) ?_
        refine Eq.trans (D_aload_n (x := r1) gk_f124_70 rfl) ?_
        refine Eq.trans (D_gfR gk_f124_71 (by decide)) ?_
        refine Eq.trans (if_pos h13) ?_
        refine Eq.trans (D_iload (x := (gI m8 (gR m8 r1 1) ((gI m8 (gR m8 r2 0) (x5 : Int32).toNatClampNeg) : Int32).toNatClampNeg)) gk_f124_74 rfl) ?_
        refine Eq.trans (D_iald gk_f124_76 gk_n10_124) ?_
        refine gd_ite (fun h17 => ?_) (fun _ => rfl)
        refine Eq.trans (D_iconst (x := (-1)) gk_f124_77 gk_c_m1) ?_
        refine Eq.trans (D_ic_eq (t := 98) gk_f124_78 (by decide)) ?_
        refine gd_ite (fun h18 => ?_) (fun h19 => ?_)
        · refine Eq.trans (D_aload_n (x := r0) gk_f124_98 rfl) ?_
          refine Eq.trans (D_gfR gk_f124_99 (by decide)) ?_
          refine gd_ite (fun h20 => ?_) (fun _ => rfl)
          refine Eq.trans (D_iload (x := (gI m8 (gR m8 r1 1) ((gI m8 (gR m8 r2 0) (x5 : Int32).toNatClampNeg) : Int32).toNatClampNeg)) gk_f124_102 rfl) ?_
          refine Eq.trans (D_dup2 gk_f124_104) ?_
          refine Eq.trans (D_iald gk_f124_105 gk_n10_124) ?_
          refine gd_ite (fun h21 => ?_) (fun _ => rfl)
          refine Eq.trans (D_iconst (x := 1) gk_f124_106 gk_c_1) ?_
          refine Eq.trans (D_iadd gk_f124_107) ?_
          refine Eq.trans (D_iast gk_f124_108) ?_
          refine Eq.trans (if_pos h21) ?_
          refine Eq.trans (D_iinc (x := x5) (y := 1) gk_f124_109 rfl gk_c_1 gk_st124_5) ?_
          refine Eq.trans (D_goto (t := 26) gk_f124_112 (by decide)) ?_
          rfl
        · refine Eq.trans (D_aload_n (x := r0) gk_f124_81 rfl) ?_
          refine Eq.trans (D_gfR gk_f124_82 (by decide)) ?_
          refine gd_ite (fun h22 => ?_) (fun _ => rfl)
          refine Eq.trans (D_iload (x := (gI m8 (gR m8 r1 1) ((gI m8 (gR m8 r2 0) (x5 : Int32).toNatClampNeg) : Int32).toNatClampNeg)) gk_f124_85 rfl) ?_
          refine Eq.trans (D_iald gk_f124_87 gk_n10_124) ?_
          refine gd_ite (fun h23 => ?_) (fun _ => rfl)
          refine Eq.trans (D_aload_n (x := r1) gk_f124_88 rfl) ?_
          refine Eq.trans (D_gfR gk_f124_89 (by decide)) ?_
          refine Eq.trans (if_pos h13) ?_
          refine Eq.trans (D_iload (x := (gI m8 (gR m8 r1 1) ((gI m8 (gR m8 r2 0) (x5 : Int32).toNatClampNeg) : Int32).toNatClampNeg)) gk_f124_92 rfl) ?_
          refine Eq.trans (D_iald gk_f124_94 gk_n10_124) ?_
          refine Eq.trans (if_pos h17) ?_
          refine Eq.trans (D_ic_gt (t := 109) gk_f124_95 (by decide)) ?_
          refine gd_ite (fun h24 => ?_) (fun h25 => ?_)
          · refine Eq.trans (D_iinc (x := x5) (y := 1) gk_f124_109 rfl gk_c_1 gk_st124_5) ?_
            refine Eq.trans (D_goto (t := 26) gk_f124_112 (by decide)) ?_
            rfl
          · refine Eq.trans (D_aload_n (x := r0) gk_f124_98 rfl) ?_
            refine Eq.trans (D_gfR gk_f124_99 (by decide)) ?_
            refine Eq.trans (if_pos h22) ?_
            refine Eq.trans (D_iload (x := (gI m8 (gR m8 r1 1) ((gI m8 (gR m8 r2 0) (x5 : Int32).toNatClampNeg) : Int32).toNatClampNeg)) gk_f124_102 rfl) ?_
            refine Eq.trans (D_dup2 gk_f124_104) ?_
            refine Eq.trans (D_iald gk_f124_105 gk_n10_124) ?_
            refine Eq.trans (if_pos h23) ?_
            refine Eq.trans (D_iconst (x := 1) gk_f124_106 gk_c_1) ?_
            refine Eq.trans (D_iadd gk_f124_107) ?_
            refine Eq.trans (D_iast gk_f124_108) ?_
            refine Eq.trans (if_pos h23) ?_
            refine Eq.trans (D_iinc (x := x5) (y := 1) gk_f124_109 rfl gk_c_1 gk_st124_5) ?_
            refine Eq.trans (D_goto (t := 26) gk_f124_112 (by decide)) ?_
            rfl
    · refine Eq.trans (D_iinc (x := x5) (y := 1) gk_f124_109 rfl gk_c_1 gk_st124_5) ?_
      refine Eq.trans (D_goto (t := 26) gk_f124_112 (by decide)) ?_
      rfl
  · refine Eq.trans (D_aload_n (x := r0) gk_f124_115 rfl) ?_
    refine Eq.trans (D_iconst (x := 1) gk_f124_116 gk_c_1) ?_
    refine Eq.trans (D_pfI gk_f124_117) ?_
    refine gd_ite (fun h26 => ?_) (fun _ => rfl)
    refine Eq.trans (D_iconst (x := 0) gk_f124_120 gk_c_0) ?_
    refine Eq.trans (D_istore gk_f124_121 gk_st124_5) ?_
    rfl
set_option maxRecDepth 20000 in
set_option maxHeartbeats 4000000 in
theorem q_Ch_layOut_123 (r0 : Nat) (r1 : Nat) (r2 : Nat) (x3 : Int32) (x4 : Int32) (x5 : Int32) (v6 : Value) (m : gd_M) : gd_Den (124, 123, [.ref r0, .ref r1, .ref r2, .int x3, .int x4, .int x5, v6], [], m) = if (x5 < 5 : Prop) then (if gd_ok (gN m) r0 0 = true then (if gd_okA (gN m) (gR m r0 3) 10 x5 = true then (if gd_okA (gN m) (gR m r0 2) 10 x5 = true then (gd_Den (124, 123, [.ref r0, .ref r1, .ref r2, .int x3, .int x4, .int (x5 + 1), v6], [], (wI (wI m (gR m r0 3) (x5 : Int32).toNatClampNeg (gI m r0 4)) r0 4 ((gI (wI m (gR m r0 3) (x5 : Int32).toNatClampNeg (gI m r0 4)) r0 4) * (gI (wI m (gR m r0 3) (x5 : Int32).toNatClampNeg (gI m r0 4)) (gR m r0 2) (x5 : Int32).toNatClampNeg))))) else none) else none) else none) else (if gd_ok (gN m) r0 0 = true then ((gd_call 27 [.int (gI m r0 4), .int 1280] m).bind (gd_k0I fun z9 m7 => if gd_ok (gN m7) r0 0 = true then (gd_Den (124, 179, [.ref r0, .ref r1, .ref r2, .int x3, .int x4, .int 0, v6], [], (wI m7 r0 4 z9))) else none)) else none) := by
  refine Eq.trans (D_iload (x := x5) gk_f124_123 rfl) ?_
  refine Eq.trans (D_iconst (x := 5) gk_f124_125 gk_c_5) ?_
  refine Eq.trans (D_ic_ge (t := 162) gk_f124_126 (by decide)) ?_
  refine gd_ite (fun h1 => ?_) (fun h2 => ?_)
  · refine Eq.trans (D_aload_n (x := r0) gk_f124_129 rfl) ?_
    refine Eq.trans (D_gfR gk_f124_130 (by decide)) ?_
    refine gd_ite (fun h3 => ?_) (fun _ => rfl)
    refine Eq.trans (D_iload (x := x5) gk_f124_133 rfl) ?_
    refine Eq.trans (D_aload_n (x := r0) gk_f124_135 rfl) ?_
    refine Eq.trans (D_gfI gk_f124_136 (by decide) (by decide) (by decide)) ?_
    refine Eq.trans (if_pos h3) ?_
    refine Eq.trans (D_iast gk_f124_139) ?_
    refine gd_ite (fun h4 => ?_) (fun _ => rfl)
    refine Eq.trans (D_aload_n (x := r0) gk_f124_140 rfl) ?_
    refine Eq.trans (D_dupR gk_f124_141) ?_
    refine Eq.trans (D_gfI gk_f124_142 (by decide) (by decide) (by decide)) ?_
    refine Eq.trans (if_pos h3) ?_
    refine Eq.trans (D_aload_n (x := r0) gk_f124_145 rfl) ?_
    refine Eq.trans (D_gfR gk_f124_146 (by decide)) ?_
    refine Eq.trans (if_pos h3) ?_
    refine Eq.trans (D_iload (x := x5) gk_f124_149 rfl) ?_
    refine Eq.trans (D_iald gk_f124_151 gk_n10_124) ?_
    refine gd_ite (fun h5 => ?_) (fun _ => rfl)
    refine Eq.trans (D_imul gk_f124_152) ?_
    refine Eq.trans (D_pfI gk_f124_153) ?_
    refine Eq.trans (if_pos h3) ?_
    refine Eq.trans (D_iinc (x := x5) (y := 1) gk_f124_156 rfl gk_c_1 gk_st124_5) ?_
    refine Eq.trans (D_goto (t := 123) gk_f124_159 (by decide)) ?_
    rfl
  · refine Eq.trans (D_aload_n (x := r0) gk_f124_162 rfl) ?_
    refine Eq.trans (D_aload_n (x := r0) gk_f124_163 rfl) ?_
    refine Eq.trans (D_gfI gk_f124_164 (by decide) (by decide) (by decide)) ?_
    refine gd_ite (fun h6 => ?_) (fun _ => rfl)
    refine Eq.trans (D_sipush (x := 1280) gk_f124_167 gk_s_1280) ?_
    refine Eq.trans (D_isI (args := [.int (gI m r0 4), .int 1280]) (rest := [.ref r0]) gk_f124_170 rfl rfl rfl (gd_rmk gk_rm124_27 gk_ln27 gk_ml27 rfl rfl rfl) gk_rk27 (gd_hnd_n gk_nc124)) ?_
    refine gd_bnd (gd_k0I_c fun z9 m7 => ?_)
    refine Eq.trans (D_pfI gk_f124_173) ?_
    refine gd_ite (fun h10 => ?_) (fun _ => rfl)
    refine Eq.trans (D_iconst (x := 0) gk_f124_176 gk_c_0) ?_
    refine Eq.trans (D_istore gk_f124_177 gk_st124_5) ?_
    rfl
set_option maxRecDepth 20000 in
set_option maxHeartbeats 4000000 in
theorem q_Ch_layOut_179 (r0 : Nat) (r1 : Nat) (r2 : Nat) (x3 : Int32) (x4 : Int32) (x5 : Int32) (v6 : Value) (m : gd_M) : gd_Den (124, 179, [.ref r0, .ref r1, .ref r2, .int x3, .int x4, .int x5, v6], [], m) = if gd_ok (gN m) r0 0 = true then (if (x5 < (gI m r0 4) : Prop) then (if gd_okA (gN m) (gR m r0 0) 10 x5 = true then (if gd_okA (gN m) (gR m r0 1) 10 x5 = true then (gd_Den (124, 179, [.ref r0, .ref r1, .ref r2, .int x3, .int x4, .int (x5 + 1), v6], [], (wI (wI m (gR m r0 0) (x5 : Int32).toNatClampNeg (-1073741824)) (gR m r0 1) (x5 : Int32).toNatClampNeg (-1073741824)))) else none) else none) else (if gd_okA (gN m) (gR m r0 0) 10 0 = true then (some (.null, (wI m (gR m r0 0) (0 : Int32).toNatClampNeg 0))) else none)) else none := by
  refine Eq.trans (D_iload (x := x5) gk_f124_179 rfl) ?_
  refine Eq.trans (D_aload_n (x := r0) gk_f124_181 rfl) ?_
  refine Eq.trans (D_gfI gk_f124_182 (by decide) (by decide) (by decide)) ?_
  refine gd_ite (fun h1 => ?_) (fun _ => rfl)
  refine Eq.trans (D_ic_ge (t := 212) gk_f124_185 (by decide)) ?_
  refine gd_ite (fun h2 => ?_) (fun h3 => ?_)
  · refine Eq.trans (D_aload_n (x := r0) gk_f124_188 rfl) ?_
    refine Eq.trans (D_gfR gk_f124_189 (by decide)) ?_
    refine Eq.trans (if_pos h1) ?_
    refine Eq.trans (D_iload (x := x5) gk_f124_192 rfl) ?_
    refine Eq.trans (D_ldc (x := (-1073741824)) gk_f124_194 gk_c_m1073741824) ?_
    refine Eq.trans (D_iast gk_f124_196) ?_
    refine gd_ite (fun h4 => ?_) (fun _ => rfl)
    refine Eq.trans (D_aload_n (x := r0) gk_f124_197 rfl) ?_
    refine Eq.trans (D_gfR gk_f124_198 (by decide)) ?_
    refine Eq.trans (if_pos h1) ?_
    refine Eq.trans (D_iload (x := x5) gk_f124_201 rfl) ?_
    refine Eq.trans (D_ldc (x := (-1073741824)) gk_f124_203 gk_c_m1073741824) ?_
    refine Eq.trans (D_iast gk_f124_205) ?_
    refine gd_ite (fun h5 => ?_) (fun _ => rfl)
    refine Eq.trans (D_iinc (x := x5) (y := 1) gk_f124_206 rfl gk_c_1 gk_st124_5) ?_
    refine Eq.trans (D_goto (t := 179) gk_f124_209 (by decide)) ?_
    rfl
  · refine Eq.trans (D_aload_n (x := r0) gk_f124_212 rfl) ?_
    refine Eq.trans (D_gfR gk_f124_213 (by decide)) ?_
    refine Eq.trans (if_pos h1) ?_
    refine Eq.trans (D_iconst (x := 0) gk_f124_216 gk_c_0) ?_
    refine Eq.trans (D_iconst (x := 0) gk_f124_217 gk_c_0) ?_
    refine Eq.trans (D_iast gk_f124_218) ?_
    refine gd_ite (fun h6 => ?_) (fun _ => rfl)
    refine Eq.trans (D_vreturn gk_f124_219 gk_rk124) ?_
    rfl
/-! java/lang/Math.max (II)I -/
set_option maxRecDepth 20000 in
theorem gk_f125_0 : gd_fetch 125 0 = some (0, .iload_n 0, 1, 0, 0, 0, 0, 0) := rfl
set_option maxRecDepth 20000 in
theorem gk_f125_1 : gd_fetch 125 1 = some (1, .iload_n 1, 1, 0, 0, 0, 0, 0) := rfl
set_option maxRecDepth 20000 in
theorem gk_f125_2 : gd_fetch 125 2 = some (2, .if_icmp .lt 7, 3, 0, 0, 0, 0, 0) := rfl
set_option maxRecDepth 20000 in
theorem gk_f125_5 : gd_fetch 125 5 = some (5, .iload_n 0, 1, 0, 0, 0, 0, 0) := rfl
set_option maxRecDepth 20000 in
theorem gk_f125_6 : gd_fetch 125 6 = some (6, .goto 4, 3, 0, 0, 0, 0, 0) := rfl
set_option maxRecDepth 20000 in
theorem gk_f125_9 : gd_fetch 125 9 = some (9, .iload_n 1, 1, 0, 0, 0, 0, 0) := rfl
set_option maxRecDepth 20000 in
theorem gk_f125_10 : gd_fetch 125 10 = some (10, .ireturn, 1, 0, 0, 0, 0, 0) := rfl
set_option maxRecDepth 20000 in
set_option maxHeartbeats 4000000 in
theorem q_Ma_max (x0 : Int32) (x1 : Int32) (m : gd_M) : gd_call 125 [.int x0, .int x1] m = if (x0 < x1 : Prop) then (some (.int x1, m)) else (some (.int x0, m)) := by
  refine Eq.trans (show gd_call 125 [.int x0, .int x1] m = gd_Den (125, 0, [.int x0, .int x1], [], m) from by unfold gd_call gd_ent; rw [gk_ml125]; rfl) ?_
  refine Eq.trans (D_iload_n (x := x0) gk_f125_0 rfl) ?_
  refine Eq.trans (D_iload_n (x := x1) gk_f125_1 rfl) ?_
  refine Eq.trans (D_ic_lt (t := 9) gk_f125_2 (by decide)) ?_
  refine gd_ite (fun h1 => ?_) (fun h2 => ?_)
  · refine Eq.trans (D_iload_n (x := x1) gk_f125_9 rfl) ?_
    refine Eq.trans (D_ireturn gk_f125_10 gk_rk125) ?_
    rfl
  · refine Eq.trans (D_iload_n (x := x0) gk_f125_5 rfl) ?_
    refine Eq.trans (D_goto (t := 10) gk_f125_6 (by decide)) ?_
    refine Eq.trans (D_ireturn gk_f125_10 gk_rk125) ?_
    rfl
/-! GymDesk$Chooser.offer (LGymDesk$Code;LGymDesk$Routine;I)V -/
set_option maxRecDepth 20000 in
theorem gk_f126_0 : gd_fetch 126 0 = some (0, .aload_n 2, 1, 0, 0, 0, 0, 0) := rfl
set_option maxRecDepth 20000 in
theorem gk_f126_1 : gd_fetch 126 1 = some (1, .getfield 49, 3, 400, 4, 0, 4, 1) := rfl
set_option maxRecDepth 20000 in
theorem gk_f126_4 : gd_fetch 126 4 = some (4, .iload_n 3, 1, 0, 0, 0, 0, 0) := rfl
set_option maxRecDepth 20000 in
theorem gk_f126_5 : gd_fetch 126 5 = some (5, .iaload, 1, 0, 0, 0, 0, 0) := rfl
set_option maxRecDepth 20000 in
theorem gk_f126_6 : gd_fetch 126 6 = some (6, .istore 4, 2, 0, 0, 0, 0, 0) := rfl
set_option maxRecDepth 20000 in
theorem gk_f126_8 : gd_fetch 126 8 = some (8, .aload_n 1, 1, 0, 0, 0, 0, 0) := rfl
set_option maxRecDepth 20000 in
theorem gk_f126_9 : gd_fetch 126 9 = some (9, .iload 4, 2, 0, 0, 0, 0, 0) := rfl
set_option maxRecDepth 20000 in
theorem gk_f126_11 : gd_fetch 126 11 = some (11, .invokevirtual 52, 3, 789, 85, 1, 0, 0) := rfl
set_option maxRecDepth 20000 in
theorem gk_f126_14 : gd_fetch 126 14 = some (14, .ifCond .ne 4, 3, 0, 0, 0, 0, 0) := rfl
set_option maxRecDepth 20000 in
theorem gk_f126_17 : gd_fetch 126 17 = some (17, .return_, 1, 0, 0, 0, 0, 0) := rfl
set_option maxRecDepth 20000 in
theorem gk_f126_18 : gd_fetch 126 18 = some (18, .iconst 1, 1, 0, 0, 0, 0, 0) := rfl
set_option maxRecDepth 20000 in
theorem gk_f126_19 : gd_fetch 126 19 = some (19, .aload_n 0, 1, 0, 0, 0, 0, 0) := rfl
set_option maxRecDepth 20000 in
theorem gk_f126_20 : gd_fetch 126 20 = some (20, .getfield 21, 3, 248, 0, 3, 4, 1) := rfl
set_option maxRecDepth 20000 in
theorem gk_f126_23 : gd_fetch 126 23 = some (23, .aload_n 1, 1, 0, 0, 0, 0, 0) := rfl
set_option maxRecDepth 20000 in
theorem gk_f126_24 : gd_fetch 126 24 = some (24, .getfield 58, 3, 322, 1, 1, 4, 1) := rfl
set_option maxRecDepth 20000 in
theorem gk_f126_27 : gd_fetch 126 27 = some (27, .iload 4, 2, 0, 0, 0, 0, 0) := rfl
set_option maxRecDepth 20000 in
theorem gk_f126_29 : gd_fetch 126 29 = some (29, .iaload, 1, 0, 0, 0, 0, 0) := rfl
set_option maxRecDepth 20000 in
theorem gk_f126_30 : gd_fetch 126 30 = some (30, .iaload, 1, 0, 0, 0, 0, 0) := rfl
set_option maxRecDepth 20000 in
theorem gk_f126_31 : gd_fetch 126 31 = some (31, .invokestatic 75, 3, 796, 125, 2, 0, 0) := rfl
set_option maxRecDepth 20000 in
theorem gk_f126_34 : gd_fetch 126 34 = some (34, .istore 5, 2, 0, 0, 0, 0, 0) := rfl
set_option maxRecDepth 20000 in
theorem gk_f126_36 : gd_fetch 126 36 = some (36, .iconst 1, 1, 0, 0, 0, 0, 0) := rfl
set_option maxRecDepth 20000 in
theorem gk_f126_37 : gd_fetch 126 37 = some (37, .aload_n 0, 1, 0, 0, 0, 0, 0) := rfl
set_option maxRecDepth 20000 in
theorem gk_f126_38 : gd_fetch 126 38 = some (38, .getfield 18, 3, 247, 0, 2, 4, 1) := rfl
set_option maxRecDepth 20000 in
theorem gk_f126_41 : gd_fetch 126 41 = some (41, .aload_n 1, 1, 0, 0, 0, 0, 0) := rfl
set_option maxRecDepth 20000 in
theorem gk_f126_42 : gd_fetch 126 42 = some (42, .getfield 58, 3, 322, 1, 1, 4, 1) := rfl
set_option maxRecDepth 20000 in
theorem gk_f126_45 : gd_fetch 126 45 = some (45, .iload 4, 2, 0, 0, 0, 0, 0) := rfl
set_option maxRecDepth 20000 in
theorem gk_f126_47 : gd_fetch 126 47 = some (47, .iaload, 1, 0, 0, 0, 0, 0) := rfl
set_option maxRecDepth 20000 in
theorem gk_f126_48 : gd_fetch 126 48 = some (48, .iaload, 1, 0, 0, 0, 0, 0) := rfl
set_option maxRecDepth 20000 in
theorem gk_f126_49 : gd_fetch 126 49 = some (49, .invokestatic 75, 3, 796, 125, 2, 0, 0) := rfl
set_option maxRecDepth 20000 in
theorem gk_f126_52 : gd_fetch 126 52 = some (52, .istore 6, 2, 0, 0, 0, 0, 0) := rfl
set_option maxRecDepth 20000 in
theorem gk_f126_54 : gd_fetch 126 54 = some (54, .aload_n 1, 1, 0, 0, 0, 0, 0) := rfl
set_option maxRecDepth 20000 in
theorem gk_f126_55 : gd_fetch 126 55 = some (55, .getfield 78, 3, 319, 1, 0, 4, 1) := rfl
set_option maxRecDepth 20000 in
theorem gk_f126_58 : gd_fetch 126 58 = some (58, .iload 4, 2, 0, 0, 0, 0, 0) := rfl
set_option maxRecDepth 20000 in
theorem gk_f126_60 : gd_fetch 126 60 = some (60, .iaload, 1, 0, 0, 0, 0, 0) := rfl
set_option maxRecDepth 20000 in
theorem gk_f126_61 : gd_fetch 126 61 = some (61, .ldc 81, 2, 799, 0, 0, 0, 65536) := rfl
set_option maxRecDepth 20000 in
theorem gk_f126_63 : gd_fetch 126 63 = some (63, .imul, 1, 0, 0, 0, 0, 0) := rfl
set_option maxRecDepth 20000 in
theorem gk_f126_64 : gd_fetch 126 64 = some (64, .iconst 1, 1, 0, 0, 0, 0, 0) := rfl
set_option maxRecDepth 20000 in
theorem gk_f126_65 : gd_fetch 126 65 = some (65, .iload_n 3, 1, 0, 0, 0, 0, 0) := rfl
set_option maxRecDepth 20000 in
theorem gk_f126_66 : gd_fetch 126 66 = some (66, .ishl, 1, 0, 0, 0, 0, 0) := rfl
set_option maxRecDepth 20000 in
theorem gk_f126_67 : gd_fetch 126 67 = some (67, .isub, 1, 0, 0, 0, 0, 0) := rfl
set_option maxRecDepth 20000 in
theorem gk_f126_68 : gd_fetch 126 68 = some (68, .istore 7, 2, 0, 0, 0, 0, 0) := rfl
set_option maxRecDepth 20000 in
theorem gk_f126_70 : gd_fetch 126 70 = some (70, .iload 7, 2, 0, 0, 0, 0, 0) := rfl
set_option maxRecDepth 20000 in
theorem gk_f126_72 : gd_fetch 126 72 = some (72, .istore 8, 2, 0, 0, 0, 0, 0) := rfl
set_option maxRecDepth 20000 in
theorem gk_f126_74 : gd_fetch 126 74 = some (74, .iload_n 3, 1, 0, 0, 0, 0, 0) := rfl
set_option maxRecDepth 20000 in
theorem gk_f126_75 : gd_fetch 126 75 = some (75, .ifCond .le 25, 3, 0, 0, 0, 0, 0) := rfl
set_option maxRecDepth 20000 in
theorem gk_f126_78 : gd_fetch 126 78 = some (78, .iload 8, 2, 0, 0, 0, 0, 0) := rfl
set_option maxRecDepth 20000 in
theorem gk_f126_80 : gd_fetch 126 80 = some (80, .aload_n 1, 1, 0, 0, 0, 0, 0) := rfl
set_option maxRecDepth 20000 in
theorem gk_f126_81 : gd_fetch 126 81 = some (81, .aload_n 2, 1, 0, 0, 0, 0, 0) := rfl
set_option maxRecDepth 20000 in
theorem gk_f126_82 : gd_fetch 126 82 = some (82, .getfield 49, 3, 400, 4, 0, 4, 1) := rfl
set_option maxRecDepth 20000 in
theorem gk_f126_85 : gd_fetch 126 85 = some (85, .iload_n 3, 1, 0, 0, 0, 0, 0) := rfl
set_option maxRecDepth 20000 in
theorem gk_f126_86 : gd_fetch 126 86 = some (86, .iconst 1, 1, 0, 0, 0, 0, 0) := rfl
set_option maxRecDepth 20000 in
theorem gk_f126_87 : gd_fetch 126 87 = some (87, .isub, 1, 0, 0, 0, 0, 0) := rfl
set_option maxRecDepth 20000 in
theorem gk_f126_88 : gd_fetch 126 88 = some (88, .iaload, 1, 0, 0, 0, 0, 0) := rfl
set_option maxRecDepth 20000 in
theorem gk_f126_89 : gd_fetch 126 89 = some (89, .iload 4, 2, 0, 0, 0, 0, 0) := rfl
set_option maxRecDepth 20000 in
theorem gk_f126_91 : gd_fetch 126 91 = some (91, .invokevirtual 82, 3, 800, 47, 2, 0, 0) := rfl
set_option maxRecDepth 20000 in
theorem gk_f126_94 : gd_fetch 126 94 = some (94, .ldc 81, 2, 799, 0, 0, 0, 65536) := rfl
set_option maxRecDepth 20000 in
theorem gk_f126_96 : gd_fetch 126 96 = some (96, .imul, 1, 0, 0, 0, 0, 0) := rfl
set_option maxRecDepth 20000 in
theorem gk_f126_97 : gd_fetch 126 97 = some (97, .iadd, 1, 0, 0, 0, 0, 0) := rfl
set_option maxRecDepth 20000 in
theorem gk_f126_98 : gd_fetch 126 98 = some (98, .istore 8, 2, 0, 0, 0, 0, 0) := rfl
set_option maxRecDepth 20000 in
theorem gk_f126_100 : gd_fetch 126 100 = some (100, .aload_n 0, 1, 0, 0, 0, 0, 0) := rfl
set_option maxRecDepth 20000 in
theorem gk_f126_101 : gd_fetch 126 101 = some (101, .getfield 64, 3, 249, 0, 4, 0, 0) := rfl
set_option maxRecDepth 20000 in
theorem gk_f126_104 : gd_fetch 126 104 = some (104, .iconst 1, 1, 0, 0, 0, 0, 0) := rfl
set_option maxRecDepth 20000 in
theorem gk_f126_105 : gd_fetch 126 105 = some (105, .isub, 1, 0, 0, 0, 0, 0) := rfl
set_option maxRecDepth 20000 in
theorem gk_f126_106 : gd_fetch 126 106 = some (106, .istore 9, 2, 0, 0, 0, 0, 0) := rfl
set_option maxRecDepth 20000 in
theorem gk_f126_108 : gd_fetch 126 108 = some (108, .iload 9, 2, 0, 0, 0, 0, 0) := rfl
set_option maxRecDepth 20000 in
theorem gk_f126_110 : gd_fetch 126 110 = some (110, .ifCond .lt 95, 3, 0, 0, 0, 0, 0) := rfl
set_option maxRecDepth 20000 in
theorem gk_f126_113 : gd_fetch 126 113 = some (113, .ldc 74, 2, 791, 0, 0, 0, (-1073741824)) := rfl
set_option maxRecDepth 20000 in
theorem gk_f126_115 : gd_fetch 126 115 = some (115, .istore 10, 2, 0, 0, 0, 0, 0) := rfl
set_option maxRecDepth 20000 in
theorem gk_f126_117 : gd_fetch 126 117 = some (117, .iload 9, 2, 0, 0, 0, 0, 0) := rfl
set_option maxRecDepth 20000 in
theorem gk_f126_119 : gd_fetch 126 119 = some (119, .iload 5, 2, 0, 0, 0, 0, 0) := rfl
set_option maxRecDepth 20000 in
theorem gk_f126_121 : gd_fetch 126 121 = some (121, .if_icmp .lt 45, 3, 0, 0, 0, 0, 0) := rfl
set_option maxRecDepth 20000 in
theorem gk_f126_124 : gd_fetch 126 124 = some (124, .iload 9, 2, 0, 0, 0, 0, 0) := rfl
set_option maxRecDepth 20000 in
theorem gk_f126_126 : gd_fetch 126 126 = some (126, .iload 5, 2, 0, 0, 0, 0, 0) := rfl
set_option maxRecDepth 20000 in
theorem gk_f126_128 : gd_fetch 126 128 = some (128, .idiv, 1, 0, 0, 0, 0, 0) := rfl
set_option maxRecDepth 20000 in
theorem gk_f126_129 : gd_fetch 126 129 = some (129, .iload 6, 2, 0, 0, 0, 0, 0) := rfl
set_option maxRecDepth 20000 in
theorem gk_f126_131 : gd_fetch 126 131 = some (131, .irem, 1, 0, 0, 0, 0, 0) := rfl
set_option maxRecDepth 20000 in
theorem gk_f126_132 : gd_fetch 126 132 = some (132, .ifCond .le 34, 3, 0, 0, 0, 0, 0) := rfl
set_option maxRecDepth 20000 in
theorem gk_f126_135 : gd_fetch 126 135 = some (135, .aload_n 0, 1, 0, 0, 0, 0, 0) := rfl
set_option maxRecDepth 20000 in
theorem gk_f126_136 : gd_fetch 126 136 = some (136, .getfield 11, 3, 245, 0, 0, 4, 1) := rfl
set_option maxRecDepth 20000 in
theorem gk_f126_139 : gd_fetch 126 139 = some (139, .iload 9, 2, 0, 0, 0, 0, 0) := rfl
set_option maxRecDepth 20000 in
theorem gk_f126_141 : gd_fetch 126 141 = some (141, .iload 5, 2, 0, 0, 0, 0, 0) := rfl
set_option maxRecDepth 20000 in
theorem gk_f126_143 : gd_fetch 126 143 = some (143, .isub, 1, 0, 0, 0, 0, 0) := rfl
set_option maxRecDepth 20000 in
theorem gk_f126_144 : gd_fetch 126 144 = some (144, .iaload, 1, 0, 0, 0, 0, 0) := rfl
set_option maxRecDepth 20000 in
theorem gk_f126_145 : gd_fetch 126 145 = some (145, .iload 7, 2, 0, 0, 0, 0, 0) := rfl
set_option maxRecDepth 20000 in
theorem gk_f126_147 : gd_fetch 126 147 = some (147, .iadd, 1, 0, 0, 0, 0, 0) := rfl
set_option maxRecDepth 20000 in
theorem gk_f126_148 : gd_fetch 126 148 = some (148, .aload_n 0, 1, 0, 0, 0, 0, 0) := rfl
set_option maxRecDepth 20000 in
theorem gk_f126_149 : gd_fetch 126 149 = some (149, .getfield 15, 3, 246, 0, 1, 4, 1) := rfl
set_option maxRecDepth 20000 in
theorem gk_f126_152 : gd_fetch 126 152 = some (152, .iload 9, 2, 0, 0, 0, 0, 0) := rfl
set_option maxRecDepth 20000 in
theorem gk_f126_154 : gd_fetch 126 154 = some (154, .iload 5, 2, 0, 0, 0, 0, 0) := rfl
set_option maxRecDepth 20000 in
theorem gk_f126_156 : gd_fetch 126 156 = some (156, .isub, 1, 0, 0, 0, 0, 0) := rfl
set_option maxRecDepth 20000 in
theorem gk_f126_157 : gd_fetch 126 157 = some (157, .iaload, 1, 0, 0, 0, 0, 0) := rfl
set_option maxRecDepth 20000 in
theorem gk_f126_158 : gd_fetch 126 158 = some (158, .iload 8, 2, 0, 0, 0, 0, 0) := rfl
set_option maxRecDepth 20000 in
theorem gk_f126_160 : gd_fetch 126 160 = some (160, .iadd, 1, 0, 0, 0, 0, 0) := rfl
set_option maxRecDepth 20000 in
theorem gk_f126_161 : gd_fetch 126 161 = some (161, .invokestatic 75, 3, 796, 125, 2, 0, 0) := rfl
set_option maxRecDepth 20000 in
theorem gk_f126_164 : gd_fetch 126 164 = some (164, .istore 10, 2, 0, 0, 0, 0, 0) := rfl
set_option maxRecDepth 20000 in
theorem gk_f126_166 : gd_fetch 126 166 = some (166, .aload_n 0, 1, 0, 0, 0, 0, 0) := rfl
set_option maxRecDepth 20000 in
theorem gk_f126_167 : gd_fetch 126 167 = some (167, .getfield 11, 3, 245, 0, 0, 4, 1) := rfl
set_option maxRecDepth 20000 in
theorem gk_f126_170 : gd_fetch 126 170 = some (170, .iload 9, 2, 0, 0, 0, 0, 0) := rfl
set_option maxRecDepth 20000 in
theorem gk_f126_172 : gd_fetch 126 172 = some (172, .aload_n 0, 1, 0, 0, 0, 0, 0) := rfl
set_option maxRecDepth 20000 in
theorem gk_f126_173 : gd_fetch 126 173 = some (173, .getfield 11, 3, 245, 0, 0, 4, 1) := rfl
set_option maxRecDepth 20000 in
theorem gk_f126_176 : gd_fetch 126 176 = some (176, .iload 9, 2, 0, 0, 0, 0, 0) := rfl
set_option maxRecDepth 20000 in
theorem gk_f126_178 : gd_fetch 126 178 = some (178, .iaload, 1, 0, 0, 0, 0, 0) := rfl
set_option maxRecDepth 20000 in
theorem gk_f126_179 : gd_fetch 126 179 = some (179, .aload_n 0, 1, 0, 0, 0, 0, 0) := rfl
set_option maxRecDepth 20000 in
theorem gk_f126_180 : gd_fetch 126 180 = some (180, .getfield 15, 3, 246, 0, 1, 4, 1) := rfl
set_option maxRecDepth 20000 in
theorem gk_f126_183 : gd_fetch 126 183 = some (183, .iload 9, 2, 0, 0, 0, 0, 0) := rfl
set_option maxRecDepth 20000 in
theorem gk_f126_185 : gd_fetch 126 185 = some (185, .iaload, 1, 0, 0, 0, 0, 0) := rfl
set_option maxRecDepth 20000 in
theorem gk_f126_186 : gd_fetch 126 186 = some (186, .invokestatic 75, 3, 796, 125, 2, 0, 0) := rfl
set_option maxRecDepth 20000 in
theorem gk_f126_189 : gd_fetch 126 189 = some (189, .iastore, 1, 0, 0, 0, 0, 0) := rfl
set_option maxRecDepth 20000 in
theorem gk_f126_190 : gd_fetch 126 190 = some (190, .aload_n 0, 1, 0, 0, 0, 0, 0) := rfl
set_option maxRecDepth 20000 in
theorem gk_f126_191 : gd_fetch 126 191 = some (191, .getfield 15, 3, 246, 0, 1, 4, 1) := rfl
set_option maxRecDepth 20000 in
theorem gk_f126_194 : gd_fetch 126 194 = some (194, .iload 9, 2, 0, 0, 0, 0, 0) := rfl
set_option maxRecDepth 20000 in
theorem gk_f126_196 : gd_fetch 126 196 = some (196, .iload 10, 2, 0, 0, 0, 0, 0) := rfl
set_option maxRecDepth 20000 in
theorem gk_f126_198 : gd_fetch 126 198 = some (198, .iastore, 1, 0, 0, 0, 0, 0) := rfl
set_option maxRecDepth 20000 in
theorem gk_f126_199 : gd_fetch 126 199 = some (199, .iinc 9 (-1), 3, 0, 0, 0, 0, 0) := rfl
set_option maxRecDepth 20000 in
theorem gk_f126_202 : gd_fetch 126 202 = some (202, .goto (-94), 3, 0, 0, 0, 0, 0) := rfl
set_option maxRecDepth 20000 in
theorem gk_f126_205 : gd_fetch 126 205 = some (205, .return_, 1, 0, 0, 0, 0, 0) := rfl
set_option maxRecDepth 20000 in
set_option maxHeartbeats 4000000 in
theorem q_Ch_offer (r0 : Nat) (r1 : Nat) (r2 : Nat) (x3 : Int32) (m : gd_M) : gd_call 126 [.ref r0, .ref r1, .ref r2, .int x3] m = if gd_ok (gN m) r2 4 = true then (if gd_okA (gN m) (gR m r2 0) 10 x3 = true then (if gd_ok (gN m) r1 1 = true then ((gd_call 85 [.ref r1, .int (gI m (gR m r2 0) (x3 : Int32).toNatClampNeg)] m).bind (gd_kI fun z6 m4 => if (z6 = 0 : Prop) then (some (.null, m4)) else (if gd_ok (gN m4) r0 0 = true then (if gd_ok (gN m4) r1 1 = true then (if gd_okA (gN m4) (gR m4 r1 1) 10 (gI m (gR m r2 0) (x3 : Int32).toNatClampNeg) = true then (if gd_okA (gN m4) (gR m4 r0 3) 10 (gI m4 (gR m4 r1 1) ((gI m (gR m r2 0) (x3 : Int32).toNatClampNeg) : Int32).toNatClampNeg) = true then ((gd_call 125 [.int 1, .int (gI m4 (gR m4 r0 3) ((gI m4 (gR m4 r1 1) ((gI m (gR m r2 0) (x3 : Int32).toNatClampNeg) : Int32).toNatClampNeg) : Int32).toNatClampNeg)] m4).bind (gd_k0I fun z15 m13 => if gd_ok (gN m13) r0 0 = true then (if gd_ok (gN m13) r1 1 = true then (if gd_okA (gN m13) (gR m13 r1 1) 10 (gI m (gR m r2 0) (x3 : Int32).toNatClampNeg) = true then (if gd_okA (gN m13) (gR m13 r0 2) 10 (gI m13 (gR m13 r1 1) ((gI m (gR m r2 0) (x3 : Int32).toNatClampNeg) : Int32).toNatClampNeg) = true then ((gd_call 125 [.int 1, .int (gI m13 (gR m13 r0 2) ((gI m13 (gR m13 r1 1) ((gI m (gR m r2 0) (x3 : Int32).toNatClampNeg) : Int32).toNatClampNeg) : Int32).toNatClampNeg)] m13).bind (gd_k0I fun z22 m20 => if gd_ok (gN m20) r1 1 = true then (if gd_okA (gN m20) (gR m20 r1 0) 10 (gI m (gR m r2 0) (x3 : Int32).toNatClampNeg) = true then (if (0 < x3 : Prop) then (if gd_ok (gN m20) r2 4 = true then (if gd_okA (gN m20) (gR m20 r2 0) 10 (x3 - 1) = true then ((gd_call 47 [.ref r1, .int (gI m20 (gR m20 r2 0) ((x3 - 1) : Int32).toNatClampNeg), .int (gI m (gR m r2 0) (x3 : Int32).toNatClampNeg)] m20).bind (gd_kI fun z31 m29 => if gd_ok (gN m29) r0 0 = true then (gd_Den (126, 108, [.ref r0, .ref r1, .ref r2, .int x3, .int (gI m (gR m r2 0) (x3 : Int32).toNatClampNeg), .int z15, .int z22, .int (((gI m20 (gR m20 r1 0) ((gI m (gR m r2 0) (x3 : Int32).toNatClampNeg) : Int32).toNatClampNeg) * 65536) - ((1 : Int32) <<< (x3 &&& 31))), .int ((((gI m20 (gR m20 r1 0) ((gI m (gR m r2 0) (x3 : Int32).toNatClampNeg) : Int32).toNatClampNeg) * 65536) - ((1 : Int32) <<< (x3 &&& 31))) + (z31 * 65536)), .int ((gI m29 r0 4) - 1), .null], [], m29)) else none)) else none) else none) else (if gd_ok (gN m20) r0 0 = true then (gd_Den (126, 108, [.ref r0, .ref r1, .ref r2, .int x3, .int (gI m (gR m r2 0) (x3 : Int32).toNatClampNeg), .int z15, .int z22, .int (((gI m20 (gR m20 r1 0) ((gI m (gR m r2 0) (x3 : Int32).toNatClampNeg) : Int32).toNatClampNeg) * 65536) - ((1 : Int32) <<< (x3 &&& 31))), .int (((gI m20 (gR m20 r1 0) ((gI m (gR m r2 0) (x3 : Int32).toNatClampNeg) : Int32).toNatClampNeg) * 65536) - ((1 : Int32) <<< (x3 &&& 31))), .int ((gI m20 r0 4) - 1), .null], [], m20)) else none)) else none) else none)) else none) else none) else none) else none)) else none) else none) else none) else none))) else none) else none) else none := by
  refine Eq.trans (show gd_call 126 [.ref r0, .ref r1, .ref r2, .int x3] m = gd_Den (126, 0, [.ref r0, .ref r1, .ref r2, .int x3, .null, .null, .null, .null, .null, .null, .null], [], m) from by unfold gd_call gd_ent; rw [gk_ml126]; rfl) ?_
  refine Eq.trans (D_aload_n (x := r2) gk_f126_0 rfl) ?_
  refine Eq.trans (D_gfR gk_f126_1 (by decide)) ?_
  refine gd_ite (fun h1 => ?_) (fun _ => rfl)
  refine Eq.trans (D_iload_n (x := x3) gk_f126_4 rfl) ?_
  refine Eq.trans (D_iald gk_f126_5 gk_n10_126) ?_
  refine gd_ite (fun h2 => ?_) (fun _ => rfl)
  refine Eq.trans (D_istore gk_f126_6 gk_st126_4) ?_
  refine Eq.trans (D_aload_n (x := r1) gk_f126_8 rfl) ?_
  refine Eq.trans (D_iload (x := (gI m (gR m r2 0) (x3 : Int32).toNatClampNeg)) gk_f126_9 rfl) ?_
  refine Eq.trans (D_ivZ (cl := 1) (args := [.ref r1, .int (gI m (gR m r2 0) (x3 : Int32).toNatClampNeg)]) (rest := []) gk_f126_11 rfl rfl (gd_rmk gk_rm126_85 gk_ln85 gk_ml85 rfl rfl rfl) gk_rk85 (gd_hnd_n gk_nc126) gk_nc85 gk_n11_85 gk_cl85) ?_
  refine gd_ite (fun h3 => ?_) (fun _ => rfl)
  refine gd_bnd (gd_kI_c fun z6 m4 => ?_)
  refine Eq.trans (D_if_ne (t := 18) gk_f126_14 (by decide)) ?_
  refine gd_ite (fun h7 => ?_) (fun h8 => ?_)
  · refine Eq.trans (D_vreturn gk_f126_17 gk_rk126) ?_
    rfl
  · refine Eq.trans (D_iconst (x := 1) gk_f126_18 gk_c_1) ?_
    refine Eq.trans (D_aload_n (x := r0) gk_f126_19 rfl) ?_
    refine Eq.trans (D_gfR gk_f126_20 (by decide)) ?_
    refine gd_ite (fun h9 => ?_) (fun _ => rfl)
    refine Eq.trans (D_aload_n (x := r1) gk_f126_23 rfl) ?_
    refine Eq.trans (D_gfR gk_f126_24 (by decide)) ?_
    refine gd_ite (fun h10 => ?_) (fun _ => rfl)
    refine Eq.trans (D_iload (x := (gI m (gR m r2 0) (x3 : Int32).toNatClampNeg)) gk_f126_27 rfl) ?_
    refine Eq.trans (D_iald gk_f126_29 gk_n10_126) ?_
    refine gd_ite (fun h11 => ?_) (fun _ => rfl)
    refine Eq.trans (D_iald gk_f126_30 gk_n10_126) ?_
    refine gd_ite (fun h12 => ?_) (fun _ => rfl)
    refine Eq.trans (D_isI (args := [.int 1, .int (gI m4 (gR m4 r0 3) ((gI m4 (gR m4 r1 1) ((gI m (gR m r2 0) (x3 : Int32).toNatClampNeg) : Int32).toNatClampNeg) : Int32).toNatClampNeg)]) (rest := []) gk_f126_31 rfl rfl rfl (gd_rmk gk_rm126_125 gk_ln125 gk_ml125 rfl rfl rfl) gk_rk125 (gd_hnd_n gk_nc126)) ?_
    refine gd_bnd (gd_k0I_c fun z15 m13 => ?_)
    refine Eq.trans (D_istore gk_f126_34 gk_st126_5) ?_
    refine Eq.trans (D_iconst (x := 1) gk_f126_36 gk_c_1) ?_
    refine Eq.trans (D_aload_n (x := r0) gk_f126_37 rfl) ?_
    refine Eq.trans (D_gfR gk_f126_38 (by decide)) ?_
    refine gd_ite (fun h16 => ?_) (fun _ => rfl)
    refine Eq.trans (D_aload_n (x := r1) gk_f126_41 rfl) ?_
    refine Eq.trans (D_gfR gk_f126_42 (by decide)) ?_
    refine gd_ite (fun h17 => ?_) (fun _ => rfl)
    refine Eq.trans (D_iload (x := (gI m (gR m r2 0) (x3 : Int32).toNatClampNeg)) gk_f126_45 rfl) ?_
    refine Eq.trans (D_iald gk_f126_47 gk_n10_126) ?_
    refine gd_ite (fun h18 => ?_) (fun _ => rfl)
    refine Eq.trans (D_iald gk_f126_48 gk_n10_126) ?_
    refine gd_ite (fun h19 => ?_) (fun _ => rfl)
    refine Eq.trans (D_isI (args := [.int 1, .int (gI m13 (gR m13 r0 2) ((gI m13 (gR m13 r1 1) ((gI m (gR m r2 0) (x3 : Int32).toNatClampNeg) : Int32).toNatClampNeg) : Int32).toNatClampNeg)]) (rest := []) gk_f126_49 rfl rfl rfl (gd_rmk gk_rm126_125 gk_ln125 gk_ml125 rfl rfl rfl) gk_rk125 (gd_hnd_n gk_nc126)) ?_
    refine gd_bnd (gd_k0I_c fun z22 m20 => ?_)
    refine Eq.trans (D_istore gk_f126_52 gk_st126_6) ?_
    refine Eq.trans (D_aload_n (x := r1) gk_f126_54 rfl) ?_
    refine Eq.trans (D_gfR gk_f126_55 (by decide)) ?_
    refine gd_ite (fun h23 => ?_) (fun _ => rfl)
    refine Eq.trans (D_iload (x := (gI m (gR m r2 0) (x3 : Int32).toNatClampNeg)) gk_f126_58 rfl) ?_
    refine Eq.trans (D_iald gk_f126_60 gk_n10_126) ?_
    refine gd_ite (fun h24 => ?_) (fun _ => rfl)
    refine Eq.trans (D_ldc (x := 65536) gk_f126_61 gk_c_65536) ?_
    refine Eq.trans (D_imul gk_f126_63) ?_
    refine Eq.trans (D_iconst (x := 1) gk_f126_64 gk_c_1) ?_
    refine Eq.trans (D_iload_n (x := x3) gk_f126_65 rfl) ?_
    refine Eq.trans (D_ishl gk_f126_66) ?_
    refine Eq.trans (D_isub gk_f126_67) ?_
    refine Eq.trans (D_istore gk_f126_68 gk_st126_7) ?_
    refine Eq.trans (D_iload (x := (((gI m20 (gR m20 r1 0) ((gI m (gR m r2 0) (x3 : Int32).toNatClampNeg) : Int32).toNatClampNeg) * 65536) - ((1 : Int32) <<< (x3 &&& 31)))) gk_f126_70 rfl) ?_
    refine Eq.trans (D_istore gk_f126_72 gk_st126_8) ?_
    refine Eq.trans (D_iload_n (x := x3) gk_f126_74 rfl) ?_
    refine Eq.trans (D_if_le (t := 100) gk_f126_75 (by decide)) ?_
    refine gd_ite (fun h25 => ?_) (fun h26 => ?_)
    · refine Eq.trans (D_iload (x := (((gI m20 (gR m20 r1 0) ((gI m (gR m r2 0) (x3 : Int32).toNatClampNeg) : Int32).toNatClampNeg) * 65536) - ((1 : Int32) <<< (x3 &&& 31)))) gk_f126_78 rfl) ?_
      refine Eq.trans (D_aload_n (x := r1) gk_f126_80 rfl) ?_
      refine Eq.trans (D_aload_n (x := r2) gk_f126_81 rfl) ?_
      refine Eq.trans (D_gfR gk_f126_82 (by decide)) ?_
      refine gd_ite (fun h27 => ?_) (fun _ => rfl)
      refine Eq.trans (D_iload_n (x := x3) gk_f126_85 rfl) ?_
      refine Eq.trans (D_iconst (x := 1) gk_f126_86 gk_c_1) ?_
      refine Eq.trans (D_isub gk_f126_87) ?_
      refine Eq.trans (D_iald gk_f126_88 gk_n10_126) ?_
      refine gd_ite (fun h28 => ?_) (fun _ => rfl)
      refine Eq.trans (D_iload (x := (gI m (gR m r2 0) (x3 : Int32).toNatClampNeg)) gk_f126_89 rfl) ?_
      refine Eq.trans (D_ivI (cl := 1) (args := [.ref r1, .int (gI m20 (gR m20 r2 0) ((x3 - 1) : Int32).toNatClampNeg), .int (gI m (gR m r2 0) (x3 : Int32).toNatClampNeg)]) (rest := [.int (((gI m20 (gR m20 r1 0) ((gI m (gR m r2 0) (x3 : Int32).toNatClampNeg) : Int32).toNatClampNeg) * 65536) - ((1 : Int32) <<< (x3 &&& 31)))]) gk_f126_91 rfl rfl (gd_rmk gk_rm126_47 gk_ln47 gk_ml47 rfl rfl rfl) gk_rk47 (gd_hnd_n gk_nc126) gk_nc47 gk_n11_47 gk_cl47) ?_
      refine Eq.trans (if_pos h23) ?_
      refine gd_bnd (gd_kI_c fun z31 m29 => ?_)
      refine Eq.trans (D_ldc (x := 65536) gk_f126_94 gk_c_65536) ?_
      refine Eq.trans (D_imul gk_f126_96) ?_
      refine Eq.trans (D_iadd gk_f126_97) ?_
      refine Eq.trans (D_istore gk_f126_98 gk_st126_8) ?_
      refine Eq.trans (D_aload_n (x := r0) gk_f126_100 rfl) ?_
      refine Eq.trans (D_gfI gk_f126_101 (by decide) (by decide) (by decide)) ?_
      refine gd_ite (fun h32 => ?_) (fun _ => rfl)
      refine Eq.trans (D_iconst (x := 1) gk_f126_104 gk_c_1) ?_
      refine Eq.trans (D_isub gk_f126_105) ?_
      refine Eq.trans (D_istore gk_f126_106 gk_st126_9) ?_
      rfl
    · refine Eq.trans (D_aload_n (x := r0) gk_f126_100 rfl) ?_
      refine Eq.trans (D_gfI gk_f126_101 (by decide) (by decide) (by decide)) ?_
      refine gd_ite (fun h33 => ?_) (fun _ => rfl)
      refine Eq.trans (D_iconst (x := 1) gk_f126_104 gk_c_1) ?_
      refine Eq.trans (D_isub gk_f126_105) ?_
      refine Eq.trans (D_istore gk_f126_106 gk_st126_9) ?_
      rfl
set_option maxRecDepth 20000 in
set_option maxHeartbeats 4000000 in
theorem q_Ch_offer_108 (r0 : Nat) (r1 : Nat) (r2 : Nat) (x3 : Int32) (x4 : Int32) (x5 : Int32) (x6 : Int32) (x7 : Int32) (x8 : Int32) (x9 : Int32) (v10 : Value) (m : gd_M) : gd_Den (126, 108, [.ref r0, .ref r1, .ref r2, .int x3, .int x4, .int x5, .int x6, .int x7, .int x8, .int x9, v10], [], m) = if (x9 < 0 : Prop) then (some (.null, m)) else (if (x9 < x5 : Prop) then (if gd_ok (gN m) r0 0 = true then (if gd_okA (gN m) (gR m r0 0) 10 x9 = true then (if gd_okA (gN m) (gR m r0 1) 10 x9 = true then ((gd_call 125 [.int (gI m (gR m r0 0) (x9 : Int32).toNatClampNeg), .int (gI m (gR m r0 1) (x9 : Int32).toNatClampNeg)] m).bind (gd_k0I fun z10 m8 => if gd_okA (gN m8) (gR m r0 0) 10 x9 = true then (if gd_ok (gN m8) r0 0 = true then (if gd_okA (gN m8) (gR m8 r0 1) 10 x9 = true then (gd_Den (126, 108, [.ref r0, .ref r1, .ref r2, .int x3, .int x4, .int x5, .int x6, .int x7, .int x8, .int (x9 + (-1)), .int (-1073741824)], [], (wI (wI m8 (gR m r0 0) (x9 : Int32).toNatClampNeg z10) (gR m8 r0 1) (x9 : Int32).toNatClampNeg (-1073741824)))) else none) else none) else none)) else none) else none) else none) else (if x5 = 0 then none else (if x6 = 0 then none else (if (0 < ((x9 / x5) - (x9 / x5) / x6 * x6) : Prop) then (if gd_ok (gN m) r0 0 = true then (if gd_okA (gN m) (gR m r0 0) 10 (x9 - x5) = true then (if gd_okA (gN m) (gR m r0 1) 10 (x9 - x5) = true then ((gd_call 125 [.int ((gI m (gR m r0 0) ((x9 - x5) : Int32).toNatClampNeg) + x7), .int ((gI m (gR m r0 1) ((x9 - x5) : Int32).toNatClampNeg) + x8)] m).bind (gd_k0I fun z23 m21 => if gd_ok (gN m21) r0 0 = true then (if gd_okA (gN m21) (gR m21 r0 0) 10 x9 = true then (if gd_okA (gN m21) (gR m21 r0 1) 10 x9 = true then ((gd_call 125 [.int (gI m21 (gR m21 r0 0) (x9 : Int32).toNatClampNeg), .int (gI m21 (gR m21 r0 1) (x9 : Int32).toNatClampNeg)] m21).bind (gd_k0I fun z29 m27 => if gd_okA (gN m27) (gR m21 r0 0) 10 x9 = true then (if gd_ok (gN m27) r0 0 = true then (if gd_okA (gN m27) (gR m27 r0 1) 10 x9 = true then (gd_Den (126, 108, [.ref r0, .ref r1, .ref r2, .int x3, .int x4, .int x5, .int x6, .int x7, .int x8, .int (x9 + (-1)), .int z23], [], (wI (wI m27 (gR m21 r0 0) (x9 : Int32).toNatClampNeg z29) (gR m27 r0 1) (x9 : Int32).toNatClampNeg z23))) else none) else none) else none)) else none) else none) else none)) else none) else none) else none) else (if gd_ok (gN m) r0 0 = true then (if gd_okA (gN m) (gR m r0 0) 10 x9 = true then (if gd_okA (gN m) (gR m r0 1) 10 x9 = true then ((gd_call 125 [.int (gI m (gR m r0 0) (x9 : Int32).toNatClampNeg), .int (gI m (gR m r0 1) (x9 : Int32).toNatClampNeg)] m).bind (gd_k0I fun z38 m36 => if gd_okA (gN m36) (gR m r0 0) 10 x9 = true then (if gd_ok (gN m36) r0 0 = true then (if gd_okA (gN m36) (gR m36 r0 1) 10 x9 = true then (gd_Den (126, 108, [.ref r0, .ref r1, .ref r2, .int x3, .int x4, .int x5, .int x6, .int x7, .int x8, .int (x9 + (-1)), .int (-1073741824)], [], (wI (wI m36 (gR m r0 0) (x9 : Int32).toNatClampNeg z38) (gR m36 r0 1) (x9 : Int32).toNatClampNeg (-1073741824)))) else none) else none) else none)) else none) else none) else none))))) := by
  refine Eq.trans (D_iload (x := x9) gk_f126_108 rfl) ?_
  refine Eq.trans (D_if_lt (t := 205) gk_f126_110 (by decide)) ?_
  refine gd_ite (fun h1 => ?_) (fun h2 => ?_)
  · refine Eq.trans (D_vreturn gk_f126_205 gk_rk126) ?_
    rfl
  · refine Eq.trans (D_ldc (x := (-1073741824)) gk_f126_113 gk_c_m1073741824) ?_
    refine Eq.trans (D_istore gk_f126_115 gk_st126_10) ?_
    refine Eq.trans (D_iload (x := x9) gk_f126_117 rfl) ?_
    refine Eq.trans (D_iload (x := x5) gk_f126_119 rfl) ?_
    refine Eq.trans (D_ic_lt (t := 166) gk_f126_121 (by decide)) ?_
    refine gd_ite (fun h3 => ?_) (fun h4 => ?_)
    · refine Eq.trans (D_aload_n (x := r0) gk_f126_166 rfl) ?_
      refine Eq.trans (D_gfR gk_f126_167 (by decide)) ?_
      refine gd_ite (fun h5 => ?_) (fun _ => rfl)
      refine Eq.trans (D_iload (x := x9) gk_f126_170 rfl) ?_
      refine Eq.trans (D_aload_n (x := r0) gk_f126_172 rfl) ?_
      refine Eq.trans (D_gfR gk_f126_173 (by decide)) ?_
      refine Eq.trans (if_pos h5) ?_
      refine Eq.trans (D_iload (x := x9) gk_f126_176 rfl) ?_
      refine Eq.trans (D_iald gk_f126_178 gk_n10_126) ?_
      refine gd_ite (fun h6 => ?_) (fun _ => rfl)
      refine Eq.trans (D_aload_n (x := r0) gk_f126_179 rfl) ?_
      refine Eq.trans (D_gfR gk_f126_180 (by decide)) ?_
      refine Eq.trans (if_pos h5) ?_
      refine Eq.trans (D_iload (x := x9) gk_f126_183 rfl) ?_
      refine Eq.trans (D_iald gk_f126_185 gk_n10_126) ?_
      refine gd_ite (fun h7 => ?_) (fun _ => rfl)
      refine Eq.trans (D_isI (args := [.int (gI m (gR m r0 0) (x9 : Int32).toNatClampNeg), .int (gI m (gR m r0 1) (x9 : Int32).toNatClampNeg)]) (rest := [.int x9, .ref (gR m r0 0)]) gk_f126_186 rfl rfl rfl (gd_rmk gk_rm126_125 gk_ln125 gk_ml125 rfl rfl rfl) gk_rk125 (gd_hnd_n gk_nc126)) ?_
      refine gd_bnd (gd_k0I_c fun z10 m8 => ?_)
      refine Eq.trans (D_iast gk_f126_189) ?_
      refine gd_ite (fun h11 => ?_) (fun _ => rfl)
      refine Eq.trans (D_aload_n (x := r0) gk_f126_190 rfl) ?_
      refine Eq.trans (D_gfR gk_f126_191 (by decide)) ?_
      refine gd_ite (fun h12 => ?_) (fun _ => rfl)
      refine Eq.trans (D_iload (x := x9) gk_f126_194 rfl) ?_
      refine Eq.trans (D_iload (x := (-1073741824)) gk_f126_196 rfl) ?_
      refine Eq.trans (D_iast gk_f126_198) ?_
      refine gd_ite (fun h13 => ?_) (fun _ => rfl)
      refine Eq.trans (D_iinc (x := x9) (y := (-1)) gk_f126_199 rfl gk_c_m1 gk_st126_9) ?_
      refine Eq.trans (D_goto (t := 108) gk_f126_202 (by decide)) ?_
      rfl
    · refine Eq.trans (D_iload (x := x9) gk_f126_124 rfl) ?_
      refine Eq.trans (D_iload (x := x5) gk_f126_126 rfl) ?_
      refine Eq.trans (D_idiv gk_f126_128) ?_
      refine gd_ite (fun _ => rfl) (fun h14 => ?_)
      refine Eq.trans (D_iload (x := x6) gk_f126_129 rfl) ?_
      refine Eq.trans (D_irem gk_f126_131) ?_
      refine gd_ite (fun _ => rfl) (fun h15 => ?_)
      refine Eq.trans (D_if_le (t := 166) gk_f126_132 (by decide)) ?_
      refine gd_ite (fun h16 => ?_) (fun h17 => ?_)
      · refine Eq.trans (D_aload_n (x := r0) gk_f126_135 rfl) ?_
        refine Eq.trans (D_gfR gk_f126_136 (by decide)) ?_
        refine gd_ite (fun h18 => ?_) (fun _ => rfl)
        refine Eq.trans (D_iload (x := x9) gk_f126_139 rfl) ?_
        refine Eq.trans (D_iload (x := x5) gk_f126_141 rfl) ?_
        refine Eq.trans (D_isub gk_f126_143) ?_
        refine Eq.trans (D_iald gk_f126_144 gk_n10_126) ?_
        refine gd_ite (fun h19 => ?_) (fun _ => rfl)
        refine Eq.trans (D_iload (x := x7) gk_f126_145 rfl) ?_
        refine Eq.trans (D_iadd gk_f126_147) ?_
        refine Eq.trans (D_aload_n (x := r0) gk_f126_148 rfl) ?_
        refine Eq.trans (D_gfR gk_f126_149 (by decide)) ?_
        refine Eq.trans (if_pos h18) ?_
        refine Eq.trans (D_iload (x := x9) gk_f126_152 rfl) ?_
        refine Eq.trans (D_iload (x := x5) gk_f126_154 rfl) ?_
        refine Eq.trans (D_isub gk_f126_156) ?_
        refine Eq.trans (D_iald gk_f126_157 gk_n10_126) ?_
        refine gd_ite (fun h20 => ?_) (fun _ => rfl)
        refine Eq.trans (D_iload (x := x8) gk_f126_158 rfl) ?_
        refine Eq.trans (D_iadd gk_f126_160) ?_
        refine Eq.trans (D_isI (args := [.int ((gI m (gR m r0 0) ((x9 - x5) : Int32).toNatClampNeg) + x7), .int ((gI m (gR m r0 1) ((x9 - x5) : Int32).toNatClampNeg) + x8)]) (rest := []) gk_f126_161 rfl rfl rfl (gd_rmk gk_rm126_125 gk_ln125 gk_ml125 rfl rfl rfl) gk_rk125 (gd_hnd_n gk_nc126)) ?_
        refine gd_bnd (gd_k0I_c fun z23 m21 => ?_)
        refine Eq.trans (D_istore gk_f126_164 gk_st126_10) ?_
        refine Eq.trans (D_aload_n (x := r0) gk_f126_166 rfl) ?_
        refine Eq.trans (D_gfR gk_f126_167 (by decide)) ?_
        refine gd_ite (fun h24 => ?_) (fun _ => rfl)
        refine Eq.trans (D_iload (x := x9) gk_f126_170 rfl) ?_
        refine Eq.trans (D_aload_n (x := r0) gk_f126_172 rfl) ?_
        refine Eq.trans (D_gfR gk_f126_173 (by decide)) ?_
        refine Eq.trans (if_pos h24) ?_
        refine Eq.trans (D_iload (x := x9) gk_f126_176 rfl) ?_
        refine Eq.trans (D_iald gk_f126_178 gk_n10_126) ?_
        refine gd_ite (fun h25 => ?_) (fun _ => rfl)
        refine Eq.trans (D_aload_n (x := r0) gk_f126_179 rfl) ?_
        refine Eq.trans (D_gfR gk_f126_180 (by decide)) ?_
        refine Eq.trans (if_pos h24) ?_
        refine Eq.trans (D_iload (x := x9) gk_f126_183 rfl) ?_
        refine Eq.trans (D_iald gk_f126_185 gk_n10_126) ?_
        refine gd_ite (fun h26 => ?_) (fun _ => rfl)
        refine Eq.trans (D_isI (args := [.int (gI m21 (gR m21 r0 0) (x9 : Int32).toNatClampNeg), .int (gI m21 (gR m21 r0 1) (x9 : Int32).toNatClampNeg)]) (rest := [.int x9, .ref (gR m21 r0 0)]) gk_f126_186 rfl rfl rfl (gd_rmk gk_rm126_125 gk_ln125 gk_ml125 rfl rfl rfl) gk_rk125 (gd_hnd_n gk_nc126)) ?_
        refine gd_bnd (gd_k0I_c fun z29 m27 => ?_)
        refine Eq.trans (D_iast gk_f126_189) ?_
        refine gd_ite (fun h30 => ?_) (fun _ => rfl)
        refine Eq.trans (D_aload_n (x := r0) gk_f126_190 rfl) ?_
        refine Eq.trans (D_gfR gk_f126_191 (by decide)) ?_
        refine gd_ite (fun h31 => ?_) (fun _ => rfl)
        refine Eq.trans (D_iload (x := x9) gk_f126_194 rfl) ?_
        refine Eq.trans (D_iload (x := z23) gk_f126_196 rfl) ?_
        refine Eq.trans (D_iast gk_f126_198) ?_
        refine gd_ite (fun h32 => ?_) (fun _ => rfl)
        refine Eq.trans (D_iinc (x := x9) (y := (-1)) gk_f126_199 rfl gk_c_m1 gk_st126_9) ?_
        refine Eq.trans (D_goto (t := 108) gk_f126_202 (by decide)) ?_
        rfl
      · refine Eq.trans (D_aload_n (x := r0) gk_f126_166 rfl) ?_
        refine Eq.trans (D_gfR gk_f126_167 (by decide)) ?_
        refine gd_ite (fun h33 => ?_) (fun _ => rfl)
        refine Eq.trans (D_iload (x := x9) gk_f126_170 rfl) ?_
        refine Eq.trans (D_aload_n (x := r0) gk_f126_172 rfl) ?_
        refine Eq.trans (D_gfR gk_f126_173 (by decide)) ?_
        refine Eq.trans (if_pos h33) ?_
        refine Eq.trans (D_iload (x := x9) gk_f126_176 rfl) ?_
        refine Eq.trans (D_iald gk_f126_178 gk_n10_126) ?_
        refine gd_ite (fun h34 => ?_) (fun _ => rfl)
        refine Eq.trans (D_aload_n (x := r0) gk_f126_179 rfl) ?_
        refine Eq.trans (D_gfR gk_f126_180 (by decide)) ?_
        refine Eq.trans (if_pos h33) ?_
        refine Eq.trans (D_iload (x := x9) gk_f126_183 rfl) ?_
        refine Eq.trans (D_iald gk_f126_185 gk_n10_126) ?_
        refine gd_ite (fun h35 => ?_) (fun _ => rfl)
        refine Eq.trans (D_isI (args := [.int (gI m (gR m r0 0) (x9 : Int32).toNatClampNeg), .int (gI m (gR m r0 1) (x9 : Int32).toNatClampNeg)]) (rest := [.int x9, .ref (gR m r0 0)]) gk_f126_186 rfl rfl rfl (gd_rmk gk_rm126_125 gk_ln125 gk_ml125 rfl rfl rfl) gk_rk125 (gd_hnd_n gk_nc126)) ?_
        refine gd_bnd (gd_k0I_c fun z38 m36 => ?_)
        refine Eq.trans (D_iast gk_f126_189) ?_
        refine gd_ite (fun h39 => ?_) (fun _ => rfl)
        refine Eq.trans (D_aload_n (x := r0) gk_f126_190 rfl) ?_
        refine Eq.trans (D_gfR gk_f126_191 (by decide)) ?_
        refine gd_ite (fun h40 => ?_) (fun _ => rfl)
        refine Eq.trans (D_iload (x := x9) gk_f126_194 rfl) ?_
        refine Eq.trans (D_iload (x := (-1073741824)) gk_f126_196 rfl) ?_
        refine Eq.trans (D_iast gk_f126_198) ?_
        refine gd_ite (fun h41 => ?_) (fun _ => rfl)
        refine Eq.trans (D_iinc (x := x9) (y := (-1)) gk_f126_199 rfl gk_c_m1 gk_st126_9) ?_
        refine Eq.trans (D_goto (t := 108) gk_f126_202 (by decide)) ?_
        rfl
/-! GymDesk$Chooser.passOver ()V -/
set_option maxRecDepth 20000 in
theorem gk_f127_0 : gd_fetch 127 0 = some (0, .iconst 0, 1, 0, 0, 0, 0, 0) := rfl
set_option maxRecDepth 20000 in
theorem gk_f127_1 : gd_fetch 127 1 = some (1, .istore_n 1, 1, 0, 0, 0, 0, 0) := rfl
set_option maxRecDepth 20000 in
theorem gk_f127_2 : gd_fetch 127 2 = some (2, .iload_n 1, 1, 0, 0, 0, 0, 0) := rfl
set_option maxRecDepth 20000 in
theorem gk_f127_3 : gd_fetch 127 3 = some (3, .aload_n 0, 1, 0, 0, 0, 0, 0) := rfl
set_option maxRecDepth 20000 in
theorem gk_f127_4 : gd_fetch 127 4 = some (4, .getfield 64, 3, 249, 0, 4, 0, 0) := rfl
set_option maxRecDepth 20000 in
theorem gk_f127_7 : gd_fetch 127 7 = some (7, .if_icmp .ge 38, 3, 0, 0, 0, 0, 0) := rfl
set_option maxRecDepth 20000 in
theorem gk_f127_10 : gd_fetch 127 10 = some (10, .aload_n 0, 1, 0, 0, 0, 0, 0) := rfl
set_option maxRecDepth 20000 in
theorem gk_f127_11 : gd_fetch 127 11 = some (11, .getfield 11, 3, 245, 0, 0, 4, 1) := rfl
set_option maxRecDepth 20000 in
theorem gk_f127_14 : gd_fetch 127 14 = some (14, .iload_n 1, 1, 0, 0, 0, 0, 0) := rfl
set_option maxRecDepth 20000 in
theorem gk_f127_15 : gd_fetch 127 15 = some (15, .aload_n 0, 1, 0, 0, 0, 0, 0) := rfl
set_option maxRecDepth 20000 in
theorem gk_f127_16 : gd_fetch 127 16 = some (16, .getfield 11, 3, 245, 0, 0, 4, 1) := rfl
set_option maxRecDepth 20000 in
theorem gk_f127_19 : gd_fetch 127 19 = some (19, .iload_n 1, 1, 0, 0, 0, 0, 0) := rfl
set_option maxRecDepth 20000 in
theorem gk_f127_20 : gd_fetch 127 20 = some (20, .iaload, 1, 0, 0, 0, 0, 0) := rfl
set_option maxRecDepth 20000 in
theorem gk_f127_21 : gd_fetch 127 21 = some (21, .aload_n 0, 1, 0, 0, 0, 0, 0) := rfl
set_option maxRecDepth 20000 in
theorem gk_f127_22 : gd_fetch 127 22 = some (22, .getfield 15, 3, 246, 0, 1, 4, 1) := rfl
set_option maxRecDepth 20000 in
theorem gk_f127_25 : gd_fetch 127 25 = some (25, .iload_n 1, 1, 0, 0, 0, 0, 0) := rfl
set_option maxRecDepth 20000 in
theorem gk_f127_26 : gd_fetch 127 26 = some (26, .iaload, 1, 0, 0, 0, 0, 0) := rfl
set_option maxRecDepth 20000 in
theorem gk_f127_27 : gd_fetch 127 27 = some (27, .invokestatic 75, 3, 796, 125, 2, 0, 0) := rfl
set_option maxRecDepth 20000 in
theorem gk_f127_30 : gd_fetch 127 30 = some (30, .iastore, 1, 0, 0, 0, 0, 0) := rfl
set_option maxRecDepth 20000 in
theorem gk_f127_31 : gd_fetch 127 31 = some (31, .aload_n 0, 1, 0, 0, 0, 0, 0) := rfl
set_option maxRecDepth 20000 in
theorem gk_f127_32 : gd_fetch 127 32 = some (32, .getfield 15, 3, 246, 0, 1, 4, 1) := rfl
set_option maxRecDepth 20000 in
theorem gk_f127_35 : gd_fetch 127 35 = some (35, .iload_n 1, 1, 0, 0, 0, 0, 0) := rfl
set_option maxRecDepth 20000 in
theorem gk_f127_36 : gd_fetch 127 36 = some (36, .ldc 74, 2, 791, 0, 0, 0, (-1073741824)) := rfl
set_option maxRecDepth 20000 in
theorem gk_f127_38 : gd_fetch 127 38 = some (38, .iastore, 1, 0, 0, 0, 0, 0) := rfl
set_option maxRecDepth 20000 in
theorem gk_f127_39 : gd_fetch 127 39 = some (39, .iinc 1 1, 3, 0, 0, 0, 0, 0) := rfl
set_option maxRecDepth 20000 in
theorem gk_f127_42 : gd_fetch 127 42 = some (42, .goto (-40), 3, 0, 0, 0, 0, 0) := rfl
set_option maxRecDepth 20000 in
theorem gk_f127_45 : gd_fetch 127 45 = some (45, .return_, 1, 0, 0, 0, 0, 0) := rfl
set_option maxRecDepth 20000 in
set_option maxHeartbeats 4000000 in
theorem q_Ch_passOver (r0 : Nat) (m : gd_M) : gd_call 127 [.ref r0] m = gd_Den (127, 2, [.ref r0, .int 0], [], m) := by
  refine Eq.trans (show gd_call 127 [.ref r0] m = gd_Den (127, 0, [.ref r0, .null], [], m) from by unfold gd_call gd_ent; rw [gk_ml127]; rfl) ?_
  refine Eq.trans (D_iconst (x := 0) gk_f127_0 gk_c_0) ?_
  refine Eq.trans (D_istore_n gk_f127_1 gk_st127_1) ?_
  rfl
set_option maxRecDepth 20000 in
set_option maxHeartbeats 4000000 in
theorem q_Ch_passOver_2 (r0 : Nat) (x1 : Int32) (m : gd_M) : gd_Den (127, 2, [.ref r0, .int x1], [], m) = if gd_ok (gN m) r0 0 = true then (if (x1 < (gI m r0 4) : Prop) then (if gd_okA (gN m) (gR m r0 0) 10 x1 = true then (if gd_okA (gN m) (gR m r0 1) 10 x1 = true then ((gd_call 125 [.int (gI m (gR m r0 0) (x1 : Int32).toNatClampNeg), .int (gI m (gR m r0 1) (x1 : Int32).toNatClampNeg)] m).bind (gd_k0I fun z8 m6 => if gd_okA (gN m6) (gR m r0 0) 10 x1 = true then (if gd_ok (gN m6) r0 0 = true then (if gd_okA (gN m6) (gR m6 r0 1) 10 x1 = true then (gd_Den (127, 2, [.ref r0, .int (x1 + 1)], [], (wI (wI m6 (gR m r0 0) (x1 : Int32).toNatClampNeg z8) (gR m6 r0 1) (x1 : Int32).toNatClampNeg (-1073741824)))) else none) else none) else none)) else none) else none) else (some (.null, m))) else none := by
  refine Eq.trans (D_iload_n (x := x1) gk_f127_2 rfl) ?_
  refine Eq.trans (D_aload_n (x := r0) gk_f127_3 rfl) ?_
  refine Eq.trans (D_gfI gk_f127_4 (by decide) (by decide) (by decide)) ?_
  refine gd_ite (fun h1 => ?_) (fun _ => rfl)
  refine Eq.trans (D_ic_ge (t := 45) gk_f127_7 (by decide)) ?_
  refine gd_ite (fun h2 => ?_) (fun h3 => ?_)
  · refine Eq.trans (D_aload_n (x := r0) gk_f127_10 rfl) ?_
    refine Eq.trans (D_gfR gk_f127_11 (by decide)) ?_
    refine Eq.trans (if_pos h1) ?_
    refine Eq.trans (D_iload_n (x := x1) gk_f127_14 rfl) ?_
    refine Eq.trans (D_aload_n (x := r0) gk_f127_15 rfl) ?_
    refine Eq.trans (D_gfR gk_f127_16 (by decide)) ?_
    refine Eq.trans (if_pos h1) ?_
    refine Eq.trans (D_iload_n (x := x1) gk_f127_19 rfl) ?_
    refine Eq.trans (D_iald gk_f127_20 gk_n10_127) ?_
    refine gd_ite (fun h4 => ?_) (fun _ => rfl)
    refine Eq.trans (D_aload_n (x := r0) gk_f127_21 rfl) ?_
    refine Eq.trans (D_gfR gk_f127_22 (by decide)) ?_
    refine Eq.trans (if_pos h1) ?_
    refine Eq.trans (D_iload_n (x := x1) gk_f127_25 rfl) ?_
    refine Eq.trans (D_iald gk_f127_26 gk_n10_127) ?_
    refine gd_ite (fun h5 => ?_) (fun _ => rfl)
    refine Eq.trans (D_isI (args := [.int (gI m (gR m r0 0) (x1 : Int32).toNatClampNeg), .int (gI m (gR m r0 1) (x1 : Int32).toNatClampNeg)]) (rest := [.int x1, .ref (gR m r0 0)]) gk_f127_27 rfl rfl rfl (gd_rmk gk_rm127_125 gk_ln125 gk_ml125 rfl rfl rfl) gk_rk125 (gd_hnd_n gk_nc127)) ?_
    refine gd_bnd (gd_k0I_c fun z8 m6 => ?_)
    refine Eq.trans (D_iast gk_f127_30) ?_
    refine gd_ite (fun h9 => ?_) (fun _ => rfl)
    refine Eq.trans (D_aload_n (x := r0) gk_f127_31 rfl) ?_
    refine Eq.trans (D_gfR gk_f127_32 (by decide)) ?_
    refine gd_ite (fun h10 => ?_) (fun _ => rfl)
    refine Eq.trans (D_iload_n (x := x1) gk_f127_35 rfl) ?_
    refine Eq.trans (D_ldc (x := (-1073741824)) gk_f127_36 gk_c_m1073741824) ?_
    refine Eq.trans (D_iast gk_f127_38) ?_
    refine gd_ite (fun h11 => ?_) (fun _ => rfl)
    refine Eq.trans (D_iinc (x := x1) (y := 1) gk_f127_39 rfl gk_c_1 gk_st127_1) ?_
    refine Eq.trans (D_goto (t := 2) gk_f127_42 (by decide)) ?_
    rfl
  · refine Eq.trans (D_vreturn gk_f127_45 gk_rk127) ?_
    rfl
