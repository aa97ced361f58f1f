/-! GymDeskModel.answer (IIII)I -/
set_option maxRecDepth 20000 in
theorem gk_f155_0 : gd_fetch 155 0 = some (0, .aload_n 0, 1, 0, 0, 0, 0, 0) := rfl
set_option maxRecDepth 20000 in
theorem gk_f155_1 : gd_fetch 155 1 = some (1, .iload_n 1, 1, 0, 0, 0, 0, 0) := rfl
set_option maxRecDepth 20000 in
theorem gk_f155_2 : gd_fetch 155 2 = some (2, .iload_n 2, 1, 0, 0, 0, 0, 0) := rfl
set_option maxRecDepth 20000 in
theorem gk_f155_3 : gd_fetch 155 3 = some (3, .invokevirtual 335, 3, 1407, 98, 2, 0, 0) := rfl
set_option maxRecDepth 20000 in
theorem gk_f155_6 : gd_fetch 155 6 = some (6, .ifCond .eq 21, 3, 0, 0, 0, 0, 0) := rfl
set_option maxRecDepth 20000 in
theorem gk_f155_9 : gd_fetch 155 9 = some (9, .iload 4, 2, 0, 0, 0, 0, 0) := rfl
set_option maxRecDepth 20000 in
theorem gk_f155_11 : gd_fetch 155 11 = some (11, .iconst 0, 1, 0, 0, 0, 0, 0) := rfl
set_option maxRecDepth 20000 in
theorem gk_f155_12 : gd_fetch 155 12 = some (12, .aload_n 0, 1, 0, 0, 0, 0, 0) := rfl
set_option maxRecDepth 20000 in
theorem gk_f155_13 : gd_fetch 155 13 = some (13, .getfield 19, 3, 1164, 9, 1, 4, 0) := rfl
set_option maxRecDepth 20000 in
theorem gk_f155_16 : gd_fetch 155 16 = some (16, .getfield 196, 3, 1031, 7, 0, 0, 0) := rfl
set_option maxRecDepth 20000 in
theorem gk_f155_19 : gd_fetch 155 19 = some (19, .iconst 1, 1, 0, 0, 0, 0, 0) := rfl
set_option maxRecDepth 20000 in
theorem gk_f155_20 : gd_fetch 155 20 = some (20, .isub, 1, 0, 0, 0, 0, 0) := rfl
set_option maxRecDepth 20000 in
theorem gk_f155_21 : gd_fetch 155 21 = some (21, .invokestatic 192, 3, 1360, 71, 3, 0, 0) := rfl
set_option maxRecDepth 20000 in
theorem gk_f155_24 : gd_fetch 155 24 = some (24, .ifCond .ne 6, 3, 0, 0, 0, 0, 0) := rfl
set_option maxRecDepth 20000 in
theorem gk_f155_27 : gd_fetch 155 27 = some (27, .bipush (-2), 2, 0, 0, 0, 0, 0) := rfl
set_option maxRecDepth 20000 in
theorem gk_f155_29 : gd_fetch 155 29 = some (29, .ireturn, 1, 0, 0, 0, 0, 0) := rfl
set_option maxRecDepth 20000 in
theorem gk_f155_30 : gd_fetch 155 30 = some (30, .iconst 4, 1, 0, 0, 0, 0, 0) := rfl
set_option maxRecDepth 20000 in
theorem gk_f155_31 : gd_fetch 155 31 = some (31, .iload_n 1, 1, 0, 0, 0, 0, 0) := rfl
set_option maxRecDepth 20000 in
theorem gk_f155_32 : gd_fetch 155 32 = some (32, .imul, 1, 0, 0, 0, 0, 0) := rfl
set_option maxRecDepth 20000 in
theorem gk_f155_33 : gd_fetch 155 33 = some (33, .iload_n 2, 1, 0, 0, 0, 0, 0) := rfl
set_option maxRecDepth 20000 in
theorem gk_f155_34 : gd_fetch 155 34 = some (34, .iadd, 1, 0, 0, 0, 0, 0) := rfl
set_option maxRecDepth 20000 in
theorem gk_f155_35 : gd_fetch 155 35 = some (35, .istore 5, 2, 0, 0, 0, 0, 0) := rfl
set_option maxRecDepth 20000 in
theorem gk_f155_37 : gd_fetch 155 37 = some (37, .aload_n 0, 1, 0, 0, 0, 0, 0) := rfl
set_option maxRecDepth 20000 in
theorem gk_f155_38 : gd_fetch 155 38 = some (38, .getfield 51, 3, 1186, 9, 23, 4, 1) := rfl
set_option maxRecDepth 20000 in
theorem gk_f155_41 : gd_fetch 155 41 = some (41, .iload 5, 2, 0, 0, 0, 0, 0) := rfl
set_option maxRecDepth 20000 in
theorem gk_f155_43 : gd_fetch 155 43 = some (43, .baload, 1, 0, 0, 0, 0, 0) := rfl
set_option maxRecDepth 20000 in
theorem gk_f155_44 : gd_fetch 155 44 = some (44, .ifCond .eq 47, 3, 0, 0, 0, 0, 0) := rfl
set_option maxRecDepth 20000 in
theorem gk_f155_47 : gd_fetch 155 47 = some (47, .aload_n 0, 1, 0, 0, 0, 0, 0) := rfl
set_option maxRecDepth 20000 in
theorem gk_f155_48 : gd_fetch 155 48 = some (48, .getfield 75, 3, 1194, 9, 31, 4, 1) := rfl
set_option maxRecDepth 20000 in
theorem gk_f155_51 : gd_fetch 155 51 = some (51, .iload 5, 2, 0, 0, 0, 0, 0) := rfl
set_option maxRecDepth 20000 in
theorem gk_f155_53 : gd_fetch 155 53 = some (53, .iaload, 1, 0, 0, 0, 0, 0) := rfl
set_option maxRecDepth 20000 in
theorem gk_f155_54 : gd_fetch 155 54 = some (54, .iconst 1, 1, 0, 0, 0, 0, 0) := rfl
set_option maxRecDepth 20000 in
theorem gk_f155_55 : gd_fetch 155 55 = some (55, .if_icmp .ne 36, 3, 0, 0, 0, 0, 0) := rfl
set_option maxRecDepth 20000 in
theorem gk_f155_58 : gd_fetch 155 58 = some (58, .iload_n 3, 1, 0, 0, 0, 0, 0) := rfl
set_option maxRecDepth 20000 in
theorem gk_f155_59 : gd_fetch 155 59 = some (59, .iconst 0, 1, 0, 0, 0, 0, 0) := rfl
set_option maxRecDepth 20000 in
theorem gk_f155_60 : gd_fetch 155 60 = some (60, .aload_n 0, 1, 0, 0, 0, 0, 0) := rfl
set_option maxRecDepth 20000 in
theorem gk_f155_61 : gd_fetch 155 61 = some (61, .getfield 54, 3, 1187, 9, 24, 4, 1) := rfl
set_option maxRecDepth 20000 in
theorem gk_f155_64 : gd_fetch 155 64 = some (64, .iload 5, 2, 0, 0, 0, 0, 0) := rfl
set_option maxRecDepth 20000 in
theorem gk_f155_66 : gd_fetch 155 66 = some (66, .iaload, 1, 0, 0, 0, 0, 0) := rfl
set_option maxRecDepth 20000 in
theorem gk_f155_67 : gd_fetch 155 67 = some (67, .iconst 1, 1, 0, 0, 0, 0, 0) := rfl
set_option maxRecDepth 20000 in
theorem gk_f155_68 : gd_fetch 155 68 = some (68, .isub, 1, 0, 0, 0, 0, 0) := rfl
set_option maxRecDepth 20000 in
theorem gk_f155_69 : gd_fetch 155 69 = some (69, .invokestatic 192, 3, 1360, 71, 3, 0, 0) := rfl
set_option maxRecDepth 20000 in
theorem gk_f155_72 : gd_fetch 155 72 = some (72, .ifCond .eq 19, 3, 0, 0, 0, 0, 0) := rfl
set_option maxRecDepth 20000 in
theorem gk_f155_75 : gd_fetch 155 75 = some (75, .aload_n 0, 1, 0, 0, 0, 0, 0) := rfl
set_option maxRecDepth 20000 in
theorem gk_f155_76 : gd_fetch 155 76 = some (76, .getfield 57, 3, 1188, 9, 25, 4, 1) := rfl
set_option maxRecDepth 20000 in
theorem gk_f155_79 : gd_fetch 155 79 = some (79, .bipush 16, 2, 0, 0, 0, 0, 0) := rfl
set_option maxRecDepth 20000 in
theorem gk_f155_81 : gd_fetch 155 81 = some (81, .iload 5, 2, 0, 0, 0, 0, 0) := rfl
set_option maxRecDepth 20000 in
theorem gk_f155_83 : gd_fetch 155 83 = some (83, .imul, 1, 0, 0, 0, 0, 0) := rfl
set_option maxRecDepth 20000 in
theorem gk_f155_84 : gd_fetch 155 84 = some (84, .iload_n 3, 1, 0, 0, 0, 0, 0) := rfl
set_option maxRecDepth 20000 in
theorem gk_f155_85 : gd_fetch 155 85 = some (85, .iadd, 1, 0, 0, 0, 0, 0) := rfl
set_option maxRecDepth 20000 in
theorem gk_f155_86 : gd_fetch 155 86 = some (86, .iaload, 1, 0, 0, 0, 0, 0) := rfl
set_option maxRecDepth 20000 in
theorem gk_f155_87 : gd_fetch 155 87 = some (87, .iconst (-1), 1, 0, 0, 0, 0, 0) := rfl
set_option maxRecDepth 20000 in
theorem gk_f155_88 : gd_fetch 155 88 = some (88, .if_icmp .ne 5, 3, 0, 0, 0, 0, 0) := rfl
set_option maxRecDepth 20000 in
theorem gk_f155_91 : gd_fetch 155 91 = some (91, .iconst (-1), 1, 0, 0, 0, 0, 0) := rfl
set_option maxRecDepth 20000 in
theorem gk_f155_92 : gd_fetch 155 92 = some (92, .ireturn, 1, 0, 0, 0, 0, 0) := rfl
set_option maxRecDepth 20000 in
theorem gk_f155_93 : gd_fetch 155 93 = some (93, .aload_n 0, 1, 0, 0, 0, 0, 0) := rfl
set_option maxRecDepth 20000 in
theorem gk_f155_94 : gd_fetch 155 94 = some (94, .iload 5, 2, 0, 0, 0, 0, 0) := rfl
set_option maxRecDepth 20000 in
theorem gk_f155_96 : gd_fetch 155 96 = some (96, .invokevirtual 363, 3, 1451, 142, 1, 0, 0) := rfl
set_option maxRecDepth 20000 in
theorem gk_f155_99 : gd_fetch 155 99 = some (99, .istore 6, 2, 0, 0, 0, 0, 0) := rfl
set_option maxRecDepth 20000 in
theorem gk_f155_101 : gd_fetch 155 101 = some (101, .aload_n 0, 1, 0, 0, 0, 0, 0) := rfl
set_option maxRecDepth 20000 in
theorem gk_f155_102 : gd_fetch 155 102 = some (102, .getfield 57, 3, 1188, 9, 25, 4, 1) := rfl
set_option maxRecDepth 20000 in
theorem gk_f155_105 : gd_fetch 155 105 = some (105, .bipush 16, 2, 0, 0, 0, 0, 0) := rfl
set_option maxRecDepth 20000 in
theorem gk_f155_107 : gd_fetch 155 107 = some (107, .iload 5, 2, 0, 0, 0, 0, 0) := rfl
set_option maxRecDepth 20000 in
theorem gk_f155_109 : gd_fetch 155 109 = some (109, .imul, 1, 0, 0, 0, 0, 0) := rfl
set_option maxRecDepth 20000 in
theorem gk_f155_110 : gd_fetch 155 110 = some (110, .iload_n 3, 1, 0, 0, 0, 0, 0) := rfl
set_option maxRecDepth 20000 in
theorem gk_f155_111 : gd_fetch 155 111 = some (111, .iadd, 1, 0, 0, 0, 0, 0) := rfl
set_option maxRecDepth 20000 in
theorem gk_f155_112 : gd_fetch 155 112 = some (112, .iaload, 1, 0, 0, 0, 0, 0) := rfl
set_option maxRecDepth 20000 in
theorem gk_f155_113 : gd_fetch 155 113 = some (113, .istore 7, 2, 0, 0, 0, 0, 0) := rfl
set_option maxRecDepth 20000 in
theorem gk_f155_115 : gd_fetch 155 115 = some (115, .aload_n 0, 1, 0, 0, 0, 0, 0) := rfl
set_option maxRecDepth 20000 in
theorem gk_f155_116 : gd_fetch 155 116 = some (116, .getfield 57, 3, 1188, 9, 25, 4, 1) := rfl
set_option maxRecDepth 20000 in
theorem gk_f155_119 : gd_fetch 155 119 = some (119, .bipush 16, 2, 0, 0, 0, 0, 0) := rfl
set_option maxRecDepth 20000 in
theorem gk_f155_121 : gd_fetch 155 121 = some (121, .iload 5, 2, 0, 0, 0, 0, 0) := rfl
set_option maxRecDepth 20000 in
theorem gk_f155_123 : gd_fetch 155 123 = some (123, .imul, 1, 0, 0, 0, 0, 0) := rfl
set_option maxRecDepth 20000 in
theorem gk_f155_124 : gd_fetch 155 124 = some (124, .iload_n 3, 1, 0, 0, 0, 0, 0) := rfl
set_option maxRecDepth 20000 in
theorem gk_f155_125 : gd_fetch 155 125 = some (125, .iadd, 1, 0, 0, 0, 0, 0) := rfl
set_option maxRecDepth 20000 in
theorem gk_f155_126 : gd_fetch 155 126 = some (126, .iload 4, 2, 0, 0, 0, 0, 0) := rfl
set_option maxRecDepth 20000 in
theorem gk_f155_128 : gd_fetch 155 128 = some (128, .iastore, 1, 0, 0, 0, 0, 0) := rfl
set_option maxRecDepth 20000 in
theorem gk_f155_129 : gd_fetch 155 129 = some (129, .aload_n 0, 1, 0, 0, 0, 0, 0) := rfl
set_option maxRecDepth 20000 in
theorem gk_f155_130 : gd_fetch 155 130 = some (130, .getfield 84, 3, 1197, 9, 34, 4, 1) := rfl
set_option maxRecDepth 20000 in
theorem gk_f155_133 : gd_fetch 155 133 = some (133, .iload 5, 2, 0, 0, 0, 0, 0) := rfl
set_option maxRecDepth 20000 in
theorem gk_f155_135 : gd_fetch 155 135 = some (135, .iconst 0, 1, 0, 0, 0, 0, 0) := rfl
set_option maxRecDepth 20000 in
theorem gk_f155_136 : gd_fetch 155 136 = some (136, .bastore, 1, 0, 0, 0, 0, 0) := rfl
set_option maxRecDepth 20000 in
theorem gk_f155_137 : gd_fetch 155 137 = some (137, .aload_n 0, 1, 0, 0, 0, 0, 0) := rfl
set_option maxRecDepth 20000 in
theorem gk_f155_138 : gd_fetch 155 138 = some (138, .iload 5, 2, 0, 0, 0, 0, 0) := rfl
set_option maxRecDepth 20000 in
theorem gk_f155_140 : gd_fetch 155 140 = some (140, .invokevirtual 363, 3, 1451, 142, 1, 0, 0) := rfl
set_option maxRecDepth 20000 in
theorem gk_f155_143 : gd_fetch 155 143 = some (143, .iload 6, 2, 0, 0, 0, 0, 0) := rfl
set_option maxRecDepth 20000 in
theorem gk_f155_145 : gd_fetch 155 145 = some (145, .if_icmp .le 33, 3, 0, 0, 0, 0, 0) := rfl
set_option maxRecDepth 20000 in
theorem gk_f155_148 : gd_fetch 155 148 = some (148, .aload_n 0, 1, 0, 0, 0, 0, 0) := rfl
set_option maxRecDepth 20000 in
theorem gk_f155_149 : gd_fetch 155 149 = some (149, .getfield 75, 3, 1194, 9, 31, 4, 1) := rfl
set_option maxRecDepth 20000 in
theorem gk_f155_152 : gd_fetch 155 152 = some (152, .iload 5, 2, 0, 0, 0, 0, 0) := rfl
set_option maxRecDepth 20000 in
theorem gk_f155_154 : gd_fetch 155 154 = some (154, .iconst 2, 1, 0, 0, 0, 0, 0) := rfl
set_option maxRecDepth 20000 in
theorem gk_f155_155 : gd_fetch 155 155 = some (155, .iastore, 1, 0, 0, 0, 0, 0) := rfl
set_option maxRecDepth 20000 in
theorem gk_f155_156 : gd_fetch 155 156 = some (156, .aload_n 0, 1, 0, 0, 0, 0, 0) := rfl
set_option maxRecDepth 20000 in
theorem gk_f155_157 : gd_fetch 155 157 = some (157, .getfield 45, 3, 1184, 9, 21, 4, 1) := rfl
set_option maxRecDepth 20000 in
theorem gk_f155_160 : gd_fetch 155 160 = some (160, .aload_n 0, 1, 0, 0, 0, 0, 0) := rfl
set_option maxRecDepth 20000 in
theorem gk_f155_161 : gd_fetch 155 161 = some (161, .getfield 41, 3, 1183, 9, 20, 4, 1) := rfl
set_option maxRecDepth 20000 in
theorem gk_f155_164 : gd_fetch 155 164 = some (164, .iload_n 1, 1, 0, 0, 0, 0, 0) := rfl
set_option maxRecDepth 20000 in
theorem gk_f155_165 : gd_fetch 155 165 = some (165, .iaload, 1, 0, 0, 0, 0, 0) := rfl
set_option maxRecDepth 20000 in
theorem gk_f155_166 : gd_fetch 155 166 = some (166, .dup2, 1, 0, 0, 0, 0, 0) := rfl
set_option maxRecDepth 20000 in
theorem gk_f155_167 : gd_fetch 155 167 = some (167, .iaload, 1, 0, 0, 0, 0, 0) := rfl
set_option maxRecDepth 20000 in
theorem gk_f155_168 : gd_fetch 155 168 = some (168, .iconst 1, 1, 0, 0, 0, 0, 0) := rfl
set_option maxRecDepth 20000 in
theorem gk_f155_169 : gd_fetch 155 169 = some (169, .isub, 1, 0, 0, 0, 0, 0) := rfl
set_option maxRecDepth 20000 in
theorem gk_f155_170 : gd_fetch 155 170 = some (170, .iastore, 1, 0, 0, 0, 0, 0) := rfl
set_option maxRecDepth 20000 in
theorem gk_f155_171 : gd_fetch 155 171 = some (171, .aload_n 0, 1, 0, 0, 0, 0, 0) := rfl
set_option maxRecDepth 20000 in
theorem gk_f155_172 : gd_fetch 155 172 = some (172, .iload 5, 2, 0, 0, 0, 0, 0) := rfl
set_option maxRecDepth 20000 in
theorem gk_f155_174 : gd_fetch 155 174 = some (174, .invokevirtual 369, 3, 1447, 144, 1, 0, 0) := rfl
set_option maxRecDepth 20000 in
theorem gk_f155_177 : gd_fetch 155 177 = some (177, .ireturn, 1, 0, 0, 0, 0, 0) := rfl
set_option maxRecDepth 20000 in
theorem gk_f155_178 : gd_fetch 155 178 = some (178, .aload_n 0, 1, 0, 0, 0, 0, 0) := rfl
set_option maxRecDepth 20000 in
theorem gk_f155_179 : gd_fetch 155 179 = some (179, .getfield 57, 3, 1188, 9, 25, 4, 1) := rfl
set_option maxRecDepth 20000 in
theorem gk_f155_182 : gd_fetch 155 182 = some (182, .bipush 16, 2, 0, 0, 0, 0, 0) := rfl
set_option maxRecDepth 20000 in
theorem gk_f155_184 : gd_fetch 155 184 = some (184, .iload 5, 2, 0, 0, 0, 0, 0) := rfl
set_option maxRecDepth 20000 in
theorem gk_f155_186 : gd_fetch 155 186 = some (186, .imul, 1, 0, 0, 0, 0, 0) := rfl
set_option maxRecDepth 20000 in
theorem gk_f155_187 : gd_fetch 155 187 = some (187, .iload_n 3, 1, 0, 0, 0, 0, 0) := rfl
set_option maxRecDepth 20000 in
theorem gk_f155_188 : gd_fetch 155 188 = some (188, .iadd, 1, 0, 0, 0, 0, 0) := rfl
set_option maxRecDepth 20000 in
theorem gk_f155_189 : gd_fetch 155 189 = some (189, .iload 7, 2, 0, 0, 0, 0, 0) := rfl
set_option maxRecDepth 20000 in
theorem gk_f155_191 : gd_fetch 155 191 = some (191, .iastore, 1, 0, 0, 0, 0, 0) := rfl
set_option maxRecDepth 20000 in
theorem gk_f155_192 : gd_fetch 155 192 = some (192, .aload_n 0, 1, 0, 0, 0, 0, 0) := rfl
set_option maxRecDepth 20000 in
theorem gk_f155_193 : gd_fetch 155 193 = some (193, .getfield 84, 3, 1197, 9, 34, 4, 1) := rfl
set_option maxRecDepth 20000 in
theorem gk_f155_196 : gd_fetch 155 196 = some (196, .iload 5, 2, 0, 0, 0, 0, 0) := rfl
set_option maxRecDepth 20000 in
theorem gk_f155_198 : gd_fetch 155 198 = some (198, .iconst 0, 1, 0, 0, 0, 0, 0) := rfl
set_option maxRecDepth 20000 in
theorem gk_f155_199 : gd_fetch 155 199 = some (199, .bastore, 1, 0, 0, 0, 0, 0) := rfl
set_option maxRecDepth 20000 in
theorem gk_f155_200 : gd_fetch 155 200 = some (200, .aload_n 0, 1, 0, 0, 0, 0, 0) := rfl
set_option maxRecDepth 20000 in
theorem gk_f155_201 : gd_fetch 155 201 = some (201, .getfield 75, 3, 1194, 9, 31, 4, 1) := rfl
set_option maxRecDepth 20000 in
theorem gk_f155_204 : gd_fetch 155 204 = some (204, .iload 5, 2, 0, 0, 0, 0, 0) := rfl
set_option maxRecDepth 20000 in
theorem gk_f155_206 : gd_fetch 155 206 = some (206, .iconst 3, 1, 0, 0, 0, 0, 0) := rfl
set_option maxRecDepth 20000 in
theorem gk_f155_207 : gd_fetch 155 207 = some (207, .iastore, 1, 0, 0, 0, 0, 0) := rfl
set_option maxRecDepth 20000 in
theorem gk_f155_208 : gd_fetch 155 208 = some (208, .iconst 0, 1, 0, 0, 0, 0, 0) := rfl
set_option maxRecDepth 20000 in
theorem gk_f155_209 : gd_fetch 155 209 = some (209, .ireturn, 1, 0, 0, 0, 0, 0) := rfl
set_option maxRecDepth 20000 in
set_option maxHeartbeats 4000000 in
theorem q_Mo_answer (r0 : Nat) (x1 : Int32) (x2 : Int32) (x3 : Int32) (x4 : Int32) (m : gd_M) : gd_call 155 [.ref r0, .int x1, .int x2, .int x3, .int x4] m = if gd_ok (gN m) r0 9 = true then ((gd_call 98 [.ref r0, .int x1, .int x2] m).bind (gd_kI fun z4 m2 => if (z4 = 0 : Prop) then (some (.int (-2), m2)) else (if gd_ok (gN m2) r0 9 = true then (if gd_ok (gN m2) (gR m2 r0 1) 7 = true then ((gd_call 71 [.int x4, .int 0, .int ((gI m2 (gR m2 r0 1) 0) - 1)] m2).bind (gd_k0I fun z11 m9 => if (z11 = 0 : Prop) then (some (.int (-2), m9)) else (if gd_ok (gN m9) r0 9 = true then (if gd_okA (gN m9) (gR m9 r0 23) 11 ((4 * x1) + x2) = true then (if ((gI m9 (gR m9 r0 23) (((4 * x1) + x2) : Int32).toNatClampNeg) = 0 : Prop) then (some (.int (-1), m9)) else (if gd_okA (gN m9) (gR m9 r0 31) 10 ((4 * x1) + x2) = true then (if ((gI m9 (gR m9 r0 31) (((4 * x1) + x2) : Int32).toNatClampNeg) = 1 : Prop) then (if gd_okA (gN m9) (gR m9 r0 24) 10 ((4 * x1) + x2) = true then ((gd_call 71 [.int x3, .int 0, .int ((gI m9 (gR m9 r0 24) (((4 * x1) + x2) : Int32).toNatClampNeg) - 1)] m9).bind (gd_k0I fun z24 m22 => if (z24 = 0 : Prop) then (some (.int (-1), m22)) else (if gd_ok (gN m22) r0 9 = true then (if gd_okA (gN m22) (gR m22 r0 25) 10 ((16 * ((4 * x1) + x2)) + x3) = true then (if ((gI m22 (gR m22 r0 25) (((16 * ((4 * x1) + x2)) + x3) : Int32).toNatClampNeg) = (-1) : Prop) then (some (.int (-1), m22)) else ((gd_call 142 [.ref r0, .int ((4 * x1) + x2)] m22).bind (gd_kI fun z33 m31 => if gd_ok (gN m31) r0 9 = true then (if gd_okA (gN m31) (gR m31 r0 25) 10 ((16 * ((4 * x1) + x2)) + x3) = true then (if gd_okA (gN m31) (gR m31 r0 34) 11 ((4 * x1) + x2) = true then ((gd_call 142 [.ref r0, .int ((4 * x1) + x2)] (wI (wI m31 (gR m31 r0 25) (((16 * ((4 * x1) + x2)) + x3) : Int32).toNatClampNeg x4) (gR m31 r0 34) (((4 * x1) + x2) : Int32).toNatClampNeg (vp_nar .boolean 0))).bind (gd_kI fun z39 m37 => if (z33 < z39 : Prop) then (if gd_ok (gN m37) r0 9 = true then (if gd_okA (gN m37) (gR m37 r0 31) 10 ((4 * x1) + x2) = true then (if gd_okA (gN m37) (gR m37 r0 20) 10 x1 = true then (if gd_okA (gN m37) (gR m37 r0 21) 10 (gI (wI m37 (gR m37 r0 31) (((4 * x1) + x2) : Int32).toNatClampNeg 2) (gR m37 r0 20) (x1 : Int32).toNatClampNeg) = true then ((gd_call 144 [.ref r0, .int ((4 * x1) + x2)] (wI (wI m37 (gR m37 r0 31) (((4 * x1) + x2) : Int32).toNatClampNeg 2) (gR m37 r0 21) ((gI (wI m37 (gR m37 r0 31) (((4 * x1) + x2) : Int32).toNatClampNeg 2) (gR m37 r0 20) (x1 : Int32).toNatClampNeg) : Int32).toNatClampNeg ((gI (wI m37 (gR m37 r0 31) (((4 * x1) + x2) : Int32).toNatClampNeg 2) (gR m37 r0 21) ((gI (wI m37 (gR m37 r0 31) (((4 * x1) + x2) : Int32).toNatClampNeg 2) (gR m37 r0 20) (x1 : Int32).toNatClampNeg) : Int32).toNatClampNeg) - 1))).bind (gd_kI fun z48 m46 => some (.int z48, m46))) else none) else none) else none) else none) else (if gd_ok (gN m37) r0 9 = true then (if gd_okA (gN m37) (gR m37 r0 25) 10 ((16 * ((4 * x1) + x2)) + x3) = true then (if gd_okA (gN m37) (gR m37 r0 34) 11 ((4 * x1) + x2) = true then (if gd_okA (gN m37) (gR m37 r0 31) 10 ((4 * x1) + x2) = true then (some (.int 0, (wI (wI (wI m37 (gR m37 r0 25) (((16 * ((4 * x1) + x2)) + x3) : Int32).toNatClampNeg (gI m31 (gR m31 r0 25) (((16 * ((4 * x1) + x2)) + x3) : Int32).toNatClampNeg)) (gR m37 r0 34) (((4 * x1) + x2) : Int32).toNatClampNeg (vp_nar .boolean 0)) (gR m37 r0 31) (((4 * x1) + x2) : Int32).toNatClampNeg 3))) else none) else none) else none) else none))) else none) else none) else none))) else none) else none))) else none) else (some (.int (-1), m9))) else none)) else none) else none))) else none) else none))) else none := by
  refine Eq.trans (show gd_call 155 [.ref r0, .int x1, .int x2, .int x3, .int x4] m = gd_Den (155, 0, [.ref r0, .int x1, .int x2, .int x3, .int x4, .null, .null, .null], [], m) from by unfold gd_call gd_ent; rw [gk_ml155]; rfl) ?_
  refine Eq.trans (D_aload_n (x := r0) gk_f155_0 rfl) ?_
  refine Eq.trans (D_iload_n (x := x1) gk_f155_1 rfl) ?_
  refine Eq.trans (D_iload_n (x := x2) gk_f155_2 rfl) ?_
  refine Eq.trans (D_ivZ (cl := 9) (args := [.ref r0, .int x1, .int x2]) (rest := []) gk_f155_3 rfl rfl (gd_rmk gk_rm155_98 gk_ln98 gk_ml98 rfl rfl rfl) gk_rk98 (gd_hnd_n gk_nc155) gk_nc98 gk_n11_98 gk_cl98) ?_
  refine gd_ite (fun h1 => ?_) (fun _ => rfl)
  refine gd_bnd (gd_kI_c fun z4 m2 => ?_)
  refine Eq.trans (D_if_eq (t := 27) gk_f155_6 (by decide)) ?_
  refine gd_ite (fun h5 => ?_) (fun h6 => ?_)
  · refine Eq.trans (D_bipush (x := (-2)) gk_f155_27 gk_b_m2) ?_
    refine Eq.trans (D_ireturn gk_f155_29 gk_rk155) ?_
    rfl
  · refine Eq.trans (D_iload (x := x4) gk_f155_9 rfl) ?_
    refine Eq.trans (D_iconst (x := 0) gk_f155_11 gk_c_0) ?_
    refine Eq.trans (D_aload_n (x := r0) gk_f155_12 rfl) ?_
    refine Eq.trans (D_gfR gk_f155_13 (by decide)) ?_
    refine gd_ite (fun h7 => ?_) (fun _ => rfl)
    refine Eq.trans (D_gfI gk_f155_16 (by decide) (by decide) (by decide)) ?_
    refine gd_ite (fun h8 => ?_) (fun _ => rfl)
    refine Eq.trans (D_iconst (x := 1) gk_f155_19 gk_c_1) ?_
    refine Eq.trans (D_isub gk_f155_20) ?_
    refine Eq.trans (D_isZ (args := [.int x4, .int 0, .int ((gI m2 (gR m2 r0 1) 0) - 1)]) (rest := []) gk_f155_21 rfl rfl rfl (gd_rmk gk_rm155_71 gk_ln71 gk_ml71 rfl rfl rfl) gk_rk71 (gd_hnd_n gk_nc155)) ?_
    refine gd_bnd (gd_k0I_c fun z11 m9 => ?_)
    refine Eq.trans (D_if_ne (t := 30) gk_f155_24 (by decide)) ?_
    refine gd_ite (fun h12 => ?_) (fun h13 => ?_)
    · refine Eq.trans (D_bipush (x := (-2)) gk_f155_27 gk_b_m2) ?_
      refine Eq.trans (D_ireturn gk_f155_29 gk_rk155) ?_
      rfl
    · refine Eq.trans (D_iconst (x := 4) gk_f155_30 gk_c_4) ?_
      refine Eq.trans (D_iload_n (x := x1) gk_f155_31 rfl) ?_
      refine Eq.trans (D_imul gk_f155_32) ?_
      refine Eq.trans (D_iload_n (x := x2) gk_f155_33 rfl) ?_
      refine Eq.trans (D_iadd gk_f155_34) ?_
      refine Eq.trans (D_istore gk_f155_35 gk_st155_5) ?_
      refine Eq.trans (D_aload_n (x := r0) gk_f155_37 rfl) ?_
      refine Eq.trans (D_gfR gk_f155_38 (by decide)) ?_
      refine gd_ite (fun h14 => ?_) (fun _ => rfl)
      refine Eq.trans (D_iload (x := ((4 * x1) + x2)) gk_f155_41 rfl) ?_
      refine Eq.trans (D_bald (kd := 11) gk_f155_43 gk_n12_155 gk_bk155) ?_
      refine gd_ite (fun h15 => ?_) (fun _ => rfl)
      refine Eq.trans (D_if_eq (t := 91) gk_f155_44 (by decide)) ?_
      refine gd_ite (fun h16 => ?_) (fun h17 => ?_)
      · refine Eq.trans (D_iconst (x := (-1)) gk_f155_91 gk_c_m1) ?_
        refine Eq.trans (D_ireturn gk_f155_92 gk_rk155) ?_
        rfl
      · refine Eq.trans (D_aload_n (x := r0) gk_f155_47 rfl) ?_
        refine Eq.trans (D_gfR gk_f155_48 (by decide)) ?_
        refine Eq.trans (if_pos h14) ?_
        refine Eq.trans (D_iload (x := ((4 * x1) + x2)) gk_f155_51 rfl) ?_
        refine Eq.trans (D_iald gk_f155_53 gk_n10_155) ?_
        refine gd_ite (fun h18 => ?_) (fun _ => rfl)
        refine Eq.trans (D_iconst (x := 1) gk_f155_54 gk_c_1) ?_
        refine Eq.trans (D_ic_ne (t := 91) gk_f155_55 (by decide)) ?_
        refine gd_ite (fun h19 => ?_) (fun h20 => ?_)
        · refine Eq.trans (D_iload_n (x := x3) gk_f155_58 rfl) ?_
          refine Eq.trans (D_iconst (x := 0) gk_f155_59 gk_c_0) ?_
          refine Eq.trans (D_aload_n (x := r0) gk_f155_60 rfl) ?_
          refine Eq.trans (D_gfR gk_f155_61 (by decide)) ?_
          refine Eq.trans (if_pos h14) ?_
          refine Eq.trans (D_iload (x := ((4 * x1) + x2)) gk_f155_64 rfl) ?_
          refine Eq.trans (D_iald gk_f155_66 gk_n10_155) ?_
          refine gd_ite (fun h21 => ?_) (fun _ => rfl)
          refine Eq.trans (D_iconst (x := 1) gk_f155_67 gk_c_1) ?_
          refine Eq.trans (D_isub gk_f155_68) ?_
          refine Eq.trans (D_isZ (args := [.int x3, .int 0, .int ((gI m9 (gR m9 r0 24) (((4 * x1) + x2) : Int32).toNatClampNeg) - 1)]) (rest := []) gk_f155_69 rfl rfl rfl (gd_rmk gk_rm155_71 gk_ln71 gk_ml71 rfl rfl rfl) gk_rk71 (gd_hnd_n gk_nc155)) ?_
          refine gd_bnd (gd_k0I_c fun z24 m22 => ?_)
          refine Eq.trans (D_if_eq (t := 91) gk_f155_72 (by decide)) ?_
          refine gd_ite (fun h25 => ?_) (fun h26 => ?_)
          · refine Eq.trans (D_iconst (x := (-1)) gk_f155_91 gk_c_m1) ?_
            refine Eq.trans (D_ireturn gk_f155_92 gk_rk155) ?_
            rfl
          · refine Eq.trans (D_aload_n (x := r0) gk_f155_75 rfl) ?_
            refine Eq.trans (D_gfR gk_f155_76 (by decide)) ?_
            refine gd_ite (fun h27 => ?_) (fun _ => rfl)
            refine Eq.trans (D_bipush (x := 16) gk_f155_79 gk_b_16) ?_
            refine Eq.trans (D_iload (x := ((4 * x1) + x2)) gk_f155_81 rfl) ?_
            refine Eq.trans (D_imul gk_f155_83) ?_
            refine Eq.trans (D_iload_n (x := x3) gk_f155_84 rfl) ?_
            refine Eq.trans (D_iadd gk_f155_85) ?_
            refine Eq.trans (D_iald gk_f155_86 gk_n10_155) ?_
            refine gd_ite (fun h28 => ?_) (fun _ => rfl)
            refine Eq.trans (D_iconst (x := (-1)) gk_f155_87 gk_c_m1) ?_
            refine Eq.trans (D_ic_ne (t := 93) gk_f155_88 (by decide)) ?_
            refine gd_ite (fun h29 => ?_) (fun h30 => ?_)
            · refine Eq.trans (D_iconst (x := (-1)) gk_f155_91 gk_c_m1) ?_
              refine Eq.trans (D_ireturn gk_f155_92 gk_rk155) ?_
              rfl
            · refine Eq.trans (D_aload_n (x := r0) gk_f155_93 rfl) ?_
              refine Eq.trans (D_iload (x := ((4 * x1) + x2)) gk_f155_94 rfl) ?_
              refine Eq.trans (D_ivI (cl := 9) (args := [.ref r0, .int ((4 * x1) + x2)]) (rest := []) gk_f155_96 rfl rfl (gd_rmk gk_rm155_142 gk_ln142 gk_ml142 rfl rfl rfl) gk_rk142 (gd_hnd_n gk_nc155) gk_nc142 gk_n11_142 gk_cl142) ?_
              refine Eq.trans (if_pos h27) ?_
              refine gd_bnd (gd_kI_c fun z33 m31 => ?_)
              refine Eq.trans (D_istore gk_f155_99 gk_st155_6) ?_
              refine Eq.trans (D_aload_n (x := r0) gk_f155_101 rfl) ?_
              refine Eq.trans (D_gfR gk_f155_102 (by decide)) ?_
              refine gd_ite (fun h34 => ?_) (fun _ => rfl)
              refine Eq.trans (D_bipush (x := 16) gk_f155_105 gk_b_16) ?_
              refine Eq.trans (D_iload (x := ((4 * x1) + x2)) gk_f155_107 rfl) ?_
              refine Eq.trans (D_imul gk_f155_109) ?_
              refine Eq.trans (D_iload_n (x := x3) gk_f155_110 rfl) ?_
              refine Eq.trans (D_iadd gk_f155_111) ?_
              refine Eq.trans (D_iald gk_f155_112 gk_n10_155) ?_
              refine gd_ite (fun h35 => ?_) (fun _ => rfl)
              refine Eq.trans (D_istore gk_f155_113 gk_st155_7) ?_
              refine Eq.trans (D_aload_n (x := r0) gk_f155_115 rfl) ?_
              refine Eq.trans (D_gfR gk_f155_116 (by decide)) ?_
              refine Eq.trans (if_pos h34) ?_
              refine Eq.trans (D_bipush (x := 16) gk_f155_119 gk_b_16) ?_
              refine Eq.trans (D_iload (x := ((4 * x1) + x2)) gk_f155_121 rfl) ?_
              refine Eq.trans (D_imul gk_f155_123) ?_
              refine Eq.trans (D_iload_n (x := x3) gk_f155_124 rfl) ?_
              refine Eq.trans (D_iadd gk_f155_125) ?_
              refine Eq.trans (D_iload (x := x4) gk_f155_126 rfl) ?_
              refine Eq.trans (D_iast gk_f155_128) ?_
              refine Eq.trans (if_pos h35) ?_
              refine Eq.trans (D_aload_n (x := r0) gk_f155_129 rfl) ?_
              refine Eq.trans (D_gfR gk_f155_130 (by decide)) ?_
              refine Eq.trans (if_pos h34) ?_
              refine Eq.trans (D_iload (x := ((4 * x1) + x2)) gk_f155_133 rfl) ?_
              refine Eq.trans (D_iconst (x := 0) gk_f155_135 gk_c_0) ?_
              refine Eq.trans (D_bastZ gk_f155_136 gk_b12_155) ?_
              refine gd_ite (fun h36 => ?_) (fun _ => rfl)
              refine Eq.trans (D_aload_n (x := r0) gk_f155_137 rfl) ?_
              refine Eq.trans (D_iload (x := ((4 * x1) + x2)) gk_f155_138 rfl) ?_
              refine Eq.trans (D_ivI (cl := 9) (args := [.ref r0, .int ((4 * x1) + x2)]) (rest := []) gk_f155_140 rfl rfl (gd_rmk gk_rm155_142 gk_ln142 gk_ml142 rfl rfl rfl) gk_rk142 (gd_hnd_n gk_nc155) gk_nc142 gk_n11_142 gk_cl142) ?_
              refine Eq.trans (if_pos h34) ?_
              refine gd_bnd (gd_kI_c fun z39 m37 => ?_)
              refine Eq.trans (D_iload (x := z33) gk_f155_143 rfl) ?_
              refine Eq.trans (D_ic_le (t := 178) gk_f155_145 (by decide)) ?_
              refine gd_ite (fun h40 => ?_) (fun h41 => ?_)
              · refine Eq.trans (D_aload_n (x := r0) gk_f155_148 rfl) ?_
                refine Eq.trans (D_gfR gk_f155_149 (by decide)) ?_
                refine gd_ite (fun h42 => ?_) (fun _ => rfl)
                refine Eq.trans (D_iload (x := ((4 * x1) + x2)) gk_f155_152 rfl) ?_
                refine Eq.trans (D_iconst (x := 2) gk_f155_154 gk_c_2) ?_
                refine Eq.trans (D_iast gk_f155_155) ?_
                refine gd_ite (fun h43 => ?_) (fun _ => rfl)
                refine Eq.trans (D_aload_n (x := r0) gk_f155_156 rfl) ?_
                refine Eq.trans (D_gfR gk_f155_157 (by decide)) ?_
                refine Eq.trans (if_pos h42) ?_
                refine Eq.trans (D_aload_n (x := r0) gk_f155_160 rfl) ?_
                refine Eq.trans (D_gfR gk_f155_161 (by decide)) ?_
                refine Eq.trans (if_pos h42) ?_
                refine Eq.trans (D_iload_n (x := x1) gk_f155_164 rfl) ?_
                refine Eq.trans (D_iald gk_f155_165 gk_n10_155) ?_
                refine gd_ite (fun h44 => ?_) (fun _ => rfl)
                refine Eq.trans (D_dup2 gk_f155_166) ?_
                refine Eq.trans (D_iald gk_f155_167 gk_n10_155) ?_
                refine gd_ite (fun h45 => ?_) (fun _ => rfl)
                refine Eq.trans (D_iconst (x := 1) gk_f155_168 gk_c_1) ?_
                refine Eq.trans (D_isub gk_f155_169) ?_
                refine Eq.trans (D_iast gk_f155_170) ?_
                refine Eq.trans (if_pos h45) ?_
                refine Eq.trans (D_aload_n (x := r0) gk_f155_171 rfl) ?_
                refine Eq.trans (D_iload (x := ((4 * x1) + x2)) gk_f155_172 rfl) ?_
                refine Eq.trans (D_ivI (cl := 9) (args := [.ref r0, .int ((4 * x1) + x2)]) (rest := []) gk_f155_174 rfl rfl (gd_rmk gk_rm155_144 gk_ln144 gk_ml144 rfl rfl rfl) gk_rk144 (gd_hnd_n gk_nc155) gk_nc144 gk_n11_144 gk_cl144) ?_
                refine Eq.trans (if_pos h42) ?_
                refine gd_bnd (gd_kI_c fun z48 m46 => ?_)
                refine Eq.trans (D_ireturn gk_f155_177 gk_rk155) ?_
                rfl
              · refine Eq.trans (D_aload_n (x := r0) gk_f155_178 rfl) ?_
                refine Eq.trans (D_gfR gk_f155_179 (by decide)) ?_
                refine gd_ite (fun h49 => ?_) (fun _ => rfl)
                refine Eq.trans (D_bipush (x := 16) gk_f155_182 gk_b_16) ?_
                refine Eq.trans (D_iload (x := ((4 * x1) + x2)) gk_f155_184 rfl) ?_
                refine Eq.trans (D_imul gk_f155_186) ?_
                refine Eq.trans (D_iload_n (x := x3) gk_f155_187 rfl) ?_
                refine Eq.trans (D_iadd gk_f155_188) ?_
                refine Eq.trans (D_iload (x := (gI m31 (gR m31 r0 25) (((16 * ((4 * x1) + x2)) + x3) : Int32).toNatClampNeg)) gk_f155_189 rfl) ?_
                refine Eq.trans (D_iast gk_f155_191) ?_
                refine gd_ite (fun h50 => ?_) (fun _ => rfl)
                refine Eq.trans (D_aload_n (x := r0) gk_f155_192 rfl) ?_
                refine Eq.trans (D_gfR gk_f155_193 (by decide)) ?_
                refine Eq.trans (if_pos h49) ?_
                refine Eq.trans (D_iload (x := ((4 * x1) + x2)) gk_f155_196 rfl) ?_
                refine Eq.trans (D_iconst (x := 0) gk_f155_198 gk_c_0) ?_
                refine Eq.trans (D_bastZ gk_f155_199 gk_b12_155) ?_
                refine gd_ite (fun h51 => ?_) (fun _ => rfl)
                refine Eq.trans (D_aload_n (x := r0) gk_f155_200 rfl) ?_
                refine Eq.trans (D_gfR gk_f155_201 (by decide)) ?_
                refine Eq.trans (if_pos h49) ?_
                refine Eq.trans (D_iload (x := ((4 * x1) + x2)) gk_f155_204 rfl) ?_
                refine Eq.trans (D_iconst (x := 3) gk_f155_206 gk_c_3) ?_
                refine Eq.trans (D_iast gk_f155_207) ?_
                refine gd_ite (fun h52 => ?_) (fun _ => rfl)
                refine Eq.trans (D_iconst (x := 0) gk_f155_208 gk_c_0) ?_
                refine Eq.trans (D_ireturn gk_f155_209 gk_rk155) ?_
                rfl
        · refine Eq.trans (D_iconst (x := (-1)) gk_f155_91 gk_c_m1) ?_
          refine Eq.trans (D_ireturn gk_f155_92 gk_rk155) ?_
          rfl
/-! GymDesk.isList (I)Z -/
set_option maxRecDepth 20000 in
theorem gk_f156_0 : gd_fetch 156 0 = some (0, .iload_n 0, 1, 0, 0, 0, 0, 0) := rfl
set_option maxRecDepth 20000 in
theorem gk_f156_1 : gd_fetch 156 1 = some (1, .ifCond .lt 12, 3, 0, 0, 0, 0, 0) := rfl
set_option maxRecDepth 20000 in
theorem gk_f156_4 : gd_fetch 156 4 = some (4, .iload_n 0, 1, 0, 0, 0, 0, 0) := rfl
set_option maxRecDepth 20000 in
theorem gk_f156_5 : gd_fetch 156 5 = some (5, .iconst 5, 1, 0, 0, 0, 0, 0) := rfl
set_option maxRecDepth 20000 in
theorem gk_f156_6 : gd_fetch 156 6 = some (6, .if_icmp .ge 7, 3, 0, 0, 0, 0, 0) := rfl
set_option maxRecDepth 20000 in
theorem gk_f156_9 : gd_fetch 156 9 = some (9, .iconst 1, 1, 0, 0, 0, 0, 0) := rfl
set_option maxRecDepth 20000 in
theorem gk_f156_10 : gd_fetch 156 10 = some (10, .goto 4, 3, 0, 0, 0, 0, 0) := rfl
set_option maxRecDepth 20000 in
theorem gk_f156_13 : gd_fetch 156 13 = some (13, .iconst 0, 1, 0, 0, 0, 0, 0) := rfl
set_option maxRecDepth 20000 in
theorem gk_f156_14 : gd_fetch 156 14 = some (14, .ireturn, 1, 0, 0, 0, 0, 0) := rfl
set_option maxRecDepth 20000 in
set_option maxHeartbeats 4000000 in
theorem q_X_isList (x0 : Int32) (m : gd_M) : gd_call 156 [.int x0] m = if (x0 < 0 : Prop) then (some (.int 0, m)) else (if (x0 < 5 : Prop) then (some (.int 1, m)) else (some (.int 0, m))) := by
  refine Eq.trans (show gd_call 156 [.int x0] m = gd_Den (156, 0, [.int x0], [], m) from by unfold gd_call gd_ent; rw [gk_ml156]; rfl) ?_
  refine Eq.trans (D_iload_n (x := x0) gk_f156_0 rfl) ?_
  refine Eq.trans (D_if_lt (t := 13) gk_f156_1 (by decide)) ?_
  refine gd_ite (fun h1 => ?_) (fun h2 => ?_)
  · refine Eq.trans (D_iconst (x := 0) gk_f156_13 gk_c_0) ?_
    refine Eq.trans (D_zreturn gk_f156_14 gk_rk156) ?_
    exact if_pos rfl
  · refine Eq.trans (D_iload_n (x := x0) gk_f156_4 rfl) ?_
    refine Eq.trans (D_iconst (x := 5) gk_f156_5 gk_c_5) ?_
    refine Eq.trans (D_ic_ge (t := 13) gk_f156_6 (by decide)) ?_
    refine gd_ite (fun h3 => ?_) (fun h4 => ?_)
    · refine Eq.trans (D_iconst (x := 1) gk_f156_9 gk_c_1) ?_
      refine Eq.trans (D_goto (t := 14) gk_f156_10 (by decide)) ?_
      refine Eq.trans (D_zreturn gk_f156_14 gk_rk156) ?_
      exact if_pos rfl
    · refine Eq.trans (D_iconst (x := 0) gk_f156_13 gk_c_0) ?_
      refine Eq.trans (D_zreturn gk_f156_14 gk_rk156) ?_
      exact if_pos rfl
/-! GymDesk.hasWithdrawn (II)Z -/
set_option maxRecDepth 20000 in
theorem gk_f157_0 : gd_fetch 157 0 = some (0, .aload_n 0, 1, 0, 0, 0, 0, 0) := rfl
set_option maxRecDepth 20000 in
theorem gk_f157_1 : gd_fetch 157 1 = some (1, .getfield 44, 3, 466, 6, 6, 4, 1) := rfl
set_option maxRecDepth 20000 in
theorem gk_f157_4 : gd_fetch 157 4 = some (4, .iload_n 1, 1, 0, 0, 0, 0, 0) := rfl
set_option maxRecDepth 20000 in
theorem gk_f157_5 : gd_fetch 157 5 = some (5, .iaload, 1, 0, 0, 0, 0, 0) := rfl
set_option maxRecDepth 20000 in
theorem gk_f157_6 : gd_fetch 157 6 = some (6, .iload_n 2, 1, 0, 0, 0, 0, 0) := rfl
set_option maxRecDepth 20000 in
theorem gk_f157_7 : gd_fetch 157 7 = some (7, .ishr, 1, 0, 0, 0, 0, 0) := rfl
set_option maxRecDepth 20000 in
theorem gk_f157_8 : gd_fetch 157 8 = some (8, .iconst 1, 1, 0, 0, 0, 0, 0) := rfl
set_option maxRecDepth 20000 in
theorem gk_f157_9 : gd_fetch 157 9 = some (9, .iand, 1, 0, 0, 0, 0, 0) := rfl
set_option maxRecDepth 20000 in
theorem gk_f157_10 : gd_fetch 157 10 = some (10, .ifCond .eq 7, 3, 0, 0, 0, 0, 0) := rfl
set_option maxRecDepth 20000 in
theorem gk_f157_13 : gd_fetch 157 13 = some (13, .iconst 1, 1, 0, 0, 0, 0, 0) := rfl
set_option maxRecDepth 20000 in
theorem gk_f157_14 : gd_fetch 157 14 = some (14, .goto 4, 3, 0, 0, 0, 0, 0) := rfl
set_option maxRecDepth 20000 in
theorem gk_f157_17 : gd_fetch 157 17 = some (17, .iconst 0, 1, 0, 0, 0, 0, 0) := rfl
set_option maxRecDepth 20000 in
theorem gk_f157_18 : gd_fetch 157 18 = some (18, .ireturn, 1, 0, 0, 0, 0, 0) := rfl
set_option maxRecDepth 20000 in
set_option maxHeartbeats 4000000 in
theorem q_X_hasWithdrawn (r0 : Nat) (x1 : Int32) (x2 : Int32) (m : gd_M) : gd_call 157 [.ref r0, .int x1, .int x2] m = if gd_ok (gN m) r0 6 = true then (if gd_okA (gN m) (gR m r0 6) 10 x1 = true then (if (((((gI m (gR m r0 6) (x1 : Int32).toNatClampNeg) : Int32) >>> (x2 &&& 31)) &&& 1) = 0 : Prop) then (some (.int 0, m)) else (some (.int 1, m))) else none) else none := by
  refine Eq.trans (show gd_call 157 [.ref r0, .int x1, .int x2] m = gd_Den (157, 0, [.ref r0, .int x1, .int x2], [], m) from by unfold gd_call gd_ent; rw [gk_ml157]; rfl) ?_
  refine Eq.trans (D_aload_n (x := r0) gk_f157_0 rfl) ?_
  refine Eq.trans (D_gfR gk_f157_1 (by decide)) ?_
  refine gd_ite (fun h1 => ?_) (fun _ => rfl)
  refine Eq.trans (D_iload_n (x := x1) gk_f157_4 rfl) ?_
  refine Eq.trans (D_iald gk_f157_5 gk_n10_157) ?_
  refine gd_ite (fun h2 => ?_) (fun _ => rfl)
  refine Eq.trans (D_iload_n (x := x2) gk_f157_6 rfl) ?_
  refine Eq.trans (D_ishr gk_f157_7) ?_
  refine Eq.trans (D_iconst (x := 1) gk_f157_8 gk_c_1) ?_
  refine Eq.trans (D_iand gk_f157_9) ?_
  refine Eq.trans (D_if_eq (t := 17) gk_f157_10 (by decide)) ?_
  refine gd_ite (fun h3 => ?_) (fun h4 => ?_)
  · refine Eq.trans (D_iconst (x := 0) gk_f157_17 gk_c_0) ?_
    refine Eq.trans (D_zreturn gk_f157_18 gk_rk157) ?_
    exact if_pos rfl
  · refine Eq.trans (D_iconst (x := 1) gk_f157_13 gk_c_1) ?_
    refine Eq.trans (D_goto (t := 18) gk_f157_14 (by decide)) ?_
    refine Eq.trans (D_zreturn gk_f157_18 gk_rk157) ?_
    exact if_pos rfl
/-! GymDesk.withdraw (II)I -/
set_option maxRecDepth 20000 in
theorem gk_f158_0 : gd_fetch 158 0 = some (0, .aload_n 0, 1, 0, 0, 0, 0, 0) := rfl
set_option maxRecDepth 20000 in
theorem gk_f158_1 : gd_fetch 158 1 = some (1, .iload_n 1, 1, 0, 0, 0, 0, 0) := rfl
set_option maxRecDepth 20000 in
theorem gk_f158_2 : gd_fetch 158 2 = some (2, .invokevirtual 121, 3, 689, 92, 1, 0, 0) := rfl
set_option maxRecDepth 20000 in
theorem gk_f158_5 : gd_fetch 158 5 = some (5, .ifCond .eq 10, 3, 0, 0, 0, 0, 0) := rfl
set_option maxRecDepth 20000 in
theorem gk_f158_8 : gd_fetch 158 8 = some (8, .iload_n 2, 1, 0, 0, 0, 0, 0) := rfl
set_option maxRecDepth 20000 in
theorem gk_f158_9 : gd_fetch 158 9 = some (9, .invokestatic 246, 3, 865, 156, 1, 0, 0) := rfl
set_option maxRecDepth 20000 in
theorem gk_f158_12 : gd_fetch 158 12 = some (12, .ifCond .ne 6, 3, 0, 0, 0, 0, 0) := rfl
set_option maxRecDepth 20000 in
theorem gk_f158_15 : gd_fetch 158 15 = some (15, .bipush (-2), 2, 0, 0, 0, 0, 0) := rfl
set_option maxRecDepth 20000 in
theorem gk_f158_17 : gd_fetch 158 17 = some (17, .ireturn, 1, 0, 0, 0, 0, 0) := rfl
set_option maxRecDepth 20000 in
theorem gk_f158_18 : gd_fetch 158 18 = some (18, .aload_n 0, 1, 0, 0, 0, 0, 0) := rfl
set_option maxRecDepth 20000 in
theorem gk_f158_19 : gd_fetch 158 19 = some (19, .iload_n 1, 1, 0, 0, 0, 0, 0) := rfl
set_option maxRecDepth 20000 in
theorem gk_f158_20 : gd_fetch 158 20 = some (20, .iload_n 2, 1, 0, 0, 0, 0, 0) := rfl
set_option maxRecDepth 20000 in
theorem gk_f158_21 : gd_fetch 158 21 = some (21, .invokevirtual 249, 3, 868, 157, 2, 0, 0) := rfl
set_option maxRecDepth 20000 in
theorem gk_f158_24 : gd_fetch 158 24 = some (24, .ifCond .eq 5, 3, 0, 0, 0, 0, 0) := rfl
set_option maxRecDepth 20000 in
theorem gk_f158_27 : gd_fetch 158 27 = some (27, .iconst (-1), 1, 0, 0, 0, 0, 0) := rfl
set_option maxRecDepth 20000 in
theorem gk_f158_28 : gd_fetch 158 28 = some (28, .ireturn, 1, 0, 0, 0, 0, 0) := rfl
set_option maxRecDepth 20000 in
theorem gk_f158_29 : gd_fetch 158 29 = some (29, .aload_n 0, 1, 0, 0, 0, 0, 0) := rfl
set_option maxRecDepth 20000 in
theorem gk_f158_30 : gd_fetch 158 30 = some (30, .getfield 44, 3, 466, 6, 6, 4, 1) := rfl
set_option maxRecDepth 20000 in
theorem gk_f158_33 : gd_fetch 158 33 = some (33, .iload_n 1, 1, 0, 0, 0, 0, 0) := rfl
set_option maxRecDepth 20000 in
theorem gk_f158_34 : gd_fetch 158 34 = some (34, .dup2, 1, 0, 0, 0, 0, 0) := rfl
set_option maxRecDepth 20000 in
theorem gk_f158_35 : gd_fetch 158 35 = some (35, .iaload, 1, 0, 0, 0, 0, 0) := rfl
set_option maxRecDepth 20000 in
theorem gk_f158_36 : gd_fetch 158 36 = some (36, .iconst 1, 1, 0, 0, 0, 0, 0) := rfl
set_option maxRecDepth 20000 in
theorem gk_f158_37 : gd_fetch 158 37 = some (37, .iload_n 2, 1, 0, 0, 0, 0, 0) := rfl
set_option maxRecDepth 20000 in
theorem gk_f158_38 : gd_fetch 158 38 = some (38, .ishl, 1, 0, 0, 0, 0, 0) := rfl
set_option maxRecDepth 20000 in
theorem gk_f158_39 : gd_fetch 158 39 = some (39, .ior, 1, 0, 0, 0, 0, 0) := rfl
set_option maxRecDepth 20000 in
theorem gk_f158_40 : gd_fetch 158 40 = some (40, .iastore, 1, 0, 0, 0, 0, 0) := rfl
set_option maxRecDepth 20000 in
theorem gk_f158_41 : gd_fetch 158 41 = some (41, .iconst 1, 1, 0, 0, 0, 0, 0) := rfl
set_option maxRecDepth 20000 in
theorem gk_f158_42 : gd_fetch 158 42 = some (42, .ireturn, 1, 0, 0, 0, 0, 0) := rfl
set_option maxRecDepth 20000 in
set_option maxHeartbeats 4000000 in
theorem q_X_withdraw (r0 : Nat) (x1 : Int32) (x2 : Int32) (m : gd_M) : gd_call 158 [.ref r0, .int x1, .int x2] m = if gd_ok (gN m) r0 6 = true then ((gd_call 92 [.ref r0, .int x1] m).bind (gd_kI fun z4 m2 => if (z4 = 0 : Prop) then (some (.int (-2), m2)) else ((gd_call 156 [.int x2] m2).bind (gd_k0I fun z9 m7 => if (z9 = 0 : Prop) then (some (.int (-2), m7)) else (if gd_ok (gN m7) r0 6 = true then ((gd_call 157 [.ref r0, .int x1, .int x2] m7).bind (gd_kI fun z15 m13 => if (z15 = 0 : Prop) then (if gd_ok (gN m13) r0 6 = true then (if gd_okA (gN m13) (gR m13 r0 6) 10 x1 = true then (some (.int 1, (wI m13 (gR m13 r0 6) (x1 : Int32).toNatClampNeg ((gI m13 (gR m13 r0 6) (x1 : Int32).toNatClampNeg) ||| ((1 : Int32) <<< (x2 &&& 31)))))) else none) else none) else (some (.int (-1), m13)))) else none))))) else none := by
  refine Eq.trans (show gd_call 158 [.ref r0, .int x1, .int x2] m = gd_Den (158, 0, [.ref r0, .int x1, .int x2], [], m) from by unfold gd_call gd_ent; rw [gk_ml158]; rfl) ?_
  refine Eq.trans (D_aload_n (x := r0) gk_f158_0 rfl) ?_
  refine Eq.trans (D_iload_n (x := x1) gk_f158_1 rfl) ?_
  refine Eq.trans (D_ivZ (cl := 6) (args := [.ref r0, .int x1]) (rest := []) gk_f158_2 rfl rfl (gd_rmk gk_rm158_92 gk_ln92 gk_ml92 rfl rfl rfl) gk_rk92 (gd_hnd_n gk_nc158) gk_nc92 gk_n11_92 gk_cl92) ?_
  refine gd_ite (fun h1 => ?_) (fun _ => rfl)
  refine gd_bnd (gd_kI_c fun z4 m2 => ?_)
  refine Eq.trans (D_if_eq (t := 15) gk_f158_5 (by decide)) ?_
  refine gd_ite (fun h5 => ?_) (fun h6 => ?_)
  · refine Eq.trans (D_bipush (x := (-2)) gk_f158_15 gk_b_m2) ?_
    refine Eq.trans (D_ireturn gk_f158_17 gk_rk158) ?_
    rfl
  · refine Eq.trans (D_iload_n (x := x2) gk_f158_8 rfl) ?_
    refine Eq.trans (D_isZ (args := [.int x2]) (rest := []) gk_f158_9 rfl rfl rfl (gd_rmk gk_rm158_156 gk_ln156 gk_ml156 rfl rfl rfl) gk_rk156 (gd_hnd_n gk_nc158)) ?_
    refine gd_bnd (gd_k0I_c fun z9 m7 => ?_)
    refine Eq.trans (D_if_ne (t := 18) gk_f158_12 (by decide)) ?_
    refine gd_ite (fun h10 => ?_) (fun h11 => ?_)
    · refine Eq.trans (D_bipush (x := (-2)) gk_f158_15 gk_b_m2) ?_
      refine Eq.trans (D_ireturn gk_f158_17 gk_rk158) ?_
      rfl
    · refine Eq.trans (D_aload_n (x := r0) gk_f158_18 rfl) ?_
      refine Eq.trans (D_iload_n (x := x1) gk_f158_19 rfl) ?_
      refine Eq.trans (D_iload_n (x := x2) gk_f158_20 rfl) ?_
      refine Eq.trans (D_ivZ (cl := 6) (args := [.ref r0, .int x1, .int x2]) (rest := []) gk_f158_21 rfl rfl (gd_rmk gk_rm158_157 gk_ln157 gk_ml157 rfl rfl rfl) gk_rk157 (gd_hnd_n gk_nc158) gk_nc157 gk_n11_157 gk_cl157) ?_
      refine gd_ite (fun h12 => ?_) (fun _ => rfl)
      refine gd_bnd (gd_kI_c fun z15 m13 => ?_)
      refine Eq.trans (D_if_eq (t := 29) gk_f158_24 (by decide)) ?_
      refine gd_ite (fun h16 => ?_) (fun h17 => ?_)
      · refine Eq.trans (D_aload_n (x := r0) gk_f158_29 rfl) ?_
        refine Eq.trans (D_gfR gk_f158_30 (by decide)) ?_
        refine gd_ite (fun h18 => ?_) (fun _ => rfl)
        refine Eq.trans (D_iload_n (x := x1) gk_f158_33 rfl) ?_
        refine Eq.trans (D_dup2 gk_f158_34) ?_
        refine Eq.trans (D_iald gk_f158_35 gk_n10_158) ?_
        refine gd_ite (fun h19 => ?_) (fun _ => rfl)
        refine Eq.trans (D_iconst (x := 1) gk_f158_36 gk_c_1) ?_
        refine Eq.trans (D_iload_n (x := x2) gk_f158_37 rfl) ?_
        refine Eq.trans (D_ishl gk_f158_38) ?_
        refine Eq.trans (D_ior gk_f158_39) ?_
        refine Eq.trans (D_iast gk_f158_40) ?_
        refine Eq.trans (if_pos h19) ?_
        refine Eq.trans (D_iconst (x := 1) gk_f158_41 gk_c_1) ?_
        refine Eq.trans (D_ireturn gk_f158_42 gk_rk158) ?_
        rfl
      · refine Eq.trans (D_iconst (x := (-1)) gk_f158_27 gk_c_m1) ?_
        refine Eq.trans (D_ireturn gk_f158_28 gk_rk158) ?_
        rfl
/-! GymDeskModel.withdraw (II)I -/
set_option maxRecDepth 20000 in
theorem gk_f159_0 : gd_fetch 159 0 = some (0, .aload_n 0, 1, 0, 0, 0, 0, 0) := rfl
set_option maxRecDepth 20000 in
theorem gk_f159_1 : gd_fetch 159 1 = some (1, .iload_n 1, 1, 0, 0, 0, 0, 0) := rfl
set_option maxRecDepth 20000 in
theorem gk_f159_2 : gd_fetch 159 2 = some (2, .invokevirtual 332, 3, 1411, 97, 1, 0, 0) := rfl
set_option maxRecDepth 20000 in
theorem gk_f159_5 : gd_fetch 159 5 = some (5, .ifCond .eq 12, 3, 0, 0, 0, 0, 0) := rfl
set_option maxRecDepth 20000 in
theorem gk_f159_8 : gd_fetch 159 8 = some (8, .iload_n 2, 1, 0, 0, 0, 0, 0) := rfl
set_option maxRecDepth 20000 in
theorem gk_f159_9 : gd_fetch 159 9 = some (9, .iconst 0, 1, 0, 0, 0, 0, 0) := rfl
set_option maxRecDepth 20000 in
theorem gk_f159_10 : gd_fetch 159 10 = some (10, .iconst 4, 1, 0, 0, 0, 0, 0) := rfl
set_option maxRecDepth 20000 in
theorem gk_f159_11 : gd_fetch 159 11 = some (11, .invokestatic 192, 3, 1360, 71, 3, 0, 0) := rfl
set_option maxRecDepth 20000 in
theorem gk_f159_14 : gd_fetch 159 14 = some (14, .ifCond .ne 6, 3, 0, 0, 0, 0, 0) := rfl
set_option maxRecDepth 20000 in
theorem gk_f159_17 : gd_fetch 159 17 = some (17, .bipush (-2), 2, 0, 0, 0, 0, 0) := rfl
set_option maxRecDepth 20000 in
theorem gk_f159_19 : gd_fetch 159 19 = some (19, .ireturn, 1, 0, 0, 0, 0, 0) := rfl
set_option maxRecDepth 20000 in
theorem gk_f159_20 : gd_fetch 159 20 = some (20, .aload_n 0, 1, 0, 0, 0, 0, 0) := rfl
set_option maxRecDepth 20000 in
theorem gk_f159_21 : gd_fetch 159 21 = some (21, .getfield 48, 3, 1185, 9, 22, 4, 1) := rfl
set_option maxRecDepth 20000 in
theorem gk_f159_24 : gd_fetch 159 24 = some (24, .iconst 5, 1, 0, 0, 0, 0, 0) := rfl
set_option maxRecDepth 20000 in
theorem gk_f159_25 : gd_fetch 159 25 = some (25, .iload_n 1, 1, 0, 0, 0, 0, 0) := rfl
set_option maxRecDepth 20000 in
theorem gk_f159_26 : gd_fetch 159 26 = some (26, .imul, 1, 0, 0, 0, 0, 0) := rfl
set_option maxRecDepth 20000 in
theorem gk_f159_27 : gd_fetch 159 27 = some (27, .iload_n 2, 1, 0, 0, 0, 0, 0) := rfl
set_option maxRecDepth 20000 in
theorem gk_f159_28 : gd_fetch 159 28 = some (28, .iadd, 1, 0, 0, 0, 0, 0) := rfl
set_option maxRecDepth 20000 in
theorem gk_f159_29 : gd_fetch 159 29 = some (29, .baload, 1, 0, 0, 0, 0, 0) := rfl
set_option maxRecDepth 20000 in
theorem gk_f159_30 : gd_fetch 159 30 = some (30, .ifCond .eq 5, 3, 0, 0, 0, 0, 0) := rfl
set_option maxRecDepth 20000 in
theorem gk_f159_33 : gd_fetch 159 33 = some (33, .iconst (-1), 1, 0, 0, 0, 0, 0) := rfl
set_option maxRecDepth 20000 in
theorem gk_f159_34 : gd_fetch 159 34 = some (34, .ireturn, 1, 0, 0, 0, 0, 0) := rfl
set_option maxRecDepth 20000 in
theorem gk_f159_35 : gd_fetch 159 35 = some (35, .aload_n 0, 1, 0, 0, 0, 0, 0) := rfl
set_option maxRecDepth 20000 in
theorem gk_f159_36 : gd_fetch 159 36 = some (36, .getfield 48, 3, 1185, 9, 22, 4, 1) := rfl
set_option maxRecDepth 20000 in
theorem gk_f159_39 : gd_fetch 159 39 = some (39, .iconst 5, 1, 0, 0, 0, 0, 0) := rfl
set_option maxRecDepth 20000 in
theorem gk_f159_40 : gd_fetch 159 40 = some (40, .iload_n 1, 1, 0, 0, 0, 0, 0) := rfl
set_option maxRecDepth 20000 in
theorem gk_f159_41 : gd_fetch 159 41 = some (41, .imul, 1, 0, 0, 0, 0, 0) := rfl
set_option maxRecDepth 20000 in
theorem gk_f159_42 : gd_fetch 159 42 = some (42, .iload_n 2, 1, 0, 0, 0, 0, 0) := rfl
set_option maxRecDepth 20000 in
theorem gk_f159_43 : gd_fetch 159 43 = some (43, .iadd, 1, 0, 0, 0, 0, 0) := rfl
set_option maxRecDepth 20000 in
theorem gk_f159_44 : gd_fetch 159 44 = some (44, .iconst 1, 1, 0, 0, 0, 0, 0) := rfl
set_option maxRecDepth 20000 in
theorem gk_f159_45 : gd_fetch 159 45 = some (45, .bastore, 1, 0, 0, 0, 0, 0) := rfl
set_option maxRecDepth 20000 in
theorem gk_f159_46 : gd_fetch 159 46 = some (46, .iconst 1, 1, 0, 0, 0, 0, 0) := rfl
set_option maxRecDepth 20000 in
theorem gk_f159_47 : gd_fetch 159 47 = some (47, .ireturn, 1, 0, 0, 0, 0, 0) := rfl
set_option maxRecDepth 20000 in
set_option maxHeartbeats 4000000 in
theorem q_Mo_withdraw (r0 : Nat) (x1 : Int32) (x2 : Int32) (m : gd_M) : gd_call 159 [.ref r0, .int x1, .int x2] m = if gd_ok (gN m) r0 9 = true then ((gd_call 97 [.ref r0, .int x1] m).bind (gd_kI fun z4 m2 => if (z4 = 0 : Prop) then (some (.int (-2), m2)) else ((gd_call 71 [.int x2, .int 0, .int 4] m2).bind (gd_k0I fun z9 m7 => if (z9 = 0 : Prop) then (some (.int (-2), m7)) else (if gd_ok (gN m7) r0 9 = true then (if gd_okA (gN m7) (gR m7 r0 22) 11 ((5 * x1) + x2) = true then (if ((gI m7 (gR m7 r0 22) (((5 * x1) + x2) : Int32).toNatClampNeg) = 0 : Prop) then (some (.int 1, (wI m7 (gR m7 r0 22) (((5 * x1) + x2) : Int32).toNatClampNeg (vp_nar .boolean 1)))) else (some (.int (-1), m7))) else none) else none))))) else none := by
  refine Eq.trans (show gd_call 159 [.ref r0, .int x1, .int x2] m = gd_Den (159, 0, [.ref r0, .int x1, .int x2], [], m) from by unfold gd_call gd_ent; rw [gk_ml159]; rfl) ?_
  refine Eq.trans (D_aload_n (x := r0) gk_f159_0 rfl) ?_
  refine Eq.trans (D_iload_n (x := x1) gk_f159_1 rfl) ?_
  refine Eq.trans (D_ivZ (cl := 9) (args := [.ref r0, .int x1]) (rest := []) gk_f159_2 rfl rfl (gd_rmk gk_rm159_97 gk_ln97 gk_ml97 rfl rfl rfl) gk_rk97 (gd_hnd_n gk_nc159) gk_nc97 gk_n11_97 gk_cl97) ?_
  refine gd_ite (fun h1 => ?_) (fun _ => rfl)
  refine gd_bnd (gd_kI_c fun z4 m2 => ?_)
  refine Eq.trans (D_if_eq (t := 17) gk_f159_5 (by decide)) ?_
  refine gd_ite (fun h5 => ?_) (fun h6 => ?_)
  · refine Eq.trans (D_bipush (x := (-2)) gk_f159_17 gk_b_m2) ?_
    refine Eq.trans (D_ireturn gk_f159_19 gk_rk159) ?_
    rfl
  · refine Eq.trans (D_iload_n (x := x2) gk_f159_8 rfl) ?_
    refine Eq.trans (D_iconst (x := 0) gk_f159_9 gk_c_0) ?_
    refine Eq.trans (D_iconst (x := 4) gk_f159_10 gk_c_4) ?_
    refine Eq.trans (D_isZ (args := [.int x2, .int 0, .int 4]) (rest := []) gk_f159_11 rfl rfl rfl (gd_rmk gk_rm159_71 gk_ln71 gk_ml71 rfl rfl rfl) gk_rk71 (gd_hnd_n gk_nc159)) ?_
    refine gd_bnd (gd_k0I_c fun z9 m7 => ?_)
    refine Eq.trans (D_if_ne (t := 20) gk_f159_14 (by decide)) ?_
    refine gd_ite (fun h10 => ?_) (fun h11 => ?_)
    · refine Eq.trans (D_bipush (x := (-2)) gk_f159_17 gk_b_m2) ?_
      refine Eq.trans (D_ireturn gk_f159_19 gk_rk159) ?_
      rfl
    · refine Eq.trans (D_aload_n (x := r0) gk_f159_20 rfl) ?_
      refine Eq.trans (D_gfR gk_f159_21 (by decide)) ?_
      refine gd_ite (fun h12 => ?_) (fun _ => rfl)
      refine Eq.trans (D_iconst (x := 5) gk_f159_24 gk_c_5) ?_
      refine Eq.trans (D_iload_n (x := x1) gk_f159_25 rfl) ?_
      refine Eq.trans (D_imul gk_f159_26) ?_
      refine Eq.trans (D_iload_n (x := x2) gk_f159_27 rfl) ?_
      refine Eq.trans (D_iadd gk_f159_28) ?_
      refine Eq.trans (D_bald (kd := 11) gk_f159_29 gk_n12_159 gk_bk159) ?_
      refine gd_ite (fun h13 => ?_) (fun _ => rfl)
      refine Eq.trans (D_if_eq (t := 35) gk_f159_30 (by decide)) ?_
      refine gd_ite (fun h14 => ?_) (fun h15 => ?_)
      · refine Eq.trans (D_aload_n (x := r0) gk_f159_35 rfl) ?_
        refine Eq.trans (D_gfR gk_f159_36 (by decide)) ?_
        refine Eq.trans (if_pos h12) ?_
        refine Eq.trans (D_iconst (x := 5) gk_f159_39 gk_c_5) ?_
        refine Eq.trans (D_iload_n (x := x1) gk_f159_40 rfl) ?_
        refine Eq.trans (D_imul gk_f159_41) ?_
        refine Eq.trans (D_iload_n (x := x2) gk_f159_42 rfl) ?_
        refine Eq.trans (D_iadd gk_f159_43) ?_
        refine Eq.trans (D_iconst (x := 1) gk_f159_44 gk_c_1) ?_
        refine Eq.trans (D_bastZ gk_f159_45 gk_b12_159) ?_
        refine Eq.trans (if_pos h13) ?_
        refine Eq.trans (D_iconst (x := 1) gk_f159_46 gk_c_1) ?_
        refine Eq.trans (D_ireturn gk_f159_47 gk_rk159) ?_
        rfl
      · refine Eq.trans (D_iconst (x := (-1)) gk_f159_33 gk_c_m1) ?_
        refine Eq.trans (D_ireturn gk_f159_34 gk_rk159) ?_
        rfl
/-! GymDesk$Ranking.clear ()V -/
set_option maxRecDepth 20000 in
theorem gk_f160_0 : gd_fetch 160 0 = some (0, .aload_n 0, 1, 0, 0, 0, 0, 0) := rfl
set_option maxRecDepth 20000 in
theorem gk_f160_1 : gd_fetch 160 1 = some (1, .iconst 0, 1, 0, 0, 0, 0, 0) := rfl
set_option maxRecDepth 20000 in
theorem gk_f160_2 : gd_fetch 160 2 = some (2, .putfield 30, 3, 285, 2, 6, 0, 0) := rfl
set_option maxRecDepth 20000 in
theorem gk_f160_5 : gd_fetch 160 5 = some (5, .aload_n 0, 1, 0, 0, 0, 0, 0) := rfl
set_option maxRecDepth 20000 in
theorem gk_f160_6 : gd_fetch 160 6 = some (6, .iconst 0, 1, 0, 0, 0, 0, 0) := rfl
set_option maxRecDepth 20000 in
theorem gk_f160_7 : gd_fetch 160 7 = some (7, .putfield 34, 3, 287, 2, 7, 0, 0) := rfl
set_option maxRecDepth 20000 in
theorem gk_f160_10 : gd_fetch 160 10 = some (10, .return_, 1, 0, 0, 0, 0, 0) := rfl
set_option maxRecDepth 20000 in
set_option maxHeartbeats 4000000 in
theorem q_Ra_clear (r0 : Nat) (m : gd_M) : gd_call 160 [.ref r0] m = if gd_ok (gN m) r0 2 = true then (some (.null, (wI (wI m r0 6 0) r0 7 0))) else none := by
  refine Eq.trans (show gd_call 160 [.ref r0] m = gd_Den (160, 0, [.ref r0], [], m) from by unfold gd_call gd_ent; rw [gk_ml160]; rfl) ?_
  refine Eq.trans (D_aload_n (x := r0) gk_f160_0 rfl) ?_
  refine Eq.trans (D_iconst (x := 0) gk_f160_1 gk_c_0) ?_
  refine Eq.trans (D_pfI gk_f160_2) ?_
  refine gd_ite (fun h1 => ?_) (fun _ => rfl)
  refine Eq.trans (D_aload_n (x := r0) gk_f160_5 rfl) ?_
  refine Eq.trans (D_iconst (x := 0) gk_f160_6 gk_c_0) ?_
  refine Eq.trans (D_pfI gk_f160_7) ?_
  refine Eq.trans (if_pos h1) ?_
  refine Eq.trans (D_vreturn gk_f160_10 gk_rk160) ?_
  rfl
/-! GymDesk$Ranking.isBetter (II)Z -/
set_option maxRecDepth 20000 in
theorem gk_f161_0 : gd_fetch 161 0 = some (0, .aload_n 0, 1, 0, 0, 0, 0, 0) := rfl
set_option maxRecDepth 20000 in
theorem gk_f161_1 : gd_fetch 161 1 = some (1, .getfield 15, 3, 278, 2, 1, 4, 1) := rfl
set_option maxRecDepth 20000 in
theorem gk_f161_4 : gd_fetch 161 4 = some (4, .iload_n 1, 1, 0, 0, 0, 0, 0) := rfl
set_option maxRecDepth 20000 in
theorem gk_f161_5 : gd_fetch 161 5 = some (5, .iaload, 1, 0, 0, 0, 0, 0) := rfl
set_option maxRecDepth 20000 in
theorem gk_f161_6 : gd_fetch 161 6 = some (6, .aload_n 0, 1, 0, 0, 0, 0, 0) := rfl
set_option maxRecDepth 20000 in
theorem gk_f161_7 : gd_fetch 161 7 = some (7, .getfield 15, 3, 278, 2, 1, 4, 1) := rfl
set_option maxRecDepth 20000 in
theorem gk_f161_10 : gd_fetch 161 10 = some (10, .iload_n 2, 1, 0, 0, 0, 0, 0) := rfl
set_option maxRecDepth 20000 in
theorem gk_f161_11 : gd_fetch 161 11 = some (11, .iaload, 1, 0, 0, 0, 0, 0) := rfl
set_option maxRecDepth 20000 in
theorem gk_f161_12 : gd_fetch 161 12 = some (12, .if_icmp .eq 24, 3, 0, 0, 0, 0, 0) := rfl
set_option maxRecDepth 20000 in
theorem gk_f161_15 : gd_fetch 161 15 = some (15, .aload_n 0, 1, 0, 0, 0, 0, 0) := rfl
set_option maxRecDepth 20000 in
theorem gk_f161_16 : gd_fetch 161 16 = some (16, .getfield 15, 3, 278, 2, 1, 4, 1) := rfl
set_option maxRecDepth 20000 in
theorem gk_f161_19 : gd_fetch 161 19 = some (19, .iload_n 1, 1, 0, 0, 0, 0, 0) := rfl
set_option maxRecDepth 20000 in
theorem gk_f161_20 : gd_fetch 161 20 = some (20, .iaload, 1, 0, 0, 0, 0, 0) := rfl
set_option maxRecDepth 20000 in
theorem gk_f161_21 : gd_fetch 161 21 = some (21, .aload_n 0, 1, 0, 0, 0, 0, 0) := rfl
set_option maxRecDepth 20000 in
theorem gk_f161_22 : gd_fetch 161 22 = some (22, .getfield 15, 3, 278, 2, 1, 4, 1) := rfl
set_option maxRecDepth 20000 in
theorem gk_f161_25 : gd_fetch 161 25 = some (25, .iload_n 2, 1, 0, 0, 0, 0, 0) := rfl
set_option maxRecDepth 20000 in
theorem gk_f161_26 : gd_fetch 161 26 = some (26, .iaload, 1, 0, 0, 0, 0, 0) := rfl
set_option maxRecDepth 20000 in
theorem gk_f161_27 : gd_fetch 161 27 = some (27, .if_icmp .le 7, 3, 0, 0, 0, 0, 0) := rfl
set_option maxRecDepth 20000 in
theorem gk_f161_30 : gd_fetch 161 30 = some (30, .iconst 1, 1, 0, 0, 0, 0, 0) := rfl
set_option maxRecDepth 20000 in
theorem gk_f161_31 : gd_fetch 161 31 = some (31, .goto 4, 3, 0, 0, 0, 0, 0) := rfl
set_option maxRecDepth 20000 in
theorem gk_f161_34 : gd_fetch 161 34 = some (34, .iconst 0, 1, 0, 0, 0, 0, 0) := rfl
set_option maxRecDepth 20000 in
theorem gk_f161_35 : gd_fetch 161 35 = some (35, .ireturn, 1, 0, 0, 0, 0, 0) := rfl
set_option maxRecDepth 20000 in
theorem gk_f161_36 : gd_fetch 161 36 = some (36, .aload_n 0, 1, 0, 0, 0, 0, 0) := rfl
set_option maxRecDepth 20000 in
theorem gk_f161_37 : gd_fetch 161 37 = some (37, .getfield 18, 3, 280, 2, 2, 4, 1) := rfl
set_option maxRecDepth 20000 in
theorem gk_f161_40 : gd_fetch 161 40 = some (40, .iload_n 1, 1, 0, 0, 0, 0, 0) := rfl
set_option maxRecDepth 20000 in
theorem gk_f161_41 : gd_fetch 161 41 = some (41, .iaload, 1, 0, 0, 0, 0, 0) := rfl
set_option maxRecDepth 20000 in
theorem gk_f161_42 : gd_fetch 161 42 = some (42, .aload_n 0, 1, 0, 0, 0, 0, 0) := rfl
set_option maxRecDepth 20000 in
theorem gk_f161_43 : gd_fetch 161 43 = some (43, .getfield 18, 3, 280, 2, 2, 4, 1) := rfl
set_option maxRecDepth 20000 in
theorem gk_f161_46 : gd_fetch 161 46 = some (46, .iload_n 2, 1, 0, 0, 0, 0, 0) := rfl
set_option maxRecDepth 20000 in
theorem gk_f161_47 : gd_fetch 161 47 = some (47, .iaload, 1, 0, 0, 0, 0, 0) := rfl
set_option maxRecDepth 20000 in
theorem gk_f161_48 : gd_fetch 161 48 = some (48, .if_icmp .eq 24, 3, 0, 0, 0, 0, 0) := rfl
set_option maxRecDepth 20000 in
theorem gk_f161_51 : gd_fetch 161 51 = some (51, .aload_n 0, 1, 0, 0, 0, 0, 0) := rfl
set_option maxRecDepth 20000 in
theorem gk_f161_52 : gd_fetch 161 52 = some (52, .getfield 18, 3, 280, 2, 2, 4, 1) := rfl
set_option maxRecDepth 20000 in
theorem gk_f161_55 : gd_fetch 161 55 = some (55, .iload_n 1, 1, 0, 0, 0, 0, 0) := rfl
set_option maxRecDepth 20000 in
theorem gk_f161_56 : gd_fetch 161 56 = some (56, .iaload, 1, 0, 0, 0, 0, 0) := rfl
set_option maxRecDepth 20000 in
theorem gk_f161_57 : gd_fetch 161 57 = some (57, .aload_n 0, 1, 0, 0, 0, 0, 0) := rfl
set_option maxRecDepth 20000 in
theorem gk_f161_58 : gd_fetch 161 58 = some (58, .getfield 18, 3, 280, 2, 2, 4, 1) := rfl
set_option maxRecDepth 20000 in
theorem gk_f161_61 : gd_fetch 161 61 = some (61, .iload_n 2, 1, 0, 0, 0, 0, 0) := rfl
set_option maxRecDepth 20000 in
theorem gk_f161_62 : gd_fetch 161 62 = some (62, .iaload, 1, 0, 0, 0, 0, 0) := rfl
set_option maxRecDepth 20000 in
theorem gk_f161_63 : gd_fetch 161 63 = some (63, .if_icmp .ge 7, 3, 0, 0, 0, 0, 0) := rfl
set_option maxRecDepth 20000 in
theorem gk_f161_66 : gd_fetch 161 66 = some (66, .iconst 1, 1, 0, 0, 0, 0, 0) := rfl
set_option maxRecDepth 20000 in
theorem gk_f161_67 : gd_fetch 161 67 = some (67, .goto 4, 3, 0, 0, 0, 0, 0) := rfl
set_option maxRecDepth 20000 in
theorem gk_f161_70 : gd_fetch 161 70 = some (70, .iconst 0, 1, 0, 0, 0, 0, 0) := rfl
set_option maxRecDepth 20000 in
theorem gk_f161_71 : gd_fetch 161 71 = some (71, .ireturn, 1, 0, 0, 0, 0, 0) := rfl
set_option maxRecDepth 20000 in
theorem gk_f161_72 : gd_fetch 161 72 = some (72, .aload_n 0, 1, 0, 0, 0, 0, 0) := rfl
set_option maxRecDepth 20000 in
theorem gk_f161_73 : gd_fetch 161 73 = some (73, .getfield 21, 3, 281, 2, 3, 4, 1) := rfl
set_option maxRecDepth 20000 in
theorem gk_f161_76 : gd_fetch 161 76 = some (76, .iload_n 1, 1, 0, 0, 0, 0, 0) := rfl
set_option maxRecDepth 20000 in
theorem gk_f161_77 : gd_fetch 161 77 = some (77, .iaload, 1, 0, 0, 0, 0, 0) := rfl
set_option maxRecDepth 20000 in
theorem gk_f161_78 : gd_fetch 161 78 = some (78, .aload_n 0, 1, 0, 0, 0, 0, 0) := rfl
set_option maxRecDepth 20000 in
theorem gk_f161_79 : gd_fetch 161 79 = some (79, .getfield 21, 3, 281, 2, 3, 4, 1) := rfl
set_option maxRecDepth 20000 in
theorem gk_f161_82 : gd_fetch 161 82 = some (82, .iload_n 2, 1, 0, 0, 0, 0, 0) := rfl
set_option maxRecDepth 20000 in
theorem gk_f161_83 : gd_fetch 161 83 = some (83, .iaload, 1, 0, 0, 0, 0, 0) := rfl
set_option maxRecDepth 20000 in
theorem gk_f161_84 : gd_fetch 161 84 = some (84, .if_icmp .le 7, 3, 0, 0, 0, 0, 0) := rfl
set_option maxRecDepth 20000 in
theorem gk_f161_87 : gd_fetch 161 87 = some (87, .iconst 1, 1, 0, 0, 0, 0, 0) := rfl
set_option maxRecDepth 20000 in
theorem gk_f161_88 : gd_fetch 161 88 = some (88, .goto 4, 3, 0, 0, 0, 0, 0) := rfl
set_option maxRecDepth 20000 in
theorem gk_f161_91 : gd_fetch 161 91 = some (91, .iconst 0, 1, 0, 0, 0, 0, 0) := rfl
set_option maxRecDepth 20000 in
theorem gk_f161_92 : gd_fetch 161 92 = some (92, .ireturn, 1, 0, 0, 0, 0, 0) := rfl
set_option maxRecDepth 20000 in
set_option maxHeartbeats 4000000 in
theorem q_Ra_isBetter (r0 : Nat) (x1 : Int32) (x2 : Int32) (m : gd_M) : gd_call 161 [.ref r0, .int x1, .int x2] m = if gd_ok (gN m) r0 2 = true then (if gd_okA (gN m) (gR m r0 1) 10 x1 = true then (if gd_okA (gN m) (gR m r0 1) 10 x2 = true then (if ((gI m (gR m r0 1) (x1 : Int32).toNatClampNeg) = (gI m (gR m r0 1) (x2 : Int32).toNatClampNeg) : Prop) then (if gd_okA (gN m) (gR m r0 2) 10 x1 = true then (if gd_okA (gN m) (gR m r0 2) 10 x2 = true then (if ((gI m (gR m r0 2) (x1 : Int32).toNatClampNeg) = (gI m (gR m r0 2) (x2 : Int32).toNatClampNeg) : Prop) then (if gd_okA (gN m) (gR m r0 3) 10 x1 = true then (if gd_okA (gN m) (gR m r0 3) 10 x2 = true then (if ((gI m (gR m r0 3) (x2 : Int32).toNatClampNeg) < (gI m (gR m r0 3) (x1 : Int32).toNatClampNeg) : Prop) then (some (.int 1, m)) else (some (.int 0, m))) else none) else none) else (if ((gI m (gR m r0 2) (x1 : Int32).toNatClampNeg) < (gI m (gR m r0 2) (x2 : Int32).toNatClampNeg) : Prop) then (some (.int 1, m)) else (some (.int 0, m)))) else none) else none) else (if ((gI m (gR m r0 1) (x2 : Int32).toNatClampNeg) < (gI m (gR m r0 1) (x1 : Int32).toNatClampNeg) : Prop) then (some (.int 1, m)) else (some (.int 0, m)))) else none) else none) else none := by
  refine Eq.trans (show gd_call 161 [.ref r0, .int x1, .int x2] m = gd_Den (161, 0, [.ref r0, .int x1, .int x2], [], m) from by unfold gd_call gd_ent; rw [gk_ml161]; rfl) ?_
  refine Eq.trans (D_aload_n (x := r0) gk_f161_0 rfl) ?_
  refine Eq.trans (D_gfR gk_f161_1 (by decide)) ?_
  refine gd_ite (fun h1 => ?_) (fun _ => rfl)
  refine Eq.trans (D_iload_n (x := x1) gk_f161_4 rfl) ?_
  refine Eq.trans (D_iald gk_f161_5 gk_n10_161) ?_
  refine gd_ite (fun h2 => ?_) (fun _ => rfl)
  refine Eq.trans (D_aload_n (x := r0) gk_f161_6 rfl) ?_
  refine Eq.trans (D_gfR gk_f161_7 (by decide)) ?_
  refine Eq.trans (if_pos h1) ?_
  refine Eq.trans (D_iload_n (x := x2) gk_f161_10 rfl) ?_
  refine Eq.trans (D_iald gk_f161_11 gk_n10_161) ?_
  refine gd_ite (fun h3 => ?_) (fun _ => rfl)
  refine Eq.trans (D_ic_eq (t := 36) gk_f161_12 (by decide)) ?_
  refine gd_ite (fun h4 => ?_) (fun h5 => ?_)
  · refine Eq.trans (D_aload_n (x := r0) gk_f161_36 rfl) ?_
    refine Eq.trans (D_gfR gk_f161_37 (by decide)) ?_
    refine Eq.trans (if_pos h1) ?_
    refine Eq.trans (D_iload_n (x := x1) gk_f161_40 rfl) ?_
    refine Eq.trans (D_iald gk_f161_41 gk_n10_161) ?_
    refine gd_ite (fun h6 => ?_) (fun _ => rfl)
    refine Eq.trans (D_aload_n (x := r0) gk_f161_42 rfl) ?_
    refine Eq.trans (D_gfR gk_f161_43 (by decide)) ?_
    refine Eq.trans (if_pos h1) ?_
    refine Eq.trans (D_iload_n (x := x2) gk_f161_46 rfl) ?_
    refine Eq.trans (D_iald gk_f161_47 gk_n10_161) ?_
    refine gd_ite (fun h7 => ?_) (fun _ => rfl)
    refine Eq.trans (D_ic_eq (t := 72) gk_f161_48 (by decide)) ?_
    refine gd_ite (fun h8 => ?_) (fun h9 => ?_)
    · refine Eq.trans (D_aload_n (x := r0) gk_f161_72 rfl) ?_
      refine Eq.trans (D_gfR gk_f161_73 (by decide)) ?_
      refine Eq.trans (if_pos h1) ?_
      refine Eq.trans (D_iload_n (x := x1) gk_f161_76 rfl) ?_
      refine Eq.trans (D_iald gk_f161_77 gk_n10_161) ?_
      refine gd_ite (fun h10 => ?_) (fun _ => rfl)
      refine Eq.trans (D_aload_n (x := r0) gk_f161_78 rfl) ?_
      refine Eq.trans (D_gfR gk_f161_79 (by decide)) ?_
      refine Eq.trans (if_pos h1) ?_
      refine Eq.trans (D_iload_n (x := x2) gk_f161_82 rfl) ?_
      refine Eq.trans (D_iald gk_f161_83 gk_n10_161) ?_
      refine gd_ite (fun h11 => ?_) (fun _ => rfl)
      refine Eq.trans (D_ic_le (t := 91) gk_f161_84 (by decide)) ?_
      refine gd_ite (fun h12 => ?_) (fun h13 => ?_)
      · refine Eq.trans (D_iconst (x := 1) gk_f161_87 gk_c_1) ?_
        refine Eq.trans (D_goto (t := 92) gk_f161_88 (by decide)) ?_
        refine Eq.trans (D_zreturn gk_f161_92 gk_rk161) ?_
        exact if_pos rfl
      · refine Eq.trans (D_iconst (x := 0) gk_f161_91 gk_c_0) ?_
        refine Eq.trans (D_zreturn gk_f161_92 gk_rk161) ?_
        exact if_pos rfl
    · refine Eq.trans (D_aload_n (x := r0) gk_f161_51 rfl) ?_
      refine Eq.trans (D_gfR gk_f161_52 (by decide)) ?_
      refine Eq.trans (if_pos h1) ?_
      refine Eq.trans (D_iload_n (x := x1) gk_f161_55 rfl) ?_
      refine Eq.trans (D_iald gk_f161_56 gk_n10_161) ?_
      refine Eq.trans (if_pos h6) ?_
      refine Eq.trans (D_aload_n (x := r0) gk_f161_57 rfl) ?_
      refine Eq.trans (D_gfR gk_f161_58 (by decide)) ?_
      refine Eq.trans (if_pos h1) ?_
      refine Eq.trans (D_iload_n (x := x2) gk_f161_61 rfl) ?_
      refine Eq.trans (D_iald gk_f161_62 gk_n10_161) ?_
      refine Eq.trans (if_pos h7) ?_
      refine Eq.trans (D_ic_ge (t := 70) gk_f161_63 (by decide)) ?_
      refine gd_ite (fun h14 => ?_) (fun h15 => ?_)
      · refine Eq.trans (D_iconst (x := 1) gk_f161_66 gk_c_1) ?_
        refine Eq.trans (D_goto (t := 71) gk_f161_67 (by decide)) ?_
        refine Eq.trans (D_zreturn gk_f161_71 gk_rk161) ?_
        exact if_pos rfl
      · refine Eq.trans (D_iconst (x := 0) gk_f161_70 gk_c_0) ?_
        refine Eq.trans (D_zreturn gk_f161_71 gk_rk161) ?_
        exact if_pos rfl
  · refine Eq.trans (D_aload_n (x := r0) gk_f161_15 rfl) ?_
    refine Eq.trans (D_gfR gk_f161_16 (by decide)) ?_
    refine Eq.trans (if_pos h1) ?_
    refine Eq.trans (D_iload_n (x := x1) gk_f161_19 rfl) ?_
    refine Eq.trans (D_iald gk_f161_20 gk_n10_161) ?_
    refine Eq.trans (if_pos h2) ?_
    refine Eq.trans (D_aload_n (x := r0) gk_f161_21 rfl) ?_
    refine Eq.trans (D_gfR gk_f161_22 (by decide)) ?_
    refine Eq.trans (if_pos h1) ?_
    refine Eq.trans (D_iload_n (x := x2) gk_f161_25 rfl) ?_
    refine Eq.trans (D_iald gk_f161_26 gk_n10_161) ?_
    refine Eq.trans (if_pos h3) ?_
    refine Eq.trans (D_ic_le (t := 34) gk_f161_27 (by decide)) ?_
    refine gd_ite (fun h16 => ?_) (fun h17 => ?_)
    · refine Eq.trans (D_iconst (x := 1) gk_f161_30 gk_c_1) ?_
      refine Eq.trans (D_goto (t := 35) gk_f161_31 (by decide)) ?_
      refine Eq.trans (D_zreturn gk_f161_35 gk_rk161) ?_
      exact if_pos rfl
    · refine Eq.trans (D_iconst (x := 0) gk_f161_34 gk_c_0) ?_
      refine Eq.trans (D_zreturn gk_f161_35 gk_rk161) ?_
      exact if_pos rfl
/-! GymDesk$Ranking.insert (IIII)V -/
set_option maxRecDepth 20000 in
theorem gk_f162_0 : gd_fetch 162 0 = some (0, .iload_n 1, 1, 0, 0, 0, 0, 0) := rfl
set_option maxRecDepth 20000 in
theorem gk_f162_1 : gd_fetch 162 1 = some (1, .ifCond .lt 18, 3, 0, 0, 0, 0, 0) := rfl
set_option maxRecDepth 20000 in
theorem gk_f162_4 : gd_fetch 162 4 = some (4, .iload_n 1, 1, 0, 0, 0, 0, 0) := rfl
set_option maxRecDepth 20000 in
theorem gk_f162_5 : gd_fetch 162 5 = some (5, .bipush 40, 2, 0, 0, 0, 0, 0) := rfl
set_option maxRecDepth 20000 in
theorem gk_f162_7 : gd_fetch 162 7 = some (7, .if_icmp .ge 12, 3, 0, 0, 0, 0, 0) := rfl
set_option maxRecDepth 20000 in
theorem gk_f162_10 : gd_fetch 162 10 = some (10, .aload_n 0, 1, 0, 0, 0, 0, 0) := rfl
set_option maxRecDepth 20000 in
theorem gk_f162_11 : gd_fetch 162 11 = some (11, .getfield 30, 3, 285, 2, 6, 0, 0) := rfl
set_option maxRecDepth 20000 in
theorem gk_f162_14 : gd_fetch 162 14 = some (14, .bipush 40, 2, 0, 0, 0, 0, 0) := rfl
set_option maxRecDepth 20000 in
theorem gk_f162_16 : gd_fetch 162 16 = some (16, .if_icmp .lt 4, 3, 0, 0, 0, 0, 0) := rfl
set_option maxRecDepth 20000 in
theorem gk_f162_19 : gd_fetch 162 19 = some (19, .return_, 1, 0, 0, 0, 0, 0) := rfl
set_option maxRecDepth 20000 in
theorem gk_f162_20 : gd_fetch 162 20 = some (20, .aload_n 0, 1, 0, 0, 0, 0, 0) := rfl
set_option maxRecDepth 20000 in
theorem gk_f162_21 : gd_fetch 162 21 = some (21, .getfield 15, 3, 278, 2, 1, 4, 1) := rfl
set_option maxRecDepth 20000 in
theorem gk_f162_24 : gd_fetch 162 24 = some (24, .iload_n 1, 1, 0, 0, 0, 0, 0) := rfl
set_option maxRecDepth 20000 in
theorem gk_f162_25 : gd_fetch 162 25 = some (25, .iload_n 2, 1, 0, 0, 0, 0, 0) := rfl
set_option maxRecDepth 20000 in
theorem gk_f162_26 : gd_fetch 162 26 = some (26, .iastore, 1, 0, 0, 0, 0, 0) := rfl
set_option maxRecDepth 20000 in
theorem gk_f162_27 : gd_fetch 162 27 = some (27, .aload_n 0, 1, 0, 0, 0, 0, 0) := rfl
set_option maxRecDepth 20000 in
theorem gk_f162_28 : gd_fetch 162 28 = some (28, .getfield 18, 3, 280, 2, 2, 4, 1) := rfl
set_option maxRecDepth 20000 in
theorem gk_f162_31 : gd_fetch 162 31 = some (31, .iload_n 1, 1, 0, 0, 0, 0, 0) := rfl
set_option maxRecDepth 20000 in
theorem gk_f162_32 : gd_fetch 162 32 = some (32, .iload_n 3, 1, 0, 0, 0, 0, 0) := rfl
set_option maxRecDepth 20000 in
theorem gk_f162_33 : gd_fetch 162 33 = some (33, .iastore, 1, 0, 0, 0, 0, 0) := rfl
set_option maxRecDepth 20000 in
theorem gk_f162_34 : gd_fetch 162 34 = some (34, .aload_n 0, 1, 0, 0, 0, 0, 0) := rfl
set_option maxRecDepth 20000 in
theorem gk_f162_35 : gd_fetch 162 35 = some (35, .getfield 21, 3, 281, 2, 3, 4, 1) := rfl
set_option maxRecDepth 20000 in
theorem gk_f162_38 : gd_fetch 162 38 = some (38, .iload_n 1, 1, 0, 0, 0, 0, 0) := rfl
set_option maxRecDepth 20000 in
theorem gk_f162_39 : gd_fetch 162 39 = some (39, .iload 4, 2, 0, 0, 0, 0, 0) := rfl
set_option maxRecDepth 20000 in
theorem gk_f162_41 : gd_fetch 162 41 = some (41, .iastore, 1, 0, 0, 0, 0, 0) := rfl
set_option maxRecDepth 20000 in
theorem gk_f162_42 : gd_fetch 162 42 = some (42, .aload_n 0, 1, 0, 0, 0, 0, 0) := rfl
set_option maxRecDepth 20000 in
theorem gk_f162_43 : gd_fetch 162 43 = some (43, .getfield 30, 3, 285, 2, 6, 0, 0) := rfl
set_option maxRecDepth 20000 in
theorem gk_f162_46 : gd_fetch 162 46 = some (46, .istore 5, 2, 0, 0, 0, 0, 0) := rfl
set_option maxRecDepth 20000 in
theorem gk_f162_48 : gd_fetch 162 48 = some (48, .iload 5, 2, 0, 0, 0, 0, 0) := rfl
set_option maxRecDepth 20000 in
theorem gk_f162_50 : gd_fetch 162 50 = some (50, .ifCond .le 42, 3, 0, 0, 0, 0, 0) := rfl
set_option maxRecDepth 20000 in
theorem gk_f162_53 : gd_fetch 162 53 = some (53, .aload_n 0, 1, 0, 0, 0, 0, 0) := rfl
set_option maxRecDepth 20000 in
theorem gk_f162_54 : gd_fetch 162 54 = some (54, .iload_n 1, 1, 0, 0, 0, 0, 0) := rfl
set_option maxRecDepth 20000 in
theorem gk_f162_55 : gd_fetch 162 55 = some (55, .aload_n 0, 1, 0, 0, 0, 0, 0) := rfl
set_option maxRecDepth 20000 in
theorem gk_f162_56 : gd_fetch 162 56 = some (56, .getfield 9, 3, 276, 2, 0, 4, 1) := rfl
set_option maxRecDepth 20000 in
theorem gk_f162_59 : gd_fetch 162 59 = some (59, .iload 5, 2, 0, 0, 0, 0, 0) := rfl
set_option maxRecDepth 20000 in
theorem gk_f162_61 : gd_fetch 162 61 = some (61, .iconst 1, 1, 0, 0, 0, 0, 0) := rfl
set_option maxRecDepth 20000 in
theorem gk_f162_62 : gd_fetch 162 62 = some (62, .isub, 1, 0, 0, 0, 0, 0) := rfl
set_option maxRecDepth 20000 in
theorem gk_f162_63 : gd_fetch 162 63 = some (63, .iaload, 1, 0, 0, 0, 0, 0) := rfl
set_option maxRecDepth 20000 in
theorem gk_f162_64 : gd_fetch 162 64 = some (64, .invokevirtual 37, 3, 892, 161, 2, 0, 0) := rfl
set_option maxRecDepth 20000 in
theorem gk_f162_67 : gd_fetch 162 67 = some (67, .ifCond .eq 25, 3, 0, 0, 0, 0, 0) := rfl
set_option maxRecDepth 20000 in
theorem gk_f162_70 : gd_fetch 162 70 = some (70, .aload_n 0, 1, 0, 0, 0, 0, 0) := rfl
set_option maxRecDepth 20000 in
theorem gk_f162_71 : gd_fetch 162 71 = some (71, .getfield 9, 3, 276, 2, 0, 4, 1) := rfl
set_option maxRecDepth 20000 in
theorem gk_f162_74 : gd_fetch 162 74 = some (74, .iload 5, 2, 0, 0, 0, 0, 0) := rfl
set_option maxRecDepth 20000 in
theorem gk_f162_76 : gd_fetch 162 76 = some (76, .aload_n 0, 1, 0, 0, 0, 0, 0) := rfl
set_option maxRecDepth 20000 in
theorem gk_f162_77 : gd_fetch 162 77 = some (77, .getfield 9, 3, 276, 2, 0, 4, 1) := rfl
set_option maxRecDepth 20000 in
theorem gk_f162_80 : gd_fetch 162 80 = some (80, .iload 5, 2, 0, 0, 0, 0, 0) := rfl
set_option maxRecDepth 20000 in
theorem gk_f162_82 : gd_fetch 162 82 = some (82, .iconst 1, 1, 0, 0, 0, 0, 0) := rfl
set_option maxRecDepth 20000 in
theorem gk_f162_83 : gd_fetch 162 83 = some (83, .isub, 1, 0, 0, 0, 0, 0) := rfl
set_option maxRecDepth 20000 in
theorem gk_f162_84 : gd_fetch 162 84 = some (84, .iaload, 1, 0, 0, 0, 0, 0) := rfl
set_option maxRecDepth 20000 in
theorem gk_f162_85 : gd_fetch 162 85 = some (85, .iastore, 1, 0, 0, 0, 0, 0) := rfl
set_option maxRecDepth 20000 in
theorem gk_f162_86 : gd_fetch 162 86 = some (86, .iinc 5 (-1), 3, 0, 0, 0, 0, 0) := rfl
set_option maxRecDepth 20000 in
theorem gk_f162_89 : gd_fetch 162 89 = some (89, .goto (-41), 3, 0, 0, 0, 0, 0) := rfl
set_option maxRecDepth 20000 in
theorem gk_f162_92 : gd_fetch 162 92 = some (92, .aload_n 0, 1, 0, 0, 0, 0, 0) := rfl
set_option maxRecDepth 20000 in
theorem gk_f162_93 : gd_fetch 162 93 = some (93, .getfield 9, 3, 276, 2, 0, 4, 1) := rfl
set_option maxRecDepth 20000 in
theorem gk_f162_96 : gd_fetch 162 96 = some (96, .iload 5, 2, 0, 0, 0, 0, 0) := rfl
set_option maxRecDepth 20000 in
theorem gk_f162_98 : gd_fetch 162 98 = some (98, .iload_n 1, 1, 0, 0, 0, 0, 0) := rfl
set_option maxRecDepth 20000 in
theorem gk_f162_99 : gd_fetch 162 99 = some (99, .iastore, 1, 0, 0, 0, 0, 0) := rfl
set_option maxRecDepth 20000 in
theorem gk_f162_100 : gd_fetch 162 100 = some (100, .aload_n 0, 1, 0, 0, 0, 0, 0) := rfl
set_option maxRecDepth 20000 in
theorem gk_f162_101 : gd_fetch 162 101 = some (101, .dup, 1, 0, 0, 0, 0, 0) := rfl
set_option maxRecDepth 20000 in
theorem gk_f162_102 : gd_fetch 162 102 = some (102, .getfield 30, 3, 285, 2, 6, 0, 0) := rfl
set_option maxRecDepth 20000 in
theorem gk_f162_105 : gd_fetch 162 105 = some (105, .iconst 1, 1, 0, 0, 0, 0, 0) := rfl
set_option maxRecDepth 20000 in
theorem gk_f162_106 : gd_fetch 162 106 = some (106, .iadd, 1, 0, 0, 0, 0, 0) := rfl
set_option maxRecDepth 20000 in
theorem gk_f162_107 : gd_fetch 162 107 = some (107, .putfield 30, 3, 285, 2, 6, 0, 0) := rfl
set_option maxRecDepth 20000 in
theorem gk_f162_110 : gd_fetch 162 110 = some (110, .return_, 1, 0, 0, 0, 0, 0) := rfl
set_option maxRecDepth 20000 in
set_option maxHeartbeats 4000000 in
theorem q_Ra_insert (r0 : Nat) (x1 : Int32) (x2 : Int32) (x3 : Int32) (x4 : Int32) (m : gd_M) : gd_call 162 [.ref r0, .int x1, .int x2, .int x3, .int x4] m = if (x1 < 0 : Prop) then (some (.null, m)) else (if (x1 < 40 : Prop) then (if gd_ok (gN m) r0 2 = true then (if ((gI m r0 6) < 40 : Prop) then (if gd_okA (gN m) (gR m r0 1) 10 x1 = true then (if gd_okA (gN m) (gR m r0 2) 10 x1 = true then (if gd_okA (gN m) (gR m r0 3) 10 x1 = true then (gd_Den (162, 48, [.ref r0, .int x1, .int x2, .int x3, .int x4, .int (gI (wI (wI (wI m (gR m r0 1) (x1 : Int32).toNatClampNeg x2) (gR m r0 2) (x1 : Int32).toNatClampNeg x3) (gR m r0 3) (x1 : Int32).toNatClampNeg x4) r0 6)], [], (wI (wI (wI m (gR m r0 1) (x1 : Int32).toNatClampNeg x2) (gR m r0 2) (x1 : Int32).toNatClampNeg x3) (gR m r0 3) (x1 : Int32).toNatClampNeg x4))) else none) else none) else none) else (some (.null, m))) else none) else (some (.null, m))) := by
  refine Eq.trans (show gd_call 162 [.ref r0, .int x1, .int x2, .int x3, .int x4] m = gd_Den (162, 0, [.ref r0, .int x1, .int x2, .int x3, .int x4, .null], [], m) from by unfold gd_call gd_ent; rw [gk_ml162]; rfl) ?_
  refine Eq.trans (D_iload_n (x := x1) gk_f162_0 rfl) ?_
  refine Eq.trans (D_if_lt (t := 19) gk_f162_1 (by decide)) ?_
  refine gd_ite (fun h1 => ?_) (fun h2 => ?_)
  · refine Eq.trans (D_vreturn gk_f162_19 gk_rk162) ?_
    rfl
  · refine Eq.trans (D_iload_n (x := x1) gk_f162_4 rfl) ?_
    refine Eq.trans (D_bipush (x := 40) gk_f162_5 gk_b_40) ?_
    refine Eq.trans (D_ic_ge (t := 19) gk_f162_7 (by decide)) ?_
    refine gd_ite (fun h3 => ?_) (fun h4 => ?_)
    · refine Eq.trans (D_aload_n (x := r0) gk_f162_10 rfl) ?_
      refine Eq.trans (D_gfI gk_f162_11 (by decide) (by decide) (by decide)) ?_
      refine gd_ite (fun h5 => ?_) (fun _ => rfl)
      refine Eq.trans (D_bipush (x := 40) gk_f162_14 gk_b_40) ?_
      refine Eq.trans (D_ic_lt (t := 20) gk_f162_16 (by decide)) ?_
      refine gd_ite (fun h6 => ?_) (fun h7 => ?_)
      · refine Eq.trans (D_aload_n (x := r0) gk_f162_20 rfl) ?_
        refine Eq.trans (D_gfR gk_f162_21 (by decide)) ?_
        refine Eq.trans (if_pos h5) ?_
        refine Eq.trans (D_iload_n (x := x1) gk_f162_24 rfl) ?_
        refine Eq.trans (D_iload_n (x := x2) gk_f162_25 rfl) ?_
        refine Eq.trans (D_iast gk_f162_26) ?_
        refine gd_ite (fun h8 => ?_) (fun _ => rfl)
        refine Eq.trans (D_aload_n (x := r0) gk_f162_27 rfl) ?_
        refine Eq.trans (D_gfR gk_f162_28 (by decide)) ?_
        refine Eq.trans (if_pos h5) ?_
        refine Eq.trans (D_iload_n (x := x1) gk_f162_31 rfl) ?_
        refine Eq.trans (D_iload_n (x := x3) gk_f162_32 rfl) ?_
        refine Eq.trans (D_iast gk_f162_33) ?_
        refine gd_ite (fun h9 => ?_) (fun _ => rfl)
        refine Eq.trans (D_aload_n (x := r0) gk_f162_34 rfl) ?_
        refine Eq.trans (D_gfR gk_f162_35 (by decide)) ?_
        refine Eq.trans (if_pos h5) ?_
        refine Eq.trans (D_iload_n (x := x1) gk_f162_38 rfl) ?_
        refine Eq.trans (D_iload (x := x4) gk_f162_39 rfl) ?_
        refine Eq.trans (D_iast gk_f162_41) ?_
        refine gd_ite (fun h10 => ?_) (fun _ => rfl)
        refine Eq.trans (D_aload_n (x := r0) gk_f162_42 rfl) ?_
        refine Eq.trans (D_gfI gk_f162_43 (by decide) (by decide) (by decide)) ?_
        refine Eq.trans (if_pos h5) ?_
        refine Eq.trans (D_istore gk_f162_46 gk_st162_5) ?_
        rfl
      · refine Eq.trans (D_vreturn gk_f162_19 gk_rk162) ?_
        rfl
    · refine Eq.trans (D_vreturn gk_f162_19 gk_rk162) ?_
      rfl
set_option maxRecDepth 20000 in
set_option maxHeartbeats 4000000 in
theorem q_Ra_insert_48 (r0 : Nat) (x1 : Int32) (x2 : Int32) (x3 : Int32) (x4 : Int32) (x5 : Int32) (m : gd_M) : gd_Den (162, 48, [.ref r0, .int x1, .int x2, .int x3, .int x4, .int x5], [], m) = if (0 < x5 : Prop) then (if gd_ok (gN m) r0 2 = true then (if gd_okA (gN m) (gR m r0 0) 10 (x5 - 1) = true then ((gd_call 161 [.ref r0, .int x1, .int (gI m (gR m r0 0) ((x5 - 1) : Int32).toNatClampNeg)] m).bind (gd_kI fun z7 m5 => if (z7 = 0 : Prop) then (if gd_ok (gN m5) r0 2 = true then (if gd_okA (gN m5) (gR m5 r0 0) 10 x5 = true then (some (.null, (wI (wI m5 (gR m5 r0 0) (x5 : Int32).toNatClampNeg x1) r0 6 ((gI (wI m5 (gR m5 r0 0) (x5 : Int32).toNatClampNeg x1) r0 6) + 1)))) else none) else none) else (if gd_ok (gN m5) r0 2 = true then (if gd_okA (gN m5) (gR m5 r0 0) 10 (x5 - 1) = true then (if gd_okA (gN m5) (gR m5 r0 0) 10 x5 = true then (gd_Den (162, 48, [.ref r0, .int x1, .int x2, .int x3, .int x4, .int (x5 + (-1))], [], (wI m5 (gR m5 r0 0) (x5 : Int32).toNatClampNeg (gI m5 (gR m5 r0 0) ((x5 - 1) : Int32).toNatClampNeg)))) else none) else none) else none))) else none) else none) else (if gd_ok (gN m) r0 2 = true then (if gd_okA (gN m) (gR m r0 0) 10 x5 = true then (some (.null, (wI (wI m (gR m r0 0) (x5 : Int32).toNatClampNeg x1) r0 6 ((gI (wI m (gR m r0 0) (x5 : Int32).toNatClampNeg x1) r0 6) + 1)))) else none) else none) := by
  refine Eq.trans (D_iload (x := x5) gk_f162_48 rfl) ?_
  refine Eq.trans (D_if_le (t := 92) gk_f162_50 (by decide)) ?_
  refine gd_ite (fun h1 => ?_) (fun h2 => ?_)
  · refine Eq.trans (D_aload_n (x := r0) gk_f162_53 rfl) ?_
    refine Eq.trans (D_iload_n (x := x1) gk_f162_54 rfl) ?_
    refine Eq.trans (D_aload_n (x := r0) gk_f162_55 rfl) ?_
    refine Eq.trans (D_gfR gk_f162_56 (by decide)) ?_
    refine gd_ite (fun h3 => ?_) (fun _ => rfl)
    refine Eq.trans (D_iload (x := x5) gk_f162_59 rfl) ?_
    refine Eq.trans (D_iconst (x := 1) gk_f162_61 gk_c_1) ?_
    refine Eq.trans (D_isub gk_f162_62) ?_
    refine Eq.trans (D_iald gk_f162_63 gk_n10_162) ?_
    refine gd_ite (fun h4 => ?_) (fun _ => rfl)
    refine Eq.trans (D_ivZ (cl := 2) (args := [.ref r0, .int x1, .int (gI m (gR m r0 0) ((x5 - 1) : Int32).toNatClampNeg)]) (rest := []) gk_f162_64 rfl rfl (gd_rmk gk_rm162_161 gk_ln161 gk_ml161 rfl rfl rfl) gk_rk161 (gd_hnd_n gk_nc162) gk_nc161 gk_n11_161 gk_cl161) ?_
    refine Eq.trans (if_pos h3) ?_
    refine gd_bnd (gd_kI_c fun z7 m5 => ?_)
    refine Eq.trans (D_if_eq (t := 92) gk_f162_67 (by decide)) ?_
    refine gd_ite (fun h8 => ?_) (fun h9 => ?_)
    · refine Eq.trans (D_aload_n (x := r0) gk_f162_92 rfl) ?_
      refine Eq.trans (D_gfR gk_f162_93 (by decide)) ?_
      refine gd_ite (fun h10 => ?_) (fun _ => rfl)
      refine Eq.trans (D_iload (x := x5) gk_f162_96 rfl) ?_
      refine Eq.trans (D_iload_n (x := x1) gk_f162_98 rfl) ?_
      refine Eq.trans (D_iast gk_f162_99) ?_
      refine gd_ite (fun h11 => ?_) (fun _ => rfl)
      refine Eq.trans (D_aload_n (x := r0) gk_f162_100 rfl) ?_
      refine Eq.trans (D_dupR gk_f162_101) ?_
      refine Eq.trans (D_gfI gk_f162_102 (by decide) (by decide) (by decide)) ?_
      refine Eq.trans (if_pos h10) ?_
      refine Eq.trans (D_iconst (x := 1) gk_f162_105 gk_c_1) ?_
      refine Eq.trans (D_iadd gk_f162_106) ?_
      refine Eq.trans (D_pfI gk_f162_107) ?_
      refine Eq.trans (if_pos h10) ?_
      refine Eq.trans (D_vreturn gk_f162_110 gk_rk162) ?_
      rfl
    · refine Eq.trans (D_aload_n (x := r0) gk_f162_70 rfl) ?_
      refine Eq.trans (D_gfR gk_f162_71 (by decide)) ?_
      refine gd_ite (fun h12 => ?_) (fun _ => rfl)
      refine Eq.trans (D_iload (x := x5) gk_f162_74 rfl) ?_
      refine Eq.trans (D_aload_n (x := r0) gk_f162_76 rfl) ?_
      refine Eq.trans (D_gfR gk_f162_77 (by decide)) ?_
      refine Eq.trans (if_pos h12) ?_
      refine Eq.trans (D_iload (x := x5) gk_f162_80 rfl) ?_
      refine Eq.trans (D_iconst (x := 1) gk_f162_82 gk_c_1) ?_
      refine Eq.trans (D_isub gk_f162_83) ?_
      refine Eq.trans (D_iald gk_f162_84 gk_n10_162) ?_
      refine gd_ite (fun h13 => ?_) (fun _ => rfl)
      refine Eq.trans (D_iast gk_f162_85) ?_
      refine gd_ite (fun h14 => ?_) (fun _ => rfl)
      refine Eq.trans (D_iinc (x := x5) (y := (-1)) gk_f162_86 rfl gk_c_m1 gk_st162_5) ?_
      refine Eq.trans (D_goto (t := 48) gk_f162_89 (by decide)) ?_
      rfl
  · refine Eq.trans (D_aload_n (x := r0) gk_f162_92 rfl) ?_
    refine Eq.trans (D_gfR gk_f162_93 (by decide)) ?_
    refine gd_ite (fun h15 => ?_) (fun _ => rfl)
    refine Eq.trans (D_iload (x := x5) gk_f162_96 rfl) ?_
    refine Eq.trans (D_iload_n (x := x1) gk_f162_98 rfl) ?_
    refine Eq.trans (D_iast gk_f162_99) ?_
    refine gd_ite (fun h16 => ?_) (fun _ => rfl)
    refine Eq.trans (D_aload_n (x := r0) gk_f162_100 rfl) ?_
    refine Eq.trans (D_dupR gk_f162_101) ?_
    refine Eq.trans (D_gfI gk_f162_102 (by decide) (by decide) (by decide)) ?_
    refine Eq.trans (if_pos h15) ?_
    refine Eq.trans (D_iconst (x := 1) gk_f162_105 gk_c_1) ?_
    refine Eq.trans (D_iadd gk_f162_106) ?_
    refine Eq.trans (D_pfI gk_f162_107) ?_
    refine Eq.trans (if_pos h15) ?_
    refine Eq.trans (D_vreturn gk_f162_110 gk_rk162) ?_
    rfl
/-! GymDesk.rankGymnast (III)V -/
set_option maxRecDepth 20000 in
theorem gk_f163_0 : gd_fetch 163 0 = some (0, .iconst 0, 1, 0, 0, 0, 0, 0) := rfl
set_option maxRecDepth 20000 in
theorem gk_f163_1 : gd_fetch 163 1 = some (1, .istore 4, 2, 0, 0, 0, 0, 0) := rfl
set_option maxRecDepth 20000 in
theorem gk_f163_3 : gd_fetch 163 3 = some (3, .iconst 0, 1, 0, 0, 0, 0, 0) := rfl
set_option maxRecDepth 20000 in
theorem gk_f163_4 : gd_fetch 163 4 = some (4, .istore 5, 2, 0, 0, 0, 0, 0) := rfl
set_option maxRecDepth 20000 in
theorem gk_f163_6 : gd_fetch 163 6 = some (6, .iconst 0, 1, 0, 0, 0, 0, 0) := rfl
set_option maxRecDepth 20000 in
theorem gk_f163_7 : gd_fetch 163 7 = some (7, .istore 6, 2, 0, 0, 0, 0, 0) := rfl
set_option maxRecDepth 20000 in
theorem gk_f163_9 : gd_fetch 163 9 = some (9, .iload_n 2, 1, 0, 0, 0, 0, 0) := rfl
set_option maxRecDepth 20000 in
theorem gk_f163_10 : gd_fetch 163 10 = some (10, .istore 7, 2, 0, 0, 0, 0, 0) := rfl
set_option maxRecDepth 20000 in
theorem gk_f163_12 : gd_fetch 163 12 = some (12, .iload 7, 2, 0, 0, 0, 0, 0) := rfl
set_option maxRecDepth 20000 in
theorem gk_f163_14 : gd_fetch 163 14 = some (14, .iload_n 3, 1, 0, 0, 0, 0, 0) := rfl
set_option maxRecDepth 20000 in
theorem gk_f163_15 : gd_fetch 163 15 = some (15, .if_icmp .gt 62, 3, 0, 0, 0, 0, 0) := rfl
set_option maxRecDepth 20000 in
theorem gk_f163_18 : gd_fetch 163 18 = some (18, .aload_n 0, 1, 0, 0, 0, 0, 0) := rfl
set_option maxRecDepth 20000 in
theorem gk_f163_19 : gd_fetch 163 19 = some (19, .iload_n 1, 1, 0, 0, 0, 0, 0) := rfl
set_option maxRecDepth 20000 in
theorem gk_f163_20 : gd_fetch 163 20 = some (20, .iload 7, 2, 0, 0, 0, 0, 0) := rfl
set_option maxRecDepth 20000 in
theorem gk_f163_22 : gd_fetch 163 22 = some (22, .invokevirtual 124, 3, 685, 93, 2, 0, 0) := rfl
set_option maxRecDepth 20000 in
theorem gk_f163_25 : gd_fetch 163 25 = some (25, .astore 8, 2, 0, 0, 0, 0, 0) := rfl
set_option maxRecDepth 20000 in
theorem gk_f163_27 : gd_fetch 163 27 = some (27, .aload 8, 2, 0, 0, 0, 0, 0) := rfl
set_option maxRecDepth 20000 in
theorem gk_f163_29 : gd_fetch 163 29 = some (29, .ifnull 11, 3, 0, 0, 0, 0, 0) := rfl
set_option maxRecDepth 20000 in
theorem gk_f163_32 : gd_fetch 163 32 = some (32, .aload 8, 2, 0, 0, 0, 0, 0) := rfl
set_option maxRecDepth 20000 in
theorem gk_f163_34 : gd_fetch 163 34 = some (34, .invokevirtual 239, 3, 852, 151, 0, 0, 0) := rfl
set_option maxRecDepth 20000 in
theorem gk_f163_37 : gd_fetch 163 37 = some (37, .ifCond .ne 4, 3, 0, 0, 0, 0, 0) := rfl
set_option maxRecDepth 20000 in
theorem gk_f163_40 : gd_fetch 163 40 = some (40, .return_, 1, 0, 0, 0, 0, 0) := rfl
set_option maxRecDepth 20000 in
theorem gk_f163_41 : gd_fetch 163 41 = some (41, .iload 4, 2, 0, 0, 0, 0, 0) := rfl
set_option maxRecDepth 20000 in
theorem gk_f163_43 : gd_fetch 163 43 = some (43, .aload 8, 2, 0, 0, 0, 0, 0) := rfl
set_option maxRecDepth 20000 in
theorem gk_f163_45 : gd_fetch 163 45 = some (45, .getfield 185, 3, 424, 4, 12, 0, 0) := rfl
set_option maxRecDepth 20000 in
theorem gk_f163_48 : gd_fetch 163 48 = some (48, .iadd, 1, 0, 0, 0, 0, 0) := rfl
set_option maxRecDepth 20000 in
theorem gk_f163_49 : gd_fetch 163 49 = some (49, .istore 4, 2, 0, 0, 0, 0, 0) := rfl
set_option maxRecDepth 20000 in
theorem gk_f163_51 : gd_fetch 163 51 = some (51, .iload 5, 2, 0, 0, 0, 0, 0) := rfl
set_option maxRecDepth 20000 in
theorem gk_f163_53 : gd_fetch 163 53 = some (53, .aload 8, 2, 0, 0, 0, 0, 0) := rfl
set_option maxRecDepth 20000 in
theorem gk_f163_55 : gd_fetch 163 55 = some (55, .getfield 233, 3, 422, 4, 11, 0, 0) := rfl
set_option maxRecDepth 20000 in
theorem gk_f163_58 : gd_fetch 163 58 = some (58, .iadd, 1, 0, 0, 0, 0, 0) := rfl
set_option maxRecDepth 20000 in
theorem gk_f163_59 : gd_fetch 163 59 = some (59, .istore 5, 2, 0, 0, 0, 0, 0) := rfl
set_option maxRecDepth 20000 in
theorem gk_f163_61 : gd_fetch 163 61 = some (61, .iload 6, 2, 0, 0, 0, 0, 0) := rfl
set_option maxRecDepth 20000 in
theorem gk_f163_63 : gd_fetch 163 63 = some (63, .aload 8, 2, 0, 0, 0, 0, 0) := rfl
set_option maxRecDepth 20000 in
theorem gk_f163_65 : gd_fetch 163 65 = some (65, .getfield 218, 3, 418, 4, 9, 0, 0) := rfl
set_option maxRecDepth 20000 in
theorem gk_f163_68 : gd_fetch 163 68 = some (68, .iadd, 1, 0, 0, 0, 0, 0) := rfl
set_option maxRecDepth 20000 in
theorem gk_f163_69 : gd_fetch 163 69 = some (69, .istore 6, 2, 0, 0, 0, 0, 0) := rfl
set_option maxRecDepth 20000 in
theorem gk_f163_71 : gd_fetch 163 71 = some (71, .iinc 7 1, 3, 0, 0, 0, 0, 0) := rfl
set_option maxRecDepth 20000 in
theorem gk_f163_74 : gd_fetch 163 74 = some (74, .goto (-62), 3, 0, 0, 0, 0, 0) := rfl
set_option maxRecDepth 20000 in
theorem gk_f163_77 : gd_fetch 163 77 = some (77, .aload_n 0, 1, 0, 0, 0, 0, 0) := rfl
set_option maxRecDepth 20000 in
theorem gk_f163_78 : gd_fetch 163 78 = some (78, .getfield 30, 3, 463, 6, 3, 4, 1) := rfl
set_option maxRecDepth 20000 in
theorem gk_f163_81 : gd_fetch 163 81 = some (81, .iload_n 1, 1, 0, 0, 0, 0, 0) := rfl
set_option maxRecDepth 20000 in
theorem gk_f163_82 : gd_fetch 163 82 = some (82, .iload 4, 2, 0, 0, 0, 0, 0) := rfl
set_option maxRecDepth 20000 in
theorem gk_f163_84 : gd_fetch 163 84 = some (84, .iload 5, 2, 0, 0, 0, 0, 0) := rfl
set_option maxRecDepth 20000 in
theorem gk_f163_86 : gd_fetch 163 86 = some (86, .iload 6, 2, 0, 0, 0, 0, 0) := rfl
set_option maxRecDepth 20000 in
theorem gk_f163_88 : gd_fetch 163 88 = some (88, .invokevirtual 264, 3, 888, 162, 4, 0, 0) := rfl
set_option maxRecDepth 20000 in
theorem gk_f163_91 : gd_fetch 163 91 = some (91, .return_, 1, 0, 0, 0, 0, 0) := rfl
set_option maxRecDepth 20000 in
set_option maxHeartbeats 4000000 in
theorem q_X_rankGymnast (r0 : Nat) (x1 : Int32) (x2 : Int32) (x3 : Int32) (m : gd_M) : gd_call 163 [.ref r0, .int x1, .int x2, .int x3] m = gd_Den (163, 12, [.ref r0, .int x1, .int x2, .int x3, .int 0, .int 0, .int 0, .int x2, .null], [], m) := by
  refine Eq.trans (show gd_call 163 [.ref r0, .int x1, .int x2, .int x3] m = gd_Den (163, 0, [.ref r0, .int x1, .int x2, .int x3, .null, .null, .null, .null, .null], [], m) from by unfold gd_call gd_ent; rw [gk_ml163]; rfl) ?_
  refine Eq.trans (D_iconst (x := 0) gk_f163_0 gk_c_0) ?_
  refine Eq.trans (D_istore gk_f163_1 gk_st163_4) ?_
  refine Eq.trans (D_iconst (x := 0) gk_f163_3 gk_c_0) ?_
  refine Eq.trans (D_istore gk_f163_4 gk_st163_5) ?_
  refine Eq.trans (D_iconst (x := 0) gk_f163_6 gk_c_0) ?_
  refine Eq.trans (D_istore gk_f163_7 gk_st163_6) ?_
  refine Eq.trans (D_iload_n (x := x2) gk_f163_9 rfl) ?_
  refine Eq.trans (D_istore gk_f163_10 gk_st163_7) ?_
  rfl
set_option maxRecDepth 20000 in
set_option maxHeartbeats 4000000 in
theorem q_X_rankGymnast_12 (r0 : Nat) (x1 : Int32) (x2 : Int32) (x3 : Int32) (x4 : Int32) (x5 : Int32) (x6 : Int32) (x7 : Int32) (v8 : Value) (m : gd_M) : gd_Den (163, 12, [.ref r0, .int x1, .int x2, .int x3, .int x4, .int x5, .int x6, .int x7, v8], [], m) = if (x3 < x7 : Prop) then (if gd_ok (gN m) r0 6 = true then (if gd_ok (gN m) (gR m r0 3) 2 = true then ((gd_call 162 [.ref (gR m r0 3), .int x1, .int x4, .int x5, .int x6] m).bind (gd_kV fun m5 => some (.null, m5))) else none) else none) else (if gd_ok (gN m) r0 6 = true then ((gd_call 93 [.ref r0, .int x1, .int x7] m).bind (gd_kR fun o10 m8 => if o10 = 0 then (some (.null, m8)) else if 8 ≤ o10 then (if gd_ok (gN m8) o10 4 = true then ((gd_call 151 [.ref o10] m8).bind (gd_kI fun z17 m15 => if (z17 = 0 : Prop) then (some (.null, m15)) else (if gd_ok (gN m15) o10 4 = true then (gd_Den (163, 12, [.ref r0, .int x1, .int x2, .int x3, .int (x4 + (gI m15 o10 12)), .int (x5 + (gI m15 o10 11)), .int (x6 + (gI m15 o10 9)), .int (x7 + 1), .ref o10], [], m15)) else none))) else none) else none)) else none) := by
  refine Eq.trans (D_iload (x := x7) gk_f163_12 rfl) ?_
  refine Eq.trans (D_iload_n (x := x3) gk_f163_14 rfl) ?_
  refine Eq.trans (D_ic_gt (t := 77) gk_f163_15 (by decide)) ?_
  refine gd_ite (fun h1 => ?_) (fun h2 => ?_)
  · refine Eq.trans (D_aload_n (x := r0) gk_f163_77 rfl) ?_
    refine Eq.trans (D_gfR gk_f163_78 (by decide)) ?_
    refine gd_ite (fun h3 => ?_) (fun _ => rfl)
    refine Eq.trans (D_iload_n (x := x1) gk_f163_81 rfl) ?_
    refine Eq.trans (D_iload (x := x4) gk_f163_82 rfl) ?_
    refine Eq.trans (D_iload (x := x5) gk_f163_84 rfl) ?_
    refine Eq.trans (D_iload (x := x6) gk_f163_86 rfl) ?_
    refine Eq.trans (D_ivV (cl := 2) (args := [.ref (gR m r0 3), .int x1, .int x4, .int x5, .int x6]) (rest := []) gk_f163_88 rfl rfl (gd_rmk gk_rm163_162 gk_ln162 gk_ml162 rfl rfl rfl) gk_rk162 (gd_hnd_n gk_nc163) gk_nc162 gk_n11_162 gk_cl162) ?_
    refine gd_ite (fun h4 => ?_) (fun _ => rfl)
    refine gd_bnd (gd_kV_c fun m5 => ?_)
    refine Eq.trans (D_vreturn gk_f163_91 gk_rk163) ?_
    rfl
  · refine Eq.trans (D_aload_n (x := r0) gk_f163_18 rfl) ?_
    refine Eq.trans (D_iload_n (x := x1) gk_f163_19 rfl) ?_
    refine Eq.trans (D_iload (x := x7) gk_f163_20 rfl) ?_
    refine Eq.trans (D_ivR (cl := 6) (args := [.ref r0, .int x1, .int x7]) (rest := []) gk_f163_22 rfl rfl (gd_rmk gk_rm163_93 gk_ln93 gk_ml93 rfl rfl rfl) gk_rk93 (gd_hnd_n gk_nc163) gk_nc93 gk_n11_93 gk_cl93) ?_
    refine gd_ite (fun h7 => ?_) (fun _ => rfl)
    refine gd_bnd (gd_kR_c fun o10 m8 => ?_)
    refine Eq.trans (D_astore gk_f163_25 gk_st163_8) ?_
    refine Eq.trans (D_aload (x := o10) gk_f163_27 rfl) ?_
    refine Eq.trans (D_ifnull (t := 40) gk_f163_29 (by decide)) ?_
    refine gd_ite (fun h11 => ?_) (fun h12 => gd_ite (fun h13 => ?_) (fun _ => rfl))
    · refine Eq.trans (D_vreturn gk_f163_40 gk_rk163) ?_
      rfl
    · refine Eq.trans (D_aload (x := o10) gk_f163_32 rfl) ?_
      refine Eq.trans (D_ivZ (cl := 4) (args := [.ref o10]) (rest := []) gk_f163_34 rfl rfl (gd_rmk gk_rm163_151 gk_ln151 gk_ml151 rfl rfl rfl) gk_rk151 (gd_hnd_n gk_nc163) gk_nc151 gk_n11_151 gk_cl151) ?_
      refine gd_ite (fun h14 => ?_) (fun _ => rfl)
      refine gd_bnd (gd_kI_c fun z17 m15 => ?_)
      refine Eq.trans (D_if_ne (t := 41) gk_f163_37 (by decide)) ?_
      refine gd_ite (fun h18 => ?_) (fun h19 => ?_)
      · refine Eq.trans (D_vreturn gk_f163_40 gk_rk163) ?_
        rfl
      · refine Eq.trans (D_iload (x := x4) gk_f163_41 rfl) ?_
        refine Eq.trans (D_aload (x := o10) gk_f163_43 rfl) ?_
        refine Eq.trans (D_gfI gk_f163_45 (by decide) (by decide) (by decide)) ?_
        refine gd_ite (fun h20 => ?_) (fun _ => rfl)
        refine Eq.trans (D_iadd gk_f163_48) ?_
        refine Eq.trans (D_istore gk_f163_49 gk_st163_4) ?_
        refine Eq.trans (D_iload (x := x5) gk_f163_51 rfl) ?_
        refine Eq.trans (D_aload (x := o10) gk_f163_53 rfl) ?_
        refine Eq.trans (D_gfI gk_f163_55 (by decide) (by decide) (by decide)) ?_
        refine Eq.trans (if_pos h20) ?_
        refine Eq.trans (D_iadd gk_f163_58) ?_
        refine Eq.trans (D_istore gk_f163_59 gk_st163_5) ?_
        refine Eq.trans (D_iload (x := x6) gk_f163_61 rfl) ?_
        refine Eq.trans (D_aload (x := o10) gk_f163_63 rfl) ?_
        refine Eq.trans (D_gfI gk_f163_65 (by decide) (by decide) (by decide)) ?_
        refine Eq.trans (if_pos h20) ?_
        refine Eq.trans (D_iadd gk_f163_68) ?_
        refine Eq.trans (D_istore gk_f163_69 gk_st163_6) ?_
        refine Eq.trans (D_iinc (x := x7) (y := 1) gk_f163_71 rfl gk_c_1 gk_st163_7) ?_
        refine Eq.trans (D_goto (t := 12) gk_f163_74 (by decide)) ?_
        rfl
/-! GymDesk.rank (I)V -/
set_option maxRecDepth 20000 in
theorem gk_f164_0 : gd_fetch 164 0 = some (0, .aload_n 0, 1, 0, 0, 0, 0, 0) := rfl
set_option maxRecDepth 20000 in
theorem gk_f164_1 : gd_fetch 164 1 = some (1, .getfield 30, 3, 463, 6, 3, 4, 1) := rfl
set_option maxRecDepth 20000 in
theorem gk_f164_4 : gd_fetch 164 4 = some (4, .invokevirtual 257, 3, 880, 160, 0, 0, 0) := rfl
set_option maxRecDepth 20000 in
theorem gk_f164_7 : gd_fetch 164 7 = some (7, .iload_n 1, 1, 0, 0, 0, 0, 0) := rfl
set_option maxRecDepth 20000 in
theorem gk_f164_8 : gd_fetch 164 8 = some (8, .invokestatic 246, 3, 865, 156, 1, 0, 0) := rfl
set_option maxRecDepth 20000 in
theorem gk_f164_11 : gd_fetch 164 11 = some (11, .ifCond .ne 4, 3, 0, 0, 0, 0, 0) := rfl
set_option maxRecDepth 20000 in
theorem gk_f164_14 : gd_fetch 164 14 = some (14, .return_, 1, 0, 0, 0, 0, 0) := rfl
set_option maxRecDepth 20000 in
theorem gk_f164_15 : gd_fetch 164 15 = some (15, .iload_n 1, 1, 0, 0, 0, 0, 0) := rfl
set_option maxRecDepth 20000 in
theorem gk_f164_16 : gd_fetch 164 16 = some (16, .iconst 4, 1, 0, 0, 0, 0, 0) := rfl
set_option maxRecDepth 20000 in
theorem gk_f164_17 : gd_fetch 164 17 = some (17, .if_icmp .ne 7, 3, 0, 0, 0, 0, 0) := rfl
set_option maxRecDepth 20000 in
theorem gk_f164_20 : gd_fetch 164 20 = some (20, .iconst 0, 1, 0, 0, 0, 0, 0) := rfl
set_option maxRecDepth 20000 in
theorem gk_f164_21 : gd_fetch 164 21 = some (21, .goto 4, 3, 0, 0, 0, 0, 0) := rfl
set_option maxRecDepth 20000 in
theorem gk_f164_24 : gd_fetch 164 24 = some (24, .iload_n 1, 1, 0, 0, 0, 0, 0) := rfl
set_option maxRecDepth 20000 in
theorem gk_f164_25 : gd_fetch 164 25 = some (25, .istore_n 2, 1, 0, 0, 0, 0, 0) := rfl
set_option maxRecDepth 20000 in
theorem gk_f164_26 : gd_fetch 164 26 = some (26, .iload_n 1, 1, 0, 0, 0, 0, 0) := rfl
set_option maxRecDepth 20000 in
theorem gk_f164_27 : gd_fetch 164 27 = some (27, .iconst 4, 1, 0, 0, 0, 0, 0) := rfl
set_option maxRecDepth 20000 in
theorem gk_f164_28 : gd_fetch 164 28 = some (28, .if_icmp .ne 7, 3, 0, 0, 0, 0, 0) := rfl
set_option maxRecDepth 20000 in
theorem gk_f164_31 : gd_fetch 164 31 = some (31, .iconst 3, 1, 0, 0, 0, 0, 0) := rfl
set_option maxRecDepth 20000 in
theorem gk_f164_32 : gd_fetch 164 32 = some (32, .goto 4, 3, 0, 0, 0, 0, 0) := rfl
set_option maxRecDepth 20000 in
theorem gk_f164_35 : gd_fetch 164 35 = some (35, .iload_n 1, 1, 0, 0, 0, 0, 0) := rfl
set_option maxRecDepth 20000 in
theorem gk_f164_36 : gd_fetch 164 36 = some (36, .istore_n 3, 1, 0, 0, 0, 0, 0) := rfl
set_option maxRecDepth 20000 in
theorem gk_f164_37 : gd_fetch 164 37 = some (37, .iconst 0, 1, 0, 0, 0, 0, 0) := rfl
set_option maxRecDepth 20000 in
theorem gk_f164_38 : gd_fetch 164 38 = some (38, .istore 4, 2, 0, 0, 0, 0, 0) := rfl
set_option maxRecDepth 20000 in
theorem gk_f164_40 : gd_fetch 164 40 = some (40, .iload 4, 2, 0, 0, 0, 0, 0) := rfl
set_option maxRecDepth 20000 in
theorem gk_f164_42 : gd_fetch 164 42 = some (42, .aload_n 0, 1, 0, 0, 0, 0, 0) := rfl
set_option maxRecDepth 20000 in
theorem gk_f164_43 : gd_fetch 164 43 = some (43, .getfield 86, 3, 472, 6, 12, 0, 0) := rfl
set_option maxRecDepth 20000 in
theorem gk_f164_46 : gd_fetch 164 46 = some (46, .if_icmp .ge 27, 3, 0, 0, 0, 0, 0) := rfl
set_option maxRecDepth 20000 in
theorem gk_f164_49 : gd_fetch 164 49 = some (49, .aload_n 0, 1, 0, 0, 0, 0, 0) := rfl
set_option maxRecDepth 20000 in
theorem gk_f164_50 : gd_fetch 164 50 = some (50, .iload 4, 2, 0, 0, 0, 0, 0) := rfl
set_option maxRecDepth 20000 in
theorem gk_f164_52 : gd_fetch 164 52 = some (52, .iload_n 1, 1, 0, 0, 0, 0, 0) := rfl
set_option maxRecDepth 20000 in
theorem gk_f164_53 : gd_fetch 164 53 = some (53, .invokevirtual 249, 3, 868, 157, 2, 0, 0) := rfl
set_option maxRecDepth 20000 in
theorem gk_f164_56 : gd_fetch 164 56 = some (56, .ifCond .ne 11, 3, 0, 0, 0, 0, 0) := rfl
set_option maxRecDepth 20000 in
theorem gk_f164_59 : gd_fetch 164 59 = some (59, .aload_n 0, 1, 0, 0, 0, 0, 0) := rfl
set_option maxRecDepth 20000 in
theorem gk_f164_60 : gd_fetch 164 60 = some (60, .iload 4, 2, 0, 0, 0, 0, 0) := rfl
set_option maxRecDepth 20000 in
theorem gk_f164_62 : gd_fetch 164 62 = some (62, .iload_n 2, 1, 0, 0, 0, 0, 0) := rfl
set_option maxRecDepth 20000 in
theorem gk_f164_63 : gd_fetch 164 63 = some (63, .iload_n 3, 1, 0, 0, 0, 0, 0) := rfl
set_option maxRecDepth 20000 in
theorem gk_f164_64 : gd_fetch 164 64 = some (64, .invokevirtual 260, 3, 884, 163, 3, 0, 0) := rfl
set_option maxRecDepth 20000 in
theorem gk_f164_67 : gd_fetch 164 67 = some (67, .iinc 4 1, 3, 0, 0, 0, 0, 0) := rfl
set_option maxRecDepth 20000 in
theorem gk_f164_70 : gd_fetch 164 70 = some (70, .goto (-30), 3, 0, 0, 0, 0, 0) := rfl
set_option maxRecDepth 20000 in
theorem gk_f164_73 : gd_fetch 164 73 = some (73, .return_, 1, 0, 0, 0, 0, 0) := rfl
set_option maxRecDepth 20000 in
set_option maxHeartbeats 4000000 in
theorem q_X_rank (r0 : Nat) (x1 : Int32) (m : gd_M) : gd_call 164 [.ref r0, .int x1] m = if gd_ok (gN m) r0 6 = true then (if gd_ok (gN m) (gR m r0 3) 2 = true then ((gd_call 160 [.ref (gR m r0 3)] m).bind (gd_kV fun m3 => (gd_call 156 [.int x1] m3).bind (gd_k0I fun z7 m5 => if (z7 = 0 : Prop) then (some (.null, m5)) else (if (x1 = 4 : Prop) then (if (x1 = 4 : Prop) then (gd_Den (164, 40, [.ref r0, .int x1, .int 0, .int 3, .int 0], [], m5)) else (gd_Den (164, 40, [.ref r0, .int x1, .int 0, .int x1, .int 0], [], m5))) else (if (x1 = 4 : Prop) then (gd_Den (164, 40, [.ref r0, .int x1, .int x1, .int 3, .int 0], [], m5)) else (gd_Den (164, 40, [.ref r0, .int x1, .int x1, .int x1, .int 0], [], m5))))))) else none) else none := by
  refine Eq.trans (show gd_call 164 [.ref r0, .int x1] m = gd_Den (164, 0, [.ref r0, .int x1, .null, .null, .null], [], m) from by unfold gd_call gd_ent; rw [gk_ml164]; rfl) ?_
  refine Eq.trans (D_aload_n (x := r0) gk_f164_0 rfl) ?_
  refine Eq.trans (D_gfR gk_f164_1 (by decide)) ?_
  refine gd_ite (fun h1 => ?_) (fun _ => rfl)
  refine Eq.trans (D_ivV (cl := 2) (args := [.ref (gR m r0 3)]) (rest := []) gk_f164_4 rfl rfl (gd_rmk gk_rm164_160 gk_ln160 gk_ml160 rfl rfl rfl) gk_rk160 (gd_hnd_n gk_nc164) gk_nc160 gk_n11_160 gk_cl160) ?_
  refine gd_ite (fun h2 => ?_) (fun _ => rfl)
  refine gd_bnd (gd_kV_c fun m3 => ?_)
  refine Eq.trans (D_iload_n (x := x1) gk_f164_7 rfl) ?_
  refine Eq.trans (D_isZ (args := [.int x1]) (rest := []) gk_f164_8 rfl rfl rfl (gd_rmk gk_rm164_156 gk_ln156 gk_ml156 rfl rfl rfl) gk_rk156 (gd_hnd_n gk_nc164)) ?_
  refine gd_bnd (gd_k0I_c fun z7 m5 => ?_)
  refine Eq.trans (D_if_ne (t := 15) gk_f164_11 (by decide)) ?_
  refine gd_ite (fun h8 => ?_) (fun h9 => ?_)
  · refine Eq.trans (D_vreturn gk_f164_14 gk_rk164) ?_
    rfl
  · refine Eq.trans (D_iload_n (x := x1) gk_f164_15 rfl) ?_
    refine Eq.trans (D_iconst (x := 4) gk_f164_16 gk_c_4) ?_
    refine Eq.trans (D_ic_ne (t := 24) gk_f164_17 (by decide)) ?_
    refine gd_ite (fun h10 => ?_) (fun h11 => ?_)
    · refine Eq.trans (D_iconst (x := 0) gk_f164_20 gk_c_0) ?_
      refine Eq.trans (D_goto (t := 25) gk_f164_21 (by decide)) ?_
      refine Eq.trans (D_istore_n gk_f164_25 gk_st164_2) ?_
      refine Eq.trans (D_iload_n (x := x1) gk_f164_26 rfl) ?_
      refine Eq.trans (D_iconst (x := 4) gk_f164_27 gk_c_4) ?_
      refine Eq.trans (D_ic_ne (t := 35) gk_f164_28 (by decide)) ?_
      refine gd_ite (fun h12 => ?_) (fun h13 => ?_)
      · refine Eq.trans (D_iconst (x := 3) gk_f164_31 gk_c_3) ?_
        refine Eq.trans (D_goto (t := 36) gk_f164_32 (by decide)) ?_
        refine Eq.trans (D_istore_n gk_f164_36 gk_st164_3) ?_
        refine Eq.trans (D_iconst (x := 0) gk_f164_37 gk_c_0) ?_
        refine Eq.trans (D_istore gk_f164_38 gk_st164_4) ?_
        rfl
      · refine Eq.trans (D_iload_n (x := x1) gk_f164_35 rfl) ?_
        refine Eq.trans (D_istore_n gk_f164_36 gk_st164_3) ?_
        refine Eq.trans (D_iconst (x := 0) gk_f164_37 gk_c_0) ?_
        refine Eq.trans (D_istore gk_f164_38 gk_st164_4) ?_
        rfl
    · refine Eq.trans (D_iload_n (x := x1) gk_f164_24 rfl) ?_
      refine Eq.trans (D_istore_n gk_f164_25 gk_st164_2) ?_
      refine Eq.trans (D_iload_n (x := x1) gk_f164_26 rfl) ?_
      refine Eq.trans (D_iconst (x := 4) gk_f164_27 gk_c_4) ?_
      refine Eq.trans (D_ic_ne (t := 35) gk_f164_28 (by decide)) ?_
      refine gd_ite (fun h14 => ?_) (fun h15 => ?_)
      · refine Eq.trans (D_iconst (x := 3) gk_f164_31 gk_c_3) ?_
        refine Eq.trans (D_goto (t := 36) gk_f164_32 (by decide)) ?_
        refine Eq.trans (D_istore_n gk_f164_36 gk_st164_3) ?_
        refine Eq.trans (D_iconst (x := 0) gk_f164_37 gk_c_0) ?_
        refine Eq.trans (D_istore gk_f164_38 gk_st164_4) ?_
        rfl
      · refine Eq.trans (D_iload_n (x := x1) gk_f164_35 rfl) ?_
        refine Eq.trans (D_istore_n gk_f164_36 gk_st164_3) ?_
        refine Eq.trans (D_iconst (x := 0) gk_f164_37 gk_c_0) ?_
        refine Eq.trans (D_istore gk_f164_38 gk_st164_4) ?_
        rfl
set_option maxRecDepth 20000 in
set_option maxHeartbeats 4000000 in
theorem q_X_rank_40 (r0 : Nat) (x1 : Int32) (x2 : Int32) (x3 : Int32) (x4 : Int32) (m : gd_M) : gd_Den (164, 40, [.ref r0, .int x1, .int x2, .int x3, .int x4], [], m) = if gd_ok (gN m) r0 6 = true then (if (x4 < (gI m r0 12) : Prop) then ((gd_call 157 [.ref r0, .int x4, .int x1] m).bind (gd_kI fun z6 m4 => if (z6 = 0 : Prop) then (if gd_ok (gN m4) r0 6 = true then ((gd_call 163 [.ref r0, .int x4, .int x2, .int x3] m4).bind (gd_kV fun m10 => gd_Den (164, 40, [.ref r0, .int x1, .int x2, .int x3, .int (x4 + 1)], [], m10))) else none) else (gd_Den (164, 40, [.ref r0, .int x1, .int x2, .int x3, .int (x4 + 1)], [], m4)))) else (some (.null, m))) else none := by
  refine Eq.trans (D_iload (x := x4) gk_f164_40 rfl) ?_
  refine Eq.trans (D_aload_n (x := r0) gk_f164_42 rfl) ?_
  refine Eq.trans (D_gfI gk_f164_43 (by decide) (by decide) (by decide)) ?_
  refine gd_ite (fun h1 => ?_) (fun _ => rfl)
  refine Eq.trans (D_ic_ge (t := 73) gk_f164_46 (by decide)) ?_
  refine gd_ite (fun h2 => ?_) (fun h3 => ?_)
  · refine Eq.trans (D_aload_n (x := r0) gk_f164_49 rfl) ?_
    refine Eq.trans (D_iload (x := x4) gk_f164_50 rfl) ?_
    refine Eq.trans (D_iload_n (x := x1) gk_f164_52 rfl) ?_
    refine Eq.trans (D_ivZ (cl := 6) (args := [.ref r0, .int x4, .int x1]) (rest := []) gk_f164_53 rfl rfl (gd_rmk gk_rm164_157 gk_ln157 gk_ml157 rfl rfl rfl) gk_rk157 (gd_hnd_n gk_nc164) gk_nc157 gk_n11_157 gk_cl157) ?_
    refine Eq.trans (if_pos h1) ?_
    refine gd_bnd (gd_kI_c fun z6 m4 => ?_)
    refine Eq.trans (D_if_ne (t := 67) gk_f164_56 (by decide)) ?_
    refine gd_ite (fun h7 => ?_) (fun h8 => ?_)
    · refine Eq.trans (D_aload_n (x := r0) gk_f164_59 rfl) ?_
      refine Eq.trans (D_iload (x := x4) gk_f164_60 rfl) ?_
      refine Eq.trans (D_iload_n (x := x2) gk_f164_62 rfl) ?_
      refine Eq.trans (D_iload_n (x := x3) gk_f164_63 rfl) ?_
      refine Eq.trans (D_ivV (cl := 6) (args := [.ref r0, .int x4, .int x2, .int x3]) (rest := []) gk_f164_64 rfl rfl (gd_rmk gk_rm164_163 gk_ln163 gk_ml163 rfl rfl rfl) gk_rk163 (gd_hnd_n gk_nc164) gk_nc163 gk_n11_163 gk_cl163) ?_
      refine gd_ite (fun h9 => ?_) (fun _ => rfl)
      refine gd_bnd (gd_kV_c fun m10 => ?_)
      refine Eq.trans (D_iinc (x := x4) (y := 1) gk_f164_67 rfl gk_c_1 gk_st164_4) ?_
      refine Eq.trans (D_goto (t := 40) gk_f164_70 (by decide)) ?_
      rfl
    · refine Eq.trans (D_iinc (x := x4) (y := 1) gk_f164_67 rfl gk_c_1 gk_st164_4) ?_
      refine Eq.trans (D_goto (t := 40) gk_f164_70 (by decide)) ?_
      rfl
  · refine Eq.trans (D_vreturn gk_f164_73 gk_rk164) ?_
    rfl
/-! GymDesk.list (I)I -/
set_option maxRecDepth 20000 in
theorem gk_f165_0 : gd_fetch 165 0 = some (0, .iload_n 1, 1, 0, 0, 0, 0, 0) := rfl
set_option maxRecDepth 20000 in
theorem gk_f165_1 : gd_fetch 165 1 = some (1, .invokestatic 246, 3, 865, 156, 1, 0, 0) := rfl
set_option maxRecDepth 20000 in
theorem gk_f165_4 : gd_fetch 165 4 = some (4, .ifCond .ne 6, 3, 0, 0, 0, 0, 0) := rfl
set_option maxRecDepth 20000 in
theorem gk_f165_7 : gd_fetch 165 7 = some (7, .bipush (-2), 2, 0, 0, 0, 0, 0) := rfl
set_option maxRecDepth 20000 in
theorem gk_f165_9 : gd_fetch 165 9 = some (9, .ireturn, 1, 0, 0, 0, 0, 0) := rfl
set_option maxRecDepth 20000 in
theorem gk_f165_10 : gd_fetch 165 10 = some (10, .aload_n 0, 1, 0, 0, 0, 0, 0) := rfl
set_option maxRecDepth 20000 in
theorem gk_f165_11 : gd_fetch 165 11 = some (11, .iload_n 1, 1, 0, 0, 0, 0, 0) := rfl
set_option maxRecDepth 20000 in
theorem gk_f165_12 : gd_fetch 165 12 = some (12, .invokevirtual 253, 3, 876, 164, 1, 0, 0) := rfl
set_option maxRecDepth 20000 in
theorem gk_f165_15 : gd_fetch 165 15 = some (15, .aload_n 0, 1, 0, 0, 0, 0, 0) := rfl
set_option maxRecDepth 20000 in
theorem gk_f165_16 : gd_fetch 165 16 = some (16, .getfield 30, 3, 463, 6, 3, 4, 1) := rfl
set_option maxRecDepth 20000 in
theorem gk_f165_19 : gd_fetch 165 19 = some (19, .getfield 256, 3, 286, 2, 6, 0, 0) := rfl
set_option maxRecDepth 20000 in
theorem gk_f165_22 : gd_fetch 165 22 = some (22, .ireturn, 1, 0, 0, 0, 0, 0) := rfl
set_option maxRecDepth 20000 in
set_option maxHeartbeats 4000000 in
theorem q_X_list (r0 : Nat) (x1 : Int32) (m : gd_M) : gd_call 165 [.ref r0, .int x1] m = (gd_call 156 [.int x1] m).bind (gd_k0I fun z3 m1 => if (z3 = 0 : Prop) then (some (.int (-2), m1)) else (if gd_ok (gN m1) r0 6 = true then ((gd_call 164 [.ref r0, .int x1] m1).bind (gd_kV fun m7 => if gd_ok (gN m7) r0 6 = true then (if gd_ok (gN m7) (gR m7 r0 3) 2 = true then (some (.int (gI m7 (gR m7 r0 3) 6), m7)) else none) else none)) else none)) := by
  refine Eq.trans (show gd_call 165 [.ref r0, .int x1] m = gd_Den (165, 0, [.ref r0, .int x1], [], m) from by unfold gd_call gd_ent; rw [gk_ml165]; rfl) ?_
  refine Eq.trans (D_iload_n (x := x1) gk_f165_0 rfl) ?_
  refine Eq.trans (D_isZ (args := [.int x1]) (rest := []) gk_f165_1 rfl rfl rfl (gd_rmk gk_rm165_156 gk_ln156 gk_ml156 rfl rfl rfl) gk_rk156 (gd_hnd_n gk_nc165)) ?_
  refine gd_bnd (gd_k0I_c fun z3 m1 => ?_)
  refine Eq.trans (D_if_ne (t := 10) gk_f165_4 (by decide)) ?_
  refine gd_ite (fun h4 => ?_) (fun h5 => ?_)
  · refine Eq.trans (D_bipush (x := (-2)) gk_f165_7 gk_b_m2) ?_
    refine Eq.trans (D_ireturn gk_f165_9 gk_rk165) ?_
    rfl
  · refine Eq.trans (D_aload_n (x := r0) gk_f165_10 rfl) ?_
    refine Eq.trans (D_iload_n (x := x1) gk_f165_11 rfl) ?_
    refine Eq.trans (D_ivV (cl := 6) (args := [.ref r0, .int x1]) (rest := []) gk_f165_12 rfl rfl (gd_rmk gk_rm165_164 gk_ln164 gk_ml164 rfl rfl rfl) gk_rk164 (gd_hnd_n gk_nc165) gk_nc164 gk_n11_164 gk_cl164) ?_
    refine gd_ite (fun h6 => ?_) (fun _ => rfl)
    refine gd_bnd (gd_kV_c fun m7 => ?_)
    refine Eq.trans (D_aload_n (x := r0) gk_f165_15 rfl) ?_
    refine Eq.trans (D_gfR gk_f165_16 (by decide)) ?_
    refine gd_ite (fun h9 => ?_) (fun _ => rfl)
    refine Eq.trans (D_gfI gk_f165_19 (by decide) (by decide) (by decide)) ?_
    refine gd_ite (fun h10 => ?_) (fun _ => rfl)
    refine Eq.trans (D_ireturn gk_f165_22 gk_rk165) ?_
    rfl
/-! GymDeskModel.isListed (II)Z -/
set_option maxRecDepth 20000 in
theorem gk_f166_0 : gd_fetch 166 0 = some (0, .aload_n 0, 1, 0, 0, 0, 0, 0) := rfl
set_option maxRecDepth 20000 in
theorem gk_f166_1 : gd_fetch 166 1 = some (1, .getfield 48, 3, 1185, 9, 22, 4, 1) := rfl
set_option maxRecDepth 20000 in
theorem gk_f166_4 : gd_fetch 166 4 = some (4, .iconst 5, 1, 0, 0, 0, 0, 0) := rfl
set_option maxRecDepth 20000 in
theorem gk_f166_5 : gd_fetch 166 5 = some (5, .iload_n 1, 1, 0, 0, 0, 0, 0) := rfl
set_option maxRecDepth 20000 in
theorem gk_f166_6 : gd_fetch 166 6 = some (6, .imul, 1, 0, 0, 0, 0, 0) := rfl
set_option maxRecDepth 20000 in
theorem gk_f166_7 : gd_fetch 166 7 = some (7, .iload_n 2, 1, 0, 0, 0, 0, 0) := rfl
set_option maxRecDepth 20000 in
theorem gk_f166_8 : gd_fetch 166 8 = some (8, .iadd, 1, 0, 0, 0, 0, 0) := rfl
set_option maxRecDepth 20000 in
theorem gk_f166_9 : gd_fetch 166 9 = some (9, .baload, 1, 0, 0, 0, 0, 0) := rfl
set_option maxRecDepth 20000 in
theorem gk_f166_10 : gd_fetch 166 10 = some (10, .ifCond .eq 5, 3, 0, 0, 0, 0, 0) := rfl
set_option maxRecDepth 20000 in
theorem gk_f166_13 : gd_fetch 166 13 = some (13, .iconst 0, 1, 0, 0, 0, 0, 0) := rfl
set_option maxRecDepth 20000 in
theorem gk_f166_14 : gd_fetch 166 14 = some (14, .ireturn, 1, 0, 0, 0, 0, 0) := rfl
set_option maxRecDepth 20000 in
theorem gk_f166_15 : gd_fetch 166 15 = some (15, .iload_n 2, 1, 0, 0, 0, 0, 0) := rfl
set_option maxRecDepth 20000 in
theorem gk_f166_16 : gd_fetch 166 16 = some (16, .iconst 4, 1, 0, 0, 0, 0, 0) := rfl
set_option maxRecDepth 20000 in
theorem gk_f166_17 : gd_fetch 166 17 = some (17, .if_icmp .ge 13, 3, 0, 0, 0, 0, 0) := rfl
set_option maxRecDepth 20000 in
theorem gk_f166_20 : gd_fetch 166 20 = some (20, .aload_n 0, 1, 0, 0, 0, 0, 0) := rfl
set_option maxRecDepth 20000 in
theorem gk_f166_21 : gd_fetch 166 21 = some (21, .iconst 4, 1, 0, 0, 0, 0, 0) := rfl
set_option maxRecDepth 20000 in
theorem gk_f166_22 : gd_fetch 166 22 = some (22, .iload_n 1, 1, 0, 0, 0, 0, 0) := rfl
set_option maxRecDepth 20000 in
theorem gk_f166_23 : gd_fetch 166 23 = some (23, .imul, 1, 0, 0, 0, 0, 0) := rfl
set_option maxRecDepth 20000 in
theorem gk_f166_24 : gd_fetch 166 24 = some (24, .iload_n 2, 1, 0, 0, 0, 0, 0) := rfl
set_option maxRecDepth 20000 in
theorem gk_f166_25 : gd_fetch 166 25 = some (25, .iadd, 1, 0, 0, 0, 0, 0) := rfl
set_option maxRecDepth 20000 in
theorem gk_f166_26 : gd_fetch 166 26 = some (26, .invokevirtual 372, 3, 1480, 149, 1, 0, 0) := rfl
set_option maxRecDepth 20000 in
theorem gk_f166_29 : gd_fetch 166 29 = some (29, .ireturn, 1, 0, 0, 0, 0, 0) := rfl
set_option maxRecDepth 20000 in
theorem gk_f166_30 : gd_fetch 166 30 = some (30, .iconst 4, 1, 0, 0, 0, 0, 0) := rfl
set_option maxRecDepth 20000 in
theorem gk_f166_31 : gd_fetch 166 31 = some (31, .iload_n 1, 1, 0, 0, 0, 0, 0) := rfl
set_option maxRecDepth 20000 in
theorem gk_f166_32 : gd_fetch 166 32 = some (32, .imul, 1, 0, 0, 0, 0, 0) := rfl
set_option maxRecDepth 20000 in
theorem gk_f166_33 : gd_fetch 166 33 = some (33, .istore_n 3, 1, 0, 0, 0, 0, 0) := rfl
set_option maxRecDepth 20000 in
theorem gk_f166_34 : gd_fetch 166 34 = some (34, .iload_n 3, 1, 0, 0, 0, 0, 0) := rfl
set_option maxRecDepth 20000 in
theorem gk_f166_35 : gd_fetch 166 35 = some (35, .iconst 4, 1, 0, 0, 0, 0, 0) := rfl
set_option maxRecDepth 20000 in
theorem gk_f166_36 : gd_fetch 166 36 = some (36, .iload_n 1, 1, 0, 0, 0, 0, 0) := rfl
set_option maxRecDepth 20000 in
theorem gk_f166_37 : gd_fetch 166 37 = some (37, .imul, 1, 0, 0, 0, 0, 0) := rfl
set_option maxRecDepth 20000 in
theorem gk_f166_38 : gd_fetch 166 38 = some (38, .iconst 4, 1, 0, 0, 0, 0, 0) := rfl
set_option maxRecDepth 20000 in
theorem gk_f166_39 : gd_fetch 166 39 = some (39, .iadd, 1, 0, 0, 0, 0, 0) := rfl
set_option maxRecDepth 20000 in
theorem gk_f166_40 : gd_fetch 166 40 = some (40, .if_icmp .ge 19, 3, 0, 0, 0, 0, 0) := rfl
set_option maxRecDepth 20000 in
theorem gk_f166_43 : gd_fetch 166 43 = some (43, .aload_n 0, 1, 0, 0, 0, 0, 0) := rfl
set_option maxRecDepth 20000 in
theorem gk_f166_44 : gd_fetch 166 44 = some (44, .iload_n 3, 1, 0, 0, 0, 0, 0) := rfl
set_option maxRecDepth 20000 in
theorem gk_f166_45 : gd_fetch 166 45 = some (45, .invokevirtual 372, 3, 1480, 149, 1, 0, 0) := rfl
set_option maxRecDepth 20000 in
theorem gk_f166_48 : gd_fetch 166 48 = some (48, .ifCond .ne 5, 3, 0, 0, 0, 0, 0) := rfl
set_option maxRecDepth 20000 in
theorem gk_f166_51 : gd_fetch 166 51 = some (51, .iconst 0, 1, 0, 0, 0, 0, 0) := rfl
set_option maxRecDepth 20000 in
theorem gk_f166_52 : gd_fetch 166 52 = some (52, .ireturn, 1, 0, 0, 0, 0, 0) := rfl
set_option maxRecDepth 20000 in
theorem gk_f166_53 : gd_fetch 166 53 = some (53, .iinc 3 1, 3, 0, 0, 0, 0, 0) := rfl
set_option maxRecDepth 20000 in
theorem gk_f166_56 : gd_fetch 166 56 = some (56, .goto (-22), 3, 0, 0, 0, 0, 0) := rfl
set_option maxRecDepth 20000 in
theorem gk_f166_59 : gd_fetch 166 59 = some (59, .iconst 1, 1, 0, 0, 0, 0, 0) := rfl
set_option maxRecDepth 20000 in
theorem gk_f166_60 : gd_fetch 166 60 = some (60, .ireturn, 1, 0, 0, 0, 0, 0) := rfl
set_option maxRecDepth 20000 in
set_option maxHeartbeats 4000000 in
theorem q_Mo_isListed (r0 : Nat) (x1 : Int32) (x2 : Int32) (m : gd_M) : gd_call 166 [.ref r0, .int x1, .int x2] m = if gd_ok (gN m) r0 9 = true then (if gd_okA (gN m) (gR m r0 22) 11 ((5 * x1) + x2) = true then (if ((gI m (gR m r0 22) (((5 * x1) + x2) : Int32).toNatClampNeg) = 0 : Prop) then (if (x2 < 4 : Prop) then ((gd_call 149 [.ref r0, .int ((4 * x1) + x2)] m).bind (gd_kI fun z9 m7 => if gd_bo z9 = true then some (.int z9, m7) else none)) else (gd_Den (166, 34, [.ref r0, .int x1, .int x2, .int (4 * x1)], [], m))) else (some (.int 0, m))) else none) else none := by
  refine Eq.trans (show gd_call 166 [.ref r0, .int x1, .int x2] m = gd_Den (166, 0, [.ref r0, .int x1, .int x2, .null], [], m) from by unfold gd_call gd_ent; rw [gk_ml166]; rfl) ?_
  refine Eq.trans (D_aload_n (x := r0) gk_f166_0 rfl) ?_
  refine Eq.trans (D_gfR gk_f166_1 (by decide)) ?_
  refine gd_ite (fun h1 => ?_) (fun _ => rfl)
  refine Eq.trans (D_iconst (x := 5) gk_f166_4 gk_c_5) ?_
  refine Eq.trans (D_iload_n (x := x1) gk_f166_5 rfl) ?_
  refine Eq.trans (D_imul gk_f166_6) ?_
  refine Eq.trans (D_iload_n (x := x2) gk_f166_7 rfl) ?_
  refine Eq.trans (D_iadd gk_f166_8) ?_
  refine Eq.trans (D_bald (kd := 11) gk_f166_9 gk_n12_166 gk_bk166) ?_
  refine gd_ite (fun h2 => ?_) (fun _ => rfl)
  refine Eq.trans (D_if_eq (t := 15) gk_f166_10 (by decide)) ?_
  refine gd_ite (fun h3 => ?_) (fun h4 => ?_)
  · refine Eq.trans (D_iload_n (x := x2) gk_f166_15 rfl) ?_
    refine Eq.trans (D_iconst (x := 4) gk_f166_16 gk_c_4) ?_
    refine Eq.trans (D_ic_ge (t := 30) gk_f166_17 (by decide)) ?_
    refine gd_ite (fun h5 => ?_) (fun h6 => ?_)
    · refine Eq.trans (D_aload_n (x := r0) gk_f166_20 rfl) ?_
      refine Eq.trans (D_iconst (x := 4) gk_f166_21 gk_c_4) ?_
      refine Eq.trans (D_iload_n (x := x1) gk_f166_22 rfl) ?_
      refine Eq.trans (D_imul gk_f166_23) ?_
      refine Eq.trans (D_iload_n (x := x2) gk_f166_24 rfl) ?_
      refine Eq.trans (D_iadd gk_f166_25) ?_
      refine Eq.trans (D_ivZ (cl := 9) (args := [.ref r0, .int ((4 * x1) + x2)]) (rest := []) gk_f166_26 rfl rfl (gd_rmk gk_rm166_149 gk_ln149 gk_ml149 rfl rfl rfl) gk_rk149 (gd_hnd_n gk_nc166) gk_nc149 gk_n11_149 gk_cl149) ?_
      refine Eq.trans (if_pos h1) ?_
      refine gd_bnd (gd_kI_c fun z9 m7 => ?_)
      refine Eq.trans (D_zreturn gk_f166_29 gk_rk166) ?_
      rfl
    · refine Eq.trans (D_iconst (x := 4) gk_f166_30 gk_c_4) ?_
      refine Eq.trans (D_iload_n (x := x1) gk_f166_31 rfl) ?_
      refine Eq.trans (D_imul gk_f166_32) ?_
      refine Eq.trans (D_istore_n gk_f166_33 gk_st166_3) ?_
      rfl
  · refine Eq.trans (D_iconst (x := 0) gk_f166_13 gk_c_0) ?_
    refine Eq.trans (D_zreturn gk_f166_14 gk_rk166) ?_
    exact if_pos rfl
set_option maxRecDepth 20000 in
set_option maxHeartbeats 4000000 in
theorem q_Mo_isListed_34 (r0 : Nat) (x1 : Int32) (x2 : Int32) (x3 : Int32) (m : gd_M) : gd_Den (166, 34, [.ref r0, .int x1, .int x2, .int x3], [], m) = if (x3 < ((4 * x1) + 4) : Prop) then (if gd_ok (gN m) r0 9 = true then ((gd_call 149 [.ref r0, .int x3] m).bind (gd_kI fun z6 m4 => if (z6 = 0 : Prop) then (some (.int 0, m4)) else (gd_Den (166, 34, [.ref r0, .int x1, .int x2, .int (x3 + 1)], [], m4)))) else none) else (some (.int 1, m)) := by
  refine Eq.trans (D_iload_n (x := x3) gk_f166_34 rfl) ?_
  refine Eq.trans (D_iconst (x := 4) gk_f166_35 gk_c_4) ?_
  refine Eq.trans (D_iload_n (x := x1) gk_f166_36 rfl) ?_
  refine Eq.trans (D_imul gk_f166_37) ?_
  refine Eq.trans (D_iconst (x := 4) gk_f166_38 gk_c_4) ?_
  refine Eq.trans (D_iadd gk_f166_39) ?_
  refine Eq.trans (D_ic_ge (t := 59) gk_f166_40 (by decide)) ?_
  refine gd_ite (fun h1 => ?_) (fun h2 => ?_)
  · refine Eq.trans (D_aload_n (x := r0) gk_f166_43 rfl) ?_
    refine Eq.trans (D_iload_n (x := x3) gk_f166_44 rfl) ?_
    refine Eq.trans (D_ivZ (cl := 9) (args := [.ref r0, .int x3]) (rest := []) gk_f166_45 rfl rfl (gd_rmk gk_rm166_149 gk_ln149 gk_ml149 rfl rfl rfl) gk_rk149 (gd_hnd_n gk_nc166) gk_nc149 gk_n11_149 gk_cl149) ?_
    refine gd_ite (fun h3 => ?_) (fun _ => rfl)
    refine gd_bnd (gd_kI_c fun z6 m4 => ?_)
    refine Eq.trans (D_if_ne (t := 53) gk_f166_48 (by decide)) ?_
    refine gd_ite (fun h7 => ?_) (fun h8 => ?_)
    · refine Eq.trans (D_iconst (x := 0) gk_f166_51 gk_c_0) ?_
      refine Eq.trans (D_zreturn gk_f166_52 gk_rk166) ?_
      exact if_pos rfl
    · refine Eq.trans (D_iinc (x := x3) (y := 1) gk_f166_53 rfl gk_c_1 gk_st166_3) ?_
      refine Eq.trans (D_goto (t := 34) gk_f166_56 (by decide)) ?_
      rfl
  · refine Eq.trans (D_iconst (x := 1) gk_f166_59 gk_c_1) ?_
    refine Eq.trans (D_zreturn gk_f166_60 gk_rk166) ?_
    exact if_pos rfl
/-! GymDeskModel.makeList (I)V -/
set_option maxRecDepth 20000 in
theorem gk_f167_0 : gd_fetch 167 0 = some (0, .aload_n 0, 1, 0, 0, 0, 0, 0) := rfl
set_option maxRecDepth 20000 in
theorem gk_f167_1 : gd_fetch 167 1 = some (1, .iconst 0, 1, 0, 0, 0, 0, 0) := rfl
set_option maxRecDepth 20000 in
theorem gk_f167_2 : gd_fetch 167 2 = some (2, .putfield 377, 3, 1203, 9, 40, 0, 0) := rfl
set_option maxRecDepth 20000 in
theorem gk_f167_5 : gd_fetch 167 5 = some (5, .iconst 0, 1, 0, 0, 0, 0, 0) := rfl
set_option maxRecDepth 20000 in
theorem gk_f167_6 : gd_fetch 167 6 = some (6, .istore_n 2, 1, 0, 0, 0, 0, 0) := rfl
set_option maxRecDepth 20000 in
theorem gk_f167_7 : gd_fetch 167 7 = some (7, .iload_n 2, 1, 0, 0, 0, 0, 0) := rfl
set_option maxRecDepth 20000 in
theorem gk_f167_8 : gd_fetch 167 8 = some (8, .aload_n 0, 1, 0, 0, 0, 0, 0) := rfl
set_option maxRecDepth 20000 in
theorem gk_f167_9 : gd_fetch 167 9 = some (9, .getfield 326, 3, 1181, 9, 18, 0, 0) := rfl
set_option maxRecDepth 20000 in
theorem gk_f167_12 : gd_fetch 167 12 = some (12, .if_icmp .ge 300, 3, 0, 0, 0, 0, 0) := rfl
set_option maxRecDepth 20000 in
theorem gk_f167_15 : gd_fetch 167 15 = some (15, .aload_n 0, 1, 0, 0, 0, 0, 0) := rfl
set_option maxRecDepth 20000 in
theorem gk_f167_16 : gd_fetch 167 16 = some (16, .iload_n 2, 1, 0, 0, 0, 0, 0) := rfl
set_option maxRecDepth 20000 in
theorem gk_f167_17 : gd_fetch 167 17 = some (17, .iload_n 1, 1, 0, 0, 0, 0, 0) := rfl
set_option maxRecDepth 20000 in
theorem gk_f167_18 : gd_fetch 167 18 = some (18, .invokevirtual 380, 3, 1505, 166, 2, 0, 0) := rfl
set_option maxRecDepth 20000 in
theorem gk_f167_21 : gd_fetch 167 21 = some (21, .ifCond .ne 6, 3, 0, 0, 0, 0, 0) := rfl
set_option maxRecDepth 20000 in
theorem gk_f167_24 : gd_fetch 167 24 = some (24, .goto 282, 3, 0, 0, 0, 0, 0) := rfl
set_option maxRecDepth 20000 in
theorem gk_f167_27 : gd_fetch 167 27 = some (27, .iconst 0, 1, 0, 0, 0, 0, 0) := rfl
set_option maxRecDepth 20000 in
theorem gk_f167_28 : gd_fetch 167 28 = some (28, .istore_n 3, 1, 0, 0, 0, 0, 0) := rfl
set_option maxRecDepth 20000 in
theorem gk_f167_29 : gd_fetch 167 29 = some (29, .iconst 0, 1, 0, 0, 0, 0, 0) := rfl
set_option maxRecDepth 20000 in
theorem gk_f167_30 : gd_fetch 167 30 = some (30, .istore 4, 2, 0, 0, 0, 0, 0) := rfl
set_option maxRecDepth 20000 in
theorem gk_f167_32 : gd_fetch 167 32 = some (32, .iconst 0, 1, 0, 0, 0, 0, 0) := rfl
set_option maxRecDepth 20000 in
theorem gk_f167_33 : gd_fetch 167 33 = some (33, .istore 5, 2, 0, 0, 0, 0, 0) := rfl
set_option maxRecDepth 20000 in
theorem gk_f167_35 : gd_fetch 167 35 = some (35, .iconst 0, 1, 0, 0, 0, 0, 0) := rfl
set_option maxRecDepth 20000 in
theorem gk_f167_36 : gd_fetch 167 36 = some (36, .istore 6, 2, 0, 0, 0, 0, 0) := rfl
set_option maxRecDepth 20000 in
theorem gk_f167_38 : gd_fetch 167 38 = some (38, .iload 6, 2, 0, 0, 0, 0, 0) := rfl
set_option maxRecDepth 20000 in
theorem gk_f167_40 : gd_fetch 167 40 = some (40, .iconst 4, 1, 0, 0, 0, 0, 0) := rfl
set_option maxRecDepth 20000 in
theorem gk_f167_41 : gd_fetch 167 41 = some (41, .if_icmp .ge 66, 3, 0, 0, 0, 0, 0) := rfl
set_option maxRecDepth 20000 in
theorem gk_f167_44 : gd_fetch 167 44 = some (44, .iload_n 1, 1, 0, 0, 0, 0, 0) := rfl
set_option maxRecDepth 20000 in
theorem gk_f167_45 : gd_fetch 167 45 = some (45, .iconst 4, 1, 0, 0, 0, 0, 0) := rfl
set_option maxRecDepth 20000 in
theorem gk_f167_46 : gd_fetch 167 46 = some (46, .if_icmp .ge 12, 3, 0, 0, 0, 0, 0) := rfl
set_option maxRecDepth 20000 in
theorem gk_f167_49 : gd_fetch 167 49 = some (49, .iload 6, 2, 0, 0, 0, 0, 0) := rfl
set_option maxRecDepth 20000 in
theorem gk_f167_51 : gd_fetch 167 51 = some (51, .iload_n 1, 1, 0, 0, 0, 0, 0) := rfl
set_option maxRecDepth 20000 in
theorem gk_f167_52 : gd_fetch 167 52 = some (52, .if_icmp .eq 6, 3, 0, 0, 0, 0, 0) := rfl
set_option maxRecDepth 20000 in
theorem gk_f167_55 : gd_fetch 167 55 = some (55, .goto 46, 3, 0, 0, 0, 0, 0) := rfl
set_option maxRecDepth 20000 in
theorem gk_f167_58 : gd_fetch 167 58 = some (58, .iload_n 3, 1, 0, 0, 0, 0, 0) := rfl
set_option maxRecDepth 20000 in
theorem gk_f167_59 : gd_fetch 167 59 = some (59, .aload_n 0, 1, 0, 0, 0, 0, 0) := rfl
set_option maxRecDepth 20000 in
theorem gk_f167_60 : gd_fetch 167 60 = some (60, .iconst 4, 1, 0, 0, 0, 0, 0) := rfl
set_option maxRecDepth 20000 in
theorem gk_f167_61 : gd_fetch 167 61 = some (61, .iload_n 2, 1, 0, 0, 0, 0, 0) := rfl
set_option maxRecDepth 20000 in
theorem gk_f167_62 : gd_fetch 167 62 = some (62, .imul, 1, 0, 0, 0, 0, 0) := rfl
set_option maxRecDepth 20000 in
theorem gk_f167_63 : gd_fetch 167 63 = some (63, .iload 6, 2, 0, 0, 0, 0, 0) := rfl
set_option maxRecDepth 20000 in
theorem gk_f167_65 : gd_fetch 167 65 = some (65, .iadd, 1, 0, 0, 0, 0, 0) := rfl
set_option maxRecDepth 20000 in
theorem gk_f167_66 : gd_fetch 167 66 = some (66, .invokevirtual 369, 3, 1447, 144, 1, 0, 0) := rfl
set_option maxRecDepth 20000 in
theorem gk_f167_69 : gd_fetch 167 69 = some (69, .iadd, 1, 0, 0, 0, 0, 0) := rfl
set_option maxRecDepth 20000 in
theorem gk_f167_70 : gd_fetch 167 70 = some (70, .istore_n 3, 1, 0, 0, 0, 0, 0) := rfl
set_option maxRecDepth 20000 in
theorem gk_f167_71 : gd_fetch 167 71 = some (71, .iload 4, 2, 0, 0, 0, 0, 0) := rfl
set_option maxRecDepth 20000 in
theorem gk_f167_73 : gd_fetch 167 73 = some (73, .aload_n 0, 1, 0, 0, 0, 0, 0) := rfl
set_option maxRecDepth 20000 in
theorem gk_f167_74 : gd_fetch 167 74 = some (74, .iconst 4, 1, 0, 0, 0, 0, 0) := rfl
set_option maxRecDepth 20000 in
theorem gk_f167_75 : gd_fetch 167 75 = some (75, .iload_n 2, 1, 0, 0, 0, 0, 0) := rfl
set_option maxRecDepth 20000 in
theorem gk_f167_76 : gd_fetch 167 76 = some (76, .imul, 1, 0, 0, 0, 0, 0) := rfl
set_option maxRecDepth 20000 in
theorem gk_f167_77 : gd_fetch 167 77 = some (77, .iload 6, 2, 0, 0, 0, 0, 0) := rfl
set_option maxRecDepth 20000 in
theorem gk_f167_79 : gd_fetch 167 79 = some (79, .iadd, 1, 0, 0, 0, 0, 0) := rfl
set_option maxRecDepth 20000 in
theorem gk_f167_80 : gd_fetch 167 80 = some (80, .invokevirtual 366, 3, 1472, 143, 1, 0, 0) := rfl
set_option maxRecDepth 20000 in
theorem gk_f167_83 : gd_fetch 167 83 = some (83, .iadd, 1, 0, 0, 0, 0, 0) := rfl
set_option maxRecDepth 20000 in
theorem gk_f167_84 : gd_fetch 167 84 = some (84, .istore 4, 2, 0, 0, 0, 0, 0) := rfl
set_option maxRecDepth 20000 in
theorem gk_f167_86 : gd_fetch 167 86 = some (86, .iload 5, 2, 0, 0, 0, 0, 0) := rfl
set_option maxRecDepth 20000 in
theorem gk_f167_88 : gd_fetch 167 88 = some (88, .aload_n 0, 1, 0, 0, 0, 0, 0) := rfl
set_option maxRecDepth 20000 in
theorem gk_f167_89 : gd_fetch 167 89 = some (89, .iconst 4, 1, 0, 0, 0, 0, 0) := rfl
set_option maxRecDepth 20000 in
theorem gk_f167_90 : gd_fetch 167 90 = some (90, .iload_n 2, 1, 0, 0, 0, 0, 0) := rfl
set_option maxRecDepth 20000 in
theorem gk_f167_91 : gd_fetch 167 91 = some (91, .imul, 1, 0, 0, 0, 0, 0) := rfl
set_option maxRecDepth 20000 in
theorem gk_f167_92 : gd_fetch 167 92 = some (92, .iload 6, 2, 0, 0, 0, 0, 0) := rfl
set_option maxRecDepth 20000 in
theorem gk_f167_94 : gd_fetch 167 94 = some (94, .iadd, 1, 0, 0, 0, 0, 0) := rfl
set_option maxRecDepth 20000 in
theorem gk_f167_95 : gd_fetch 167 95 = some (95, .invokevirtual 363, 3, 1451, 142, 1, 0, 0) := rfl
set_option maxRecDepth 20000 in
theorem gk_f167_98 : gd_fetch 167 98 = some (98, .iadd, 1, 0, 0, 0, 0, 0) := rfl
set_option maxRecDepth 20000 in
theorem gk_f167_99 : gd_fetch 167 99 = some (99, .istore 5, 2, 0, 0, 0, 0, 0) := rfl
set_option maxRecDepth 20000 in
theorem gk_f167_101 : gd_fetch 167 101 = some (101, .iinc 6 1, 3, 0, 0, 0, 0, 0) := rfl
set_option maxRecDepth 20000 in
theorem gk_f167_104 : gd_fetch 167 104 = some (104, .goto (-66), 3, 0, 0, 0, 0, 0) := rfl
set_option maxRecDepth 20000 in
theorem gk_f167_107 : gd_fetch 167 107 = some (107, .aload_n 0, 1, 0, 0, 0, 0, 0) := rfl
set_option maxRecDepth 20000 in
theorem gk_f167_108 : gd_fetch 167 108 = some (108, .getfield 377, 3, 1203, 9, 40, 0, 0) := rfl
set_option maxRecDepth 20000 in
theorem gk_f167_111 : gd_fetch 167 111 = some (111, .istore 6, 2, 0, 0, 0, 0, 0) := rfl
set_option maxRecDepth 20000 in
theorem gk_f167_113 : gd_fetch 167 113 = some (113, .iload 6, 2, 0, 0, 0, 0, 0) := rfl
set_option maxRecDepth 20000 in
theorem gk_f167_115 : gd_fetch 167 115 = some (115, .ifCond .le 147, 3, 0, 0, 0, 0, 0) := rfl
set_option maxRecDepth 20000 in
theorem gk_f167_118 : gd_fetch 167 118 = some (118, .iload_n 3, 1, 0, 0, 0, 0, 0) := rfl
set_option maxRecDepth 20000 in
theorem gk_f167_119 : gd_fetch 167 119 = some (119, .aload_n 0, 1, 0, 0, 0, 0, 0) := rfl
set_option maxRecDepth 20000 in
theorem gk_f167_120 : gd_fetch 167 120 = some (120, .getfield 93, 3, 1200, 9, 37, 4, 1) := rfl
set_option maxRecDepth 20000 in
theorem gk_f167_123 : gd_fetch 167 123 = some (123, .iload 6, 2, 0, 0, 0, 0, 0) := rfl
set_option maxRecDepth 20000 in
theorem gk_f167_125 : gd_fetch 167 125 = some (125, .iconst 1, 1, 0, 0, 0, 0, 0) := rfl
set_option maxRecDepth 20000 in
theorem gk_f167_126 : gd_fetch 167 126 = some (126, .isub, 1, 0, 0, 0, 0, 0) := rfl
set_option maxRecDepth 20000 in
theorem gk_f167_127 : gd_fetch 167 127 = some (127, .iaload, 1, 0, 0, 0, 0, 0) := rfl
set_option maxRecDepth 20000 in
theorem gk_f167_128 : gd_fetch 167 128 = some (128, .if_icmp .eq 19, 3, 0, 0, 0, 0, 0) := rfl
set_option maxRecDepth 20000 in
theorem gk_f167_131 : gd_fetch 167 131 = some (131, .iload_n 3, 1, 0, 0, 0, 0, 0) := rfl
set_option maxRecDepth 20000 in
theorem gk_f167_132 : gd_fetch 167 132 = some (132, .aload_n 0, 1, 0, 0, 0, 0, 0) := rfl
set_option maxRecDepth 20000 in
theorem gk_f167_133 : gd_fetch 167 133 = some (133, .getfield 93, 3, 1200, 9, 37, 4, 1) := rfl
set_option maxRecDepth 20000 in
theorem gk_f167_136 : gd_fetch 167 136 = some (136, .iload 6, 2, 0, 0, 0, 0, 0) := rfl
set_option maxRecDepth 20000 in
theorem gk_f167_138 : gd_fetch 167 138 = some (138, .iconst 1, 1, 0, 0, 0, 0, 0) := rfl
set_option maxRecDepth 20000 in
theorem gk_f167_139 : gd_fetch 167 139 = some (139, .isub, 1, 0, 0, 0, 0, 0) := rfl
set_option maxRecDepth 20000 in
theorem gk_f167_140 : gd_fetch 167 140 = some (140, .iaload, 1, 0, 0, 0, 0, 0) := rfl
set_option maxRecDepth 20000 in
theorem gk_f167_141 : gd_fetch 167 141 = some (141, .if_icmp .le 121, 3, 0, 0, 0, 0, 0) := rfl
set_option maxRecDepth 20000 in
theorem gk_f167_144 : gd_fetch 167 144 = some (144, .goto 48, 3, 0, 0, 0, 0, 0) := rfl
set_option maxRecDepth 20000 in
theorem gk_f167_147 : gd_fetch 167 147 = some (147, .iload 4, 2, 0, 0, 0, 0, 0) := rfl
set_option maxRecDepth 20000 in
theorem gk_f167_149 : gd_fetch 167 149 = some (149, .aload_n 0, 1, 0, 0, 0, 0, 0) := rfl
set_option maxRecDepth 20000 in
theorem gk_f167_150 : gd_fetch 167 150 = some (150, .getfield 96, 3, 1201, 9, 38, 4, 1) := rfl
set_option maxRecDepth 20000 in
theorem gk_f167_153 : gd_fetch 167 153 = some (153, .iload 6, 2, 0, 0, 0, 0, 0) := rfl
set_option maxRecDepth 20000 in
theorem gk_f167_155 : gd_fetch 167 155 = some (155, .iconst 1, 1, 0, 0, 0, 0, 0) := rfl
set_option maxRecDepth 20000 in
theorem gk_f167_156 : gd_fetch 167 156 = some (156, .isub, 1, 0, 0, 0, 0, 0) := rfl
set_option maxRecDepth 20000 in
theorem gk_f167_157 : gd_fetch 167 157 = some (157, .iaload, 1, 0, 0, 0, 0, 0) := rfl
set_option maxRecDepth 20000 in
theorem gk_f167_158 : gd_fetch 167 158 = some (158, .if_icmp .eq 20, 3, 0, 0, 0, 0, 0) := rfl
set_option maxRecDepth 20000 in
theorem gk_f167_161 : gd_fetch 167 161 = some (161, .iload 4, 2, 0, 0, 0, 0, 0) := rfl
set_option maxRecDepth 20000 in
theorem gk_f167_163 : gd_fetch 167 163 = some (163, .aload_n 0, 1, 0, 0, 0, 0, 0) := rfl
set_option maxRecDepth 20000 in
theorem gk_f167_164 : gd_fetch 167 164 = some (164, .getfield 96, 3, 1201, 9, 38, 4, 1) := rfl
set_option maxRecDepth 20000 in
theorem gk_f167_167 : gd_fetch 167 167 = some (167, .iload 6, 2, 0, 0, 0, 0, 0) := rfl
set_option maxRecDepth 20000 in
theorem gk_f167_169 : gd_fetch 167 169 = some (169, .iconst 1, 1, 0, 0, 0, 0, 0) := rfl
set_option maxRecDepth 20000 in
theorem gk_f167_170 : gd_fetch 167 170 = some (170, .isub, 1, 0, 0, 0, 0, 0) := rfl
set_option maxRecDepth 20000 in
theorem gk_f167_171 : gd_fetch 167 171 = some (171, .iaload, 1, 0, 0, 0, 0, 0) := rfl
set_option maxRecDepth 20000 in
theorem gk_f167_172 : gd_fetch 167 172 = some (172, .if_icmp .ge 90, 3, 0, 0, 0, 0, 0) := rfl
set_option maxRecDepth 20000 in
theorem gk_f167_175 : gd_fetch 167 175 = some (175, .goto 17, 3, 0, 0, 0, 0, 0) := rfl
set_option maxRecDepth 20000 in
theorem gk_f167_178 : gd_fetch 167 178 = some (178, .iload 5, 2, 0, 0, 0, 0, 0) := rfl
set_option maxRecDepth 20000 in
theorem gk_f167_180 : gd_fetch 167 180 = some (180, .aload_n 0, 1, 0, 0, 0, 0, 0) := rfl
set_option maxRecDepth 20000 in
theorem gk_f167_181 : gd_fetch 167 181 = some (181, .getfield 99, 3, 1202, 9, 39, 4, 1) := rfl
set_option maxRecDepth 20000 in
theorem gk_f167_184 : gd_fetch 167 184 = some (184, .iload 6, 2, 0, 0, 0, 0, 0) := rfl
set_option maxRecDepth 20000 in
theorem gk_f167_186 : gd_fetch 167 186 = some (186, .iconst 1, 1, 0, 0, 0, 0, 0) := rfl
set_option maxRecDepth 20000 in
theorem gk_f167_187 : gd_fetch 167 187 = some (187, .isub, 1, 0, 0, 0, 0, 0) := rfl
set_option maxRecDepth 20000 in
theorem gk_f167_188 : gd_fetch 167 188 = some (188, .iaload, 1, 0, 0, 0, 0, 0) := rfl
set_option maxRecDepth 20000 in
theorem gk_f167_189 : gd_fetch 167 189 = some (189, .if_icmp .le 73, 3, 0, 0, 0, 0, 0) := rfl
set_option maxRecDepth 20000 in
theorem gk_f167_192 : gd_fetch 167 192 = some (192, .aload_n 0, 1, 0, 0, 0, 0, 0) := rfl
set_option maxRecDepth 20000 in
theorem gk_f167_193 : gd_fetch 167 193 = some (193, .getfield 90, 3, 1199, 9, 36, 4, 1) := rfl
set_option maxRecDepth 20000 in
theorem gk_f167_196 : gd_fetch 167 196 = some (196, .iload 6, 2, 0, 0, 0, 0, 0) := rfl
set_option maxRecDepth 20000 in
theorem gk_f167_198 : gd_fetch 167 198 = some (198, .aload_n 0, 1, 0, 0, 0, 0, 0) := rfl
set_option maxRecDepth 20000 in
theorem gk_f167_199 : gd_fetch 167 199 = some (199, .getfield 90, 3, 1199, 9, 36, 4, 1) := rfl
set_option maxRecDepth 20000 in
theorem gk_f167_202 : gd_fetch 167 202 = some (202, .iload 6, 2, 0, 0, 0, 0, 0) := rfl
set_option maxRecDepth 20000 in
theorem gk_f167_204 : gd_fetch 167 204 = some (204, .iconst 1, 1, 0, 0, 0, 0, 0) := rfl
set_option maxRecDepth 20000 in
theorem gk_f167_205 : gd_fetch 167 205 = some (205, .isub, 1, 0, 0, 0, 0, 0) := rfl
set_option maxRecDepth 20000 in
theorem gk_f167_206 : gd_fetch 167 206 = some (206, .iaload, 1, 0, 0, 0, 0, 0) := rfl
set_option maxRecDepth 20000 in
theorem gk_f167_207 : gd_fetch 167 207 = some (207, .iastore, 1, 0, 0, 0, 0, 0) := rfl
set_option maxRecDepth 20000 in
theorem gk_f167_208 : gd_fetch 167 208 = some (208, .aload_n 0, 1, 0, 0, 0, 0, 0) := rfl
set_option maxRecDepth 20000 in
theorem gk_f167_209 : gd_fetch 167 209 = some (209, .getfield 93, 3, 1200, 9, 37, 4, 1) := rfl
set_option maxRecDepth 20000 in
theorem gk_f167_212 : gd_fetch 167 212 = some (212, .iload 6, 2, 0, 0, 0, 0, 0) := rfl
set_option maxRecDepth 20000 in
theorem gk_f167_214 : gd_fetch 167 214 = some (214, .aload_n 0, 1, 0, 0, 0, 0, 0) := rfl
set_option maxRecDepth 20000 in
theorem gk_f167_215 : gd_fetch 167 215 = some (215, .getfield 93, 3, 1200, 9, 37, 4, 1) := rfl
set_option maxRecDepth 20000 in
theorem gk_f167_218 : gd_fetch 167 218 = some (218, .iload 6, 2, 0, 0, 0, 0, 0) := rfl
set_option maxRecDepth 20000 in
theorem gk_f167_220 : gd_fetch 167 220 = some (220, .iconst 1, 1, 0, 0, 0, 0, 0) := rfl
set_option maxRecDepth 20000 in
theorem gk_f167_221 : gd_fetch 167 221 = some (221, .isub, 1, 0, 0, 0, 0, 0) := rfl
set_option maxRecDepth 20000 in
theorem gk_f167_222 : gd_fetch 167 222 = some (222, .iaload, 1, 0, 0, 0, 0, 0) := rfl
set_option maxRecDepth 20000 in
theorem gk_f167_223 : gd_fetch 167 223 = some (223, .iastore, 1, 0, 0, 0, 0, 0) := rfl
set_option maxRecDepth 20000 in
theorem gk_f167_224 : gd_fetch 167 224 = some (224, .aload_n 0, 1, 0, 0, 0, 0, 0) := rfl
set_option maxRecDepth 20000 in
theorem gk_f167_225 : gd_fetch 167 225 = some (225, .getfield 96, 3, 1201, 9, 38, 4, 1) := rfl
set_option maxRecDepth 20000 in
theorem gk_f167_228 : gd_fetch 167 228 = some (228, .iload 6, 2, 0, 0, 0, 0, 0) := rfl
set_option maxRecDepth 20000 in
theorem gk_f167_230 : gd_fetch 167 230 = some (230, .aload_n 0, 1, 0, 0, 0, 0, 0) := rfl
set_option maxRecDepth 20000 in
theorem gk_f167_231 : gd_fetch 167 231 = some (231, .getfield 96, 3, 1201, 9, 38, 4, 1) := rfl
set_option maxRecDepth 20000 in
theorem gk_f167_234 : gd_fetch 167 234 = some (234, .iload 6, 2, 0, 0, 0, 0, 0) := rfl
set_option maxRecDepth 20000 in
theorem gk_f167_236 : gd_fetch 167 236 = some (236, .iconst 1, 1, 0, 0, 0, 0, 0) := rfl
set_option maxRecDepth 20000 in
theorem gk_f167_237 : gd_fetch 167 237 = some (237, .isub, 1, 0, 0, 0, 0, 0) := rfl
set_option maxRecDepth 20000 in
theorem gk_f167_238 : gd_fetch 167 238 = some (238, .iaload, 1, 0, 0, 0, 0, 0) := rfl
set_option maxRecDepth 20000 in
theorem gk_f167_239 : gd_fetch 167 239 = some (239, .iastore, 1, 0, 0, 0, 0, 0) := rfl
set_option maxRecDepth 20000 in
theorem gk_f167_240 : gd_fetch 167 240 = some (240, .aload_n 0, 1, 0, 0, 0, 0, 0) := rfl
set_option maxRecDepth 20000 in
theorem gk_f167_241 : gd_fetch 167 241 = some (241, .getfield 99, 3, 1202, 9, 39, 4, 1) := rfl
set_option maxRecDepth 20000 in
theorem gk_f167_244 : gd_fetch 167 244 = some (244, .iload 6, 2, 0, 0, 0, 0, 0) := rfl
set_option maxRecDepth 20000 in
theorem gk_f167_246 : gd_fetch 167 246 = some (246, .aload_n 0, 1, 0, 0, 0, 0, 0) := rfl
set_option maxRecDepth 20000 in
theorem gk_f167_247 : gd_fetch 167 247 = some (247, .getfield 99, 3, 1202, 9, 39, 4, 1) := rfl
set_option maxRecDepth 20000 in
theorem gk_f167_250 : gd_fetch 167 250 = some (250, .iload 6, 2, 0, 0, 0, 0, 0) := rfl
set_option maxRecDepth 20000 in
theorem gk_f167_252 : gd_fetch 167 252 = some (252, .iconst 1, 1, 0, 0, 0, 0, 0) := rfl
set_option maxRecDepth 20000 in
theorem gk_f167_253 : gd_fetch 167 253 = some (253, .isub, 1, 0, 0, 0, 0, 0) := rfl
set_option maxRecDepth 20000 in
theorem gk_f167_254 : gd_fetch 167 254 = some (254, .iaload, 1, 0, 0, 0, 0, 0) := rfl
set_option maxRecDepth 20000 in
theorem gk_f167_255 : gd_fetch 167 255 = some (255, .iastore, 1, 0, 0, 0, 0, 0) := rfl
set_option maxRecDepth 20000 in
theorem gk_f167_256 : gd_fetch 167 256 = some (256, .iinc 6 (-1), 3, 0, 0, 0, 0, 0) := rfl
set_option maxRecDepth 20000 in
theorem gk_f167_259 : gd_fetch 167 259 = some (259, .goto (-146), 3, 0, 0, 0, 0, 0) := rfl
set_option maxRecDepth 20000 in
theorem gk_f167_262 : gd_fetch 167 262 = some (262, .aload_n 0, 1, 0, 0, 0, 0, 0) := rfl
set_option maxRecDepth 20000 in
theorem gk_f167_263 : gd_fetch 167 263 = some (263, .getfield 90, 3, 1199, 9, 36, 4, 1) := rfl
set_option maxRecDepth 20000 in
theorem gk_f167_266 : gd_fetch 167 266 = some (266, .iload 6, 2, 0, 0, 0, 0, 0) := rfl
set_option maxRecDepth 20000 in
theorem gk_f167_268 : gd_fetch 167 268 = some (268, .iload_n 2, 1, 0, 0, 0, 0, 0) := rfl
set_option maxRecDepth 20000 in
theorem gk_f167_269 : gd_fetch 167 269 = some (269, .iastore, 1, 0, 0, 0, 0, 0) := rfl
set_option maxRecDepth 20000 in
theorem gk_f167_270 : gd_fetch 167 270 = some (270, .aload_n 0, 1, 0, 0, 0, 0, 0) := rfl
set_option maxRecDepth 20000 in
theorem gk_f167_271 : gd_fetch 167 271 = some (271, .getfield 93, 3, 1200, 9, 37, 4, 1) := rfl
set_option maxRecDepth 20000 in
theorem gk_f167_274 : gd_fetch 167 274 = some (274, .iload 6, 2, 0, 0, 0, 0, 0) := rfl
set_option maxRecDepth 20000 in
theorem gk_f167_276 : gd_fetch 167 276 = some (276, .iload_n 3, 1, 0, 0, 0, 0, 0) := rfl
set_option maxRecDepth 20000 in
theorem gk_f167_277 : gd_fetch 167 277 = some (277, .iastore, 1, 0, 0, 0, 0, 0) := rfl
set_option maxRecDepth 20000 in
theorem gk_f167_278 : gd_fetch 167 278 = some (278, .aload_n 0, 1, 0, 0, 0, 0, 0) := rfl
set_option maxRecDepth 20000 in
theorem gk_f167_279 : gd_fetch 167 279 = some (279, .getfield 96, 3, 1201, 9, 38, 4, 1) := rfl
set_option maxRecDepth 20000 in
theorem gk_f167_282 : gd_fetch 167 282 = some (282, .iload 6, 2, 0, 0, 0, 0, 0) := rfl
set_option maxRecDepth 20000 in
theorem gk_f167_284 : gd_fetch 167 284 = some (284, .iload 4, 2, 0, 0, 0, 0, 0) := rfl
set_option maxRecDepth 20000 in
theorem gk_f167_286 : gd_fetch 167 286 = some (286, .iastore, 1, 0, 0, 0, 0, 0) := rfl
set_option maxRecDepth 20000 in
theorem gk_f167_287 : gd_fetch 167 287 = some (287, .aload_n 0, 1, 0, 0, 0, 0, 0) := rfl
set_option maxRecDepth 20000 in
theorem gk_f167_288 : gd_fetch 167 288 = some (288, .getfield 99, 3, 1202, 9, 39, 4, 1) := rfl
set_option maxRecDepth 20000 in
theorem gk_f167_291 : gd_fetch 167 291 = some (291, .iload 6, 2, 0, 0, 0, 0, 0) := rfl
set_option maxRecDepth 20000 in
theorem gk_f167_293 : gd_fetch 167 293 = some (293, .iload 5, 2, 0, 0, 0, 0, 0) := rfl
set_option maxRecDepth 20000 in
theorem gk_f167_295 : gd_fetch 167 295 = some (295, .iastore, 1, 0, 0, 0, 0, 0) := rfl
set_option maxRecDepth 20000 in
theorem gk_f167_296 : gd_fetch 167 296 = some (296, .aload_n 0, 1, 0, 0, 0, 0, 0) := rfl
set_option maxRecDepth 20000 in
theorem gk_f167_297 : gd_fetch 167 297 = some (297, .dup, 1, 0, 0, 0, 0, 0) := rfl
set_option maxRecDepth 20000 in
theorem gk_f167_298 : gd_fetch 167 298 = some (298, .getfield 377, 3, 1203, 9, 40, 0, 0) := rfl
set_option maxRecDepth 20000 in
theorem gk_f167_301 : gd_fetch 167 301 = some (301, .iconst 1, 1, 0, 0, 0, 0, 0) := rfl
set_option maxRecDepth 20000 in
theorem gk_f167_302 : gd_fetch 167 302 = some (302, .iadd, 1, 0, 0, 0, 0, 0) := rfl
set_option maxRecDepth 20000 in
theorem gk_f167_303 : gd_fetch 167 303 = some (303, .putfield 377, 3, 1203, 9, 40, 0, 0) := rfl
set_option maxRecDepth 20000 in
theorem gk_f167_306 : gd_fetch 167 306 = some (306, .iinc 2 1, 3, 0, 0, 0, 0, 0) := rfl
set_option maxRecDepth 20000 in
theorem gk_f167_309 : gd_fetch 167 309 = some (309, .goto (-302), 3, 0, 0, 0, 0, 0) := rfl
set_option maxRecDepth 20000 in
theorem gk_f167_312 : gd_fetch 167 312 = some (312, .return_, 1, 0, 0, 0, 0, 0) := rfl
set_option maxRecDepth 20000 in
set_option maxHeartbeats 4000000 in
theorem q_Mo_makeList (r0 : Nat) (x1 : Int32) (m : gd_M) : gd_call 167 [.ref r0, .int x1] m = if gd_ok (gN m) r0 9 = true then (gd_Den (167, 7, [.ref r0, .int x1, .int 0, .null, .null, .null, .null], [], (wI m r0 40 0))) else none := by
  refine Eq.trans (show gd_call 167 [.ref r0, .int x1] m = gd_Den (167, 0, [.ref r0, .int x1, .null, .null, .null, .null, .null], [], m) from by unfold gd_call gd_ent; rw [gk_ml167]; rfl) ?_
  refine Eq.trans (D_aload_n (x := r0) gk_f167_0 rfl) ?_
  refine Eq.trans (D_iconst (x := 0) gk_f167_1 gk_c_0) ?_
  refine Eq.trans (D_pfI gk_f167_2) ?_
  refine gd_ite (fun h1 => ?_) (fun _ => rfl)
  refine Eq.trans (D_iconst (x := 0) gk_f167_5 gk_c_0) ?_
  refine Eq.trans (D_istore_n gk_f167_6 gk_st167_2) ?_
  rfl
set_option maxRecDepth 20000 in
set_option maxHeartbeats 4000000 in
theorem q_Mo_makeList_7 (r0 : Nat) (x1 : Int32) (x2 : Int32) (v3 : Value) (v4 : Value) (v5 : Value) (v6 : Value) (m : gd_M) : gd_Den (167, 7, [.ref r0, .int x1, .int x2, v3, v4, v5, v6], [], m) = if gd_ok (gN m) r0 9 = true then (if (x2 < (gI m r0 18) : Prop) then ((gd_call 166 [.ref r0, .int x2, .int x1] m).bind (gd_kI fun z6 m4 => if (z6 = 0 : Prop) then (gd_Den (167, 7, [.ref r0, .int x1, .int (x2 + 1), v3, v4, v5, v6], [], m4)) else (gd_Den (167, 38, [.ref r0, .int x1, .int x2, .int 0, .int 0, .int 0, .int 0], [], m4)))) else (some (.null, m))) else none := by
  refine Eq.trans (D_iload_n (x := x2) gk_f167_7 rfl) ?_
  refine Eq.trans (D_aload_n (x := r0) gk_f167_8 rfl) ?_
  refine Eq.trans (D_gfI gk_f167_9 (by decide) (by decide) (by decide)) ?_
  refine gd_ite (fun h1 => ?_) (fun _ => rfl)
  refine Eq.trans (D_ic_ge (t := 312) gk_f167_12 (by decide)) ?_
  refine gd_ite (fun h2 => ?_) (fun h3 => ?_)
  · refine Eq.trans (D_aload_n (x := r0) gk_f167_15 rfl) ?_
    refine Eq.trans (D_iload_n (x := x2) gk_f167_16 rfl) ?_
    refine Eq.trans (D_iload_n (x := x1) gk_f167_17 rfl) ?_
    refine Eq.trans (D_ivZ (cl := 9) (args := [.ref r0, .int x2, .int x1]) (rest := []) gk_f167_18 rfl rfl (gd_rmk gk_rm167_166 gk_ln166 gk_ml166 rfl rfl rfl) gk_rk166 (gd_hnd_n gk_nc167) gk_nc166 gk_n11_166 gk_cl166) ?_
    refine Eq.trans (if_pos h1) ?_
    refine gd_bnd (gd_kI_c fun z6 m4 => ?_)
    refine Eq.trans (D_if_ne (t := 27) gk_f167_21 (by decide)) ?_
    refine gd_ite (fun h7 => ?_) (fun h8 => ?_)
    · refine Eq.trans (D_goto (t := 306) gk_f167_24 (by decide)) ?_
      refine Eq.trans (D_iinc (x := x2) (y := 1) gk_f167_306 rfl gk_c_1 gk_st167_2) ?_
      refine Eq.trans (D_goto (t := 7) gk_f167_309 (by decide)) ?_
      rfl
    · refine Eq.trans (D_iconst (x := 0) gk_f167_27 gk_c_0) ?_
      refine Eq.trans (D_istore_n gk_f167_28 gk_st167_3) ?_
      refine Eq.trans (D_iconst (x := 0) gk_f167_29 gk_c_0) ?_
      refine Eq.trans (D_istore gk_f167_30 gk_st167_4) ?_
      refine Eq.trans (D_iconst (x := 0) gk_f167_32 gk_c_0) ?_
      refine Eq.trans (D_istore gk_f167_33 gk_st167_5) ?_
      refine Eq.trans (D_iconst (x := 0) gk_f167_35 gk_c_0) ?_
      refine Eq.trans (D_istore gk_f167_36 gk_st167_6) ?_
      rfl
  · refine Eq.trans (D_vreturn gk_f167_312 gk_rk167) ?_
    rfl
set_option maxRecDepth 20000 in
set_option maxHeartbeats 4000000 in
theorem q_Mo_makeList_38 (r0 : Nat) (x1 : Int32) (x2 : Int32) (x3 : Int32) (x4 : Int32) (x5 : Int32) (x6 : Int32) (m : gd_M) : gd_Den (167, 38, [.ref r0, .int x1, .int x2, .int x3, .int x4, .int x5, .int x6], [], m) = if (x6 < 4 : Prop) then (if (x1 < 4 : Prop) then (if (x6 = x1 : Prop) then (if gd_ok (gN m) r0 9 = true then ((gd_call 144 [.ref r0, .int ((4 * x2) + x6)] m).bind (gd_kI fun z10 m8 => if gd_ok (gN m8) r0 9 = true then ((gd_call 143 [.ref r0, .int ((4 * x2) + x6)] m8).bind (gd_kI fun z14 m12 => if gd_ok (gN m12) r0 9 = true then ((gd_call 142 [.ref r0, .int ((4 * x2) + x6)] m12).bind (gd_kI fun z18 m16 => gd_Den (167, 38, [.ref r0, .int x1, .int x2, .int (x3 + z10), .int (x4 + z14), .int (x5 + z18), .int (x6 + 1)], [], m16))) else none)) else none)) else none) else (gd_Den (167, 38, [.ref r0, .int x1, .int x2, .int x3, .int x4, .int x5, .int (x6 + 1)], [], m))) else (if gd_ok (gN m) r0 9 = true then ((gd_call 144 [.ref r0, .int ((4 * x2) + x6)] m).bind (gd_kI fun z22 m20 => if gd_ok (gN m20) r0 9 = true then ((gd_call 143 [.ref r0, .int ((4 * x2) + x6)] m20).bind (gd_kI fun z26 m24 => if gd_ok (gN m24) r0 9 = true then ((gd_call 142 [.ref r0, .int ((4 * x2) + x6)] m24).bind (gd_kI fun z30 m28 => gd_Den (167, 38, [.ref r0, .int x1, .int x2, .int (x3 + z22), .int (x4 + z26), .int (x5 + z30), .int (x6 + 1)], [], m28))) else none)) else none)) else none)) else (if gd_ok (gN m) r0 9 = true then (gd_Den (167, 113, [.ref r0, .int x1, .int x2, .int x3, .int x4, .int x5, .int (gI m r0 40)], [], m)) else none) := by
  refine Eq.trans (D_iload (x := x6) gk_f167_38 rfl) ?_
  refine Eq.trans (D_iconst (x := 4) gk_f167_40 gk_c_4) ?_
  refine Eq.trans (D_ic_ge (t := 107) gk_f167_41 (by decide)) ?_
  refine gd_ite (fun h1 => ?_) (fun h2 => ?_)
  · refine Eq.trans (D_iload_n (x := x1) gk_f167_44 rfl) ?_
    refine Eq.trans (D_iconst (x := 4) gk_f167_45 gk_c_4) ?_
    refine Eq.trans (D_ic_ge (t := 58) gk_f167_46 (by decide)) ?_
    refine gd_ite (fun h3 => ?_) (fun h4 => ?_)
    · refine Eq.trans (D_iload (x := x6) gk_f167_49 rfl) ?_
      refine Eq.trans (D_iload_n (x := x1) gk_f167_51 rfl) ?_
      refine Eq.trans (D_ic_eq (t := 58) gk_f167_52 (by decide)) ?_
      refine gd_ite (fun h5 => ?_) (fun h6 => ?_)
      · refine Eq.trans (D_iload_n (x := x3) gk_f167_58 rfl) ?_
        refine Eq.trans (D_aload_n (x := r0) gk_f167_59 rfl) ?_
        refine Eq.trans (D_iconst (x := 4) gk_f167_60 gk_c_4) ?_
        refine Eq.trans (D_iload_n (x := x2) gk_f167_61 rfl) ?_
        refine Eq.trans (D_imul gk_f167_62) ?_
        refine Eq.trans (D_iload (x := x6) gk_f167_63 rfl) ?_
        refine Eq.trans (D_iadd gk_f167_65) ?_
        refine Eq.trans (D_ivI (cl := 9) (args := [.ref r0, .int ((4 * x2) + x6)]) (rest := [.int x3]) gk_f167_66 rfl rfl (gd_rmk gk_rm167_144 gk_ln144 gk_ml144 rfl rfl rfl) gk_rk144 (gd_hnd_n gk_nc167) gk_nc144 gk_n11_144 gk_cl144) ?_
        refine gd_ite (fun h7 => ?_) (fun _ => rfl)
        refine gd_bnd (gd_kI_c fun z10 m8 => ?_)
        refine Eq.trans (D_iadd gk_f167_69) ?_
        refine Eq.trans (D_istore_n gk_f167_70 gk_st167_3) ?_
        refine Eq.trans (D_iload (x := x4) gk_f167_71 rfl) ?_
        refine Eq.trans (D_aload_n (x := r0) gk_f167_73 rfl) ?_
        refine Eq.trans (D_iconst (x := 4) gk_f167_74 gk_c_4) ?_
        refine Eq.trans (D_iload_n (x := x2) gk_f167_75 rfl) ?_
        refine Eq.trans (D_imul gk_f167_76) ?_
        refine Eq.trans (D_iload (x := x6) gk_f167_77 rfl) ?_
        refine Eq.trans (D_iadd gk_f167_79) ?_
        refine Eq.trans (D_ivI (cl := 9) (args := [.ref r0, .int ((4 * x2) + x6)]) (rest := [.int x4]) gk_f167_80 rfl rfl (gd_rmk gk_rm167_143 gk_ln143 gk_ml143 rfl rfl rfl) gk_rk143 (gd_hnd_n gk_nc167) gk_nc143 gk_n11_143 gk_cl143) ?_
        refine gd_ite (fun h11 => ?_) (fun _ => rfl)
        refine gd_bnd (gd_kI_c fun z14 m12 => ?_)
        refine Eq.trans (D_iadd gk_f167_83) ?_
        refine Eq.trans (D_istore gk_f167_84 gk_st167_4) ?_
        refine Eq.trans (D_iload (x := x5) gk_f167_86 rfl) ?_
        refine Eq.trans (D_aload_n (x := r0) gk_f167_88 rfl) ?_
        refine Eq.trans (D_iconst (x := 4) gk_f167_89 gk_c_4) ?_
        refine Eq.trans (D_iload_n (x := x2) gk_f167_90 rfl) ?_
        refine Eq.trans (D_imul gk_f167_91) ?_
        refine Eq.trans (D_iload (x := x6) gk_f167_92 rfl) ?_
        refine Eq.trans (D_iadd gk_f167_94) ?_
        refine Eq.trans (D_ivI (cl := 9) (args := [.ref r0, .int ((4 * x2) + x6)]) (rest := [.int x5]) gk_f167_95 rfl rfl (gd_rmk gk_rm167_142 gk_ln142 gk_ml142 rfl rfl rfl) gk_rk142 (gd_hnd_n gk_nc167) gk_nc142 gk_n11_142 gk_cl142) ?_
        refine gd_ite (fun h15 => ?_) (fun _ => rfl)
        refine gd_bnd (gd_kI_c fun z18 m16 => ?_)
        refine Eq.trans (D_iadd gk_f167_98) ?_
        refine Eq.trans (D_istore gk_f167_99 gk_st167_5) ?_
        refine Eq.trans (D_iinc (x := x6) (y := 1) gk_f167_101 rfl gk_c_1 gk_st167_6) ?_
        refine Eq.trans (D_goto (t := 38) gk_f167_104 (by decide)) ?_
        rfl
      · refine Eq.trans (D_goto (t := 101) gk_f167_55 (by decide)) ?_
        refine Eq.trans (D_iinc (x := x6) (y := 1) gk_f167_101 rfl gk_c_1 gk_st167_6) ?_
        refine Eq.trans (D_goto (t := 38) gk_f167_104 (by decide)) ?_
        rfl
    · refine Eq.trans (D_iload_n (x := x3) gk_f167_58 rfl) ?_
      refine Eq.trans (D_aload_n (x := r0) gk_f167_59 rfl) ?_
      refine Eq.trans (D_iconst (x := 4) gk_f167_60 gk_c_4) ?_
      refine Eq.trans (D_iload_n (x := x2) gk_f167_61 rfl) ?_
      refine Eq.trans (D_imul gk_f167_62) ?_
      refine Eq.trans (D_iload (x := x6) gk_f167_63 rfl) ?_
      refine Eq.trans (D_iadd gk_f167_65) ?_
      refine Eq.trans (D_ivI (cl := 9) (args := [.ref r0, .int ((4 * x2) + x6)]) (rest := [.int x3]) gk_f167_66 rfl rfl (gd_rmk gk_rm167_144 gk_ln144 gk_ml144 rfl rfl rfl) gk_rk144 (gd_hnd_n gk_nc167) gk_nc144 gk_n11_144 gk_cl144) ?_
      refine gd_ite (fun h19 => ?_) (fun _ => rfl)
      refine gd_bnd (gd_kI_c fun z22 m20 => ?_)
      refine Eq.trans (D_iadd gk_f167_69) ?_
      refine Eq.trans (D_istore_n gk_f167_70 gk_st167_3) ?_
      refine Eq.trans (D_iload (x := x4) gk_f167_71 rfl) ?_
      refine Eq.trans (D_aload_n (x := r0) gk_f167_73 rfl) ?_
      refine Eq.trans (D_iconst (x := 4) gk_f167_74 gk_c_4) ?_
      refine Eq.trans (D_iload_n (x := x2) gk_f167_75 rfl) ?_
      refine Eq.trans (D_imul gk_f167_76) ?_
      refine Eq.trans (D_iload (x := x6) gk_f167_77 rfl) ?_
      refine Eq.trans (D_iadd gk_f167_79) ?_
      refine Eq.trans (D_ivI (cl := 9) (args := [.ref r0, .int ((4 * x2) + x6)]) (rest := [.int x4]) gk_f167_80 rfl rfl (gd_rmk gk_rm167_143 gk_ln143 gk_ml143 rfl rfl rfl) gk_rk143 (gd_hnd_n gk_nc167) gk_nc143 gk_n11_143 gk_cl143) ?_
      refine gd_ite (fun h23 => ?_) (fun _ => rfl)
      refine gd_bnd (gd_kI_c fun z26 m24 => ?_)
      refine Eq.trans (D_iadd gk_f167_83) ?_
      refine Eq.trans (D_istore gk_f167_84 gk_st167_4) ?_
      refine Eq.trans (D_iload (x := x5) gk_f167_86 rfl) ?_
      refine Eq.trans (D_aload_n (x := r0) gk_f167_88 rfl) ?_
      refine Eq.trans (D_iconst (x := 4) gk_f167_89 gk_c_4) ?_
      refine Eq.trans (D_iload_n (x := x2) gk_f167_90 rfl) ?_
      refine Eq.trans (D_imul gk_f167_91) ?_
      refine Eq.trans (D_iload (x := x6) gk_f167_92 rfl) ?_
      refine Eq.trans (D_iadd gk_f167_94) ?_
      refine Eq.trans (D_ivI (cl := 9) (args := [.ref r0, .int ((4 * x2) + x6)]) (rest := [.int x5]) gk_f167_95 rfl rfl (gd_rmk gk_rm167_142 gk_ln142 gk_ml142 rfl rfl rfl) gk_rk142 (gd_hnd_n gk_nc167) gk_nc142 gk_n11_142 gk_cl142) ?_
      refine gd_ite (fun h27 => ?_) (fun _ => rfl)
      refine gd_bnd (gd_kI_c fun z30 m28 => ?_)
      refine Eq.trans (D_iadd gk_f167_98) ?_
      refine Eq.trans (D_istore gk_f167_99 gk_st167_5) ?_
      refine Eq.trans (D_iinc (x := x6) (y := 1) gk_f167_101 rfl gk_c_1 gk_st167_6) ?_
      refine Eq.trans (D_goto (t := 38) gk_f167_104 (by decide)) ?_
      rfl
  · refine Eq.trans (D_aload_n (x := r0) gk_f167_107 rfl) ?_
    refine Eq.trans (D_gfI gk_f167_108 (by decide) (by decide) (by decide)) ?_
    refine gd_ite (fun h31 => ?_) (fun _ => rfl)
    refine Eq.trans (D_istore gk_f167_111 gk_st167_6) ?_
    rfl
set_option maxRecDepth 20000 in
set_option maxHeartbeats 4000000 in
theorem q_Mo_makeList_113 (r0 : Nat) (x1 : Int32) (x2 : Int32) (x3 : Int32) (x4 : Int32) (x5 : Int32) (x6 : Int32) (m : gd_M) : gd_Den (167, 113, [.ref r0, .int x1, .int x2, .int x3, .int x4, .int x5, .int x6], [], m) = if (0 < x6 : Prop) then (if gd_ok (gN m) r0 9 = true then (if gd_okA (gN m) (gR m r0 37) 10 (x6 - 1) = true then (if (x3 = (gI m (gR m r0 37) ((x6 - 1) : Int32).toNatClampNeg) : Prop) then (if gd_okA (gN m) (gR m r0 38) 10 (x6 - 1) = true then (if (x4 = (gI m (gR m r0 38) ((x6 - 1) : Int32).toNatClampNeg) : Prop) then (if gd_okA (gN m) (gR m r0 39) 10 (x6 - 1) = true then (if ((gI m (gR m r0 39) ((x6 - 1) : Int32).toNatClampNeg) < x5 : Prop) then (if gd_okA (gN m) (gR m r0 36) 10 (x6 - 1) = true then (if gd_okA (gN m) (gR m r0 36) 10 x6 = true then (if gd_okA (gN m) (gR m r0 37) 10 x6 = true then (if gd_okA (gN m) (gR m r0 38) 10 x6 = true then (if gd_okA (gN m) (gR m r0 39) 10 x6 = true then (gd_Den (167, 113, [.ref r0, .int x1, .int x2, .int x3, .int x4, .int x5, .int (x6 + (-1))], [], (wI (wI (wI (wI m (gR m r0 36) (x6 : Int32).toNatClampNeg (gI m (gR m r0 36) ((x6 - 1) : Int32).toNatClampNeg)) (gR m r0 37) (x6 : Int32).toNatClampNeg (gI (wI m (gR m r0 36) (x6 : Int32).toNatClampNeg (gI m (gR m r0 36) ((x6 - 1) : Int32).toNatClampNeg)) (gR m r0 37) ((x6 - 1) : Int32).toNatClampNeg)) (gR m r0 38) (x6 : Int32).toNatClampNeg (gI (wI (wI m (gR m r0 36) (x6 : Int32).toNatClampNeg (gI m (gR m r0 36) ((x6 - 1) : Int32).toNatClampNeg)) (gR m r0 37) (x6 : Int32).toNatClampNeg (gI (wI m (gR m r0 36) (x6 : Int32).toNatClampNeg (gI m (gR m r0 36) ((x6 - 1) : Int32).toNatClampNeg)) (gR m r0 37) ((x6 - 1) : Int32).toNatClampNeg)) (gR m r0 38) ((x6 - 1) : Int32).toNatClampNeg)) (gR m r0 39) (x6 : Int32).toNatClampNeg (gI (wI (wI (wI m (gR m r0 36) (x6 : Int32).toNatClampNeg (gI m (gR m r0 36) ((x6 - 1) : Int32).toNatClampNeg)) (gR m r0 37) (x6 : Int32).toNatClampNeg (gI (wI m (gR m r0 36) (x6 : Int32).toNatClampNeg (gI m (gR m r0 36) ((x6 - 1) : Int32).toNatClampNeg)) (gR m r0 37) ((x6 - 1) : Int32).toNatClampNeg)) (gR m r0 38) (x6 : Int32).toNatClampNeg (gI (wI (wI m (gR m r0 36) (x6 : Int32).toNatClampNeg (gI m (gR m r0 36) ((x6 - 1) : Int32).toNatClampNeg)) (gR m r0 37) (x6 : Int32).toNatClampNeg (gI (wI m (gR m r0 36) (x6 : Int32).toNatClampNeg (gI m (gR m r0 36) ((x6 - 1) : Int32).toNatClampNeg)) (gR m r0 37) ((x6 - 1) : Int32).toNatClampNeg)) (gR m r0 38) ((x6 - 1) : Int32).toNatClampNeg)) (gR m r0 39) ((x6 - 1) : Int32).toNatClampNeg)))) else none) else none) else none) else none) else none) else (if gd_okA (gN m) (gR m r0 36) 10 x6 = true then (if gd_okA (gN m) (gR m r0 37) 10 x6 = true then (if gd_okA (gN m) (gR m r0 38) 10 x6 = true then (if gd_okA (gN m) (gR m r0 39) 10 x6 = true then (gd_Den (167, 7, [.ref r0, .int x1, .int (x2 + 1), .int x3, .int x4, .int x5, .int x6], [], (wI (wI (wI (wI (wI m (gR m r0 36) (x6 : Int32).toNatClampNeg x2) (gR m r0 37) (x6 : Int32).toNatClampNeg x3) (gR m r0 38) (x6 : Int32).toNatClampNeg x4) (gR m r0 39) (x6 : Int32).toNatClampNeg x5) r0 40 ((gI (wI (wI (wI (wI m (gR m r0 36) (x6 : Int32).toNatClampNeg x2) (gR m r0 37) (x6 : Int32).toNatClampNeg x3) (gR m r0 38) (x6 : Int32).toNatClampNeg x4) (gR m r0 39) (x6 : Int32).toNatClampNeg x5) r0 40) + 1)))) else none) else none) else none) else none)) else none) else (if (x4 < (gI m (gR m r0 38) ((x6 - 1) : Int32).toNatClampNeg) : Prop) then (if gd_okA (gN m) (gR m r0 36) 10 (x6 - 1) = true then (if gd_okA (gN m) (gR m r0 36) 10 x6 = true then (if gd_okA (gN m) (gR m r0 37) 10 x6 = true then (if gd_okA (gN m) (gR m r0 38) 10 x6 = true then (if gd_okA (gN m) (gR m r0 39) 10 (x6 - 1) = true then (if gd_okA (gN m) (gR m r0 39) 10 x6 = true then (gd_Den (167, 113, [.ref r0, .int x1, .int x2, .int x3, .int x4, .int x5, .int (x6 + (-1))], [], (wI (wI (wI (wI m (gR m r0 36) (x6 : Int32).toNatClampNeg (gI m (gR m r0 36) ((x6 - 1) : Int32).toNatClampNeg)) (gR m r0 37) (x6 : Int32).toNatClampNeg (gI (wI m (gR m r0 36) (x6 : Int32).toNatClampNeg (gI m (gR m r0 36) ((x6 - 1) : Int32).toNatClampNeg)) (gR m r0 37) ((x6 - 1) : Int32).toNatClampNeg)) (gR m r0 38) (x6 : Int32).toNatClampNeg (gI (wI (wI m (gR m r0 36) (x6 : Int32).toNatClampNeg (gI m (gR m r0 36) ((x6 - 1) : Int32).toNatClampNeg)) (gR m r0 37) (x6 : Int32).toNatClampNeg (gI (wI m (gR m r0 36) (x6 : Int32).toNatClampNeg (gI m (gR m r0 36) ((x6 - 1) : Int32).toNatClampNeg)) (gR m r0 37) ((x6 - 1) : Int32).toNatClampNeg)) (gR m r0 38) ((x6 - 1) : Int32).toNatClampNeg)) (gR m r0 39) (x6 : Int32).toNatClampNeg (gI (wI (wI (wI m (gR m r0 36) (x6 : Int32).toNatClampNeg (gI m (gR m r0 36) ((x6 - 1) : Int32).toNatClampNeg)) (gR m r0 37) (x6 : Int32).toNatClampNeg (gI (wI m (gR m r0 36) (x6 : Int32).toNatClampNeg (gI m (gR m r0 36) ((x6 - 1) : Int32).toNatClampNeg)) (gR m r0 37) ((x6 - 1) : Int32).toNatClampNeg)) (gR m r0 38) (x6 : Int32).toNatClampNeg (gI (wI (wI m (gR m r0 36) (x6 : Int32).toNatClampNeg (gI m (gR m r0 36) ((x6 - 1) : Int32).toNatClampNeg)) (gR m r0 37) (x6 : Int32).toNatClampNeg (gI (wI m (gR m r0 36) (x6 : Int32).toNatClampNeg (gI m (gR m r0 36) ((x6 - 1) : Int32).toNatClampNeg)) (gR m r0 37) ((x6 - 1) : Int32).toNatClampNeg)) (gR m r0 38) ((x6 - 1) : Int32).toNatClampNeg)) (gR m r0 39) ((x6 - 1) : Int32).toNatClampNeg)))) else none) else none) else none) else none) else none) else none) else (if gd_okA (gN m) (gR m r0 36) 10 x6 = true then (if gd_okA (gN m) (gR m r0 37) 10 x6 = true then (if gd_okA (gN m) (gR m r0 38) 10 x6 = true then (if gd_okA (gN m) (gR m r0 39) 10 x6 = true then (gd_Den (167, 7, [.ref r0, .int x1, .int (x2 + 1), .int x3, .int x4, .int x5, .int x6], [], (wI (wI (wI (wI (wI m (gR m r0 36) (x6 : Int32).toNatClampNeg x2) (gR m r0 37) (x6 : Int32).toNatClampNeg x3) (gR m r0 38) (x6 : Int32).toNatClampNeg x4) (gR m r0 39) (x6 : Int32).toNatClampNeg x5) r0 40 ((gI (wI (wI (wI (wI m (gR m r0 36) (x6 : Int32).toNatClampNeg x2) (gR m r0 37) (x6 : Int32).toNatClampNeg x3) (gR m r0 38) (x6 : Int32).toNatClampNeg x4) (gR m r0 39) (x6 : Int32).toNatClampNeg x5) r0 40) + 1)))) else none) else none) else none) else none))) else none) else (if ((gI m (gR m r0 37) ((x6 - 1) : Int32).toNatClampNeg) < x3 : Prop) then (if gd_okA (gN m) (gR m r0 36) 10 (x6 - 1) = true then (if gd_okA (gN m) (gR m r0 36) 10 x6 = true then (if gd_okA (gN m) (gR m r0 37) 10 x6 = true then (if gd_okA (gN m) (gR m r0 38) 10 (x6 - 1) = true then (if gd_okA (gN m) (gR m r0 38) 10 x6 = true then (if gd_okA (gN m) (gR m r0 39) 10 (x6 - 1) = true then (if gd_okA (gN m) (gR m r0 39) 10 x6 = true then (gd_Den (167, 113, [.ref r0, .int x1, .int x2, .int x3, .int x4, .int x5, .int (x6 + (-1))], [], (wI (wI (wI (wI m (gR m r0 36) (x6 : Int32).toNatClampNeg (gI m (gR m r0 36) ((x6 - 1) : Int32).toNatClampNeg)) (gR m r0 37) (x6 : Int32).toNatClampNeg (gI (wI m (gR m r0 36) (x6 : Int32).toNatClampNeg (gI m (gR m r0 36) ((x6 - 1) : Int32).toNatClampNeg)) (gR m r0 37) ((x6 - 1) : Int32).toNatClampNeg)) (gR m r0 38) (x6 : Int32).toNatClampNeg (gI (wI (wI m (gR m r0 36) (x6 : Int32).toNatClampNeg (gI m (gR m r0 36) ((x6 - 1) : Int32).toNatClampNeg)) (gR m r0 37) (x6 : Int32).toNatClampNeg (gI (wI m (gR m r0 36) (x6 : Int32).toNatClampNeg (gI m (gR m r0 36) ((x6 - 1) : Int32).toNatClampNeg)) (gR m r0 37) ((x6 - 1) : Int32).toNatClampNeg)) (gR m r0 38) ((x6 - 1) : Int32).toNatClampNeg)) (gR m r0 39) (x6 : Int32).toNatClampNeg (gI (wI (wI (wI m (gR m r0 36) (x6 : Int32).toNatClampNeg (gI m (gR m r0 36) ((x6 - 1) : Int32).toNatClampNeg)) (gR m r0 37) (x6 : Int32).toNatClampNeg (gI (wI m (gR m r0 36) (x6 : Int32).toNatClampNeg (gI m (gR m r0 36) ((x6 - 1) : Int32).toNatClampNeg)) (gR m r0 37) ((x6 - 1) : Int32).toNatClampNeg)) (gR m r0 38) (x6 : Int32).toNatClampNeg (gI (wI (wI m (gR m r0 36) (x6 : Int32).toNatClampNeg (gI m (gR m r0 36) ((x6 - 1) : Int32).toNatClampNeg)) (gR m r0 37) (x6 : Int32).toNatClampNeg (gI (wI m (gR m r0 36) (x6 : Int32).toNatClampNeg (gI m (gR m r0 36) ((x6 - 1) : Int32).toNatClampNeg)) (gR m r0 37) ((x6 - 1) : Int32).toNatClampNeg)) (gR m r0 38) ((x6 - 1) : Int32).toNatClampNeg)) (gR m r0 39) ((x6 - 1) : Int32).toNatClampNeg)))) else none) else none) else none) else none) else none) else none) else none) else (if gd_okA (gN m) (gR m r0 36) 10 x6 = true then (if gd_okA (gN m) (gR m r0 37) 10 x6 = true then (if gd_okA (gN m) (gR m r0 38) 10 x6 = true then (if gd_okA (gN m) (gR m r0 39) 10 x6 = true then (gd_Den (167, 7, [.ref r0, .int x1, .int (x2 + 1), .int x3, .int x4, .int x5, .int x6], [], (wI (wI (wI (wI (wI m (gR m r0 36) (x6 : Int32).toNatClampNeg x2) (gR m r0 37) (x6 : Int32).toNatClampNeg x3) (gR m r0 38) (x6 : Int32).toNatClampNeg x4) (gR m r0 39) (x6 : Int32).toNatClampNeg x5) r0 40 ((gI (wI (wI (wI (wI m (gR m r0 36) (x6 : Int32).toNatClampNeg x2) (gR m r0 37) (x6 : Int32).toNatClampNeg x3) (gR m r0 38) (x6 : Int32).toNatClampNeg x4) (gR m r0 39) (x6 : Int32).toNatClampNeg x5) r0 40) + 1)))) else none) else none) else none) else none))) else none) else none) else (if gd_ok (gN m) r0 9 = true then (if gd_okA (gN m) (gR m r0 36) 10 x6 = true then (if gd_okA (gN m) (gR m r0 37) 10 x6 = true then (if gd_okA (gN m) (gR m r0 38) 10 x6 = true then (if gd_okA (gN m) (gR m r0 39) 10 x6 = true then (gd_Den (167, 7, [.ref r0, .int x1, .int (x2 + 1), .int x3, .int x4, .int x5, .int x6], [], (wI (wI (wI (wI (wI m (gR m r0 36) (x6 : Int32).toNatClampNeg x2) (gR m r0 37) (x6 : Int32).toNatClampNeg x3) (gR m r0 38) (x6 : Int32).toNatClampNeg x4) (gR m r0 39) (x6 : Int32).toNatClampNeg x5) r0 40 ((gI (wI (wI (wI (wI m (gR m r0 36) (x6 : Int32).toNatClampNeg x2) (gR m r0 37) (x6 : Int32).toNatClampNeg x3) (gR m r0 38) (x6 : Int32).toNatClampNeg x4) (gR m r0 39) (x6 : Int32).toNatClampNeg x5) r0 40) + 1)))) else none) else none) else none) else none) else none) := by
  refine Eq.trans (D_iload (x := x6) gk_f167_113 rfl) ?_
  refine Eq.trans (D_if_le (t := 262) gk_f167_115 (by decide)) ?_
  refine gd_ite (fun h1 => ?_) (fun h2 => ?_)
  · refine Eq.trans (D_iload_n (x := x3) gk_f167_118 rfl) ?_
    refine Eq.trans (D_aload_n (x := r0) gk_f167_119 rfl) ?_
    refine Eq.trans (D_gfR gk_f167_120 (by decide)) ?_
    refine gd_ite (fun h3 => ?_) (fun _ => rfl)
    refine Eq.trans (D_iload (x := x6) gk_f167_123 rfl) ?_
    refine Eq.trans (D_iconst (x := 1) gk_f167_125 gk_c_1) ?_
    refine Eq.trans (D_isub gk_f167_126) ?_
    refine Eq.trans (D_iald gk_f167_127 gk_n10_167) ?_
    refine gd_ite (fun h4 => ?_) (fun _ => rfl)
    refine Eq.trans (D_ic_eq (t := 147) gk_f167_128 (by decide)) ?_
    refine gd_ite (fun h5 => ?_) (fun h6 => ?_)
    · refine Eq.trans (D_iload (x := x4) gk_f167_147 rfl) ?_
      refine Eq.trans (D_aload_n (x := r0) gk_f167_149 rfl) ?_
      refine Eq.trans (D_gfR gk_f167_150 (by decide)) ?_
      refine Eq.trans (if_pos h3) ?_
      refine Eq.trans (D_iload (x := x6) gk_f167_153 rfl) ?_
      refine Eq.trans (D_iconst (x := 1) gk_f167_155 gk_c_1) ?_
      refine Eq.trans (D_isub gk_f167_156) ?_
      refine Eq.trans (D_iald gk_f167_157 gk_n10_167) ?_
      refine gd_ite (fun h7 => ?_) (fun _ => rfl)
      refine Eq.trans (D_ic_eq (t := 178) gk_f167_158 (by decide)) ?_
      refine gd_ite (fun h8 => ?_) (fun h9 => ?_)
      · refine Eq.trans (D_iload (x := x5) gk_f167_178 rfl) ?_
        refine Eq.trans (D_aload_n (x := r0) gk_f167_180 rfl) ?_
        refine Eq.trans (D_gfR gk_f167_181 (by decide)) ?_
        refine Eq.trans (if_pos h3) ?_
        refine Eq.trans (D_iload (x := x6) gk_f167_184 rfl) ?_
        refine Eq.trans (D_iconst (x := 1) gk_f167_186 gk_c_1) ?_
        refine Eq.trans (D_isub gk_f167_187) ?_
        refine Eq.trans (D_iald gk_f167_188 gk_n10_167) ?_
        refine gd_ite (fun h10 => ?_) (fun _ => rfl)
        refine Eq.trans (D_ic_le (t := 262) gk_f167_189 (by decide)) ?_
        refine gd_ite (fun h11 => ?_) (fun h12 => ?_)
        · refine Eq.trans (D_aload_n (x := r0) gk_f167_192 rfl) ?_
          refine Eq.trans (D_gfR gk_f167_193 (by decide)) ?_
          refine Eq.trans (if_pos h3) ?_
          refine Eq.trans (D_iload (x := x6) gk_f167_196 rfl) ?_
          refine Eq.trans (D_aload_n (x := r0) gk_f167_198 rfl) ?_
          refine Eq.trans (D_gfR gk_f167_199 (by decide)) ?_
          refine Eq.trans (if_pos h3) ?_
          refine Eq.trans (D_iload (x := x6) gk_f167_202 rfl) ?_
          refine Eq.trans (D_iconst (x := 1) gk_f167_204 gk_c_1) ?_
          refine Eq.trans (D_isub gk_f167_205) ?_
          refine Eq.trans (D_iald gk_f167_206 gk_n10_167) ?_
          refine gd_ite (fun h13 => ?_) (fun _ => rfl)
          refine Eq.trans (D_iast gk_f167_207) ?_
          refine gd_ite (fun h14 => ?_) (fun _ => rfl)
          refine Eq.trans (D_aload_n (x := r0) gk_f167_208 rfl) ?_
          refine Eq.trans (D_gfR gk_f167_209 (by decide)) ?_
          refine Eq.trans (if_pos h3) ?_
          refine Eq.trans (D_iload (x := x6) gk_f167_212 rfl) ?_
          refine Eq.trans (D_aload_n (x := r0) gk_f167_214 rfl) ?_
          refine Eq.trans (D_gfR gk_f167_215 (by decide)) ?_
          refine Eq.trans (if_pos h3) ?_
          refine Eq.trans (D_iload (x := x6) gk_f167_218 rfl) ?_
          refine Eq.trans (D_iconst (x := 1) gk_f167_220 gk_c_1) ?_
          refine Eq.trans (D_isub gk_f167_221) ?_
          refine Eq.trans (D_iald gk_f167_222 gk_n10_167) ?_
          refine Eq.trans (if_pos h4) ?_
          refine Eq.trans (D_iast gk_f167_223) ?_
          refine gd_ite (fun h15 => ?_) (fun _ => rfl)
          refine Eq.trans (D_aload_n (x := r0) gk_f167_224 rfl) ?_
          refine Eq.trans (D_gfR gk_f167_225 (by decide)) ?_
          refine Eq.trans (if_pos h3) ?_
          refine Eq.trans (D_iload (x := x6) gk_f167_228 rfl) ?_
          refine Eq.trans (D_aload_n (x := r0) gk_f167_230 rfl) ?_
          refine Eq.trans (D_gfR gk_f167_231 (by decide)) ?_
          refine Eq.trans (if_pos h3) ?_
          refine Eq.trans (D_iload (x := x6) gk_f167_234 rfl) ?_
          refine Eq.trans (D_iconst (x := 1) gk_f167_236 gk_c_1) ?_
          refine Eq.trans (D_isub gk_f167_237) ?_
          refine Eq.trans (D_iald gk_f167_238 gk_n10_167) ?_
          refine Eq.trans (if_pos h7) ?_
          refine Eq.trans (D_iast gk_f167_239) ?_
          refine gd_ite (fun h16 => ?_) (fun _ => rfl)
          refine Eq.trans (D_aload_n (x := r0) gk_f167_240 rfl) ?_
          refine Eq.trans (D_gfR gk_f167_241 (by decide)) ?_
          refine Eq.trans (if_pos h3) ?_
          refine Eq.trans (D_iload (x := x6) gk_f167_244 rfl) ?_
          refine Eq.trans (D_aload_n (x := r0) gk_f167_246 rfl) ?_
          refine Eq.trans (D_gfR gk_f167_247 (by decide)) ?_
          refine Eq.trans (if_pos h3) ?_
          refine Eq.trans (D_iload (x := x6) gk_f167_250 rfl) ?_
          refine Eq.trans (D_iconst (x := 1) gk_f167_252 gk_c_1) ?_
          refine Eq.trans (D_isub gk_f167_253) ?_
          refine Eq.trans (D_iald gk_f167_254 gk_n10_167) ?_
          refine Eq.trans (if_pos h10) ?_
          refine Eq.trans (D_iast gk_f167_255) ?_
          refine gd_ite (fun h17 => ?_) (fun _ => rfl)
          refine Eq.trans (D_iinc (x := x6) (y := (-1)) gk_f167_256 rfl gk_c_m1 gk_st167_6) ?_
          refine Eq.trans (D_goto (t := 113) gk_f167_259 (by decide)) ?_
          rfl
        · refine Eq.trans (D_aload_n (x := r0) gk_f167_262 rfl) ?_
          refine Eq.trans (D_gfR gk_f167_263 (by decide)) ?_
          refine Eq.trans (if_pos h3) ?_
          refine Eq.trans (D_iload (x := x6) gk_f167_266 rfl) ?_
          refine Eq.trans (D_iload_n (x := x2) gk_f167_268 rfl) ?_
          refine Eq.trans (D_iast gk_f167_269) ?_
          refine gd_ite (fun h18 => ?_) (fun _ => rfl)
          refine Eq.trans (D_aload_n (x := r0) gk_f167_270 rfl) ?_
          refine Eq.trans (D_gfR gk_f167_271 (by decide)) ?_
          refine Eq.trans (if_pos h3) ?_
          refine Eq.trans (D_iload (x := x6) gk_f167_274 rfl) ?_
          refine Eq.trans (D_iload_n (x := x3) gk_f167_276 rfl) ?_
          refine Eq.trans (D_iast gk_f167_277) ?_
          refine gd_ite (fun h19 => ?_) (fun _ => rfl)
          refine Eq.trans (D_aload_n (x := r0) gk_f167_278 rfl) ?_
          refine Eq.trans (D_gfR gk_f167_279 (by decide)) ?_
          refine Eq.trans (if_pos h3) ?_
          refine Eq.trans (D_iload (x := x6) gk_f167_282 rfl) ?_
          refine Eq.trans (D_iload (x := x4) gk_f167_284 rfl) ?_
          refine Eq.trans (D_iast gk_f167_286) ?_
          refine gd_ite (fun h20 => ?_) (fun _ => rfl)
          refine Eq.trans (D_aload_n (x := r0) gk_f167_287 rfl) ?_
          refine Eq.trans (D_gfR gk_f167_288 (by decide)) ?_
          refine Eq.trans (if_pos h3) ?_
          refine Eq.trans (D_iload (x := x6) gk_f167_291 rfl) ?_
          refine Eq.trans (D_iload (x := x5) gk_f167_293 rfl) ?_
          refine Eq.trans (D_iast gk_f167_295) ?_
          refine gd_ite (fun h21 => ?_) (fun _ => rfl)
          refine Eq.trans (D_aload_n (x := r0) gk_f167_296 rfl) ?_
          refine Eq.trans (D_dupR gk_f167_297) ?_
          refine Eq.trans (D_gfI gk_f167_298 (by decide) (by decide) (by decide)) ?_
          refine Eq.trans (if_pos h3) ?_
          refine Eq.trans (D_iconst (x := 1) gk_f167_301 gk_c_1) ?_
          refine Eq.trans (D_iadd gk_f167_302) ?_
          refine Eq.trans (D_pfI gk_f167_303) ?_
          refine Eq.trans (if_pos h3) ?_
          refine Eq.trans (D_iinc (x := x2) (y := 1) gk_f167_306 rfl gk_c_1 gk_st167_2) ?_
          refine Eq.trans (D_goto (t := 7) gk_f167_309 (by decide)) ?_
          rfl
      · refine Eq.trans (D_iload (x := x4) gk_f167_161 rfl) ?_
        refine Eq.trans (D_aload_n (x := r0) gk_f167_163 rfl) ?_
        refine Eq.trans (D_gfR gk_f167_164 (by decide)) ?_
        refine Eq.trans (if_pos h3) ?_
        refine Eq.trans (D_iload (x := x6) gk_f167_167 rfl) ?_
        refine Eq.trans (D_iconst (x := 1) gk_f167_169 gk_c_1) ?_
        refine Eq.trans (D_isub gk_f167_170) ?_
        refine Eq.trans (D_iald gk_f167_171 gk_n10_167) ?_
        refine Eq.trans (if_pos h7) ?_
        refine Eq.trans (D_ic_ge (t := 262) gk_f167_172 (by decide)) ?_
        refine gd_ite (fun h22 => ?_) (fun h23 => ?_)
        · refine Eq.trans (D_goto (t := 192) gk_f167_175 (by decide)) ?_
          refine Eq.trans (D_aload_n (x := r0) gk_f167_192 rfl) ?_
          refine Eq.trans (D_gfR gk_f167_193 (by decide)) ?_
          refine Eq.trans (if_pos h3) ?_
          refine Eq.trans (D_iload (x := x6) gk_f167_196 rfl) ?_
          refine Eq.trans (D_aload_n (x := r0) gk_f167_198 rfl) ?_
          refine Eq.trans (D_gfR gk_f167_199 (by decide)) ?_
          refine Eq.trans (if_pos h3) ?_
          refine Eq.trans (D_iload (x := x6) gk_f167_202 rfl) ?_
          refine Eq.trans (D_iconst (x := 1) gk_f167_204 gk_c_1) ?_
          refine Eq.trans (D_isub gk_f167_205) ?_
          refine Eq.trans (D_iald gk_f167_206 gk_n10_167) ?_
          refine gd_ite (fun h24 => ?_) (fun _ => rfl)
          refine Eq.trans (D_iast gk_f167_207) ?_
          refine gd_ite (fun h25 => ?_) (fun _ => rfl)
          refine Eq.trans (D_aload_n (x := r0) gk_f167_208 rfl) ?_
          refine Eq.trans (D_gfR gk_f167_209 (by decide)) ?_
          refine Eq.trans (if_pos h3) ?_
          refine Eq.trans (D_iload (x := x6) gk_f167_212 rfl) ?_
          refine Eq.trans (D_aload_n (x := r0) gk_f167_214 rfl) ?_
          refine Eq.trans (D_gfR gk_f167_215 (by decide)) ?_
          refine Eq.trans (if_pos h3) ?_
          refine Eq.trans (D_iload (x := x6) gk_f167_218 rfl) ?_
          refine Eq.trans (D_iconst (x := 1) gk_f167_220 gk_c_1) ?_
          refine Eq.trans (D_isub gk_f167_221) ?_
          refine Eq.trans (D_iald gk_f167_222 gk_n10_167) ?_
          refine Eq.trans (if_pos h4) ?_
          refine Eq.trans (D_iast gk_f167_223) ?_
          refine gd_ite (fun h26 => ?_) (fun _ => rfl)
          refine Eq.trans (D_aload_n (x := r0) gk_f167_224 rfl) ?_
          refine Eq.trans (D_gfR gk_f167_225 (by decide)) ?_
          refine Eq.trans (if_pos h3) ?_
          refine Eq.trans (D_iload (x := x6) gk_f167_228 rfl) ?_
          refine Eq.trans (D_aload_n (x := r0) gk_f167_230 rfl) ?_
          refine Eq.trans (D_gfR gk_f167_231 (by decide)) ?_
          refine Eq.trans (if_pos h3) ?_
          refine Eq.trans (D_iload (x := x6) gk_f167_234 rfl) ?_
          refine Eq.trans (D_iconst (x := 1) gk_f167_236 gk_c_1) ?_
          refine Eq.trans (D_isub gk_f167_237) ?_
          refine Eq.trans (D_iald gk_f167_238 gk_n10_167) ?_
          refine Eq.trans (if_pos h7) ?_
          refine Eq.trans (D_iast gk_f167_239) ?_
          refine gd_ite (fun h27 => ?_) (fun _ => rfl)
          refine Eq.trans (D_aload_n (x := r0) gk_f167_240 rfl) ?_
          refine Eq.trans (D_gfR gk_f167_241 (by decide)) ?_
          refine Eq.trans (if_pos h3) ?_
          refine Eq.trans (D_iload (x := x6) gk_f167_244 rfl) ?_
          refine Eq.trans (D_aload_n (x := r0) gk_f167_246 rfl) ?_
          refine Eq.trans (D_gfR gk_f167_247 (by decide)) ?_
          refine Eq.trans (if_pos h3) ?_
          refine Eq.trans (D_iload (x := x6) gk_f167_250 rfl) ?_
          refine Eq.trans (D_iconst (x := 1) gk_f167_252 gk_c_1) ?_
          refine Eq.trans (D_isub gk_f167_253) ?_
          refine Eq.trans (D_iald gk_f167_254 gk_n10_167) ?_
          refine gd_ite (fun h28 => ?_) (fun _ => rfl)
          refine Eq.trans (D_iast gk_f167_255) ?_
          refine gd_ite (fun h29 => ?_) (fun _ => rfl)
          refine Eq.trans (D_iinc (x := x6) (y := (-1)) gk_f167_256 rfl gk_c_m1 gk_st167_6) ?_
          refine Eq.trans (D_goto (t := 113) gk_f167_259 (by decide)) ?_
          rfl
        · refine Eq.trans (D_aload_n (x := r0) gk_f167_262 rfl) ?_
          refine Eq.trans (D_gfR gk_f167_263 (by decide)) ?_
          refine Eq.trans (if_pos h3) ?_
          refine Eq.trans (D_iload (x := x6) gk_f167_266 rfl) ?_
          refine Eq.trans (D_iload_n (x := x2) gk_f167_268 rfl) ?_
          refine Eq.trans (D_iast gk_f167_269) ?_
          refine gd_ite (fun h30 => ?_) (fun _ => rfl)
          refine Eq.trans (D_aload_n (x := r0) gk_f167_270 rfl) ?_
          refine Eq.trans (D_gfR gk_f167_271 (by decide)) ?_
          refine Eq.trans (if_pos h3) ?_
          refine Eq.trans (D_iload (x := x6) gk_f167_274 rfl) ?_
          refine Eq.trans (D_iload_n (x := x3) gk_f167_276 rfl) ?_
          refine Eq.trans (D_iast gk_f167_277) ?_
          refine gd_ite (fun h31 => ?_) (fun _ => rfl)
          refine Eq.trans (D_aload_n (x := r0) gk_f167_278 rfl) ?_
          refine Eq.trans (D_gfR gk_f167_279 (by decide)) ?_
          refine Eq.trans (if_pos h3) ?_
          refine Eq.trans (D_iload (x := x6) gk_f167_282 rfl) ?_
          refine Eq.trans (D_iload (x := x4) gk_f167_284 rfl) ?_
          refine Eq.trans (D_iast gk_f167_286) ?_
          refine gd_ite (fun h32 => ?_) (fun _ => rfl)
          refine Eq.trans (D_aload_n (x := r0) gk_f167_287 rfl) ?_
          refine Eq.trans (D_gfR gk_f167_288 (by decide)) ?_
          refine Eq.trans (if_pos h3) ?_
          refine Eq.trans (D_iload (x := x6) gk_f167_291 rfl) ?_
          refine Eq.trans (D_iload (x := x5) gk_f167_293 rfl) ?_
          refine Eq.trans (D_iast gk_f167_295) ?_
          refine gd_ite (fun h33 => ?_) (fun _ => rfl)
          refine Eq.trans (D_aload_n (x := r0) gk_f167_296 rfl) ?_
          refine Eq.trans (D_dupR gk_f167_297) ?_
          refine Eq.trans (D_gfI gk_f167_298 (by decide) (by decide) (by decide)) ?_
          refine Eq.trans (if_pos h3) ?_
          refine Eq.trans (D_iconst (x := 1) gk_f167_301 gk_c_1) ?_
          refine Eq.trans (D_iadd gk_f167_302) ?_
          refine Eq.trans (D_pfI gk_f167_303) ?_
          refine Eq.trans (if_pos h3) ?_
          refine Eq.trans (D_iinc (x := x2) (y := 1) gk_f167_306 rfl gk_c_1 gk_st167_2) ?_
          refine Eq.trans (D_goto (t := 7) gk_f167_309 (by decide)) ?_
          rfl
    · refine Eq.trans (D_iload_n (x := x3) gk_f167_131 rfl) ?_
      refine Eq.trans (D_aload_n (x := r0) gk_f167_132 rfl) ?_
      refine Eq.trans (D_gfR gk_f167_133 (by decide)) ?_
      refine Eq.trans (if_pos h3) ?_
      refine Eq.trans (D_iload (x := x6) gk_f167_136 rfl) ?_
      refine Eq.trans (D_iconst (x := 1) gk_f167_138 gk_c_1) ?_
      refine Eq.trans (D_isub gk_f167_139) ?_
      refine Eq.trans (D_iald gk_f167_140 gk_n10_167) ?_
      refine Eq.trans (if_pos h4) ?_
      refine Eq.trans (D_ic_le (t := 262) gk_f167_141 (by decide)) ?_
      refine gd_ite (fun h34 => ?_) (fun h35 => ?_)
      · refine Eq.trans (D_goto (t := 192) gk_f167_144 (by decide)) ?_
        refine Eq.trans (D_aload_n (x := r0) gk_f167_192 rfl) ?_
        refine Eq.trans (D_gfR gk_f167_193 (by decide)) ?_
        refine Eq.trans (if_pos h3) ?_
        refine Eq.trans (D_iload (x := x6) gk_f167_196 rfl) ?_
        refine Eq.trans (D_aload_n (x := r0) gk_f167_198 rfl) ?_
        refine Eq.trans (D_gfR gk_f167_199 (by decide)) ?_
        refine Eq.trans (if_pos h3) ?_
        refine Eq.trans (D_iload (x := x6) gk_f167_202 rfl) ?_
        refine Eq.trans (D_iconst (x := 1) gk_f167_204 gk_c_1) ?_
        refine Eq.trans (D_isub gk_f167_205) ?_
        refine Eq.trans (D_iald gk_f167_206 gk_n10_167) ?_
        refine gd_ite (fun h36 => ?_) (fun _ => rfl)
        refine Eq.trans (D_iast gk_f167_207) ?_
        refine gd_ite (fun h37 => ?_) (fun _ => rfl)
        refine Eq.trans (D_aload_n (x := r0) gk_f167_208 rfl) ?_
        refine Eq.trans (D_gfR gk_f167_209 (by decide)) ?_
        refine Eq.trans (if_pos h3) ?_
        refine Eq.trans (D_iload (x := x6) gk_f167_212 rfl) ?_
        refine Eq.trans (D_aload_n (x := r0) gk_f167_214 rfl) ?_
        refine Eq.trans (D_gfR gk_f167_215 (by decide)) ?_
        refine Eq.trans (if_pos h3) ?_
        refine Eq.trans (D_iload (x := x6) gk_f167_218 rfl) ?_
        refine Eq.trans (D_iconst (x := 1) gk_f167_220 gk_c_1) ?_
        refine Eq.trans (D_isub gk_f167_221) ?_
        refine Eq.trans (D_iald gk_f167_222 gk_n10_167) ?_
        refine Eq.trans (if_pos h4) ?_
        refine Eq.trans (D_iast gk_f167_223) ?_
        refine gd_ite (fun h38 => ?_) (fun _ => rfl)
        refine Eq.trans (D_aload_n (x := r0) gk_f167_224 rfl) ?_
        refine Eq.trans (D_gfR gk_f167_225 (by decide)) ?_
        refine Eq.trans (if_pos h3) ?_
        refine Eq.trans (D_iload (x := x6) gk_f167_228 rfl) ?_
        refine Eq.trans (D_aload_n (x := r0) gk_f167_230 rfl) ?_
        refine Eq.trans (D_gfR gk_f167_231 (by decide)) ?_
        refine Eq.trans (if_pos h3) ?_
        refine Eq.trans (D_iload (x := x6) gk_f167_234 rfl) ?_
        refine Eq.trans (D_iconst (x := 1) gk_f167_236 gk_c_1) ?_
        refine Eq.trans (D_isub gk_f167_237) ?_
        refine Eq.trans (D_iald gk_f167_238 gk_n10_167) ?_
        refine gd_ite (fun h39 => ?_) (fun _ => rfl)
        refine Eq.trans (D_iast gk_f167_239) ?_
        refine gd_ite (fun h40 => ?_) (fun _ => rfl)
        refine Eq.trans (D_aload_n (x := r0) gk_f167_240 rfl) ?_
        refine Eq.trans (D_gfR gk_f167_241 (by decide)) ?_
        refine Eq.trans (if_pos h3) ?_
        refine Eq.trans (D_iload (x := x6) gk_f167_244 rfl) ?_
        refine Eq.trans (D_aload_n (x := r0) gk_f167_246 rfl) ?_
        refine Eq.trans (D_gfR gk_f167_247 (by decide)) ?_
        refine Eq.trans (if_pos h3) ?_
        refine Eq.trans (D_iload (x := x6) gk_f167_250 rfl) ?_
        refine Eq.trans (D_iconst (x := 1) gk_f167_252 gk_c_1) ?_
        refine Eq.trans (D_isub gk_f167_253) ?_
        refine Eq.trans (D_iald gk_f167_254 gk_n10_167) ?_
        refine gd_ite (fun h41 => ?_) (fun _ => rfl)
        refine Eq.trans (D_iast gk_f167_255) ?_
        refine gd_ite (fun h42 => ?_) (fun _ => rfl)
        refine Eq.trans (D_iinc (x := x6) (y := (-1)) gk_f167_256 rfl gk_c_m1 gk_st167_6) ?_
        refine Eq.trans (D_goto (t := 113) gk_f167_259 (by decide)) ?_
        rfl
      · refine Eq.trans (D_aload_n (x := r0) gk_f167_262 rfl) ?_
        refine Eq.trans (D_gfR gk_f167_263 (by decide)) ?_
        refine Eq.trans (if_pos h3) ?_
        refine Eq.trans (D_iload (x := x6) gk_f167_266 rfl) ?_
        refine Eq.trans (D_iload_n (x := x2) gk_f167_268 rfl) ?_
        refine Eq.trans (D_iast gk_f167_269) ?_
        refine gd_ite (fun h43 => ?_) (fun _ => rfl)
        refine Eq.trans (D_aload_n (x := r0) gk_f167_270 rfl) ?_
        refine Eq.trans (D_gfR gk_f167_271 (by decide)) ?_
        refine Eq.trans (if_pos h3) ?_
        refine Eq.trans (D_iload (x := x6) gk_f167_274 rfl) ?_
        refine Eq.trans (D_iload_n (x := x3) gk_f167_276 rfl) ?_
        refine Eq.trans (D_iast gk_f167_277) ?_
        refine gd_ite (fun h44 => ?_) (fun _ => rfl)
        refine Eq.trans (D_aload_n (x := r0) gk_f167_278 rfl) ?_
        refine Eq.trans (D_gfR gk_f167_279 (by decide)) ?_
        refine Eq.trans (if_pos h3) ?_
        refine Eq.trans (D_iload (x := x6) gk_f167_282 rfl) ?_
        refine Eq.trans (D_iload (x := x4) gk_f167_284 rfl) ?_
        refine Eq.trans (D_iast gk_f167_286) ?_
        refine gd_ite (fun h45 => ?_) (fun _ => rfl)
        refine Eq.trans (D_aload_n (x := r0) gk_f167_287 rfl) ?_
        refine Eq.trans (D_gfR gk_f167_288 (by decide)) ?_
        refine Eq.trans (if_pos h3) ?_
        refine Eq.trans (D_iload (x := x6) gk_f167_291 rfl) ?_
        refine Eq.trans (D_iload (x := x5) gk_f167_293 rfl) ?_
        refine Eq.trans (D_iast gk_f167_295) ?_
        refine gd_ite (fun h46 => ?_) (fun _ => rfl)
        refine Eq.trans (D_aload_n (x := r0) gk_f167_296 rfl) ?_
        refine Eq.trans (D_dupR gk_f167_297) ?_
        refine Eq.trans (D_gfI gk_f167_298 (by decide) (by decide) (by decide)) ?_
        refine Eq.trans (if_pos h3) ?_
        refine Eq.trans (D_iconst (x := 1) gk_f167_301 gk_c_1) ?_
        refine Eq.trans (D_iadd gk_f167_302) ?_
        refine Eq.trans (D_pfI gk_f167_303) ?_
        refine Eq.trans (if_pos h3) ?_
        refine Eq.trans (D_iinc (x := x2) (y := 1) gk_f167_306 rfl gk_c_1 gk_st167_2) ?_
        refine Eq.trans (D_goto (t := 7) gk_f167_309 (by decide)) ?_
        rfl
  · refine Eq.trans (D_aload_n (x := r0) gk_f167_262 rfl) ?_
    refine Eq.trans (D_gfR gk_f167_263 (by decide)) ?_
    refine gd_ite (fun h47 => ?_) (fun _ => rfl)
    refine Eq.trans (D_iload (x := x6) gk_f167_266 rfl) ?_
    refine Eq.trans (D_iload_n (x := x2) gk_f167_268 rfl) ?_
    refine Eq.trans (D_iast gk_f167_269) ?_
    refine gd_ite (fun h48 => ?_) (fun _ => rfl)
    refine Eq.trans (D_aload_n (x := r0) gk_f167_270 rfl) ?_
    refine Eq.trans (D_gfR gk_f167_271 (by decide)) ?_
    refine Eq.trans (if_pos h47) ?_
    refine Eq.trans (D_iload (x := x6) gk_f167_274 rfl) ?_
    refine Eq.trans (D_iload_n (x := x3) gk_f167_276 rfl) ?_
    refine Eq.trans (D_iast gk_f167_277) ?_
    refine gd_ite (fun h49 => ?_) (fun _ => rfl)
    refine Eq.trans (D_aload_n (x := r0) gk_f167_278 rfl) ?_
    refine Eq.trans (D_gfR gk_f167_279 (by decide)) ?_
    refine Eq.trans (if_pos h47) ?_
    refine Eq.trans (D_iload (x := x6) gk_f167_282 rfl) ?_
    refine Eq.trans (D_iload (x := x4) gk_f167_284 rfl) ?_
    refine Eq.trans (D_iast gk_f167_286) ?_
    refine gd_ite (fun h50 => ?_) (fun _ => rfl)
    refine Eq.trans (D_aload_n (x := r0) gk_f167_287 rfl) ?_
    refine Eq.trans (D_gfR gk_f167_288 (by decide)) ?_
    refine Eq.trans (if_pos h47) ?_
    refine Eq.trans (D_iload (x := x6) gk_f167_291 rfl) ?_
    refine Eq.trans (D_iload (x := x5) gk_f167_293 rfl) ?_
    refine Eq.trans (D_iast gk_f167_295) ?_
    refine gd_ite (fun h51 => ?_) (fun _ => rfl)
    refine Eq.trans (D_aload_n (x := r0) gk_f167_296 rfl) ?_
    refine Eq.trans (D_dupR gk_f167_297) ?_
    refine Eq.trans (D_gfI gk_f167_298 (by decide) (by decide) (by decide)) ?_
    refine Eq.trans (if_pos h47) ?_
    refine Eq.trans (D_iconst (x := 1) gk_f167_301 gk_c_1) ?_
    refine Eq.trans (D_iadd gk_f167_302) ?_
    refine Eq.trans (D_pfI gk_f167_303) ?_
    refine Eq.trans (if_pos h47) ?_
    refine Eq.trans (D_iinc (x := x2) (y := 1) gk_f167_306 rfl gk_c_1 gk_st167_2) ?_
    refine Eq.trans (D_goto (t := 7) gk_f167_309 (by decide)) ?_
    rfl
/-! GymDeskModel.list (I)I -/
set_option maxRecDepth 20000 in
theorem gk_f168_0 : gd_fetch 168 0 = some (0, .iload_n 1, 1, 0, 0, 0, 0, 0) := rfl
set_option maxRecDepth 20000 in
theorem gk_f168_1 : gd_fetch 168 1 = some (1, .iconst 0, 1, 0, 0, 0, 0, 0) := rfl
set_option maxRecDepth 20000 in
theorem gk_f168_2 : gd_fetch 168 2 = some (2, .iconst 4, 1, 0, 0, 0, 0, 0) := rfl
set_option maxRecDepth 20000 in
theorem gk_f168_3 : gd_fetch 168 3 = some (3, .invokestatic 192, 3, 1360, 71, 3, 0, 0) := rfl
set_option maxRecDepth 20000 in
theorem gk_f168_6 : gd_fetch 168 6 = some (6, .ifCond .ne 6, 3, 0, 0, 0, 0, 0) := rfl
set_option maxRecDepth 20000 in
theorem gk_f168_9 : gd_fetch 168 9 = some (9, .bipush (-2), 2, 0, 0, 0, 0, 0) := rfl
set_option maxRecDepth 20000 in
theorem gk_f168_11 : gd_fetch 168 11 = some (11, .ireturn, 1, 0, 0, 0, 0, 0) := rfl
set_option maxRecDepth 20000 in
theorem gk_f168_12 : gd_fetch 168 12 = some (12, .aload_n 0, 1, 0, 0, 0, 0, 0) := rfl
set_option maxRecDepth 20000 in
theorem gk_f168_13 : gd_fetch 168 13 = some (13, .iload_n 1, 1, 0, 0, 0, 0, 0) := rfl
set_option maxRecDepth 20000 in
theorem gk_f168_14 : gd_fetch 168 14 = some (14, .invokevirtual 383, 3, 1501, 167, 1, 0, 0) := rfl
set_option maxRecDepth 20000 in
theorem gk_f168_17 : gd_fetch 168 17 = some (17, .aload_n 0, 1, 0, 0, 0, 0, 0) := rfl
set_option maxRecDepth 20000 in
theorem gk_f168_18 : gd_fetch 168 18 = some (18, .getfield 377, 3, 1203, 9, 40, 0, 0) := rfl
set_option maxRecDepth 20000 in
theorem gk_f168_21 : gd_fetch 168 21 = some (21, .ireturn, 1, 0, 0, 0, 0, 0) := rfl
set_option maxRecDepth 20000 in
set_option maxHeartbeats 4000000 in
theorem q_Mo_list (r0 : Nat) (x1 : Int32) (m : gd_M) : gd_call 168 [.ref r0, .int x1] m = (gd_call 71 [.int x1, .int 0, .int 4] m).bind (gd_k0I fun z3 m1 => if (z3 = 0 : Prop) then (some (.int (-2), m1)) else (if gd_ok (gN m1) r0 9 = true then ((gd_call 167 [.ref r0, .int x1] m1).bind (gd_kV fun m7 => if gd_ok (gN m7) r0 9 = true then (some (.int (gI m7 r0 40), m7)) else none)) else none)) := by
  refine Eq.trans (show gd_call 168 [.ref r0, .int x1] m = gd_Den (168, 0, [.ref r0, .int x1], [], m) from by unfold gd_call gd_ent; rw [gk_ml168]; rfl) ?_
  refine Eq.trans (D_iload_n (x := x1) gk_f168_0 rfl) ?_
  refine Eq.trans (D_iconst (x := 0) gk_f168_1 gk_c_0) ?_
  refine Eq.trans (D_iconst (x := 4) gk_f168_2 gk_c_4) ?_
  refine Eq.trans (D_isZ (args := [.int x1, .int 0, .int 4]) (rest := []) gk_f168_3 rfl rfl rfl (gd_rmk gk_rm168_71 gk_ln71 gk_ml71 rfl rfl rfl) gk_rk71 (gd_hnd_n gk_nc168)) ?_
  refine gd_bnd (gd_k0I_c fun z3 m1 => ?_)
  refine Eq.trans (D_if_ne (t := 12) gk_f168_6 (by decide)) ?_
  refine gd_ite (fun h4 => ?_) (fun h5 => ?_)
  · refine Eq.trans (D_bipush (x := (-2)) gk_f168_9 gk_b_m2) ?_
    refine Eq.trans (D_ireturn gk_f168_11 gk_rk168) ?_
    rfl
  · refine Eq.trans (D_aload_n (x := r0) gk_f168_12 rfl) ?_
    refine Eq.trans (D_iload_n (x := x1) gk_f168_13 rfl) ?_
    refine Eq.trans (D_ivV (cl := 9) (args := [.ref r0, .int x1]) (rest := []) gk_f168_14 rfl rfl (gd_rmk gk_rm168_167 gk_ln167 gk_ml167 rfl rfl rfl) gk_rk167 (gd_hnd_n gk_nc168) gk_nc167 gk_n11_167 gk_cl167) ?_
    refine gd_ite (fun h6 => ?_) (fun _ => rfl)
    refine gd_bnd (gd_kV_c fun m7 => ?_)
    refine Eq.trans (D_aload_n (x := r0) gk_f168_17 rfl) ?_
    refine Eq.trans (D_gfI gk_f168_18 (by decide) (by decide) (by decide)) ?_
    refine gd_ite (fun h9 => ?_) (fun _ => rfl)
    refine Eq.trans (D_ireturn gk_f168_21 gk_rk168) ?_
    rfl
/-! GymDesk$Ranking.aheadOf (I)I -/
set_option maxRecDepth 20000 in
theorem gk_f169_0 : gd_fetch 169 0 = some (0, .iconst 0, 1, 0, 0, 0, 0, 0) := rfl
set_option maxRecDepth 20000 in
theorem gk_f169_1 : gd_fetch 169 1 = some (1, .istore_n 2, 1, 0, 0, 0, 0, 0) := rfl
set_option maxRecDepth 20000 in
theorem gk_f169_2 : gd_fetch 169 2 = some (2, .iconst 0, 1, 0, 0, 0, 0, 0) := rfl
set_option maxRecDepth 20000 in
theorem gk_f169_3 : gd_fetch 169 3 = some (3, .istore_n 3, 1, 0, 0, 0, 0, 0) := rfl
set_option maxRecDepth 20000 in
theorem gk_f169_4 : gd_fetch 169 4 = some (4, .iload_n 3, 1, 0, 0, 0, 0, 0) := rfl
set_option maxRecDepth 20000 in
theorem gk_f169_5 : gd_fetch 169 5 = some (5, .iload_n 1, 1, 0, 0, 0, 0, 0) := rfl
set_option maxRecDepth 20000 in
theorem gk_f169_6 : gd_fetch 169 6 = some (6, .if_icmp .ge 37, 3, 0, 0, 0, 0, 0) := rfl
set_option maxRecDepth 20000 in
theorem gk_f169_9 : gd_fetch 169 9 = some (9, .aload_n 0, 1, 0, 0, 0, 0, 0) := rfl
set_option maxRecDepth 20000 in
theorem gk_f169_10 : gd_fetch 169 10 = some (10, .getfield 15, 3, 278, 2, 1, 4, 1) := rfl
set_option maxRecDepth 20000 in
theorem gk_f169_13 : gd_fetch 169 13 = some (13, .aload_n 0, 1, 0, 0, 0, 0, 0) := rfl
set_option maxRecDepth 20000 in
theorem gk_f169_14 : gd_fetch 169 14 = some (14, .getfield 9, 3, 276, 2, 0, 4, 1) := rfl
set_option maxRecDepth 20000 in
theorem gk_f169_17 : gd_fetch 169 17 = some (17, .iload_n 3, 1, 0, 0, 0, 0, 0) := rfl
set_option maxRecDepth 20000 in
theorem gk_f169_18 : gd_fetch 169 18 = some (18, .iaload, 1, 0, 0, 0, 0, 0) := rfl
set_option maxRecDepth 20000 in
theorem gk_f169_19 : gd_fetch 169 19 = some (19, .iaload, 1, 0, 0, 0, 0, 0) := rfl
set_option maxRecDepth 20000 in
theorem gk_f169_20 : gd_fetch 169 20 = some (20, .aload_n 0, 1, 0, 0, 0, 0, 0) := rfl
set_option maxRecDepth 20000 in
theorem gk_f169_21 : gd_fetch 169 21 = some (21, .getfield 15, 3, 278, 2, 1, 4, 1) := rfl
set_option maxRecDepth 20000 in
theorem gk_f169_24 : gd_fetch 169 24 = some (24, .aload_n 0, 1, 0, 0, 0, 0, 0) := rfl
set_option maxRecDepth 20000 in
theorem gk_f169_25 : gd_fetch 169 25 = some (25, .getfield 9, 3, 276, 2, 0, 4, 1) := rfl
set_option maxRecDepth 20000 in
theorem gk_f169_28 : gd_fetch 169 28 = some (28, .iload_n 1, 1, 0, 0, 0, 0, 0) := rfl
set_option maxRecDepth 20000 in
theorem gk_f169_29 : gd_fetch 169 29 = some (29, .iaload, 1, 0, 0, 0, 0, 0) := rfl
set_option maxRecDepth 20000 in
theorem gk_f169_30 : gd_fetch 169 30 = some (30, .iaload, 1, 0, 0, 0, 0, 0) := rfl
set_option maxRecDepth 20000 in
theorem gk_f169_31 : gd_fetch 169 31 = some (31, .if_icmp .eq 6, 3, 0, 0, 0, 0, 0) := rfl
set_option maxRecDepth 20000 in
theorem gk_f169_34 : gd_fetch 169 34 = some (34, .iinc 2 1, 3, 0, 0, 0, 0, 0) := rfl
set_option maxRecDepth 20000 in
theorem gk_f169_37 : gd_fetch 169 37 = some (37, .iinc 3 1, 3, 0, 0, 0, 0, 0) := rfl
set_option maxRecDepth 20000 in
theorem gk_f169_40 : gd_fetch 169 40 = some (40, .goto (-36), 3, 0, 0, 0, 0, 0) := rfl
set_option maxRecDepth 20000 in
theorem gk_f169_43 : gd_fetch 169 43 = some (43, .iload_n 2, 1, 0, 0, 0, 0, 0) := rfl
set_option maxRecDepth 20000 in
theorem gk_f169_44 : gd_fetch 169 44 = some (44, .ireturn, 1, 0, 0, 0, 0, 0) := rfl
set_option maxRecDepth 20000 in
set_option maxHeartbeats 4000000 in
theorem q_Ra_aheadOf (r0 : Nat) (x1 : Int32) (m : gd_M) : gd_call 169 [.ref r0, .int x1] m = gd_Den (169, 4, [.ref r0, .int x1, .int 0, .int 0], [], m) := by
  refine Eq.trans (show gd_call 169 [.ref r0, .int x1] m = gd_Den (169, 0, [.ref r0, .int x1, .null, .null], [], m) from by unfold gd_call gd_ent; rw [gk_ml169]; rfl) ?_
  refine Eq.trans (D_iconst (x := 0) gk_f169_0 gk_c_0) ?_
  refine Eq.trans (D_istore_n gk_f169_1 gk_st169_2) ?_
  refine Eq.trans (D_iconst (x := 0) gk_f169_2 gk_c_0) ?_
  refine Eq.trans (D_istore_n gk_f169_3 gk_st169_3) ?_
  rfl
set_option maxRecDepth 20000 in
set_option maxHeartbeats 4000000 in
theorem q_Ra_aheadOf_4 (r0 : Nat) (x1 : Int32) (x2 : Int32) (x3 : Int32) (m : gd_M) : gd_Den (169, 4, [.ref r0, .int x1, .int x2, .int x3], [], m) = if (x3 < x1 : Prop) then (if gd_ok (gN m) r0 2 = true then (if gd_okA (gN m) (gR m r0 0) 10 x3 = true then (if gd_okA (gN m) (gR m r0 1) 10 (gI m (gR m r0 0) (x3 : Int32).toNatClampNeg) = true then (if gd_okA (gN m) (gR m r0 0) 10 x1 = true then (if gd_okA (gN m) (gR m r0 1) 10 (gI m (gR m r0 0) (x1 : Int32).toNatClampNeg) = true then (if ((gI m (gR m r0 1) ((gI m (gR m r0 0) (x3 : Int32).toNatClampNeg) : Int32).toNatClampNeg) = (gI m (gR m r0 1) ((gI m (gR m r0 0) (x1 : Int32).toNatClampNeg) : Int32).toNatClampNeg) : Prop) then (gd_Den (169, 4, [.ref r0, .int x1, .int x2, .int (x3 + 1)], [], m)) else (gd_Den (169, 4, [.ref r0, .int x1, .int (x2 + 1), .int (x3 + 1)], [], m))) else none) else none) else none) else none) else none) else (some (.int x2, m)) := by
  refine Eq.trans (D_iload_n (x := x3) gk_f169_4 rfl) ?_
  refine Eq.trans (D_iload_n (x := x1) gk_f169_5 rfl) ?_
  refine Eq.trans (D_ic_ge (t := 43) gk_f169_6 (by decide)) ?_
  refine gd_ite (fun h1 => ?_) (fun h2 => ?_)
  · refine Eq.trans (D_aload_n (x := r0) gk_f169_9 rfl) ?_
    refine Eq.trans (D_gfR gk_f169_10 (by decide)) ?_
    refine gd_ite (fun h3 => ?_) (fun _ => rfl)
    refine Eq.trans (D_aload_n (x := r0) gk_f169_13 rfl) ?_
    refine Eq.trans (D_gfR gk_f169_14 (by decide)) ?_
    refine Eq.trans (if_pos h3) ?_
    refine Eq.trans (D_iload_n (x := x3) gk_f169_17 rfl) ?_
    refine Eq.trans (D_iald gk_f169_18 gk_n10_169) ?_
    refine gd_ite (fun h4 => ?_) (fun _ => rfl)
    refine Eq.trans (D_iald gk_f169_19 gk_n10_169) ?_
    refine gd_ite (fun h5 => ?_) (fun _ => rfl)
    refine Eq.trans (D_aload_n (x := r0) gk_f169_20 rfl) ?_
    refine Eq.trans (D_gfR gk_f169_21 (by decide)) ?_
    refine Eq.trans (if_pos h3) ?_
    refine Eq.trans (D_aload_n (x := r0) gk_f169_24 rfl) ?_
    refine Eq.trans (D_gfR gk_f169_25 (by decide)) ?_
    refine Eq.trans (if_pos h3) ?_
    refine Eq.trans (D_iload_n (x := x1) gk_f169_28 rfl) ?_
    refine Eq.trans (D_iald gk_f169_29 gk_n10_169) ?_
    refine gd_ite (fun h6 => ?_) (fun _ => rfl)
    refine Eq.trans (D_iald gk_f169_30 gk_n10_169) ?_
    refine gd_ite (fun h7 => ?_) (fun _ => rfl)
    refine Eq.trans (D_ic_eq (t := 37) gk_f169_31 (by decide)) ?_
    refine gd_ite (fun h8 => ?_) (fun h9 => ?_)
    · refine Eq.trans (D_iinc (x := x3) (y := 1) gk_f169_37 rfl gk_c_1 gk_st169_3) ?_
      refine Eq.trans (D_goto (t := 4) gk_f169_40 (by decide)) ?_
      rfl
    · refine Eq.trans (D_iinc (x := x2) (y := 1) gk_f169_34 rfl gk_c_1 gk_st169_2) ?_
      refine Eq.trans (D_iinc (x := x3) (y := 1) gk_f169_37 rfl gk_c_1 gk_st169_3) ?_
      refine Eq.trans (D_goto (t := 4) gk_f169_40 (by decide)) ?_
      rfl
  · refine Eq.trans (D_iload_n (x := x2) gk_f169_43 rfl) ?_
    refine Eq.trans (D_ireturn gk_f169_44 gk_rk169) ?_
    rfl
/-! GymDesk$Ranking.callFinal (II[I)V -/
set_option maxRecDepth 20000 in
theorem gk_f170_0 : gd_fetch 170 0 = some (0, .iconst 0, 1, 0, 0, 0, 0, 0) := rfl
set_option maxRecDepth 20000 in
theorem gk_f170_1 : gd_fetch 170 1 = some (1, .istore 4, 2, 0, 0, 0, 0, 0) := rfl
set_option maxRecDepth 20000 in
theorem gk_f170_3 : gd_fetch 170 3 = some (3, .iload 4, 2, 0, 0, 0, 0, 0) := rfl
set_option maxRecDepth 20000 in
theorem gk_f170_5 : gd_fetch 170 5 = some (5, .bipush 10, 2, 0, 0, 0, 0, 0) := rfl
set_option maxRecDepth 20000 in
theorem gk_f170_7 : gd_fetch 170 7 = some (7, .if_icmp .ge 17, 3, 0, 0, 0, 0, 0) := rfl
set_option maxRecDepth 20000 in
theorem gk_f170_10 : gd_fetch 170 10 = some (10, .aload_n 0, 1, 0, 0, 0, 0, 0) := rfl
set_option maxRecDepth 20000 in
theorem gk_f170_11 : gd_fetch 170 11 = some (11, .getfield 27, 3, 284, 2, 5, 4, 1) := rfl
set_option maxRecDepth 20000 in
theorem gk_f170_14 : gd_fetch 170 14 = some (14, .iload 4, 2, 0, 0, 0, 0, 0) := rfl
set_option maxRecDepth 20000 in
theorem gk_f170_16 : gd_fetch 170 16 = some (16, .iconst 0, 1, 0, 0, 0, 0, 0) := rfl
set_option maxRecDepth 20000 in
theorem gk_f170_17 : gd_fetch 170 17 = some (17, .iastore, 1, 0, 0, 0, 0, 0) := rfl
set_option maxRecDepth 20000 in
theorem gk_f170_18 : gd_fetch 170 18 = some (18, .iinc 4 1, 3, 0, 0, 0, 0, 0) := rfl
set_option maxRecDepth 20000 in
theorem gk_f170_21 : gd_fetch 170 21 = some (21, .goto (-18), 3, 0, 0, 0, 0, 0) := rfl
set_option maxRecDepth 20000 in
theorem gk_f170_24 : gd_fetch 170 24 = some (24, .aload_n 0, 1, 0, 0, 0, 0, 0) := rfl
set_option maxRecDepth 20000 in
theorem gk_f170_25 : gd_fetch 170 25 = some (25, .iconst 0, 1, 0, 0, 0, 0, 0) := rfl
set_option maxRecDepth 20000 in
theorem gk_f170_26 : gd_fetch 170 26 = some (26, .putfield 34, 3, 287, 2, 7, 0, 0) := rfl
set_option maxRecDepth 20000 in
theorem gk_f170_29 : gd_fetch 170 29 = some (29, .iload_n 1, 1, 0, 0, 0, 0, 0) := rfl
set_option maxRecDepth 20000 in
theorem gk_f170_30 : gd_fetch 170 30 = some (30, .bipush 10, 2, 0, 0, 0, 0, 0) := rfl
set_option maxRecDepth 20000 in
theorem gk_f170_32 : gd_fetch 170 32 = some (32, .invokestatic 41, 3, 912, 27, 2, 0, 0) := rfl
set_option maxRecDepth 20000 in
theorem gk_f170_35 : gd_fetch 170 35 = some (35, .istore 4, 2, 0, 0, 0, 0, 0) := rfl
set_option maxRecDepth 20000 in
theorem gk_f170_37 : gd_fetch 170 37 = some (37, .iconst 0, 1, 0, 0, 0, 0, 0) := rfl
set_option maxRecDepth 20000 in
theorem gk_f170_38 : gd_fetch 170 38 = some (38, .istore 5, 2, 0, 0, 0, 0, 0) := rfl
set_option maxRecDepth 20000 in
theorem gk_f170_40 : gd_fetch 170 40 = some (40, .iload 5, 2, 0, 0, 0, 0, 0) := rfl
set_option maxRecDepth 20000 in
theorem gk_f170_42 : gd_fetch 170 42 = some (42, .aload_n 0, 1, 0, 0, 0, 0, 0) := rfl
set_option maxRecDepth 20000 in
theorem gk_f170_43 : gd_fetch 170 43 = some (43, .getfield 30, 3, 285, 2, 6, 0, 0) := rfl
set_option maxRecDepth 20000 in
theorem gk_f170_46 : gd_fetch 170 46 = some (46, .if_icmp .ge 74, 3, 0, 0, 0, 0, 0) := rfl
set_option maxRecDepth 20000 in
theorem gk_f170_49 : gd_fetch 170 49 = some (49, .aload_n 0, 1, 0, 0, 0, 0, 0) := rfl
set_option maxRecDepth 20000 in
theorem gk_f170_50 : gd_fetch 170 50 = some (50, .getfield 34, 3, 287, 2, 7, 0, 0) := rfl
set_option maxRecDepth 20000 in
theorem gk_f170_53 : gd_fetch 170 53 = some (53, .iload 4, 2, 0, 0, 0, 0, 0) := rfl
set_option maxRecDepth 20000 in
theorem gk_f170_55 : gd_fetch 170 55 = some (55, .if_icmp .ge 65, 3, 0, 0, 0, 0, 0) := rfl
set_option maxRecDepth 20000 in
theorem gk_f170_58 : gd_fetch 170 58 = some (58, .aload_n 0, 1, 0, 0, 0, 0, 0) := rfl
set_option maxRecDepth 20000 in
theorem gk_f170_59 : gd_fetch 170 59 = some (59, .getfield 9, 3, 276, 2, 0, 4, 1) := rfl
set_option maxRecDepth 20000 in
theorem gk_f170_62 : gd_fetch 170 62 = some (62, .iload 5, 2, 0, 0, 0, 0, 0) := rfl
set_option maxRecDepth 20000 in
theorem gk_f170_64 : gd_fetch 170 64 = some (64, .iaload, 1, 0, 0, 0, 0, 0) := rfl
set_option maxRecDepth 20000 in
theorem gk_f170_65 : gd_fetch 170 65 = some (65, .istore 6, 2, 0, 0, 0, 0, 0) := rfl
set_option maxRecDepth 20000 in
theorem gk_f170_67 : gd_fetch 170 67 = some (67, .aload_n 0, 1, 0, 0, 0, 0, 0) := rfl
set_option maxRecDepth 20000 in
theorem gk_f170_68 : gd_fetch 170 68 = some (68, .getfield 27, 3, 284, 2, 5, 4, 1) := rfl
set_option maxRecDepth 20000 in
theorem gk_f170_71 : gd_fetch 170 71 = some (71, .aload_n 3, 1, 0, 0, 0, 0, 0) := rfl
set_option maxRecDepth 20000 in
theorem gk_f170_72 : gd_fetch 170 72 = some (72, .iload 6, 2, 0, 0, 0, 0, 0) := rfl
set_option maxRecDepth 20000 in
theorem gk_f170_74 : gd_fetch 170 74 = some (74, .iaload, 1, 0, 0, 0, 0, 0) := rfl
set_option maxRecDepth 20000 in
theorem gk_f170_75 : gd_fetch 170 75 = some (75, .iaload, 1, 0, 0, 0, 0, 0) := rfl
set_option maxRecDepth 20000 in
theorem gk_f170_76 : gd_fetch 170 76 = some (76, .iload_n 2, 1, 0, 0, 0, 0, 0) := rfl
set_option maxRecDepth 20000 in
theorem gk_f170_77 : gd_fetch 170 77 = some (77, .if_icmp .ge 37, 3, 0, 0, 0, 0, 0) := rfl
set_option maxRecDepth 20000 in
theorem gk_f170_80 : gd_fetch 170 80 = some (80, .aload_n 0, 1, 0, 0, 0, 0, 0) := rfl
set_option maxRecDepth 20000 in
theorem gk_f170_81 : gd_fetch 170 81 = some (81, .getfield 27, 3, 284, 2, 5, 4, 1) := rfl
set_option maxRecDepth 20000 in
theorem gk_f170_84 : gd_fetch 170 84 = some (84, .aload_n 3, 1, 0, 0, 0, 0, 0) := rfl
set_option maxRecDepth 20000 in
theorem gk_f170_85 : gd_fetch 170 85 = some (85, .iload 6, 2, 0, 0, 0, 0, 0) := rfl
set_option maxRecDepth 20000 in
theorem gk_f170_87 : gd_fetch 170 87 = some (87, .iaload, 1, 0, 0, 0, 0, 0) := rfl
set_option maxRecDepth 20000 in
theorem gk_f170_88 : gd_fetch 170 88 = some (88, .dup2, 1, 0, 0, 0, 0, 0) := rfl
set_option maxRecDepth 20000 in
theorem gk_f170_89 : gd_fetch 170 89 = some (89, .iaload, 1, 0, 0, 0, 0, 0) := rfl
set_option maxRecDepth 20000 in
theorem gk_f170_90 : gd_fetch 170 90 = some (90, .iconst 1, 1, 0, 0, 0, 0, 0) := rfl
set_option maxRecDepth 20000 in
theorem gk_f170_91 : gd_fetch 170 91 = some (91, .iadd, 1, 0, 0, 0, 0, 0) := rfl
set_option maxRecDepth 20000 in
theorem gk_f170_92 : gd_fetch 170 92 = some (92, .iastore, 1, 0, 0, 0, 0, 0) := rfl
set_option maxRecDepth 20000 in
theorem gk_f170_93 : gd_fetch 170 93 = some (93, .aload_n 0, 1, 0, 0, 0, 0, 0) := rfl
set_option maxRecDepth 20000 in
theorem gk_f170_94 : gd_fetch 170 94 = some (94, .getfield 24, 3, 282, 2, 4, 4, 1) := rfl
set_option maxRecDepth 20000 in
theorem gk_f170_97 : gd_fetch 170 97 = some (97, .aload_n 0, 1, 0, 0, 0, 0, 0) := rfl
set_option maxRecDepth 20000 in
theorem gk_f170_98 : gd_fetch 170 98 = some (98, .getfield 34, 3, 287, 2, 7, 0, 0) := rfl
set_option maxRecDepth 20000 in
theorem gk_f170_101 : gd_fetch 170 101 = some (101, .iload 6, 2, 0, 0, 0, 0, 0) := rfl
set_option maxRecDepth 20000 in
theorem gk_f170_103 : gd_fetch 170 103 = some (103, .iastore, 1, 0, 0, 0, 0, 0) := rfl
set_option maxRecDepth 20000 in
theorem gk_f170_104 : gd_fetch 170 104 = some (104, .aload_n 0, 1, 0, 0, 0, 0, 0) := rfl
set_option maxRecDepth 20000 in
theorem gk_f170_105 : gd_fetch 170 105 = some (105, .dup, 1, 0, 0, 0, 0, 0) := rfl
set_option maxRecDepth 20000 in
theorem gk_f170_106 : gd_fetch 170 106 = some (106, .getfield 34, 3, 287, 2, 7, 0, 0) := rfl
set_option maxRecDepth 20000 in
theorem gk_f170_109 : gd_fetch 170 109 = some (109, .iconst 1, 1, 0, 0, 0, 0, 0) := rfl
set_option maxRecDepth 20000 in
theorem gk_f170_110 : gd_fetch 170 110 = some (110, .iadd, 1, 0, 0, 0, 0, 0) := rfl
set_option maxRecDepth 20000 in
theorem gk_f170_111 : gd_fetch 170 111 = some (111, .putfield 34, 3, 287, 2, 7, 0, 0) := rfl
set_option maxRecDepth 20000 in
theorem gk_f170_114 : gd_fetch 170 114 = some (114, .iinc 5 1, 3, 0, 0, 0, 0, 0) := rfl
set_option maxRecDepth 20000 in
theorem gk_f170_117 : gd_fetch 170 117 = some (117, .goto (-77), 3, 0, 0, 0, 0, 0) := rfl
set_option maxRecDepth 20000 in
theorem gk_f170_120 : gd_fetch 170 120 = some (120, .return_, 1, 0, 0, 0, 0, 0) := rfl
set_option maxRecDepth 20000 in
set_option maxHeartbeats 4000000 in
theorem q_Ra_callFinal (r0 : Nat) (x1 : Int32) (x2 : Int32) (r3 : Nat) (m : gd_M) : gd_call 170 [.ref r0, .int x1, .int x2, .ref r3] m = gd_Den (170, 3, [.ref r0, .int x1, .int x2, .ref r3, .int 0, .null, .null], [], m) := by
  refine Eq.trans (show gd_call 170 [.ref r0, .int x1, .int x2, .ref r3] m = gd_Den (170, 0, [.ref r0, .int x1, .int x2, .ref r3, .null, .null, .null], [], m) from by unfold gd_call gd_ent; rw [gk_ml170]; rfl) ?_
  refine Eq.trans (D_iconst (x := 0) gk_f170_0 gk_c_0) ?_
  refine Eq.trans (D_istore gk_f170_1 gk_st170_4) ?_
  rfl
set_option maxRecDepth 20000 in
set_option maxHeartbeats 4000000 in
theorem q_Ra_callFinal_3 (r0 : Nat) (x1 : Int32) (x2 : Int32) (r3 : Nat) (x4 : Int32) (m : gd_M) : gd_Den (170, 3, [.ref r0, .int x1, .int x2, .ref r3, .int x4, .null, .null], [], m) = if (x4 < 10 : Prop) then (if gd_ok (gN m) r0 2 = true then (if gd_okA (gN m) (gR m r0 5) 10 x4 = true then (gd_Den (170, 3, [.ref r0, .int x1, .int x2, .ref r3, .int (x4 + 1), .null, .null], [], (wI m (gR m r0 5) (x4 : Int32).toNatClampNeg 0))) else none) else none) else (if gd_ok (gN m) r0 2 = true then ((gd_call 27 [.int x1, .int 10] (wI m r0 7 0)).bind (gd_k0I fun z8 m6 => gd_Den (170, 40, [.ref r0, .int x1, .int x2, .ref r3, .int z8, .int 0, .null], [], m6))) else none) := by
  refine Eq.trans (D_iload (x := x4) gk_f170_3 rfl) ?_
  refine Eq.trans (D_bipush (x := 10) gk_f170_5 gk_b_10) ?_
  refine Eq.trans (D_ic_ge (t := 24) gk_f170_7 (by decide)) ?_
  refine gd_ite (fun h1 => ?_) (fun h2 => ?_)
  · refine Eq.trans (D_aload_n (x := r0) gk_f170_10 rfl) ?_
    refine Eq.trans (D_gfR gk_f170_11 (by decide)) ?_
    refine gd_ite (fun h3 => ?_) (fun _ => rfl)
    refine Eq.trans (D_iload (x := x4) gk_f170_14 rfl) ?_
    refine Eq.trans (D_iconst (x := 0) gk_f170_16 gk_c_0) ?_
    refine Eq.trans (D_iast gk_f170_17) ?_
    refine gd_ite (fun h4 => ?_) (fun _ => rfl)
    refine Eq.trans (D_iinc (x := x4) (y := 1) gk_f170_18 rfl gk_c_1 gk_st170_4) ?_
    refine Eq.trans (D_goto (t := 3) gk_f170_21 (by decide)) ?_
    rfl
  · refine Eq.trans (D_aload_n (x := r0) gk_f170_24 rfl) ?_
    refine Eq.trans (D_iconst (x := 0) gk_f170_25 gk_c_0) ?_
    refine Eq.trans (D_pfI gk_f170_26) ?_
    refine gd_ite (fun h5 => ?_) (fun _ => rfl)
    refine Eq.trans (D_iload_n (x := x1) gk_f170_29 rfl) ?_
    refine Eq.trans (D_bipush (x := 10) gk_f170_30 gk_b_10) ?_
    refine Eq.trans (D_isI (args := [.int x1, .int 10]) (rest := []) gk_f170_32 rfl rfl rfl (gd_rmk gk_rm170_27 gk_ln27 gk_ml27 rfl rfl rfl) gk_rk27 (gd_hnd_n gk_nc170)) ?_
    refine gd_bnd (gd_k0I_c fun z8 m6 => ?_)
    refine Eq.trans (D_istore gk_f170_35 gk_st170_4) ?_
    refine Eq.trans (D_iconst (x := 0) gk_f170_37 gk_c_0) ?_
    refine Eq.trans (D_istore gk_f170_38 gk_st170_5) ?_
    rfl
set_option maxRecDepth 20000 in
set_option maxHeartbeats 4000000 in
theorem q_Ra_callFinal_40 (r0 : Nat) (x1 : Int32) (x2 : Int32) (r3 : Nat) (x4 : Int32) (x5 : Int32) (v6 : Value) (m : gd_M) : gd_Den (170, 40, [.ref r0, .int x1, .int x2, .ref r3, .int x4, .int x5, v6], [], m) = if gd_ok (gN m) r0 2 = true then (if (x5 < (gI m r0 6) : Prop) then (if ((gI m r0 7) < x4 : Prop) then (if gd_okA (gN m) (gR m r0 0) 10 x5 = true then (if gd_okA (gN m) r3 10 (gI m (gR m r0 0) (x5 : Int32).toNatClampNeg) = true then (if gd_okA (gN m) (gR m r0 5) 10 (gI m r3 ((gI m (gR m r0 0) (x5 : Int32).toNatClampNeg) : Int32).toNatClampNeg) = true then (if ((gI m (gR m r0 5) ((gI m r3 ((gI m (gR m r0 0) (x5 : Int32).toNatClampNeg) : Int32).toNatClampNeg) : Int32).toNatClampNeg) < x2 : Prop) then (if gd_okA (gN m) (gR m r0 4) 10 (gI (wI m (gR m r0 5) ((gI m r3 ((gI m (gR m r0 0) (x5 : Int32).toNatClampNeg) : Int32).toNatClampNeg) : Int32).toNatClampNeg ((gI m (gR m r0 5) ((gI m r3 ((gI m (gR m r0 0) (x5 : Int32).toNatClampNeg) : Int32).toNatClampNeg) : Int32).toNatClampNeg) + 1)) r0 7) = true then (gd_Den (170, 40, [.ref r0, .int x1, .int x2, .ref r3, .int x4, .int (x5 + 1), .int (gI m (gR m r0 0) (x5 : Int32).toNatClampNeg)], [], (wI (wI (wI m (gR m r0 5) ((gI m r3 ((gI m (gR m r0 0) (x5 : Int32).toNatClampNeg) : Int32).toNatClampNeg) : Int32).toNatClampNeg ((gI m (gR m r0 5) ((gI m r3 ((gI m (gR m r0 0) (x5 : Int32).toNatClampNeg) : Int32).toNatClampNeg) : Int32).toNatClampNeg) + 1)) (gR m r0 4) ((gI (wI m (gR m r0 5) ((gI m r3 ((gI m (gR m r0 0) (x5 : Int32).toNatClampNeg) : Int32).toNatClampNeg) : Int32).toNatClampNeg ((gI m (gR m r0 5) ((gI m r3 ((gI m (gR m r0 0) (x5 : Int32).toNatClampNeg) : Int32).toNatClampNeg) : Int32).toNatClampNeg) + 1)) r0 7) : Int32).toNatClampNeg (gI m (gR m r0 0) (x5 : Int32).toNatClampNeg)) r0 7 ((gI (wI (wI m (gR m r0 5) ((gI m r3 ((gI m (gR m r0 0) (x5 : Int32).toNatClampNeg) : Int32).toNatClampNeg) : Int32).toNatClampNeg ((gI m (gR m r0 5) ((gI m r3 ((gI m (gR m r0 0) (x5 : Int32).toNatClampNeg) : Int32).toNatClampNeg) : Int32).toNatClampNeg) + 1)) (gR m r0 4) ((gI (wI m (gR m r0 5) ((gI m r3 ((gI m (gR m r0 0) (x5 : Int32).toNatClampNeg) : Int32).toNatClampNeg) : Int32).toNatClampNeg ((gI m (gR m r0 5) ((gI m r3 ((gI m (gR m r0 0) (x5 : Int32).toNatClampNeg) : Int32).toNatClampNeg) : Int32).toNatClampNeg) + 1)) r0 7) : Int32).toNatClampNeg (gI m (gR m r0 0) (x5 : Int32).toNatClampNeg)) r0 7) + 1)))) else none) else (gd_Den (170, 40, [.ref r0, .int x1, .int x2, .ref r3, .int x4, .int (x5 + 1), .int (gI m (gR m r0 0) (x5 : Int32).toNatClampNeg)], [], m))) else none) else none) else none) else (some (.null, m))) else (some (.null, m))) else none := by
  refine Eq.trans (D_iload (x := x5) gk_f170_40 rfl) ?_
  refine Eq.trans (D_aload_n (x := r0) gk_f170_42 rfl) ?_
  refine Eq.trans (D_gfI gk_f170_43 (by decide) (by decide) (by decide)) ?_
  refine gd_ite (fun h1 => ?_) (fun _ => rfl)
  refine Eq.trans (D_ic_ge (t := 120) gk_f170_46 (by decide)) ?_
  refine gd_ite (fun h2 => ?_) (fun h3 => ?_)
  · refine Eq.trans (D_aload_n (x := r0) gk_f170_49 rfl) ?_
    refine Eq.trans (D_gfI gk_f170_50 (by decide) (by decide) (by decide)) ?_
    refine Eq.trans (if_pos h1) ?_
    refine Eq.trans (D_iload (x := x4) gk_f170_53 rfl) ?_
    refine Eq.trans (D_ic_ge (t := 120) gk_f170_55 (by decide)) ?_
    refine gd_ite (fun h4 => ?_) (fun h5 => ?_)
    · refine Eq.trans (D_aload_n (x := r0) gk_f170_58 rfl) ?_
      refine Eq.trans (D_gfR gk_f170_59 (by decide)) ?_
      refine Eq.trans (if_pos h1) ?_
      refine Eq.trans (D_iload (x := x5) gk_f170_62 rfl) ?_
      refine Eq.trans (D_iald gk_f170_64 gk_n10_170) ?_
      refine gd_ite (fun h6 => ?_) (fun _ => rfl)
      refine Eq.trans (D_istore gk_f170_65 gk_st170_6) ?_
      refine Eq.trans (D_aload_n (x := r0) gk_f170_67 rfl) ?_
      refine Eq.trans (D_gfR gk_f170_68 (by decide)) ?_
      refine Eq.trans (if_pos h1) ?_
      refine Eq.trans (D_aload_n (x := r3) gk_f170_71 rfl) ?_
      refine Eq.trans (D_iload (x := (gI m (gR m r0 0) (x5 : Int32).toNatClampNeg)) gk_f170_72 rfl) ?_
      refine Eq.trans (D_iald gk_f170_74 gk_n10_170) ?_
      refine gd_ite (fun h7 => ?_) (fun _ => rfl)
      refine Eq.trans (D_iald gk_f170_75 gk_n10_170) ?_
      refine gd_ite (fun h8 => ?_) (fun _ => rfl)
      refine Eq.trans (D_iload_n (x := x2) gk_f170_76 rfl) ?_
      refine Eq.trans (D_ic_ge (t := 114) gk_f170_77 (by decide)) ?_
      refine gd_ite (fun h9 => ?_) (fun h10 => ?_)
      · refine Eq.trans (D_aload_n (x := r0) gk_f170_80 rfl) ?_
        refine Eq.trans (D_gfR gk_f170_81 (by decide)) ?_
        refine Eq.trans (if_pos h1) ?_
        refine Eq.trans (D_aload_n (x := r3) gk_f170_84 rfl) ?_
        refine Eq.trans (D_iload (x := (gI m (gR m r0 0) (x5 : Int32).toNatClampNeg)) gk_f170_85 rfl) ?_
        refine Eq.trans (D_iald gk_f170_87 gk_n10_170) ?_
        refine Eq.trans (if_pos h7) ?_
        refine Eq.trans (D_dup2 gk_f170_88) ?_
        refine Eq.trans (D_iald gk_f170_89 gk_n10_170) ?_
        refine Eq.trans (if_pos h8) ?_
        refine Eq.trans (D_iconst (x := 1) gk_f170_90 gk_c_1) ?_
        refine Eq.trans (D_iadd gk_f170_91) ?_
        refine Eq.trans (D_iast gk_f170_92) ?_
        refine Eq.trans (if_pos h8) ?_
        refine Eq.trans (D_aload_n (x := r0) gk_f170_93 rfl) ?_
        refine Eq.trans (D_gfR gk_f170_94 (by decide)) ?_
        refine Eq.trans (if_pos h1) ?_
        refine Eq.trans (D_aload_n (x := r0) gk_f170_97 rfl) ?_
        refine Eq.trans (D_gfI gk_f170_98 (by decide) (by decide) (by decide)) ?_
        refine Eq.trans (if_pos h1) ?_
        refine Eq.trans (D_iload (x := (gI m (gR m r0 0) (x5 : Int32).toNatClampNeg)) gk_f170_101 rfl) ?_
        refine Eq.trans (D_iast gk_f170_103) ?_
        refine gd_ite (fun h11 => ?_) (fun _ => rfl)
        refine Eq.trans (D_aload_n (x := r0) gk_f170_104 rfl) ?_
        refine Eq.trans (D_dupR gk_f170_105) ?_
        refine Eq.trans (D_gfI gk_f170_106 (by decide) (by decide) (by decide)) ?_
        refine Eq.trans (if_pos h1) ?_
        refine Eq.trans (D_iconst (x := 1) gk_f170_109 gk_c_1) ?_
        refine Eq.trans (D_iadd gk_f170_110) ?_
        refine Eq.trans (D_pfI gk_f170_111) ?_
        refine Eq.trans (if_pos h1) ?_
        refine Eq.trans (D_iinc (x := x5) (y := 1) gk_f170_114 rfl gk_c_1 gk_st170_5) ?_
        refine Eq.trans (D_goto (t := 40) gk_f170_117 (by decide)) ?_
        rfl
      · refine Eq.trans (D_iinc (x := x5) (y := 1) gk_f170_114 rfl gk_c_1 gk_st170_5) ?_
        refine Eq.trans (D_goto (t := 40) gk_f170_117 (by decide)) ?_
        rfl
    · refine Eq.trans (D_vreturn gk_f170_120 gk_rk170) ?_
      rfl
  · refine Eq.trans (D_vreturn gk_f170_120 gk_rk170) ?_
    rfl
/-! GymDesk.callFinal ()V -/
set_option maxRecDepth 20000 in
theorem gk_f171_0 : gd_fetch 171 0 = some (0, .aload_n 0, 1, 0, 0, 0, 0, 0) := rfl
set_option maxRecDepth 20000 in
theorem gk_f171_1 : gd_fetch 171 1 = some (1, .getfield 30, 3, 463, 6, 3, 4, 1) := rfl
set_option maxRecDepth 20000 in
theorem gk_f171_4 : gd_fetch 171 4 = some (4, .aload_n 0, 1, 0, 0, 0, 0, 0) := rfl
set_option maxRecDepth 20000 in
theorem gk_f171_5 : gd_fetch 171 5 = some (5, .getfield 56, 3, 469, 6, 9, 4, 0) := rfl
set_option maxRecDepth 20000 in
theorem gk_f171_8 : gd_fetch 171 8 = some (8, .getfield 132, 3, 350, 1, 11, 4, 1) := rfl
set_option maxRecDepth 20000 in
theorem gk_f171_11 : gd_fetch 171 11 = some (11, .bipush 10, 2, 0, 0, 0, 0, 0) := rfl
set_option maxRecDepth 20000 in
theorem gk_f171_13 : gd_fetch 171 13 = some (13, .iaload, 1, 0, 0, 0, 0, 0) := rfl
set_option maxRecDepth 20000 in
theorem gk_f171_14 : gd_fetch 171 14 = some (14, .aload_n 0, 1, 0, 0, 0, 0, 0) := rfl
set_option maxRecDepth 20000 in
theorem gk_f171_15 : gd_fetch 171 15 = some (15, .getfield 56, 3, 469, 6, 9, 4, 0) := rfl
set_option maxRecDepth 20000 in
theorem gk_f171_18 : gd_fetch 171 18 = some (18, .getfield 132, 3, 350, 1, 11, 4, 1) := rfl
set_option maxRecDepth 20000 in
theorem gk_f171_21 : gd_fetch 171 21 = some (21, .bipush 11, 2, 0, 0, 0, 0, 0) := rfl
set_option maxRecDepth 20000 in
theorem gk_f171_23 : gd_fetch 171 23 = some (23, .iaload, 1, 0, 0, 0, 0, 0) := rfl
set_option maxRecDepth 20000 in
theorem gk_f171_24 : gd_fetch 171 24 = some (24, .aload_n 0, 1, 0, 0, 0, 0, 0) := rfl
set_option maxRecDepth 20000 in
theorem gk_f171_25 : gd_fetch 171 25 = some (25, .getfield 40, 3, 465, 6, 5, 4, 1) := rfl
set_option maxRecDepth 20000 in
theorem gk_f171_28 : gd_fetch 171 28 = some (28, .invokevirtual 282, 3, 908, 170, 3, 0, 0) := rfl
set_option maxRecDepth 20000 in
theorem gk_f171_31 : gd_fetch 171 31 = some (31, .return_, 1, 0, 0, 0, 0, 0) := rfl
set_option maxRecDepth 20000 in
set_option maxHeartbeats 4000000 in
theorem q_X_callFinal (r0 : Nat) (m : gd_M) : gd_call 171 [.ref r0] m = if gd_ok (gN m) r0 6 = true then (if gd_ok (gN m) (gR m r0 9) 1 = true then (if gd_okA (gN m) (gR m (gR m r0 9) 11) 10 10 = true then (if gd_okA (gN m) (gR m (gR m r0 9) 11) 10 11 = true then (if gd_ok (gN m) (gR m r0 3) 2 = true then ((gd_call 170 [.ref (gR m r0 3), .int (gI m (gR m (gR m r0 9) 11) (10 : Int32).toNatClampNeg), .int (gI m (gR m (gR m r0 9) 11) (11 : Int32).toNatClampNeg), .ref (gR m r0 5)] m).bind (gd_kV fun m6 => some (.null, m6))) else none) else none) else none) else none) else none := by
  refine Eq.trans (show gd_call 171 [.ref r0] m = gd_Den (171, 0, [.ref r0], [], m) from by unfold gd_call gd_ent; rw [gk_ml171]; rfl) ?_
  refine Eq.trans (D_aload_n (x := r0) gk_f171_0 rfl) ?_
  refine Eq.trans (D_gfR gk_f171_1 (by decide)) ?_
  refine gd_ite (fun h1 => ?_) (fun _ => rfl)
  refine Eq.trans (D_aload_n (x := r0) gk_f171_4 rfl) ?_
  refine Eq.trans (D_gfR gk_f171_5 (by decide)) ?_
  refine Eq.trans (if_pos h1) ?_
  refine Eq.trans (D_gfR gk_f171_8 (by decide)) ?_
  refine gd_ite (fun h2 => ?_) (fun _ => rfl)
  refine Eq.trans (D_bipush (x := 10) gk_f171_11 gk_b_10) ?_
  refine Eq.trans (D_iald gk_f171_13 gk_n10_171) ?_
  refine gd_ite (fun h3 => ?_) (fun _ => rfl)
  refine Eq.trans (D_aload_n (x := r0) gk_f171_14 rfl) ?_
  refine Eq.trans (D_gfR gk_f171_15 (by decide)) ?_
  refine Eq.trans (if_pos h1) ?_
  refine Eq.trans (D_gfR gk_f171_18 (by decide)) ?_
  refine Eq.trans (if_pos h2) ?_
  refine Eq.trans (D_bipush (x := 11) gk_f171_21 gk_b_11) ?_
  refine Eq.trans (D_iald gk_f171_23 gk_n10_171) ?_
  refine gd_ite (fun h4 => ?_) (fun _ => rfl)
  refine Eq.trans (D_aload_n (x := r0) gk_f171_24 rfl) ?_
  refine Eq.trans (D_gfR gk_f171_25 (by decide)) ?_
  refine Eq.trans (if_pos h1) ?_
  refine Eq.trans (D_ivV (cl := 2) (args := [.ref (gR m r0 3), .int (gI m (gR m (gR m r0 9) 11) (10 : Int32).toNatClampNeg), .int (gI m (gR m (gR m r0 9) 11) (11 : Int32).toNatClampNeg), .ref (gR m r0 5)]) (rest := []) gk_f171_28 rfl rfl (gd_rmk gk_rm171_170 gk_ln170 gk_ml170 rfl rfl rfl) gk_rk170 (gd_hnd_n gk_nc171) gk_nc170 gk_n11_170 gk_cl170) ?_
  refine gd_ite (fun h5 => ?_) (fun _ => rfl)
  refine gd_bnd (gd_kV_c fun m6 => ?_)
  refine Eq.trans (D_vreturn gk_f171_31 gk_rk171) ?_
  rfl
/-! GymDesk$Ranking.isFinalist (I)Z -/
set_option maxRecDepth 20000 in
theorem gk_f172_0 : gd_fetch 172 0 = some (0, .iconst 0, 1, 0, 0, 0, 0, 0) := rfl
set_option maxRecDepth 20000 in
theorem gk_f172_1 : gd_fetch 172 1 = some (1, .istore_n 2, 1, 0, 0, 0, 0, 0) := rfl
set_option maxRecDepth 20000 in
theorem gk_f172_2 : gd_fetch 172 2 = some (2, .iload_n 2, 1, 0, 0, 0, 0, 0) := rfl
set_option maxRecDepth 20000 in
theorem gk_f172_3 : gd_fetch 172 3 = some (3, .aload_n 0, 1, 0, 0, 0, 0, 0) := rfl
set_option maxRecDepth 20000 in
theorem gk_f172_4 : gd_fetch 172 4 = some (4, .getfield 34, 3, 287, 2, 7, 0, 0) := rfl
set_option maxRecDepth 20000 in
theorem gk_f172_7 : gd_fetch 172 7 = some (7, .if_icmp .ge 21, 3, 0, 0, 0, 0, 0) := rfl
set_option maxRecDepth 20000 in
theorem gk_f172_10 : gd_fetch 172 10 = some (10, .aload_n 0, 1, 0, 0, 0, 0, 0) := rfl
set_option maxRecDepth 20000 in
theorem gk_f172_11 : gd_fetch 172 11 = some (11, .getfield 24, 3, 282, 2, 4, 4, 1) := rfl
set_option maxRecDepth 20000 in
theorem gk_f172_14 : gd_fetch 172 14 = some (14, .iload_n 2, 1, 0, 0, 0, 0, 0) := rfl
set_option maxRecDepth 20000 in
theorem gk_f172_15 : gd_fetch 172 15 = some (15, .iaload, 1, 0, 0, 0, 0, 0) := rfl
set_option maxRecDepth 20000 in
theorem gk_f172_16 : gd_fetch 172 16 = some (16, .iload_n 1, 1, 0, 0, 0, 0, 0) := rfl
set_option maxRecDepth 20000 in
theorem gk_f172_17 : gd_fetch 172 17 = some (17, .if_icmp .ne 5, 3, 0, 0, 0, 0, 0) := rfl
set_option maxRecDepth 20000 in
theorem gk_f172_20 : gd_fetch 172 20 = some (20, .iconst 1, 1, 0, 0, 0, 0, 0) := rfl
set_option maxRecDepth 20000 in
theorem gk_f172_21 : gd_fetch 172 21 = some (21, .ireturn, 1, 0, 0, 0, 0, 0) := rfl
set_option maxRecDepth 20000 in
theorem gk_f172_22 : gd_fetch 172 22 = some (22, .iinc 2 1, 3, 0, 0, 0, 0, 0) := rfl
set_option maxRecDepth 20000 in
theorem gk_f172_25 : gd_fetch 172 25 = some (25, .goto (-23), 3, 0, 0, 0, 0, 0) := rfl
set_option maxRecDepth 20000 in
theorem gk_f172_28 : gd_fetch 172 28 = some (28, .iconst 0, 1, 0, 0, 0, 0, 0) := rfl
set_option maxRecDepth 20000 in
theorem gk_f172_29 : gd_fetch 172 29 = some (29, .ireturn, 1, 0, 0, 0, 0, 0) := rfl
set_option maxRecDepth 20000 in
set_option maxHeartbeats 4000000 in
theorem q_Ra_isFinalist (r0 : Nat) (x1 : Int32) (m : gd_M) : gd_call 172 [.ref r0, .int x1] m = gd_Den (172, 2, [.ref r0, .int x1, .int 0], [], m) := by
  refine Eq.trans (show gd_call 172 [.ref r0, .int x1] m = gd_Den (172, 0, [.ref r0, .int x1, .null], [], m) from by unfold gd_call gd_ent; rw [gk_ml172]; rfl) ?_
  refine Eq.trans (D_iconst (x := 0) gk_f172_0 gk_c_0) ?_
  refine Eq.trans (D_istore_n gk_f172_1 gk_st172_2) ?_
  rfl
set_option maxRecDepth 20000 in
set_option maxHeartbeats 4000000 in
theorem q_Ra_isFinalist_2 (r0 : Nat) (x1 : Int32) (x2 : Int32) (m : gd_M) : gd_Den (172, 2, [.ref r0, .int x1, .int x2], [], m) = if gd_ok (gN m) r0 2 = true then (if (x2 < (gI m r0 7) : Prop) then (if gd_okA (gN m) (gR m r0 4) 10 x2 = true then (if ((gI m (gR m r0 4) (x2 : Int32).toNatClampNeg) = x1 : Prop) then (some (.int 1, m)) else (gd_Den (172, 2, [.ref r0, .int x1, .int (x2 + 1)], [], m))) else none) else (some (.int 0, m))) else none := by
  refine Eq.trans (D_iload_n (x := x2) gk_f172_2 rfl) ?_
  refine Eq.trans (D_aload_n (x := r0) gk_f172_3 rfl) ?_
  refine Eq.trans (D_gfI gk_f172_4 (by decide) (by decide) (by decide)) ?_
  refine gd_ite (fun h1 => ?_) (fun _ => rfl)
  refine Eq.trans (D_ic_ge (t := 28) gk_f172_7 (by decide)) ?_
  refine gd_ite (fun h2 => ?_) (fun h3 => ?_)
  · refine Eq.trans (D_aload_n (x := r0) gk_f172_10 rfl) ?_
    refine Eq.trans (D_gfR gk_f172_11 (by decide)) ?_
    refine Eq.trans (if_pos h1) ?_
    refine Eq.trans (D_iload_n (x := x2) gk_f172_14 rfl) ?_
    refine Eq.trans (D_iald gk_f172_15 gk_n10_172) ?_
    refine gd_ite (fun h4 => ?_) (fun _ => rfl)
    refine Eq.trans (D_iload_n (x := x1) gk_f172_16 rfl) ?_
    refine Eq.trans (D_ic_ne (t := 22) gk_f172_17 (by decide)) ?_
    refine gd_ite (fun h5 => ?_) (fun h6 => ?_)
    · refine Eq.trans (D_iconst (x := 1) gk_f172_20 gk_c_1) ?_
      refine Eq.trans (D_zreturn gk_f172_21 gk_rk172) ?_
      exact if_pos rfl
    · refine Eq.trans (D_iinc (x := x2) (y := 1) gk_f172_22 rfl gk_c_1 gk_st172_2) ?_
      refine Eq.trans (D_goto (t := 2) gk_f172_25 (by decide)) ?_
      rfl
  · refine Eq.trans (D_iconst (x := 0) gk_f172_28 gk_c_0) ?_
    refine Eq.trans (D_zreturn gk_f172_29 gk_rk172) ?_
    exact if_pos rfl
/-! GymDesk.place (III)I -/
set_option maxRecDepth 20000 in
theorem gk_f173_0 : gd_fetch 173 0 = some (0, .aload_n 0, 1, 0, 0, 0, 0, 0) := rfl
set_option maxRecDepth 20000 in
theorem gk_f173_1 : gd_fetch 173 1 = some (1, .iload_n 1, 1, 0, 0, 0, 0, 0) := rfl
set_option maxRecDepth 20000 in
theorem gk_f173_2 : gd_fetch 173 2 = some (2, .invokevirtual 253, 3, 876, 164, 1, 0, 0) := rfl
set_option maxRecDepth 20000 in
theorem gk_f173_5 : gd_fetch 173 5 = some (5, .iload_n 2, 1, 0, 0, 0, 0, 0) := rfl
set_option maxRecDepth 20000 in
theorem gk_f173_6 : gd_fetch 173 6 = some (6, .ifCond .lt 14, 3, 0, 0, 0, 0, 0) := rfl
set_option maxRecDepth 20000 in
theorem gk_f173_9 : gd_fetch 173 9 = some (9, .iload_n 2, 1, 0, 0, 0, 0, 0) := rfl
set_option maxRecDepth 20000 in
theorem gk_f173_10 : gd_fetch 173 10 = some (10, .aload_n 0, 1, 0, 0, 0, 0, 0) := rfl
set_option maxRecDepth 20000 in
theorem gk_f173_11 : gd_fetch 173 11 = some (11, .getfield 30, 3, 463, 6, 3, 4, 1) := rfl
set_option maxRecDepth 20000 in
theorem gk_f173_14 : gd_fetch 173 14 = some (14, .getfield 256, 3, 286, 2, 6, 0, 0) := rfl
set_option maxRecDepth 20000 in
theorem gk_f173_17 : gd_fetch 173 17 = some (17, .if_icmp .lt 5, 3, 0, 0, 0, 0, 0) := rfl
set_option maxRecDepth 20000 in
theorem gk_f173_20 : gd_fetch 173 20 = some (20, .iconst (-1), 1, 0, 0, 0, 0, 0) := rfl
set_option maxRecDepth 20000 in
theorem gk_f173_21 : gd_fetch 173 21 = some (21, .ireturn, 1, 0, 0, 0, 0, 0) := rfl
set_option maxRecDepth 20000 in
theorem gk_f173_22 : gd_fetch 173 22 = some (22, .aload_n 0, 1, 0, 0, 0, 0, 0) := rfl
set_option maxRecDepth 20000 in
theorem gk_f173_23 : gd_fetch 173 23 = some (23, .getfield 30, 3, 463, 6, 3, 4, 1) := rfl
set_option maxRecDepth 20000 in
theorem gk_f173_26 : gd_fetch 173 26 = some (26, .getfield 267, 3, 277, 2, 0, 4, 1) := rfl
set_option maxRecDepth 20000 in
theorem gk_f173_29 : gd_fetch 173 29 = some (29, .iload_n 2, 1, 0, 0, 0, 0, 0) := rfl
set_option maxRecDepth 20000 in
theorem gk_f173_30 : gd_fetch 173 30 = some (30, .iaload, 1, 0, 0, 0, 0, 0) := rfl
set_option maxRecDepth 20000 in
theorem gk_f173_31 : gd_fetch 173 31 = some (31, .istore 4, 2, 0, 0, 0, 0, 0) := rfl
set_option maxRecDepth 20000 in
theorem gk_f173_33 : gd_fetch 173 33 = some (33, .iload_n 3, 1, 0, 0, 0, 0, 0) := rfl
set_option maxRecDepth 20000 in
theorem gk_f173_34 : gd_fetch 173 34 = some (34, .tableswitch 77 0 3 #[30, 33, 44, 55], 30, 0, 0, 0, 0, 0) := rfl
set_option maxRecDepth 20000 in
theorem gk_f173_64 : gd_fetch 173 64 = some (64, .iload 4, 2, 0, 0, 0, 0, 0) := rfl
set_option maxRecDepth 20000 in
theorem gk_f173_66 : gd_fetch 173 66 = some (66, .ireturn, 1, 0, 0, 0, 0, 0) := rfl
set_option maxRecDepth 20000 in
theorem gk_f173_67 : gd_fetch 173 67 = some (67, .aload_n 0, 1, 0, 0, 0, 0, 0) := rfl
set_option maxRecDepth 20000 in
theorem gk_f173_68 : gd_fetch 173 68 = some (68, .getfield 30, 3, 463, 6, 3, 4, 1) := rfl
set_option maxRecDepth 20000 in
theorem gk_f173_71 : gd_fetch 173 71 = some (71, .getfield 270, 3, 279, 2, 1, 4, 1) := rfl
set_option maxRecDepth 20000 in
theorem gk_f173_74 : gd_fetch 173 74 = some (74, .iload 4, 2, 0, 0, 0, 0, 0) := rfl
set_option maxRecDepth 20000 in
theorem gk_f173_76 : gd_fetch 173 76 = some (76, .iaload, 1, 0, 0, 0, 0, 0) := rfl
set_option maxRecDepth 20000 in
theorem gk_f173_77 : gd_fetch 173 77 = some (77, .ireturn, 1, 0, 0, 0, 0, 0) := rfl
set_option maxRecDepth 20000 in
theorem gk_f173_78 : gd_fetch 173 78 = some (78, .iconst 1, 1, 0, 0, 0, 0, 0) := rfl
set_option maxRecDepth 20000 in
theorem gk_f173_79 : gd_fetch 173 79 = some (79, .aload_n 0, 1, 0, 0, 0, 0, 0) := rfl
set_option maxRecDepth 20000 in
theorem gk_f173_80 : gd_fetch 173 80 = some (80, .getfield 30, 3, 463, 6, 3, 4, 1) := rfl
set_option maxRecDepth 20000 in
theorem gk_f173_83 : gd_fetch 173 83 = some (83, .iload_n 2, 1, 0, 0, 0, 0, 0) := rfl
set_option maxRecDepth 20000 in
theorem gk_f173_84 : gd_fetch 173 84 = some (84, .invokevirtual 273, 3, 900, 169, 1, 0, 0) := rfl
set_option maxRecDepth 20000 in
theorem gk_f173_87 : gd_fetch 173 87 = some (87, .iadd, 1, 0, 0, 0, 0, 0) := rfl
set_option maxRecDepth 20000 in
theorem gk_f173_88 : gd_fetch 173 88 = some (88, .ireturn, 1, 0, 0, 0, 0, 0) := rfl
set_option maxRecDepth 20000 in
theorem gk_f173_89 : gd_fetch 173 89 = some (89, .aload_n 0, 1, 0, 0, 0, 0, 0) := rfl
set_option maxRecDepth 20000 in
theorem gk_f173_90 : gd_fetch 173 90 = some (90, .invokevirtual 276, 3, 904, 171, 0, 0, 0) := rfl
set_option maxRecDepth 20000 in
theorem gk_f173_93 : gd_fetch 173 93 = some (93, .aload_n 0, 1, 0, 0, 0, 0, 0) := rfl
set_option maxRecDepth 20000 in
theorem gk_f173_94 : gd_fetch 173 94 = some (94, .getfield 30, 3, 463, 6, 3, 4, 1) := rfl
set_option maxRecDepth 20000 in
theorem gk_f173_97 : gd_fetch 173 97 = some (97, .iload 4, 2, 0, 0, 0, 0, 0) := rfl
set_option maxRecDepth 20000 in
theorem gk_f173_99 : gd_fetch 173 99 = some (99, .invokevirtual 279, 3, 913, 172, 1, 0, 0) := rfl
set_option maxRecDepth 20000 in
theorem gk_f173_102 : gd_fetch 173 102 = some (102, .ifCond .eq 7, 3, 0, 0, 0, 0, 0) := rfl
set_option maxRecDepth 20000 in
theorem gk_f173_105 : gd_fetch 173 105 = some (105, .iconst 1, 1, 0, 0, 0, 0, 0) := rfl
set_option maxRecDepth 20000 in
theorem gk_f173_106 : gd_fetch 173 106 = some (106, .goto 4, 3, 0, 0, 0, 0, 0) := rfl
set_option maxRecDepth 20000 in
theorem gk_f173_109 : gd_fetch 173 109 = some (109, .iconst 0, 1, 0, 0, 0, 0, 0) := rfl
set_option maxRecDepth 20000 in
theorem gk_f173_110 : gd_fetch 173 110 = some (110, .ireturn, 1, 0, 0, 0, 0, 0) := rfl
set_option maxRecDepth 20000 in
theorem gk_f173_111 : gd_fetch 173 111 = some (111, .iconst (-1), 1, 0, 0, 0, 0, 0) := rfl
set_option maxRecDepth 20000 in
theorem gk_f173_112 : gd_fetch 173 112 = some (112, .ireturn, 1, 0, 0, 0, 0, 0) := rfl
set_option maxRecDepth 20000 in
set_option maxHeartbeats 4000000 in
theorem q_X_place (r0 : Nat) (x1 : Int32) (x2 : Int32) (x3 : Int32) (m : gd_M) : gd_call 173 [.ref r0, .int x1, .int x2, .int x3] m = if gd_ok (gN m) r0 6 = true then ((gd_call 164 [.ref r0, .int x1] m).bind (gd_kV fun m2 => if (x2 < 0 : Prop) then (some (.int (-1), m2)) else (if gd_ok (gN m2) r0 6 = true then (if gd_ok (gN m2) (gR m2 r0 3) 2 = true then (if (x2 < (gI m2 (gR m2 r0 3) 6) : Prop) then (if gd_okA (gN m2) (gR m2 (gR m2 r0 3) 0) 10 x2 = true then (if x3 = 0 then (some (.int (gI m2 (gR m2 (gR m2 r0 3) 0) (x2 : Int32).toNatClampNeg), m2)) else if x3 = 1 then (if gd_okA (gN m2) (gR m2 (gR m2 r0 3) 1) 10 (gI m2 (gR m2 (gR m2 r0 3) 0) (x2 : Int32).toNatClampNeg) = true then (some (.int (gI m2 (gR m2 (gR m2 r0 3) 1) ((gI m2 (gR m2 (gR m2 r0 3) 0) (x2 : Int32).toNatClampNeg) : Int32).toNatClampNeg), m2)) else none) else if x3 = 2 then ((gd_call 169 [.ref (gR m2 r0 3), .int x2] m2).bind (gd_kI fun z20 m18 => some (.int (1 + z20), m18))) else if x3 = 3 then ((gd_call 171 [.ref r0] m2).bind (gd_kV fun m23 => if gd_ok (gN m23) r0 6 = true then (if gd_ok (gN m23) (gR m23 r0 3) 2 = true then ((gd_call 172 [.ref (gR m23 r0 3), .int (gI m2 (gR m2 (gR m2 r0 3) 0) (x2 : Int32).toNatClampNeg)] m23).bind (gd_kI fun z29 m27 => if (z29 = 0 : Prop) then (some (.int 0, m27)) else (some (.int 1, m27)))) else none) else none)) else (some (.int (-1), m2))) else none) else (some (.int (-1), m2))) else none) else none))) else none := by
  refine Eq.trans (show gd_call 173 [.ref r0, .int x1, .int x2, .int x3] m = gd_Den (173, 0, [.ref r0, .int x1, .int x2, .int x3, .null], [], m) from by unfold gd_call gd_ent; rw [gk_ml173]; rfl) ?_
  refine Eq.trans (D_aload_n (x := r0) gk_f173_0 rfl) ?_
  refine Eq.trans (D_iload_n (x := x1) gk_f173_1 rfl) ?_
  refine Eq.trans (D_ivV (cl := 6) (args := [.ref r0, .int x1]) (rest := []) gk_f173_2 rfl rfl (gd_rmk gk_rm173_164 gk_ln164 gk_ml164 rfl rfl rfl) gk_rk164 (gd_hnd_n gk_nc173) gk_nc164 gk_n11_164 gk_cl164) ?_
  refine gd_ite (fun h1 => ?_) (fun _ => rfl)
  refine gd_bnd (gd_kV_c fun m2 => ?_)
  refine Eq.trans (D_iload_n (x := x2) gk_f173_5 rfl) ?_
  refine Eq.trans (D_if_lt (t := 20) gk_f173_6 (by decide)) ?_
  refine gd_ite (fun h4 => ?_) (fun h5 => ?_)
  · refine Eq.trans (D_iconst (x := (-1)) gk_f173_20 gk_c_m1) ?_
    refine Eq.trans (D_ireturn gk_f173_21 gk_rk173) ?_
    rfl
  · refine Eq.trans (D_iload_n (x := x2) gk_f173_9 rfl) ?_
    refine Eq.trans (D_aload_n (x := r0) gk_f173_10 rfl) ?_
    refine Eq.trans (D_gfR gk_f173_11 (by decide)) ?_
    refine gd_ite (fun h6 => ?_) (fun _ => rfl)
    refine Eq.trans (D_gfI gk_f173_14 (by decide) (by decide) (by decide)) ?_
    refine gd_ite (fun h7 => ?_) (fun _ => rfl)
    refine Eq.trans (D_ic_lt (t := 22) gk_f173_17 (by decide)) ?_
    refine gd_ite (fun h8 => ?_) (fun h9 => ?_)
    · refine Eq.trans (D_aload_n (x := r0) gk_f173_22 rfl) ?_
      refine Eq.trans (D_gfR gk_f173_23 (by decide)) ?_
      refine Eq.trans (if_pos h6) ?_
      refine Eq.trans (D_gfR gk_f173_26 (by decide)) ?_
      refine Eq.trans (if_pos h7) ?_
      refine Eq.trans (D_iload_n (x := x2) gk_f173_29 rfl) ?_
      refine Eq.trans (D_iald gk_f173_30 gk_n10_173) ?_
      refine gd_ite (fun h10 => ?_) (fun _ => rfl)
      refine Eq.trans (D_istore gk_f173_31 gk_st173_4) ?_
      refine Eq.trans (D_iload_n (x := x3) gk_f173_33 rfl) ?_
      refine Eq.trans (D_tsw (vs := [(0, 64), (1, 67), (2, 78), (3, 89)]) (t := 111) gk_f173_34 (by decide) (by decide)) ?_
      refine gd_ite (fun h11 => ?_) (fun h12 => ?_)
      · refine Eq.trans (D_iload (x := (gI m2 (gR m2 (gR m2 r0 3) 0) (x2 : Int32).toNatClampNeg)) gk_f173_64 rfl) ?_
        refine Eq.trans (D_ireturn gk_f173_66 gk_rk173) ?_
        rfl
      refine gd_ite (fun h13 => ?_) (fun h14 => ?_)
      · refine Eq.trans (D_aload_n (x := r0) gk_f173_67 rfl) ?_
        refine Eq.trans (D_gfR gk_f173_68 (by decide)) ?_
        refine Eq.trans (if_pos h6) ?_
        refine Eq.trans (D_gfR gk_f173_71 (by decide)) ?_
        refine Eq.trans (if_pos h7) ?_
        refine Eq.trans (D_iload (x := (gI m2 (gR m2 (gR m2 r0 3) 0) (x2 : Int32).toNatClampNeg)) gk_f173_74 rfl) ?_
        refine Eq.trans (D_iald gk_f173_76 gk_n10_173) ?_
        refine gd_ite (fun h15 => ?_) (fun _ => rfl)
        refine Eq.trans (D_ireturn gk_f173_77 gk_rk173) ?_
        rfl
      refine gd_ite (fun h16 => ?_) (fun h17 => ?_)
      · refine Eq.trans (D_iconst (x := 1) gk_f173_78 gk_c_1) ?_
        refine Eq.trans (D_aload_n (x := r0) gk_f173_79 rfl) ?_
        refine Eq.trans (D_gfR gk_f173_80 (by decide)) ?_
        refine Eq.trans (if_pos h6) ?_
        refine Eq.trans (D_iload_n (x := x2) gk_f173_83 rfl) ?_
        refine Eq.trans (D_ivI (cl := 2) (args := [.ref (gR m2 r0 3), .int x2]) (rest := [.int 1]) gk_f173_84 rfl rfl (gd_rmk gk_rm173_169 gk_ln169 gk_ml169 rfl rfl rfl) gk_rk169 (gd_hnd_n gk_nc173) gk_nc169 gk_n11_169 gk_cl169) ?_
        refine Eq.trans (if_pos h7) ?_
        refine gd_bnd (gd_kI_c fun z20 m18 => ?_)
        refine Eq.trans (D_iadd gk_f173_87) ?_
        refine Eq.trans (D_ireturn gk_f173_88 gk_rk173) ?_
        rfl
      refine gd_ite (fun h21 => ?_) (fun h22 => ?_)
      · refine Eq.trans (D_aload_n (x := r0) gk_f173_89 rfl) ?_
        refine Eq.trans (D_ivV (cl := 6) (args := [.ref r0]) (rest := []) gk_f173_90 rfl rfl (gd_rmk gk_rm173_171 gk_ln171 gk_ml171 rfl rfl rfl) gk_rk171 (gd_hnd_n gk_nc173) gk_nc171 gk_n11_171 gk_cl171) ?_
        refine Eq.trans (if_pos h6) ?_
        refine gd_bnd (gd_kV_c fun m23 => ?_)
        refine Eq.trans (D_aload_n (x := r0) gk_f173_93 rfl) ?_
        refine Eq.trans (D_gfR gk_f173_94 (by decide)) ?_
        refine gd_ite (fun h25 => ?_) (fun _ => rfl)
        refine Eq.trans (D_iload (x := (gI m2 (gR m2 (gR m2 r0 3) 0) (x2 : Int32).toNatClampNeg)) gk_f173_97 rfl) ?_
        refine Eq.trans (D_ivZ (cl := 2) (args := [.ref (gR m23 r0 3), .int (gI m2 (gR m2 (gR m2 r0 3) 0) (x2 : Int32).toNatClampNeg)]) (rest := []) gk_f173_99 rfl rfl (gd_rmk gk_rm173_172 gk_ln172 gk_ml172 rfl rfl rfl) gk_rk172 (gd_hnd_n gk_nc173) gk_nc172 gk_n11_172 gk_cl172) ?_
        refine gd_ite (fun h26 => ?_) (fun _ => rfl)
        refine gd_bnd (gd_kI_c fun z29 m27 => ?_)
        refine Eq.trans (D_if_eq (t := 109) gk_f173_102 (by decide)) ?_
        refine gd_ite (fun h30 => ?_) (fun h31 => ?_)
        · refine Eq.trans (D_iconst (x := 0) gk_f173_109 gk_c_0) ?_
          refine Eq.trans (D_ireturn gk_f173_110 gk_rk173) ?_
          rfl
        · refine Eq.trans (D_iconst (x := 1) gk_f173_105 gk_c_1) ?_
          refine Eq.trans (D_goto (t := 110) gk_f173_106 (by decide)) ?_
          refine Eq.trans (D_ireturn gk_f173_110 gk_rk173) ?_
          rfl
      refine Eq.trans (D_iconst (x := (-1)) gk_f173_111 gk_c_m1) ?_
      refine Eq.trans (D_ireturn gk_f173_112 gk_rk173) ?_
      rfl
    · refine Eq.trans (D_iconst (x := (-1)) gk_f173_20 gk_c_m1) ?_
      refine Eq.trans (D_ireturn gk_f173_21 gk_rk173) ?_
      rfl
/-! GymDeskModel.makeFinal (I)V -/
set_option maxRecDepth 20000 in
theorem gk_f174_0 : gd_fetch 174 0 = some (0, .aload_n 0, 1, 0, 0, 0, 0, 0) := rfl
set_option maxRecDepth 20000 in
theorem gk_f174_1 : gd_fetch 174 1 = some (1, .iload_n 1, 1, 0, 0, 0, 0, 0) := rfl
set_option maxRecDepth 20000 in
theorem gk_f174_2 : gd_fetch 174 2 = some (2, .invokevirtual 383, 3, 1501, 167, 1, 0, 0) := rfl
set_option maxRecDepth 20000 in
theorem gk_f174_5 : gd_fetch 174 5 = some (5, .aload_n 0, 1, 0, 0, 0, 0, 0) := rfl
set_option maxRecDepth 20000 in
theorem gk_f174_6 : gd_fetch 174 6 = some (6, .iconst 0, 1, 0, 0, 0, 0, 0) := rfl
set_option maxRecDepth 20000 in
theorem gk_f174_7 : gd_fetch 174 7 = some (7, .putfield 386, 3, 1206, 9, 43, 0, 0) := rfl
set_option maxRecDepth 20000 in
theorem gk_f174_10 : gd_fetch 174 10 = some (10, .iconst 0, 1, 0, 0, 0, 0, 0) := rfl
set_option maxRecDepth 20000 in
theorem gk_f174_11 : gd_fetch 174 11 = some (11, .istore_n 2, 1, 0, 0, 0, 0, 0) := rfl
set_option maxRecDepth 20000 in
theorem gk_f174_12 : gd_fetch 174 12 = some (12, .iload_n 2, 1, 0, 0, 0, 0, 0) := rfl
set_option maxRecDepth 20000 in
theorem gk_f174_13 : gd_fetch 174 13 = some (13, .bipush 10, 2, 0, 0, 0, 0, 0) := rfl
set_option maxRecDepth 20000 in
theorem gk_f174_15 : gd_fetch 174 15 = some (15, .if_icmp .ge 16, 3, 0, 0, 0, 0, 0) := rfl
set_option maxRecDepth 20000 in
theorem gk_f174_18 : gd_fetch 174 18 = some (18, .aload_n 0, 1, 0, 0, 0, 0, 0) := rfl
set_option maxRecDepth 20000 in
theorem gk_f174_19 : gd_fetch 174 19 = some (19, .getfield 102, 3, 1204, 9, 41, 4, 1) := rfl
set_option maxRecDepth 20000 in
theorem gk_f174_22 : gd_fetch 174 22 = some (22, .iload_n 2, 1, 0, 0, 0, 0, 0) := rfl
set_option maxRecDepth 20000 in
theorem gk_f174_23 : gd_fetch 174 23 = some (23, .iconst 0, 1, 0, 0, 0, 0, 0) := rfl
set_option maxRecDepth 20000 in
theorem gk_f174_24 : gd_fetch 174 24 = some (24, .iastore, 1, 0, 0, 0, 0, 0) := rfl
set_option maxRecDepth 20000 in
theorem gk_f174_25 : gd_fetch 174 25 = some (25, .iinc 2 1, 3, 0, 0, 0, 0, 0) := rfl
set_option maxRecDepth 20000 in
theorem gk_f174_28 : gd_fetch 174 28 = some (28, .goto (-16), 3, 0, 0, 0, 0, 0) := rfl
set_option maxRecDepth 20000 in
theorem gk_f174_31 : gd_fetch 174 31 = some (31, .iconst 0, 1, 0, 0, 0, 0, 0) := rfl
set_option maxRecDepth 20000 in
theorem gk_f174_32 : gd_fetch 174 32 = some (32, .istore_n 2, 1, 0, 0, 0, 0, 0) := rfl
set_option maxRecDepth 20000 in
theorem gk_f174_33 : gd_fetch 174 33 = some (33, .iload_n 2, 1, 0, 0, 0, 0, 0) := rfl
set_option maxRecDepth 20000 in
theorem gk_f174_34 : gd_fetch 174 34 = some (34, .aload_n 0, 1, 0, 0, 0, 0, 0) := rfl
set_option maxRecDepth 20000 in
theorem gk_f174_35 : gd_fetch 174 35 = some (35, .getfield 377, 3, 1203, 9, 40, 0, 0) := rfl
set_option maxRecDepth 20000 in
theorem gk_f174_38 : gd_fetch 174 38 = some (38, .if_icmp .ge 89, 3, 0, 0, 0, 0, 0) := rfl
set_option maxRecDepth 20000 in
theorem gk_f174_41 : gd_fetch 174 41 = some (41, .aload_n 0, 1, 0, 0, 0, 0, 0) := rfl
set_option maxRecDepth 20000 in
theorem gk_f174_42 : gd_fetch 174 42 = some (42, .getfield 386, 3, 1206, 9, 43, 0, 0) := rfl
set_option maxRecDepth 20000 in
theorem gk_f174_45 : gd_fetch 174 45 = some (45, .aload_n 0, 1, 0, 0, 0, 0, 0) := rfl
set_option maxRecDepth 20000 in
theorem gk_f174_46 : gd_fetch 174 46 = some (46, .getfield 19, 3, 1164, 9, 1, 4, 0) := rfl
set_option maxRecDepth 20000 in
theorem gk_f174_49 : gd_fetch 174 49 = some (49, .getfield 317, 3, 1081, 7, 25, 0, 0) := rfl
set_option maxRecDepth 20000 in
theorem gk_f174_52 : gd_fetch 174 52 = some (52, .if_icmp .ge 75, 3, 0, 0, 0, 0, 0) := rfl
set_option maxRecDepth 20000 in
theorem gk_f174_55 : gd_fetch 174 55 = some (55, .aload_n 0, 1, 0, 0, 0, 0, 0) := rfl
set_option maxRecDepth 20000 in
theorem gk_f174_56 : gd_fetch 174 56 = some (56, .getfield 41, 3, 1183, 9, 20, 4, 1) := rfl
set_option maxRecDepth 20000 in
theorem gk_f174_59 : gd_fetch 174 59 = some (59, .aload_n 0, 1, 0, 0, 0, 0, 0) := rfl
set_option maxRecDepth 20000 in
theorem gk_f174_60 : gd_fetch 174 60 = some (60, .getfield 90, 3, 1199, 9, 36, 4, 1) := rfl
set_option maxRecDepth 20000 in
theorem gk_f174_63 : gd_fetch 174 63 = some (63, .iload_n 2, 1, 0, 0, 0, 0, 0) := rfl
set_option maxRecDepth 20000 in
theorem gk_f174_64 : gd_fetch 174 64 = some (64, .iaload, 1, 0, 0, 0, 0, 0) := rfl
set_option maxRecDepth 20000 in
theorem gk_f174_65 : gd_fetch 174 65 = some (65, .iaload, 1, 0, 0, 0, 0, 0) := rfl
set_option maxRecDepth 20000 in
theorem gk_f174_66 : gd_fetch 174 66 = some (66, .istore_n 3, 1, 0, 0, 0, 0, 0) := rfl
set_option maxRecDepth 20000 in
theorem gk_f174_67 : gd_fetch 174 67 = some (67, .aload_n 0, 1, 0, 0, 0, 0, 0) := rfl
set_option maxRecDepth 20000 in
theorem gk_f174_68 : gd_fetch 174 68 = some (68, .getfield 102, 3, 1204, 9, 41, 4, 1) := rfl
set_option maxRecDepth 20000 in
theorem gk_f174_71 : gd_fetch 174 71 = some (71, .iload_n 3, 1, 0, 0, 0, 0, 0) := rfl
set_option maxRecDepth 20000 in
theorem gk_f174_72 : gd_fetch 174 72 = some (72, .iaload, 1, 0, 0, 0, 0, 0) := rfl
set_option maxRecDepth 20000 in
theorem gk_f174_73 : gd_fetch 174 73 = some (73, .aload_n 0, 1, 0, 0, 0, 0, 0) := rfl
set_option maxRecDepth 20000 in
theorem gk_f174_74 : gd_fetch 174 74 = some (74, .getfield 19, 3, 1164, 9, 1, 4, 0) := rfl
set_option maxRecDepth 20000 in
theorem gk_f174_77 : gd_fetch 174 77 = some (77, .getfield 320, 3, 1083, 7, 26, 0, 0) := rfl
set_option maxRecDepth 20000 in
theorem gk_f174_80 : gd_fetch 174 80 = some (80, .if_icmp .ne 6, 3, 0, 0, 0, 0, 0) := rfl
set_option maxRecDepth 20000 in
theorem gk_f174_83 : gd_fetch 174 83 = some (83, .goto 38, 3, 0, 0, 0, 0, 0) := rfl
set_option maxRecDepth 20000 in
theorem gk_f174_86 : gd_fetch 174 86 = some (86, .aload_n 0, 1, 0, 0, 0, 0, 0) := rfl
set_option maxRecDepth 20000 in
theorem gk_f174_87 : gd_fetch 174 87 = some (87, .getfield 102, 3, 1204, 9, 41, 4, 1) := rfl
set_option maxRecDepth 20000 in
theorem gk_f174_90 : gd_fetch 174 90 = some (90, .iload_n 3, 1, 0, 0, 0, 0, 0) := rfl
set_option maxRecDepth 20000 in
theorem gk_f174_91 : gd_fetch 174 91 = some (91, .dup2, 1, 0, 0, 0, 0, 0) := rfl
set_option maxRecDepth 20000 in
theorem gk_f174_92 : gd_fetch 174 92 = some (92, .iaload, 1, 0, 0, 0, 0, 0) := rfl
set_option maxRecDepth 20000 in
theorem gk_f174_93 : gd_fetch 174 93 = some (93, .iconst 1, 1, 0, 0, 0, 0, 0) := rfl
set_option maxRecDepth 20000 in
theorem gk_f174_94 : gd_fetch 174 94 = some (94, .iadd, 1, 0, 0, 0, 0, 0) := rfl
set_option maxRecDepth 20000 in
theorem gk_f174_95 : gd_fetch 174 95 = some (95, .iastore, 1, 0, 0, 0, 0, 0) := rfl
set_option maxRecDepth 20000 in
theorem gk_f174_96 : gd_fetch 174 96 = some (96, .aload_n 0, 1, 0, 0, 0, 0, 0) := rfl
set_option maxRecDepth 20000 in
theorem gk_f174_97 : gd_fetch 174 97 = some (97, .getfield 105, 3, 1205, 9, 42, 4, 1) := rfl
set_option maxRecDepth 20000 in
theorem gk_f174_100 : gd_fetch 174 100 = some (100, .aload_n 0, 1, 0, 0, 0, 0, 0) := rfl
set_option maxRecDepth 20000 in
theorem gk_f174_101 : gd_fetch 174 101 = some (101, .getfield 386, 3, 1206, 9, 43, 0, 0) := rfl
set_option maxRecDepth 20000 in
theorem gk_f174_104 : gd_fetch 174 104 = some (104, .aload_n 0, 1, 0, 0, 0, 0, 0) := rfl
set_option maxRecDepth 20000 in
theorem gk_f174_105 : gd_fetch 174 105 = some (105, .getfield 90, 3, 1199, 9, 36, 4, 1) := rfl
set_option maxRecDepth 20000 in
theorem gk_f174_108 : gd_fetch 174 108 = some (108, .iload_n 2, 1, 0, 0, 0, 0, 0) := rfl
set_option maxRecDepth 20000 in
theorem gk_f174_109 : gd_fetch 174 109 = some (109, .iaload, 1, 0, 0, 0, 0, 0) := rfl
set_option maxRecDepth 20000 in
theorem gk_f174_110 : gd_fetch 174 110 = some (110, .iastore, 1, 0, 0, 0, 0, 0) := rfl
set_option maxRecDepth 20000 in
theorem gk_f174_111 : gd_fetch 174 111 = some (111, .aload_n 0, 1, 0, 0, 0, 0, 0) := rfl
set_option maxRecDepth 20000 in
theorem gk_f174_112 : gd_fetch 174 112 = some (112, .dup, 1, 0, 0, 0, 0, 0) := rfl
set_option maxRecDepth 20000 in
theorem gk_f174_113 : gd_fetch 174 113 = some (113, .getfield 386, 3, 1206, 9, 43, 0, 0) := rfl
set_option maxRecDepth 20000 in
theorem gk_f174_116 : gd_fetch 174 116 = some (116, .iconst 1, 1, 0, 0, 0, 0, 0) := rfl
set_option maxRecDepth 20000 in
theorem gk_f174_117 : gd_fetch 174 117 = some (117, .iadd, 1, 0, 0, 0, 0, 0) := rfl
set_option maxRecDepth 20000 in
theorem gk_f174_118 : gd_fetch 174 118 = some (118, .putfield 386, 3, 1206, 9, 43, 0, 0) := rfl
set_option maxRecDepth 20000 in
theorem gk_f174_121 : gd_fetch 174 121 = some (121, .iinc 2 1, 3, 0, 0, 0, 0, 0) := rfl
set_option maxRecDepth 20000 in
theorem gk_f174_124 : gd_fetch 174 124 = some (124, .goto (-91), 3, 0, 0, 0, 0, 0) := rfl
set_option maxRecDepth 20000 in
theorem gk_f174_127 : gd_fetch 174 127 = some (127, .return_, 1, 0, 0, 0, 0, 0) := rfl
set_option maxRecDepth 20000 in
set_option maxHeartbeats 4000000 in
theorem q_Mo_makeFinal (r0 : Nat) (x1 : Int32) (m : gd_M) : gd_call 174 [.ref r0, .int x1] m = if gd_ok (gN m) r0 9 = true then ((gd_call 167 [.ref r0, .int x1] m).bind (gd_kV fun m2 => if gd_ok (gN m2) r0 9 = true then (gd_Den (174, 12, [.ref r0, .int x1, .int 0, .null], [], (wI m2 r0 43 0))) else none)) else none := by
  refine Eq.trans (show gd_call 174 [.ref r0, .int x1] m = gd_Den (174, 0, [.ref r0, .int x1, .null, .null], [], m) from by unfold gd_call gd_ent; rw [gk_ml174]; rfl) ?_
  refine Eq.trans (D_aload_n (x := r0) gk_f174_0 rfl) ?_
  refine Eq.trans (D_iload_n (x := x1) gk_f174_1 rfl) ?_
  refine Eq.trans (D_ivV (cl := 9) (args := [.ref r0, .int x1]) (rest := []) gk_f174_2 rfl rfl (gd_rmk gk_rm174_167 gk_ln167 gk_ml167 rfl rfl rfl) gk_rk167 (gd_hnd_n gk_nc174) gk_nc167 gk_n11_167 gk_cl167) ?_
  refine gd_ite (fun h1 => ?_) (fun _ => rfl)
  refine gd_bnd (gd_kV_c fun m2 => ?_)
  refine Eq.trans (D_aload_n (x := r0) gk_f174_5 rfl) ?_
  refine Eq.trans (D_iconst (x := 0) gk_f174_6 gk_c_0) ?_
  refine Eq.trans (D_pfI gk_f174_7) ?_
  refine gd_ite (fun h4 => ?_) (fun _ => rfl)
  refine Eq.trans (D_iconst (x := 0) gk_f174_10 gk_c_0) ?_
  refine Eq.trans (D_istore_n gk_f174_11 gk_st174_2) ?_
  rfl
set_option maxRecDepth 20000 in
set_option maxHeartbeats 4000000 in
theorem q_Mo_makeFinal_12 (r0 : Nat) (x1 : Int32) (x2 : Int32) (m : gd_M) : gd_Den (174, 12, [.ref r0, .int x1, .int x2, .null], [], m) = if (x2 < 10 : Prop) then (if gd_ok (gN m) r0 9 = true then (if gd_okA (gN m) (gR m r0 41) 10 x2 = true then (gd_Den (174, 12, [.ref r0, .int x1, .int (x2 + 1), .null], [], (wI m (gR m r0 41) (x2 : Int32).toNatClampNeg 0))) else none) else none) else (gd_Den (174, 33, [.ref r0, .int x1, .int 0, .null], [], m)) := by
  refine Eq.trans (D_iload_n (x := x2) gk_f174_12 rfl) ?_
  refine Eq.trans (D_bipush (x := 10) gk_f174_13 gk_b_10) ?_
  refine Eq.trans (D_ic_ge (t := 31) gk_f174_15 (by decide)) ?_
  refine gd_ite (fun h1 => ?_) (fun h2 => ?_)
  · refine Eq.trans (D_aload_n (x := r0) gk_f174_18 rfl) ?_
    refine Eq.trans (D_gfR gk_f174_19 (by decide)) ?_
    refine gd_ite (fun h3 => ?_) (fun _ => rfl)
    refine Eq.trans (D_iload_n (x := x2) gk_f174_22 rfl) ?_
    refine Eq.trans (D_iconst (x := 0) gk_f174_23 gk_c_0) ?_
    refine Eq.trans (D_iast gk_f174_24) ?_
    refine gd_ite (fun h4 => ?_) (fun _ => rfl)
    refine Eq.trans (D_iinc (x := x2) (y := 1) gk_f174_25 rfl gk_c_1 gk_st174_2) ?_
    refine Eq.trans (D_goto (t := 12) gk_f174_28 (by decide)) ?_
    rfl
  · refine Eq.trans (D_iconst (x := 0) gk_f174_31 gk_c_0) ?_
    refine Eq.trans (D_istore_n gk_f174_32 gk_st174_2) ?_
    rfl
set_option maxRecDepth 20000 in
set_option maxHeartbeats 4000000 in
theorem q_Mo_makeFinal_33 (r0 : Nat) (x1 : Int32) (x2 : Int32) (v3 : Value) (m : gd_M) : gd_Den (174, 33, [.ref r0, .int x1, .int x2, v3], [], m) = if gd_ok (gN m) r0 9 = true then (if (x2 < (gI m r0 40) : Prop) then (if gd_ok (gN m) (gR m r0 1) 7 = true then (if ((gI m r0 43) < (gI m (gR m r0 1) 25) : Prop) then (if gd_okA (gN m) (gR m r0 36) 10 x2 = true then (if gd_okA (gN m) (gR m r0 20) 10 (gI m (gR m r0 36) (x2 : Int32).toNatClampNeg) = true then (if gd_okA (gN m) (gR m r0 41) 10 (gI m (gR m r0 20) ((gI m (gR m r0 36) (x2 : Int32).toNatClampNeg) : Int32).toNatClampNeg) = true then (if ((gI m (gR m r0 41) ((gI m (gR m r0 20) ((gI m (gR m r0 36) (x2 : Int32).toNatClampNeg) : Int32).toNatClampNeg) : Int32).toNatClampNeg) = (gI m (gR m r0 1) 26) : Prop) then (gd_Den (174, 33, [.ref r0, .int x1, .int (x2 + 1), .int (gI m (gR m r0 20) ((gI m (gR m r0 36) (x2 : Int32).toNatClampNeg) : Int32).toNatClampNeg)], [], m)) else (if gd_okA (gN m) (gR m r0 42) 10 (gI (wI m (gR m r0 41) ((gI m (gR m r0 20) ((gI m (gR m r0 36) (x2 : Int32).toNatClampNeg) : Int32).toNatClampNeg) : Int32).toNatClampNeg ((gI m (gR m r0 41) ((gI m (gR m r0 20) ((gI m (gR m r0 36) (x2 : Int32).toNatClampNeg) : Int32).toNatClampNeg) : Int32).toNatClampNeg) + 1)) r0 43) = true then (gd_Den (174, 33, [.ref r0, .int x1, .int (x2 + 1), .int (gI m (gR m r0 20) ((gI m (gR m r0 36) (x2 : Int32).toNatClampNeg) : Int32).toNatClampNeg)], [], (wI (wI (wI m (gR m r0 41) ((gI m (gR m r0 20) ((gI m (gR m r0 36) (x2 : Int32).toNatClampNeg) : Int32).toNatClampNeg) : Int32).toNatClampNeg ((gI m (gR m r0 41) ((gI m (gR m r0 20) ((gI m (gR m r0 36) (x2 : Int32).toNatClampNeg) : Int32).toNatClampNeg) : Int32).toNatClampNeg) + 1)) (gR m r0 42) ((gI (wI m (gR m r0 41) ((gI m (gR m r0 20) ((gI m (gR m r0 36) (x2 : Int32).toNatClampNeg) : Int32).toNatClampNeg) : Int32).toNatClampNeg ((gI m (gR m r0 41) ((gI m (gR m r0 20) ((gI m (gR m r0 36) (x2 : Int32).toNatClampNeg) : Int32).toNatClampNeg) : Int32).toNatClampNeg) + 1)) r0 43) : Int32).toNatClampNeg (gI (wI m (gR m r0 41) ((gI m (gR m r0 20) ((gI m (gR m r0 36) (x2 : Int32).toNatClampNeg) : Int32).toNatClampNeg) : Int32).toNatClampNeg ((gI m (gR m r0 41) ((gI m (gR m r0 20) ((gI m (gR m r0 36) (x2 : Int32).toNatClampNeg) : Int32).toNatClampNeg) : Int32).toNatClampNeg) + 1)) (gR m r0 36) (x2 : Int32).toNatClampNeg)) r0 43 ((gI (wI (wI m (gR m r0 41) ((gI m (gR m r0 20) ((gI m (gR m r0 36) (x2 : Int32).toNatClampNeg) : Int32).toNatClampNeg) : Int32).toNatClampNeg ((gI m (gR m r0 41) ((gI m (gR m r0 20) ((gI m (gR m r0 36) (x2 : Int32).toNatClampNeg) : Int32).toNatClampNeg) : Int32).toNatClampNeg) + 1)) (gR m r0 42) ((gI (wI m (gR m r0 41) ((gI m (gR m r0 20) ((gI m (gR m r0 36) (x2 : Int32).toNatClampNeg) : Int32).toNatClampNeg) : Int32).toNatClampNeg ((gI m (gR m r0 41) ((gI m (gR m r0 20) ((gI m (gR m r0 36) (x2 : Int32).toNatClampNeg) : Int32).toNatClampNeg) : Int32).toNatClampNeg) + 1)) r0 43) : Int32).toNatClampNeg (gI (wI m (gR m r0 41) ((gI m (gR m r0 20) ((gI m (gR m r0 36) (x2 : Int32).toNatClampNeg) : Int32).toNatClampNeg) : Int32).toNatClampNeg ((gI m (gR m r0 41) ((gI m (gR m r0 20) ((gI m (gR m r0 36) (x2 : Int32).toNatClampNeg) : Int32).toNatClampNeg) : Int32).toNatClampNeg) + 1)) (gR m r0 36) (x2 : Int32).toNatClampNeg)) r0 43) + 1)))) else none)) else none) else none) else none) else (some (.null, m))) else none) else (some (.null, m))) else none := by
  refine Eq.trans (D_iload_n (x := x2) gk_f174_33 rfl) ?_
  refine Eq.trans (D_aload_n (x := r0) gk_f174_34 rfl) ?_
  refine Eq.trans (D_gfI gk_f174_35 (by decide) (by decide) (by decide)) ?_
  refine gd_ite (fun h1 => ?_) (fun _ => rfl)
  refine Eq.trans (D_ic_ge (t := 127) gk_f174_38 (by decide)) ?_
  refine gd_ite (fun h2 => ?_) (fun h3 => ?_)
  · refine Eq.trans (D_aload_n (x := r0) gk_f174_41 rfl) ?_
    refine Eq.trans (D_gfI gk_f174_42 (by decide) (by decide) (by decide)) ?_
    refine Eq.trans (if_pos h1) ?_
    refine Eq.trans (D_aload_n (x := r0) gk_f174_45 rfl) ?_
    refine Eq.trans (D_gfR gk_f174_46 (by decide)) ?_
    refine Eq.trans (if_pos h1) ?_
    refine Eq.trans (D_gfI gk_f174_49 (by decide) (by decide) (by decide)) ?_
    refine gd_ite (fun h4 => ?_) (fun _ => rfl)
    refine Eq.trans (D_ic_ge (t := 127) gk_f174_52 (by decide)) ?_
    refine gd_ite (fun h5 => ?_) (fun h6 => ?_)
    · refine Eq.trans (D_aload_n (x := r0) gk_f174_55 rfl) ?_
      refine Eq.trans (D_gfR gk_f174_56 (by decide)) ?_
      refine Eq.trans (if_pos h1) ?_
      refine Eq.trans (D_aload_n (x := r0) gk_f174_59 rfl) ?_
      refine Eq.trans (D_gfR gk_f174_60 (by decide)) ?_
      refine Eq.trans (if_pos h1) ?_
      refine Eq.trans (D_iload_n (x := x2) gk_f174_63 rfl) ?_
      refine Eq.trans (D_iald gk_f174_64 gk_n10_174) ?_
      refine gd_ite (fun h7 => ?_) (fun _ => rfl)
      refine Eq.trans (D_iald gk_f174_65 gk_n10_174) ?_
      refine gd_ite (fun h8 => ?_) (fun _ => rfl)
      refine Eq.trans (D_istore_n gk_f174_66 gk_st174_3) ?_
      refine Eq.trans (D_aload_n (x := r0) gk_f174_67 rfl) ?_
      refine Eq.trans (D_gfR gk_f174_68 (by decide)) ?_
      refine Eq.trans (if_pos h1) ?_
      refine Eq.trans (D_iload_n (x := (gI m (gR m r0 20) ((gI m (gR m r0 36) (x2 : Int32).toNatClampNeg) : Int32).toNatClampNeg)) gk_f174_71 rfl) ?_
      refine Eq.trans (D_iald gk_f174_72 gk_n10_174) ?_
      refine gd_ite (fun h9 => ?_) (fun _ => rfl)
      refine Eq.trans (D_aload_n (x := r0) gk_f174_73 rfl) ?_
      refine Eq.trans (D_gfR gk_f174_74 (by decide)) ?_
      refine Eq.trans (if_pos h1) ?_
      refine Eq.trans (D_gfI gk_f174_77 (by decide) (by decide) (by decide)) ?_
      refine Eq.trans (if_pos h4) ?_
      refine Eq.trans (D_ic_ne (t := 86) gk_f174_80 (by decide)) ?_
      refine gd_ite (fun h10 => ?_) (fun h11 => ?_)
      · refine Eq.trans (D_goto (t := 121) gk_f174_83 (by decide)) ?_
        refine Eq.trans (D_iinc (x := x2) (y := 1) gk_f174_121 rfl gk_c_1 gk_st174_2) ?_
        refine Eq.trans (D_goto (t := 33) gk_f174_124 (by decide)) ?_
        rfl
      · refine Eq.trans (D_aload_n (x := r0) gk_f174_86 rfl) ?_
        refine Eq.trans (D_gfR gk_f174_87 (by decide)) ?_
        refine Eq.trans (if_pos h1) ?_
        refine Eq.trans (D_iload_n (x := (gI m (gR m r0 20) ((gI m (gR m r0 36) (x2 : Int32).toNatClampNeg) : Int32).toNatClampNeg)) gk_f174_90 rfl) ?_
        refine Eq.trans (D_dup2 gk_f174_91) ?_
        refine Eq.trans (D_iald gk_f174_92 gk_n10_174) ?_
        refine Eq.trans (if_pos h9) ?_
        refine Eq.trans (D_iconst (x := 1) gk_f174_93 gk_c_1) ?_
        refine Eq.trans (D_iadd gk_f174_94) ?_
        refine Eq.trans (D_iast gk_f174_95) ?_
        refine Eq.trans (if_pos h9) ?_
        refine Eq.trans (D_aload_n (x := r0) gk_f174_96 rfl) ?_
        refine Eq.trans (D_gfR gk_f174_97 (by decide)) ?_
        refine Eq.trans (if_pos h1) ?_
        refine Eq.trans (D_aload_n (x := r0) gk_f174_100 rfl) ?_
        refine Eq.trans (D_gfI gk_f174_101 (by decide) (by decide) (by decide)) ?_
        refine Eq.trans (if_pos h1) ?_
        refine Eq.trans (D_aload_n (x := r0) gk_f174_104 rfl) ?_
        refine Eq.trans (D_gfR gk_f174_105 (by decide)) ?_
        refine Eq.trans (if_pos h1) ?_
        refine Eq.trans (D_iload_n (x := x2) gk_f174_108 rfl) ?_
        refine Eq.trans (D_iald gk_f174_109 gk_n10_174) ?_
        refine Eq.trans (if_pos h7) ?_
        refine Eq.trans (D_iast gk_f174_110) ?_
        refine gd_ite (fun h12 => ?_) (fun _ => rfl)
        refine Eq.trans (D_aload_n (x := r0) gk_f174_111 rfl) ?_
        refine Eq.trans (D_dupR gk_f174_112) ?_
        refine Eq.trans (D_gfI gk_f174_113 (by decide) (by decide) (by decide)) ?_
        refine Eq.trans (if_pos h1) ?_
        refine Eq.trans (D_iconst (x := 1) gk_f174_116 gk_c_1) ?_
        refine Eq.trans (D_iadd gk_f174_117) ?_
        refine Eq.trans (D_pfI gk_f174_118) ?_
        refine Eq.trans (if_pos h1) ?_
        refine Eq.trans (D_iinc (x := x2) (y := 1) gk_f174_121 rfl gk_c_1 gk_st174_2) ?_
        refine Eq.trans (D_goto (t := 33) gk_f174_124 (by decide)) ?_
        rfl
    · refine Eq.trans (D_vreturn gk_f174_127 gk_rk174) ?_
      rfl
  · refine Eq.trans (D_vreturn gk_f174_127 gk_rk174) ?_
    rfl
/-! GymDeskModel.place (III)I -/
set_option maxRecDepth 20000 in
theorem gk_f175_0 : gd_fetch 175 0 = some (0, .iload_n 1, 1, 0, 0, 0, 0, 0) := rfl
set_option maxRecDepth 20000 in
theorem gk_f175_1 : gd_fetch 175 1 = some (1, .iconst 0, 1, 0, 0, 0, 0, 0) := rfl
set_option maxRecDepth 20000 in
theorem gk_f175_2 : gd_fetch 175 2 = some (2, .iconst 4, 1, 0, 0, 0, 0, 0) := rfl
set_option maxRecDepth 20000 in
theorem gk_f175_3 : gd_fetch 175 3 = some (3, .invokestatic 192, 3, 1360, 71, 3, 0, 0) := rfl
set_option maxRecDepth 20000 in
theorem gk_f175_6 : gd_fetch 175 6 = some (6, .ifCond .ne 5, 3, 0, 0, 0, 0, 0) := rfl
set_option maxRecDepth 20000 in
theorem gk_f175_9 : gd_fetch 175 9 = some (9, .iconst (-1), 1, 0, 0, 0, 0, 0) := rfl
set_option maxRecDepth 20000 in
theorem gk_f175_10 : gd_fetch 175 10 = some (10, .ireturn, 1, 0, 0, 0, 0, 0) := rfl
set_option maxRecDepth 20000 in
theorem gk_f175_11 : gd_fetch 175 11 = some (11, .aload_n 0, 1, 0, 0, 0, 0, 0) := rfl
set_option maxRecDepth 20000 in
theorem gk_f175_12 : gd_fetch 175 12 = some (12, .iload_n 1, 1, 0, 0, 0, 0, 0) := rfl
set_option maxRecDepth 20000 in
theorem gk_f175_13 : gd_fetch 175 13 = some (13, .invokevirtual 387, 3, 1513, 174, 1, 0, 0) := rfl
set_option maxRecDepth 20000 in
theorem gk_f175_16 : gd_fetch 175 16 = some (16, .iload_n 2, 1, 0, 0, 0, 0, 0) := rfl
set_option maxRecDepth 20000 in
theorem gk_f175_17 : gd_fetch 175 17 = some (17, .iconst 0, 1, 0, 0, 0, 0, 0) := rfl
set_option maxRecDepth 20000 in
theorem gk_f175_18 : gd_fetch 175 18 = some (18, .aload_n 0, 1, 0, 0, 0, 0, 0) := rfl
set_option maxRecDepth 20000 in
theorem gk_f175_19 : gd_fetch 175 19 = some (19, .getfield 377, 3, 1203, 9, 40, 0, 0) := rfl
set_option maxRecDepth 20000 in
theorem gk_f175_22 : gd_fetch 175 22 = some (22, .iconst 1, 1, 0, 0, 0, 0, 0) := rfl
set_option maxRecDepth 20000 in
theorem gk_f175_23 : gd_fetch 175 23 = some (23, .isub, 1, 0, 0, 0, 0, 0) := rfl
set_option maxRecDepth 20000 in
theorem gk_f175_24 : gd_fetch 175 24 = some (24, .invokestatic 192, 3, 1360, 71, 3, 0, 0) := rfl
set_option maxRecDepth 20000 in
theorem gk_f175_27 : gd_fetch 175 27 = some (27, .ifCond .ne 5, 3, 0, 0, 0, 0, 0) := rfl
set_option maxRecDepth 20000 in
theorem gk_f175_30 : gd_fetch 175 30 = some (30, .iconst (-1), 1, 0, 0, 0, 0, 0) := rfl
set_option maxRecDepth 20000 in
theorem gk_f175_31 : gd_fetch 175 31 = some (31, .ireturn, 1, 0, 0, 0, 0, 0) := rfl
set_option maxRecDepth 20000 in
theorem gk_f175_32 : gd_fetch 175 32 = some (32, .iconst 1, 1, 0, 0, 0, 0, 0) := rfl
set_option maxRecDepth 20000 in
theorem gk_f175_33 : gd_fetch 175 33 = some (33, .istore 4, 2, 0, 0, 0, 0, 0) := rfl
set_option maxRecDepth 20000 in
theorem gk_f175_35 : gd_fetch 175 35 = some (35, .iload_n 3, 1, 0, 0, 0, 0, 0) := rfl
set_option maxRecDepth 20000 in
theorem gk_f175_36 : gd_fetch 175 36 = some (36, .tableswitch 128 0 3 #[32, 39, 46, 90], 32, 0, 0, 0, 0, 0) := rfl
set_option maxRecDepth 20000 in
theorem gk_f175_68 : gd_fetch 175 68 = some (68, .aload_n 0, 1, 0, 0, 0, 0, 0) := rfl
set_option maxRecDepth 20000 in
theorem gk_f175_69 : gd_fetch 175 69 = some (69, .getfield 90, 3, 1199, 9, 36, 4, 1) := rfl
set_option maxRecDepth 20000 in
theorem gk_f175_72 : gd_fetch 175 72 = some (72, .iload_n 2, 1, 0, 0, 0, 0, 0) := rfl
set_option maxRecDepth 20000 in
theorem gk_f175_73 : gd_fetch 175 73 = some (73, .iaload, 1, 0, 0, 0, 0, 0) := rfl
set_option maxRecDepth 20000 in
theorem gk_f175_74 : gd_fetch 175 74 = some (74, .ireturn, 1, 0, 0, 0, 0, 0) := rfl
set_option maxRecDepth 20000 in
theorem gk_f175_75 : gd_fetch 175 75 = some (75, .aload_n 0, 1, 0, 0, 0, 0, 0) := rfl
set_option maxRecDepth 20000 in
theorem gk_f175_76 : gd_fetch 175 76 = some (76, .getfield 93, 3, 1200, 9, 37, 4, 1) := rfl
set_option maxRecDepth 20000 in
theorem gk_f175_79 : gd_fetch 175 79 = some (79, .iload_n 2, 1, 0, 0, 0, 0, 0) := rfl
set_option maxRecDepth 20000 in
theorem gk_f175_80 : gd_fetch 175 80 = some (80, .iaload, 1, 0, 0, 0, 0, 0) := rfl
set_option maxRecDepth 20000 in
theorem gk_f175_81 : gd_fetch 175 81 = some (81, .ireturn, 1, 0, 0, 0, 0, 0) := rfl
set_option maxRecDepth 20000 in
theorem gk_f175_82 : gd_fetch 175 82 = some (82, .iconst 0, 1, 0, 0, 0, 0, 0) := rfl
set_option maxRecDepth 20000 in
theorem gk_f175_83 : gd_fetch 175 83 = some (83, .istore 5, 2, 0, 0, 0, 0, 0) := rfl
set_option maxRecDepth 20000 in
theorem gk_f175_85 : gd_fetch 175 85 = some (85, .iload 5, 2, 0, 0, 0, 0, 0) := rfl
set_option maxRecDepth 20000 in
theorem gk_f175_87 : gd_fetch 175 87 = some (87, .iload_n 2, 1, 0, 0, 0, 0, 0) := rfl
set_option maxRecDepth 20000 in
theorem gk_f175_88 : gd_fetch 175 88 = some (88, .if_icmp .ge 35, 3, 0, 0, 0, 0, 0) := rfl
set_option maxRecDepth 20000 in
theorem gk_f175_91 : gd_fetch 175 91 = some (91, .iload 4, 2, 0, 0, 0, 0, 0) := rfl
set_option maxRecDepth 20000 in
theorem gk_f175_93 : gd_fetch 175 93 = some (93, .aload_n 0, 1, 0, 0, 0, 0, 0) := rfl
set_option maxRecDepth 20000 in
theorem gk_f175_94 : gd_fetch 175 94 = some (94, .getfield 93, 3, 1200, 9, 37, 4, 1) := rfl
set_option maxRecDepth 20000 in
theorem gk_f175_97 : gd_fetch 175 97 = some (97, .iload 5, 2, 0, 0, 0, 0, 0) := rfl
set_option maxRecDepth 20000 in
theorem gk_f175_99 : gd_fetch 175 99 = some (99, .iaload, 1, 0, 0, 0, 0, 0) := rfl
set_option maxRecDepth 20000 in
theorem gk_f175_100 : gd_fetch 175 100 = some (100, .aload_n 0, 1, 0, 0, 0, 0, 0) := rfl
set_option maxRecDepth 20000 in
theorem gk_f175_101 : gd_fetch 175 101 = some (101, .getfield 93, 3, 1200, 9, 37, 4, 1) := rfl
set_option maxRecDepth 20000 in
theorem gk_f175_104 : gd_fetch 175 104 = some (104, .iload_n 2, 1, 0, 0, 0, 0, 0) := rfl
set_option maxRecDepth 20000 in
theorem gk_f175_105 : gd_fetch 175 105 = some (105, .iaload, 1, 0, 0, 0, 0, 0) := rfl
set_option maxRecDepth 20000 in
theorem gk_f175_106 : gd_fetch 175 106 = some (106, .if_icmp .eq 7, 3, 0, 0, 0, 0, 0) := rfl
set_option maxRecDepth 20000 in
theorem gk_f175_109 : gd_fetch 175 109 = some (109, .iconst 1, 1, 0, 0, 0, 0, 0) := rfl
set_option maxRecDepth 20000 in
theorem gk_f175_110 : gd_fetch 175 110 = some (110, .goto 4, 3, 0, 0, 0, 0, 0) := rfl
set_option maxRecDepth 20000 in
theorem gk_f175_113 : gd_fetch 175 113 = some (113, .iconst 0, 1, 0, 0, 0, 0, 0) := rfl
set_option maxRecDepth 20000 in
theorem gk_f175_114 : gd_fetch 175 114 = some (114, .iadd, 1, 0, 0, 0, 0, 0) := rfl
set_option maxRecDepth 20000 in
theorem gk_f175_115 : gd_fetch 175 115 = some (115, .istore 4, 2, 0, 0, 0, 0, 0) := rfl
set_option maxRecDepth 20000 in
theorem gk_f175_117 : gd_fetch 175 117 = some (117, .iinc 5 1, 3, 0, 0, 0, 0, 0) := rfl
set_option maxRecDepth 20000 in
theorem gk_f175_120 : gd_fetch 175 120 = some (120, .goto (-35), 3, 0, 0, 0, 0, 0) := rfl
set_option maxRecDepth 20000 in
theorem gk_f175_123 : gd_fetch 175 123 = some (123, .iload 4, 2, 0, 0, 0, 0, 0) := rfl
set_option maxRecDepth 20000 in
theorem gk_f175_125 : gd_fetch 175 125 = some (125, .ireturn, 1, 0, 0, 0, 0, 0) := rfl
set_option maxRecDepth 20000 in
theorem gk_f175_126 : gd_fetch 175 126 = some (126, .iconst 0, 1, 0, 0, 0, 0, 0) := rfl
set_option maxRecDepth 20000 in
theorem gk_f175_127 : gd_fetch 175 127 = some (127, .istore 5, 2, 0, 0, 0, 0, 0) := rfl
set_option maxRecDepth 20000 in
theorem gk_f175_129 : gd_fetch 175 129 = some (129, .iload 5, 2, 0, 0, 0, 0, 0) := rfl
set_option maxRecDepth 20000 in
theorem gk_f175_131 : gd_fetch 175 131 = some (131, .aload_n 0, 1, 0, 0, 0, 0, 0) := rfl
set_option maxRecDepth 20000 in
theorem gk_f175_132 : gd_fetch 175 132 = some (132, .getfield 386, 3, 1206, 9, 43, 0, 0) := rfl
set_option maxRecDepth 20000 in
theorem gk_f175_135 : gd_fetch 175 135 = some (135, .if_icmp .ge 27, 3, 0, 0, 0, 0, 0) := rfl
set_option maxRecDepth 20000 in
theorem gk_f175_138 : gd_fetch 175 138 = some (138, .aload_n 0, 1, 0, 0, 0, 0, 0) := rfl
set_option maxRecDepth 20000 in
theorem gk_f175_139 : gd_fetch 175 139 = some (139, .getfield 105, 3, 1205, 9, 42, 4, 1) := rfl
set_option maxRecDepth 20000 in
theorem gk_f175_142 : gd_fetch 175 142 = some (142, .iload 5, 2, 0, 0, 0, 0, 0) := rfl
set_option maxRecDepth 20000 in
theorem gk_f175_144 : gd_fetch 175 144 = some (144, .iaload, 1, 0, 0, 0, 0, 0) := rfl
set_option maxRecDepth 20000 in
theorem gk_f175_145 : gd_fetch 175 145 = some (145, .aload_n 0, 1, 0, 0, 0, 0, 0) := rfl
set_option maxRecDepth 20000 in
theorem gk_f175_146 : gd_fetch 175 146 = some (146, .getfield 90, 3, 1199, 9, 36, 4, 1) := rfl
set_option maxRecDepth 20000 in
theorem gk_f175_149 : gd_fetch 175 149 = some (149, .iload_n 2, 1, 0, 0, 0, 0, 0) := rfl
set_option maxRecDepth 20000 in
theorem gk_f175_150 : gd_fetch 175 150 = some (150, .iaload, 1, 0, 0, 0, 0, 0) := rfl
set_option maxRecDepth 20000 in
theorem gk_f175_151 : gd_fetch 175 151 = some (151, .if_icmp .ne 5, 3, 0, 0, 0, 0, 0) := rfl
set_option maxRecDepth 20000 in
theorem gk_f175_154 : gd_fetch 175 154 = some (154, .iconst 1, 1, 0, 0, 0, 0, 0) := rfl
set_option maxRecDepth 20000 in
theorem gk_f175_155 : gd_fetch 175 155 = some (155, .ireturn, 1, 0, 0, 0, 0, 0) := rfl
set_option maxRecDepth 20000 in
theorem gk_f175_156 : gd_fetch 175 156 = some (156, .iinc 5 1, 3, 0, 0, 0, 0, 0) := rfl
set_option maxRecDepth 20000 in
theorem gk_f175_159 : gd_fetch 175 159 = some (159, .goto (-30), 3, 0, 0, 0, 0, 0) := rfl
set_option maxRecDepth 20000 in
theorem gk_f175_162 : gd_fetch 175 162 = some (162, .iconst 0, 1, 0, 0, 0, 0, 0) := rfl
set_option maxRecDepth 20000 in
theorem gk_f175_163 : gd_fetch 175 163 = some (163, .ireturn, 1, 0, 0, 0, 0, 0) := rfl
set_option maxRecDepth 20000 in
theorem gk_f175_164 : gd_fetch 175 164 = some (164, .iconst (-1), 1, 0, 0, 0, 0, 0) := rfl
set_option maxRecDepth 20000 in
theorem gk_f175_165 : gd_fetch 175 165 = some (165, .ireturn, 1, 0, 0, 0, 0, 0) := rfl
set_option maxRecDepth 20000 in
set_option maxHeartbeats 4000000 in
theorem q_Mo_place (r0 : Nat) (x1 : Int32) (x2 : Int32) (x3 : Int32) (m : gd_M) : gd_call 175 [.ref r0, .int x1, .int x2, .int x3] m = (gd_call 71 [.int x1, .int 0, .int 4] m).bind (gd_k0I fun z3 m1 => if (z3 = 0 : Prop) then (some (.int (-1), m1)) else (if gd_ok (gN m1) r0 9 = true then ((gd_call 174 [.ref r0, .int x1] m1).bind (gd_kV fun m7 => if gd_ok (gN m7) r0 9 = true then ((gd_call 71 [.int x2, .int 0, .int ((gI m7 r0 40) - 1)] m7).bind (gd_k0I fun z12 m10 => if (z12 = 0 : Prop) then (some (.int (-1), m10)) else (if x3 = 0 then (if gd_ok (gN m10) r0 9 = true then (if gd_okA (gN m10) (gR m10 r0 36) 10 x2 = true then (some (.int (gI m10 (gR m10 r0 36) (x2 : Int32).toNatClampNeg), m10)) else none) else none) else if x3 = 1 then (if gd_ok (gN m10) r0 9 = true then (if gd_okA (gN m10) (gR m10 r0 37) 10 x2 = true then (some (.int (gI m10 (gR m10 r0 37) (x2 : Int32).toNatClampNeg), m10)) else none) else none) else if x3 = 2 then (gd_Den (175, 85, [.ref r0, .int x1, .int x2, .int x3, .int 1, .int 0], [], m10)) else if x3 = 3 then (gd_Den (175, 129, [.ref r0, .int x1, .int x2, .int x3, .int 1, .int 0], [], m10)) else (some (.int (-1), m10))))) else none)) else none)) := by
  refine Eq.trans (show gd_call 175 [.ref r0, .int x1, .int x2, .int x3] m = gd_Den (175, 0, [.ref r0, .int x1, .int x2, .int x3, .null, .null], [], m) from by unfold gd_call gd_ent; rw [gk_ml175]; rfl) ?_
  refine Eq.trans (D_iload_n (x := x1) gk_f175_0 rfl) ?_
  refine Eq.trans (D_iconst (x := 0) gk_f175_1 gk_c_0) ?_
  refine Eq.trans (D_iconst (x := 4) gk_f175_2 gk_c_4) ?_
  refine Eq.trans (D_isZ (args := [.int x1, .int 0, .int 4]) (rest := []) gk_f175_3 rfl rfl rfl (gd_rmk gk_rm175_71 gk_ln71 gk_ml71 rfl rfl rfl) gk_rk71 (gd_hnd_n gk_nc175)) ?_
  refine gd_bnd (gd_k0I_c fun z3 m1 => ?_)
  refine Eq.trans (D_if_ne (t := 11) gk_f175_6 (by decide)) ?_
  refine gd_ite (fun h4 => ?_) (fun h5 => ?_)
  · refine Eq.trans (D_iconst (x := (-1)) gk_f175_9 gk_c_m1) ?_
    refine Eq.trans (D_ireturn gk_f175_10 gk_rk175) ?_
    rfl
  · refine Eq.trans (D_aload_n (x := r0) gk_f175_11 rfl) ?_
    refine Eq.trans (D_iload_n (x := x1) gk_f175_12 rfl) ?_
    refine Eq.trans (D_ivV (cl := 9) (args := [.ref r0, .int x1]) (rest := []) gk_f175_13 rfl rfl (gd_rmk gk_rm175_174 gk_ln174 gk_ml174 rfl rfl rfl) gk_rk174 (gd_hnd_n gk_nc175) gk_nc174 gk_n11_174 gk_cl174) ?_
    refine gd_ite (fun h6 => ?_) (fun _ => rfl)
    refine gd_bnd (gd_kV_c fun m7 => ?_)
    refine Eq.trans (D_iload_n (x := x2) gk_f175_16 rfl) ?_
    refine Eq.trans (D_iconst (x := 0) gk_f175_17 gk_c_0) ?_
    refine Eq.trans (D_aload_n (x := r0) gk_f175_18 rfl) ?_
    refine Eq.trans (D_gfI gk_f175_19 (by decide) (by decide) (by decide)) ?_
    refine gd_ite (fun h9 => ?_) (fun _ => rfl)
    refine Eq.trans (D_iconst (x := 1) gk_f175_22 gk_c_1) ?_
    refine Eq.trans (D_isub gk_f175_23) ?_
    refine Eq.trans (D_isZ (args := [.int x2, .int 0, .int ((gI m7 r0 40) - 1)]) (rest := []) gk_f175_24 rfl rfl rfl (gd_rmk gk_rm175_71 gk_ln71 gk_ml71 rfl rfl rfl) gk_rk71 (gd_hnd_n gk_nc175)) ?_
    refine gd_bnd (gd_k0I_c fun z12 m10 => ?_)
    refine Eq.trans (D_if_ne (t := 32) gk_f175_27 (by decide)) ?_
    refine gd_ite (fun h13 => ?_) (fun h14 => ?_)
    · refine Eq.trans (D_iconst (x := (-1)) gk_f175_30 gk_c_m1) ?_
      refine Eq.trans (D_ireturn gk_f175_31 gk_rk175) ?_
      rfl
    · refine Eq.trans (D_iconst (x := 1) gk_f175_32 gk_c_1) ?_
      refine Eq.trans (D_istore gk_f175_33 gk_st175_4) ?_
      refine Eq.trans (D_iload_n (x := x3) gk_f175_35 rfl) ?_
      refine Eq.trans (D_tsw (vs := [(0, 68), (1, 75), (2, 82), (3, 126)]) (t := 164) gk_f175_36 (by decide) (by decide)) ?_
      refine gd_ite (fun h15 => ?_) (fun h16 => ?_)
      · refine Eq.trans (D_aload_n (x := r0) gk_f175_68 rfl) ?_
        refine Eq.trans (D_gfR gk_f175_69 (by decide)) ?_
        refine gd_ite (fun h17 => ?_) (fun _ => rfl)
        refine Eq.trans (D_iload_n (x := x2) gk_f175_72 rfl) ?_
        refine Eq.trans (D_iald gk_f175_73 gk_n10_175) ?_
        refine gd_ite (fun h18 => ?_) (fun _ => rfl)
        refine Eq.trans (D_ireturn gk_f175_74 gk_rk175) ?_
        rfl
      refine gd_ite (fun h19 => ?_) (fun h20 => ?_)
      · refine Eq.trans (D_aload_n (x := r0) gk_f175_75 rfl) ?_
        refine Eq.trans (D_gfR gk_f175_76 (by decide)) ?_
        refine gd_ite (fun h21 => ?_) (fun _ => rfl)
        refine Eq.trans (D_iload_n (x := x2) gk_f175_79 rfl) ?_
        refine Eq.trans (D_iald gk_f175_80 gk_n10_175) ?_
        refine gd_ite (fun h22 => ?_) (fun _ => rfl)
        refine Eq.trans (D_ireturn gk_f175_81 gk_rk175) ?_
        rfl
      refine gd_ite (fun h23 => ?_) (fun h24 => ?_)
      · refine Eq.trans (D_iconst (x := 0) gk_f175_82 gk_c_0) ?_
        refine Eq.trans (D_istore gk_f175_83 gk_st175_5) ?_
        rfl
      refine gd_ite (fun h25 => ?_) (fun h26 => ?_)
      · refine Eq.trans (D_iconst (x := 0) gk_f175_126 gk_c_0) ?_
        refine Eq.trans (D_istore gk_f175_127 gk_st175_5) ?_
        rfl
      refine Eq.trans (D_iconst (x := (-1)) gk_f175_164 gk_c_m1) ?_
      refine Eq.trans (D_ireturn gk_f175_165 gk_rk175) ?_
      rfl
set_option maxRecDepth 20000 in
set_option maxHeartbeats 4000000 in
theorem q_Mo_place_85 (r0 : Nat) (x1 : Int32) (x2 : Int32) (x3 : Int32) (x4 : Int32) (x5 : Int32) (m : gd_M) : gd_Den (175, 85, [.ref r0, .int x1, .int x2, .int x3, .int x4, .int x5], [], m) = if (x5 < x2 : Prop) then (if gd_ok (gN m) r0 9 = true then (if gd_okA (gN m) (gR m r0 37) 10 x5 = true then (if gd_okA (gN m) (gR m r0 37) 10 x2 = true then (if ((gI m (gR m r0 37) (x5 : Int32).toNatClampNeg) = (gI m (gR m r0 37) (x2 : Int32).toNatClampNeg) : Prop) then (gd_Den (175, 85, [.ref r0, .int x1, .int x2, .int x3, .int (x4 + 0), .int (x5 + 1)], [], m)) else (gd_Den (175, 85, [.ref r0, .int x1, .int x2, .int x3, .int (x4 + 1), .int (x5 + 1)], [], m))) else none) else none) else none) else (some (.int x4, m)) := by
  refine Eq.trans (D_iload (x := x5) gk_f175_85 rfl) ?_
  refine Eq.trans (D_iload_n (x := x2) gk_f175_87 rfl) ?_
  refine Eq.trans (D_ic_ge (t := 123) gk_f175_88 (by decide)) ?_
  refine gd_ite (fun h1 => ?_) (fun h2 => ?_)
  · refine Eq.trans (D_iload (x := x4) gk_f175_91 rfl) ?_
    refine Eq.trans (D_aload_n (x := r0) gk_f175_93 rfl) ?_
    refine Eq.trans (D_gfR gk_f175_94 (by decide)) ?_
    refine gd_ite (fun h3 => ?_) (fun _ => rfl)
    refine Eq.trans (D_iload (x := x5) gk_f175_97 rfl) ?_
    refine Eq.trans (D_iald gk_f175_99 gk_n10_175) ?_
    refine gd_ite (fun h4 => ?_) (fun _ => rfl)
    refine Eq.trans (D_aload_n (x := r0) gk_f175_100 rfl) ?_
    refine Eq.trans (D_gfR gk_f175_101 (by decide)) ?_
    refine Eq.trans (if_pos h3) ?_
    refine Eq.trans (D_iload_n (x := x2) gk_f175_104 rfl) ?_
    refine Eq.trans (D_iald gk_f175_105 gk_n10_175) ?_
    refine gd_ite (fun h5 => ?_) (fun _ => rfl)
    refine Eq.trans (D_ic_eq (t := 113) gk_f175_106 (by decide)) ?_
    refine gd_ite (fun h6 => ?_) (fun h7 => ?_)
    · refine Eq.trans (D_iconst (x := 0) gk_f175_113 gk_c_0) ?_
      refine Eq.trans (D_iadd gk_f175_114) ?_
      refine Eq.trans (D_istore gk_f175_115 gk_st175_4) ?_
      refine Eq.trans (D_iinc (x := x5) (y := 1) gk_f175_117 rfl gk_c_1 gk_st175_5) ?_
      refine Eq.trans (D_goto (t := 85) gk_f175_120 (by decide)) ?_
      rfl
    · refine Eq.trans (D_iconst (x := 1) gk_f175_109 gk_c_1) ?_
      refine Eq.trans (D_goto (t := 114) gk_f175_110 (by decide)) ?_
      refine Eq.trans (D_iadd gk_f175_114) ?_
      refine Eq.trans (D_istore gk_f175_115 gk_st175_4) ?_
      refine Eq.trans (D_iinc (x := x5) (y := 1) gk_f175_117 rfl gk_c_1 gk_st175_5) ?_
      refine Eq.trans (D_goto (t := 85) gk_f175_120 (by decide)) ?_
      rfl
  · refine Eq.trans (D_iload (x := x4) gk_f175_123 rfl) ?_
    refine Eq.trans (D_ireturn gk_f175_125 gk_rk175) ?_
    rfl
set_option maxRecDepth 20000 in
set_option maxHeartbeats 4000000 in
theorem q_Mo_place_129 (r0 : Nat) (x1 : Int32) (x2 : Int32) (x3 : Int32) (x4 : Int32) (x5 : Int32) (m : gd_M) : gd_Den (175, 129, [.ref r0, .int x1, .int x2, .int x3, .int x4, .int x5], [], m) = if gd_ok (gN m) r0 9 = true then (if (x5 < (gI m r0 43) : Prop) then (if gd_okA (gN m) (gR m r0 42) 10 x5 = true then (if gd_okA (gN m) (gR m r0 36) 10 x2 = true then (if ((gI m (gR m r0 42) (x5 : Int32).toNatClampNeg) = (gI m (gR m r0 36) (x2 : Int32).toNatClampNeg) : Prop) then (some (.int 1, m)) else (gd_Den (175, 129, [.ref r0, .int x1, .int x2, .int x3, .int x4, .int (x5 + 1)], [], m))) else none) else none) else (some (.int 0, m))) else none := by
  refine Eq.trans (D_iload (x := x5) gk_f175_129 rfl) ?_
  refine Eq.trans (D_aload_n (x := r0) gk_f175_131 rfl) ?_
  refine Eq.trans (D_gfI gk_f175_132 (by decide) (by decide) (by decide)) ?_
  refine gd_ite (fun h1 => ?_) (fun _ => rfl)
  refine Eq.trans (D_ic_ge (t := 162) gk_f175_135 (by decide)) ?_
  refine gd_ite (fun h2 => ?_) (fun h3 => ?_)
  · refine Eq.trans (D_aload_n (x := r0) gk_f175_138 rfl) ?_
    refine Eq.trans (D_gfR gk_f175_139 (by decide)) ?_
    refine Eq.trans (if_pos h1) ?_
    refine Eq.trans (D_iload (x := x5) gk_f175_142 rfl) ?_
    refine Eq.trans (D_iald gk_f175_144 gk_n10_175) ?_
    refine gd_ite (fun h4 => ?_) (fun _ => rfl)
    refine Eq.trans (D_aload_n (x := r0) gk_f175_145 rfl) ?_
    refine Eq.trans (D_gfR gk_f175_146 (by decide)) ?_
    refine Eq.trans (if_pos h1) ?_
    refine Eq.trans (D_iload_n (x := x2) gk_f175_149 rfl) ?_
    refine Eq.trans (D_iald gk_f175_150 gk_n10_175) ?_
    refine gd_ite (fun h5 => ?_) (fun _ => rfl)
    refine Eq.trans (D_ic_ne (t := 156) gk_f175_151 (by decide)) ?_
    refine gd_ite (fun h6 => ?_) (fun h7 => ?_)
    · refine Eq.trans (D_iconst (x := 1) gk_f175_154 gk_c_1) ?_
      refine Eq.trans (D_ireturn gk_f175_155 gk_rk175) ?_
      rfl
    · refine Eq.trans (D_iinc (x := x5) (y := 1) gk_f175_156 rfl gk_c_1 gk_st175_5) ?_
      refine Eq.trans (D_goto (t := 129) gk_f175_159 (by decide)) ?_
      rfl
  · refine Eq.trans (D_iconst (x := 0) gk_f175_162 gk_c_0) ?_
    refine Eq.trans (D_ireturn gk_f175_163 gk_rk175) ?_
    rfl
/-! GymDesk.finalist (II)I -/
set_option maxRecDepth 20000 in
theorem gk_f176_0 : gd_fetch 176 0 = some (0, .aload_n 0, 1, 0, 0, 0, 0, 0) := rfl
set_option maxRecDepth 20000 in
theorem gk_f176_1 : gd_fetch 176 1 = some (1, .iload_n 1, 1, 0, 0, 0, 0, 0) := rfl
set_option maxRecDepth 20000 in
theorem gk_f176_2 : gd_fetch 176 2 = some (2, .invokevirtual 253, 3, 876, 164, 1, 0, 0) := rfl
set_option maxRecDepth 20000 in
theorem gk_f176_5 : gd_fetch 176 5 = some (5, .aload_n 0, 1, 0, 0, 0, 0, 0) := rfl
set_option maxRecDepth 20000 in
theorem gk_f176_6 : gd_fetch 176 6 = some (6, .invokevirtual 276, 3, 904, 171, 0, 0, 0) := rfl
set_option maxRecDepth 20000 in
theorem gk_f176_9 : gd_fetch 176 9 = some (9, .iload_n 2, 1, 0, 0, 0, 0, 0) := rfl
set_option maxRecDepth 20000 in
theorem gk_f176_10 : gd_fetch 176 10 = some (10, .ifCond .lt 14, 3, 0, 0, 0, 0, 0) := rfl
set_option maxRecDepth 20000 in
theorem gk_f176_13 : gd_fetch 176 13 = some (13, .iload_n 2, 1, 0, 0, 0, 0, 0) := rfl
set_option maxRecDepth 20000 in
theorem gk_f176_14 : gd_fetch 176 14 = some (14, .aload_n 0, 1, 0, 0, 0, 0, 0) := rfl
set_option maxRecDepth 20000 in
theorem gk_f176_15 : gd_fetch 176 15 = some (15, .getfield 30, 3, 463, 6, 3, 4, 1) := rfl
set_option maxRecDepth 20000 in
theorem gk_f176_18 : gd_fetch 176 18 = some (18, .getfield 285, 3, 288, 2, 7, 0, 0) := rfl
set_option maxRecDepth 20000 in
theorem gk_f176_21 : gd_fetch 176 21 = some (21, .if_icmp .lt 5, 3, 0, 0, 0, 0, 0) := rfl
set_option maxRecDepth 20000 in
theorem gk_f176_24 : gd_fetch 176 24 = some (24, .iconst (-1), 1, 0, 0, 0, 0, 0) := rfl
set_option maxRecDepth 20000 in
theorem gk_f176_25 : gd_fetch 176 25 = some (25, .ireturn, 1, 0, 0, 0, 0, 0) := rfl
set_option maxRecDepth 20000 in
theorem gk_f176_26 : gd_fetch 176 26 = some (26, .aload_n 0, 1, 0, 0, 0, 0, 0) := rfl
set_option maxRecDepth 20000 in
theorem gk_f176_27 : gd_fetch 176 27 = some (27, .getfield 30, 3, 463, 6, 3, 4, 1) := rfl
set_option maxRecDepth 20000 in
theorem gk_f176_30 : gd_fetch 176 30 = some (30, .getfield 288, 3, 283, 2, 4, 4, 1) := rfl
set_option maxRecDepth 20000 in
theorem gk_f176_33 : gd_fetch 176 33 = some (33, .iload_n 2, 1, 0, 0, 0, 0, 0) := rfl
set_option maxRecDepth 20000 in
theorem gk_f176_34 : gd_fetch 176 34 = some (34, .iaload, 1, 0, 0, 0, 0, 0) := rfl
set_option maxRecDepth 20000 in
theorem gk_f176_35 : gd_fetch 176 35 = some (35, .ireturn, 1, 0, 0, 0, 0, 0) := rfl
set_option maxRecDepth 20000 in
set_option maxHeartbeats 4000000 in
theorem q_X_finalist (r0 : Nat) (x1 : Int32) (x2 : Int32) (m : gd_M) : gd_call 176 [.ref r0, .int x1, .int x2] m = if gd_ok (gN m) r0 6 = true then ((gd_call 164 [.ref r0, .int x1] m).bind (gd_kV fun m2 => if gd_ok (gN m2) r0 6 = true then ((gd_call 171 [.ref r0] m2).bind (gd_kV fun m5 => if (x2 < 0 : Prop) then (some (.int (-1), m5)) else (if gd_ok (gN m5) r0 6 = true then (if gd_ok (gN m5) (gR m5 r0 3) 2 = true then (if (x2 < (gI m5 (gR m5 r0 3) 7) : Prop) then (if gd_okA (gN m5) (gR m5 (gR m5 r0 3) 4) 10 x2 = true then (some (.int (gI m5 (gR m5 (gR m5 r0 3) 4) (x2 : Int32).toNatClampNeg), m5)) else none) else (some (.int (-1), m5))) else none) else none))) else none)) else none := by
  refine Eq.trans (show gd_call 176 [.ref r0, .int x1, .int x2] m = gd_Den (176, 0, [.ref r0, .int x1, .int x2], [], m) from by unfold gd_call gd_ent; rw [gk_ml176]; rfl) ?_
  refine Eq.trans (D_aload_n (x := r0) gk_f176_0 rfl) ?_
  refine Eq.trans (D_iload_n (x := x1) gk_f176_1 rfl) ?_
  refine Eq.trans (D_ivV (cl := 6) (args := [.ref r0, .int x1]) (rest := []) gk_f176_2 rfl rfl (gd_rmk gk_rm176_164 gk_ln164 gk_ml164 rfl rfl rfl) gk_rk164 (gd_hnd_n gk_nc176) gk_nc164 gk_n11_164 gk_cl164) ?_
  refine gd_ite (fun h1 => ?_) (fun _ => rfl)
  refine gd_bnd (gd_kV_c fun m2 => ?_)
  refine Eq.trans (D_aload_n (x := r0) gk_f176_5 rfl) ?_
  refine Eq.trans (D_ivV (cl := 6) (args := [.ref r0]) (rest := []) gk_f176_6 rfl rfl (gd_rmk gk_rm176_171 gk_ln171 gk_ml171 rfl rfl rfl) gk_rk171 (gd_hnd_n gk_nc176) gk_nc171 gk_n11_171 gk_cl171) ?_
  refine gd_ite (fun h4 => ?_) (fun _ => rfl)
  refine gd_bnd (gd_kV_c fun m5 => ?_)
  refine Eq.trans (D_iload_n (x := x2) gk_f176_9 rfl) ?_
  refine Eq.trans (D_if_lt (t := 24) gk_f176_10 (by decide)) ?_
  refine gd_ite (fun h7 => ?_) (fun h8 => ?_)
  · refine Eq.trans (D_iconst (x := (-1)) gk_f176_24 gk_c_m1) ?_
    refine Eq.trans (D_ireturn gk_f176_25 gk_rk176) ?_
    rfl
  · refine Eq.trans (D_iload_n (x := x2) gk_f176_13 rfl) ?_
    refine Eq.trans (D_aload_n (x := r0) gk_f176_14 rfl) ?_
    refine Eq.trans (D_gfR gk_f176_15 (by decide)) ?_
    refine gd_ite (fun h9 => ?_) (fun _ => rfl)
    refine Eq.trans (D_gfI gk_f176_18 (by decide) (by decide) (by decide)) ?_
    refine gd_ite (fun h10 => ?_) (fun _ => rfl)
    refine Eq.trans (D_ic_lt (t := 26) gk_f176_21 (by decide)) ?_
    refine gd_ite (fun h11 => ?_) (fun h12 => ?_)
    · refine Eq.trans (D_aload_n (x := r0) gk_f176_26 rfl) ?_
      refine Eq.trans (D_gfR gk_f176_27 (by decide)) ?_
      refine Eq.trans (if_pos h9) ?_
      refine Eq.trans (D_gfR gk_f176_30 (by decide)) ?_
      refine Eq.trans (if_pos h10) ?_
      refine Eq.trans (D_iload_n (x := x2) gk_f176_33 rfl) ?_
      refine Eq.trans (D_iald gk_f176_34 gk_n10_176) ?_
      refine gd_ite (fun h13 => ?_) (fun _ => rfl)
      refine Eq.trans (D_ireturn gk_f176_35 gk_rk176) ?_
      rfl
    · refine Eq.trans (D_iconst (x := (-1)) gk_f176_24 gk_c_m1) ?_
      refine Eq.trans (D_ireturn gk_f176_25 gk_rk176) ?_
      rfl
/-! GymDeskModel.finalist (II)I -/
set_option maxRecDepth 20000 in
theorem gk_f177_0 : gd_fetch 177 0 = some (0, .iload_n 1, 1, 0, 0, 0, 0, 0) := rfl
set_option maxRecDepth 20000 in
theorem gk_f177_1 : gd_fetch 177 1 = some (1, .iconst 0, 1, 0, 0, 0, 0, 0) := rfl
set_option maxRecDepth 20000 in
theorem gk_f177_2 : gd_fetch 177 2 = some (2, .iconst 4, 1, 0, 0, 0, 0, 0) := rfl
set_option maxRecDepth 20000 in
theorem gk_f177_3 : gd_fetch 177 3 = some (3, .invokestatic 192, 3, 1360, 71, 3, 0, 0) := rfl
set_option maxRecDepth 20000 in
theorem gk_f177_6 : gd_fetch 177 6 = some (6, .ifCond .ne 5, 3, 0, 0, 0, 0, 0) := rfl
set_option maxRecDepth 20000 in
theorem gk_f177_9 : gd_fetch 177 9 = some (9, .iconst (-1), 1, 0, 0, 0, 0, 0) := rfl
set_option maxRecDepth 20000 in
theorem gk_f177_10 : gd_fetch 177 10 = some (10, .ireturn, 1, 0, 0, 0, 0, 0) := rfl
set_option maxRecDepth 20000 in
theorem gk_f177_11 : gd_fetch 177 11 = some (11, .aload_n 0, 1, 0, 0, 0, 0, 0) := rfl
set_option maxRecDepth 20000 in
theorem gk_f177_12 : gd_fetch 177 12 = some (12, .iload_n 1, 1, 0, 0, 0, 0, 0) := rfl
set_option maxRecDepth 20000 in
theorem gk_f177_13 : gd_fetch 177 13 = some (13, .invokevirtual 387, 3, 1513, 174, 1, 0, 0) := rfl
set_option maxRecDepth 20000 in
theorem gk_f177_16 : gd_fetch 177 16 = some (16, .iload_n 2, 1, 0, 0, 0, 0, 0) := rfl
set_option maxRecDepth 20000 in
theorem gk_f177_17 : gd_fetch 177 17 = some (17, .iconst 0, 1, 0, 0, 0, 0, 0) := rfl
set_option maxRecDepth 20000 in
theorem gk_f177_18 : gd_fetch 177 18 = some (18, .aload_n 0, 1, 0, 0, 0, 0, 0) := rfl
set_option maxRecDepth 20000 in
theorem gk_f177_19 : gd_fetch 177 19 = some (19, .getfield 386, 3, 1206, 9, 43, 0, 0) := rfl
set_option maxRecDepth 20000 in
theorem gk_f177_22 : gd_fetch 177 22 = some (22, .iconst 1, 1, 0, 0, 0, 0, 0) := rfl
set_option maxRecDepth 20000 in
theorem gk_f177_23 : gd_fetch 177 23 = some (23, .isub, 1, 0, 0, 0, 0, 0) := rfl
set_option maxRecDepth 20000 in
theorem gk_f177_24 : gd_fetch 177 24 = some (24, .invokestatic 192, 3, 1360, 71, 3, 0, 0) := rfl
set_option maxRecDepth 20000 in
theorem gk_f177_27 : gd_fetch 177 27 = some (27, .ifCond .eq 12, 3, 0, 0, 0, 0, 0) := rfl
set_option maxRecDepth 20000 in
theorem gk_f177_30 : gd_fetch 177 30 = some (30, .aload_n 0, 1, 0, 0, 0, 0, 0) := rfl
set_option maxRecDepth 20000 in
theorem gk_f177_31 : gd_fetch 177 31 = some (31, .getfield 105, 3, 1205, 9, 42, 4, 1) := rfl
set_option maxRecDepth 20000 in
theorem gk_f177_34 : gd_fetch 177 34 = some (34, .iload_n 2, 1, 0, 0, 0, 0, 0) := rfl
set_option maxRecDepth 20000 in
theorem gk_f177_35 : gd_fetch 177 35 = some (35, .iaload, 1, 0, 0, 0, 0, 0) := rfl
set_option maxRecDepth 20000 in
theorem gk_f177_36 : gd_fetch 177 36 = some (36, .goto 4, 3, 0, 0, 0, 0, 0) := rfl
set_option maxRecDepth 20000 in
theorem gk_f177_39 : gd_fetch 177 39 = some (39, .iconst (-1), 1, 0, 0, 0, 0, 0) := rfl
set_option maxRecDepth 20000 in
theorem gk_f177_40 : gd_fetch 177 40 = some (40, .ireturn, 1, 0, 0, 0, 0, 0) := rfl
set_option maxRecDepth 20000 in
set_option maxHeartbeats 4000000 in
theorem q_Mo_finalist (r0 : Nat) (x1 : Int32) (x2 : Int32) (m : gd_M) : gd_call 177 [.ref r0, .int x1, .int x2] m = (gd_call 71 [.int x1, .int 0, .int 4] m).bind (gd_k0I fun z3 m1 => if (z3 = 0 : Prop) then (some (.int (-1), m1)) else (if gd_ok (gN m1) r0 9 = true then ((gd_call 174 [.ref r0, .int x1] m1).bind (gd_kV fun m7 => if gd_ok (gN m7) r0 9 = true then ((gd_call 71 [.int x2, .int 0, .int ((gI m7 r0 43) - 1)] m7).bind (gd_k0I fun z12 m10 => if (z12 = 0 : Prop) then (some (.int (-1), m10)) else (if gd_ok (gN m10) r0 9 = true then (if gd_okA (gN m10) (gR m10 r0 42) 10 x2 = true then (some (.int (gI m10 (gR m10 r0 42) (x2 : Int32).toNatClampNeg), m10)) else none) else none))) else none)) else none)) := by
  refine Eq.trans (show gd_call 177 [.ref r0, .int x1, .int x2] m = gd_Den (177, 0, [.ref r0, .int x1, .int x2], [], m) from by unfold gd_call gd_ent; rw [gk_ml177]; rfl) ?_
  refine Eq.trans (D_iload_n (x := x1) gk_f177_0 rfl) ?_
  refine Eq.trans (D_iconst (x := 0) gk_f177_1 gk_c_0) ?_
  refine Eq.trans (D_iconst (x := 4) gk_f177_2 gk_c_4) ?_
  refine Eq.trans (D_isZ (args := [.int x1, .int 0, .int 4]) (rest := []) gk_f177_3 rfl rfl rfl (gd_rmk gk_rm177_71 gk_ln71 gk_ml71 rfl rfl rfl) gk_rk71 (gd_hnd_n gk_nc177)) ?_
  refine gd_bnd (gd_k0I_c fun z3 m1 => ?_)
  refine Eq.trans (D_if_ne (t := 11) gk_f177_6 (by decide)) ?_
  refine gd_ite (fun h4 => ?_) (fun h5 => ?_)
  · refine Eq.trans (D_iconst (x := (-1)) gk_f177_9 gk_c_m1) ?_
    refine Eq.trans (D_ireturn gk_f177_10 gk_rk177) ?_
    rfl
  · refine Eq.trans (D_aload_n (x := r0) gk_f177_11 rfl) ?_
    refine Eq.trans (D_iload_n (x := x1) gk_f177_12 rfl) ?_
    refine Eq.trans (D_ivV (cl := 9) (args := [.ref r0, .int x1]) (rest := []) gk_f177_13 rfl rfl (gd_rmk gk_rm177_174 gk_ln174 gk_ml174 rfl rfl rfl) gk_rk174 (gd_hnd_n gk_nc177) gk_nc174 gk_n11_174 gk_cl174) ?_
    refine gd_ite (fun h6 => ?_) (fun _ => rfl)
    refine gd_bnd (gd_kV_c fun m7 => ?_)
    refine Eq.trans (D_iload_n (x := x2) gk_f177_16 rfl) ?_
    refine Eq.trans (D_iconst (x := 0) gk_f177_17 gk_c_0) ?_
    refine Eq.trans (D_aload_n (x := r0) gk_f177_18 rfl) ?_
    refine Eq.trans (D_gfI gk_f177_19 (by decide) (by decide) (by decide)) ?_
    refine gd_ite (fun h9 => ?_) (fun _ => rfl)
    refine Eq.trans (D_iconst (x := 1) gk_f177_22 gk_c_1) ?_
    refine Eq.trans (D_isub gk_f177_23) ?_
    refine Eq.trans (D_isZ (args := [.int x2, .int 0, .int ((gI m7 r0 43) - 1)]) (rest := []) gk_f177_24 rfl rfl rfl (gd_rmk gk_rm177_71 gk_ln71 gk_ml71 rfl rfl rfl) gk_rk71 (gd_hnd_n gk_nc177)) ?_
    refine gd_bnd (gd_k0I_c fun z12 m10 => ?_)
    refine Eq.trans (D_if_eq (t := 39) gk_f177_27 (by decide)) ?_
    refine gd_ite (fun h13 => ?_) (fun h14 => ?_)
    · refine Eq.trans (D_iconst (x := (-1)) gk_f177_39 gk_c_m1) ?_
      refine Eq.trans (D_ireturn gk_f177_40 gk_rk177) ?_
      rfl
    · refine Eq.trans (D_aload_n (x := r0) gk_f177_30 rfl) ?_
      refine Eq.trans (D_gfR gk_f177_31 (by decide)) ?_
      refine gd_ite (fun h15 => ?_) (fun _ => rfl)
      refine Eq.trans (D_iload_n (x := x2) gk_f177_34 rfl) ?_
      refine Eq.trans (D_iald gk_f177_35 gk_n10_177) ?_
      refine gd_ite (fun h16 => ?_) (fun _ => rfl)
      refine Eq.trans (D_goto (t := 40) gk_f177_36 (by decide)) ?_
      refine Eq.trans (D_ireturn gk_f177_40 gk_rk177) ?_
      rfl
/-! GymDesk.keepBest (II)I -/
set_option maxRecDepth 20000 in
theorem gk_f178_0 : gd_fetch 178 0 = some (0, .aload_n 0, 1, 0, 0, 0, 0, 0) := rfl
set_option maxRecDepth 20000 in
theorem gk_f178_1 : gd_fetch 178 1 = some (1, .getfield 56, 3, 469, 6, 9, 4, 0) := rfl
set_option maxRecDepth 20000 in
theorem gk_f178_4 : gd_fetch 178 4 = some (4, .getfield 132, 3, 350, 1, 11, 4, 1) := rfl
set_option maxRecDepth 20000 in
theorem gk_f178_7 : gd_fetch 178 7 = some (7, .bipush 9, 2, 0, 0, 0, 0, 0) := rfl
set_option maxRecDepth 20000 in
theorem gk_f178_9 : gd_fetch 178 9 = some (9, .iaload, 1, 0, 0, 0, 0, 0) := rfl
set_option maxRecDepth 20000 in
theorem gk_f178_10 : gd_fetch 178 10 = some (10, .aload_n 0, 1, 0, 0, 0, 0, 0) := rfl
set_option maxRecDepth 20000 in
theorem gk_f178_11 : gd_fetch 178 11 = some (11, .getfield 50, 3, 468, 6, 8, 4, 1) := rfl
set_option maxRecDepth 20000 in
theorem gk_f178_14 : gd_fetch 178 14 = some (14, .arraylength, 1, 0, 0, 0, 0, 0) := rfl
set_option maxRecDepth 20000 in
theorem gk_f178_15 : gd_fetch 178 15 = some (15, .invokestatic 300, 3, 937, 27, 2, 0, 0) := rfl
set_option maxRecDepth 20000 in
theorem gk_f178_18 : gd_fetch 178 18 = some (18, .istore_n 3, 1, 0, 0, 0, 0, 0) := rfl
set_option maxRecDepth 20000 in
theorem gk_f178_19 : gd_fetch 178 19 = some (19, .iload_n 2, 1, 0, 0, 0, 0, 0) := rfl
set_option maxRecDepth 20000 in
theorem gk_f178_20 : gd_fetch 178 20 = some (20, .istore 4, 2, 0, 0, 0, 0, 0) := rfl
set_option maxRecDepth 20000 in
theorem gk_f178_22 : gd_fetch 178 22 = some (22, .iload 4, 2, 0, 0, 0, 0, 0) := rfl
set_option maxRecDepth 20000 in
theorem gk_f178_24 : gd_fetch 178 24 = some (24, .ifCond .le 44, 3, 0, 0, 0, 0, 0) := rfl
set_option maxRecDepth 20000 in
theorem gk_f178_27 : gd_fetch 178 27 = some (27, .aload_n 0, 1, 0, 0, 0, 0, 0) := rfl
set_option maxRecDepth 20000 in
theorem gk_f178_28 : gd_fetch 178 28 = some (28, .getfield 50, 3, 468, 6, 8, 4, 1) := rfl
set_option maxRecDepth 20000 in
theorem gk_f178_31 : gd_fetch 178 31 = some (31, .iload 4, 2, 0, 0, 0, 0, 0) := rfl
set_option maxRecDepth 20000 in
theorem gk_f178_33 : gd_fetch 178 33 = some (33, .iconst 1, 1, 0, 0, 0, 0, 0) := rfl
set_option maxRecDepth 20000 in
theorem gk_f178_34 : gd_fetch 178 34 = some (34, .isub, 1, 0, 0, 0, 0, 0) := rfl
set_option maxRecDepth 20000 in
theorem gk_f178_35 : gd_fetch 178 35 = some (35, .iaload, 1, 0, 0, 0, 0, 0) := rfl
set_option maxRecDepth 20000 in
theorem gk_f178_36 : gd_fetch 178 36 = some (36, .iload_n 1, 1, 0, 0, 0, 0, 0) := rfl
set_option maxRecDepth 20000 in
theorem gk_f178_37 : gd_fetch 178 37 = some (37, .if_icmp .ge 31, 3, 0, 0, 0, 0, 0) := rfl
set_option maxRecDepth 20000 in
theorem gk_f178_40 : gd_fetch 178 40 = some (40, .iload 4, 2, 0, 0, 0, 0, 0) := rfl
set_option maxRecDepth 20000 in
theorem gk_f178_42 : gd_fetch 178 42 = some (42, .iload_n 3, 1, 0, 0, 0, 0, 0) := rfl
set_option maxRecDepth 20000 in
theorem gk_f178_43 : gd_fetch 178 43 = some (43, .if_icmp .ge 19, 3, 0, 0, 0, 0, 0) := rfl
set_option maxRecDepth 20000 in
theorem gk_f178_46 : gd_fetch 178 46 = some (46, .aload_n 0, 1, 0, 0, 0, 0, 0) := rfl
set_option maxRecDepth 20000 in
theorem gk_f178_47 : gd_fetch 178 47 = some (47, .getfield 50, 3, 468, 6, 8, 4, 1) := rfl
set_option maxRecDepth 20000 in
theorem gk_f178_50 : gd_fetch 178 50 = some (50, .iload 4, 2, 0, 0, 0, 0, 0) := rfl
set_option maxRecDepth 20000 in
theorem gk_f178_52 : gd_fetch 178 52 = some (52, .aload_n 0, 1, 0, 0, 0, 0, 0) := rfl
set_option maxRecDepth 20000 in
theorem gk_f178_53 : gd_fetch 178 53 = some (53, .getfield 50, 3, 468, 6, 8, 4, 1) := rfl
set_option maxRecDepth 20000 in
theorem gk_f178_56 : gd_fetch 178 56 = some (56, .iload 4, 2, 0, 0, 0, 0, 0) := rfl
set_option maxRecDepth 20000 in
theorem gk_f178_58 : gd_fetch 178 58 = some (58, .iconst 1, 1, 0, 0, 0, 0, 0) := rfl
set_option maxRecDepth 20000 in
theorem gk_f178_59 : gd_fetch 178 59 = some (59, .isub, 1, 0, 0, 0, 0, 0) := rfl
set_option maxRecDepth 20000 in
theorem gk_f178_60 : gd_fetch 178 60 = some (60, .iaload, 1, 0, 0, 0, 0, 0) := rfl
set_option maxRecDepth 20000 in
theorem gk_f178_61 : gd_fetch 178 61 = some (61, .iastore, 1, 0, 0, 0, 0, 0) := rfl
set_option maxRecDepth 20000 in
theorem gk_f178_62 : gd_fetch 178 62 = some (62, .iinc 4 (-1), 3, 0, 0, 0, 0, 0) := rfl
set_option maxRecDepth 20000 in
theorem gk_f178_65 : gd_fetch 178 65 = some (65, .goto (-43), 3, 0, 0, 0, 0, 0) := rfl
set_option maxRecDepth 20000 in
theorem gk_f178_68 : gd_fetch 178 68 = some (68, .iload 4, 2, 0, 0, 0, 0, 0) := rfl
set_option maxRecDepth 20000 in
theorem gk_f178_70 : gd_fetch 178 70 = some (70, .iload_n 3, 1, 0, 0, 0, 0, 0) := rfl
set_option maxRecDepth 20000 in
theorem gk_f178_71 : gd_fetch 178 71 = some (71, .if_icmp .ge 11, 3, 0, 0, 0, 0, 0) := rfl
set_option maxRecDepth 20000 in
theorem gk_f178_74 : gd_fetch 178 74 = some (74, .aload_n 0, 1, 0, 0, 0, 0, 0) := rfl
set_option maxRecDepth 20000 in
theorem gk_f178_75 : gd_fetch 178 75 = some (75, .getfield 50, 3, 468, 6, 8, 4, 1) := rfl
set_option maxRecDepth 20000 in
theorem gk_f178_78 : gd_fetch 178 78 = some (78, .iload 4, 2, 0, 0, 0, 0, 0) := rfl
set_option maxRecDepth 20000 in
theorem gk_f178_80 : gd_fetch 178 80 = some (80, .iload_n 1, 1, 0, 0, 0, 0, 0) := rfl
set_option maxRecDepth 20000 in
theorem gk_f178_81 : gd_fetch 178 81 = some (81, .iastore, 1, 0, 0, 0, 0, 0) := rfl
set_option maxRecDepth 20000 in
theorem gk_f178_82 : gd_fetch 178 82 = some (82, .iload_n 2, 1, 0, 0, 0, 0, 0) := rfl
set_option maxRecDepth 20000 in
theorem gk_f178_83 : gd_fetch 178 83 = some (83, .iconst 1, 1, 0, 0, 0, 0, 0) := rfl
set_option maxRecDepth 20000 in
theorem gk_f178_84 : gd_fetch 178 84 = some (84, .iadd, 1, 0, 0, 0, 0, 0) := rfl
set_option maxRecDepth 20000 in
theorem gk_f178_85 : gd_fetch 178 85 = some (85, .iload_n 3, 1, 0, 0, 0, 0, 0) := rfl
set_option maxRecDepth 20000 in
theorem gk_f178_86 : gd_fetch 178 86 = some (86, .invokestatic 300, 3, 937, 27, 2, 0, 0) := rfl
set_option maxRecDepth 20000 in
theorem gk_f178_89 : gd_fetch 178 89 = some (89, .ireturn, 1, 0, 0, 0, 0, 0) := rfl
set_option maxRecDepth 20000 in
set_option maxHeartbeats 4000000 in
theorem q_X_keepBest (r0 : Nat) (x1 : Int32) (x2 : Int32) (m : gd_M) : gd_call 178 [.ref r0, .int x1, .int x2] m = if gd_ok (gN m) r0 6 = true then (if gd_ok (gN m) (gR m r0 9) 1 = true then (if gd_okA (gN m) (gR m (gR m r0 9) 11) 10 9 = true then (if (Nat.ble 10 (gd_KD (gR m r0 8)) && Nat.ble (gd_KD (gR m r0 8)) 14 && decide ((gR m r0 8) < (gN m))) = true then ((gd_call 27 [.int (gI m (gR m (gR m r0 9) 11) (9 : Int32).toNatClampNeg), .int (Int32.ofNat (gd_LN (gR m r0 8)))] m).bind (gd_k0I fun z7 m5 => gd_Den (178, 22, [.ref r0, .int x1, .int x2, .int z7, .int x2], [], m5))) else none) else none) else none) else none := by
  refine Eq.trans (show gd_call 178 [.ref r0, .int x1, .int x2] m = gd_Den (178, 0, [.ref r0, .int x1, .int x2, .null, .null], [], m) from by unfold gd_call gd_ent; rw [gk_ml178]; rfl) ?_
  refine Eq.trans (D_aload_n (x := r0) gk_f178_0 rfl) ?_
  refine Eq.trans (D_gfR gk_f178_1 (by decide)) ?_
  refine gd_ite (fun h1 => ?_) (fun _ => rfl)
  refine Eq.trans (D_gfR gk_f178_4 (by decide)) ?_
  refine gd_ite (fun h2 => ?_) (fun _ => rfl)
  refine Eq.trans (D_bipush (x := 9) gk_f178_7 gk_b_9) ?_
  refine Eq.trans (D_iald gk_f178_9 gk_n10_178) ?_
  refine gd_ite (fun h3 => ?_) (fun _ => rfl)
  refine Eq.trans (D_aload_n (x := r0) gk_f178_10 rfl) ?_
  refine Eq.trans (D_gfR gk_f178_11 (by decide)) ?_
  refine Eq.trans (if_pos h1) ?_
  refine Eq.trans (D_alen gk_f178_14 gk_n10_178 gk_nt178) ?_
  refine gd_ite (fun h4 => ?_) (fun _ => rfl)
  refine Eq.trans (D_isI (args := [.int (gI m (gR m (gR m r0 9) 11) (9 : Int32).toNatClampNeg), .int (Int32.ofNat (gd_LN (gR m r0 8)))]) (rest := []) gk_f178_15 rfl rfl rfl (gd_rmk gk_rm178_27 gk_ln27 gk_ml27 rfl rfl rfl) gk_rk27 (gd_hnd_n gk_nc178)) ?_
  refine gd_bnd (gd_k0I_c fun z7 m5 => ?_)
  refine Eq.trans (D_istore_n gk_f178_18 gk_st178_3) ?_
  refine Eq.trans (D_iload_n (x := x2) gk_f178_19 rfl) ?_
  refine Eq.trans (D_istore gk_f178_20 gk_st178_4) ?_
  rfl
set_option maxRecDepth 20000 in
set_option maxHeartbeats 4000000 in
theorem q_X_keepBest_22 (r0 : Nat) (x1 : Int32) (x2 : Int32) (x3 : Int32) (x4 : Int32) (m : gd_M) : gd_Den (178, 22, [.ref r0, .int x1, .int x2, .int x3, .int x4], [], m) = if (0 < x4 : Prop) then (if gd_ok (gN m) r0 6 = true then (if gd_okA (gN m) (gR m r0 8) 10 (x4 - 1) = true then (if ((gI m (gR m r0 8) ((x4 - 1) : Int32).toNatClampNeg) < x1 : Prop) then (if (x4 < x3 : Prop) then (if gd_okA (gN m) (gR m r0 8) 10 x4 = true then (gd_Den (178, 22, [.ref r0, .int x1, .int x2, .int x3, .int (x4 + (-1))], [], (wI m (gR m r0 8) (x4 : Int32).toNatClampNeg (gI m (gR m r0 8) ((x4 - 1) : Int32).toNatClampNeg)))) else none) else (gd_Den (178, 22, [.ref r0, .int x1, .int x2, .int x3, .int (x4 + (-1))], [], m))) else (if (x4 < x3 : Prop) then (if gd_okA (gN m) (gR m r0 8) 10 x4 = true then ((gd_call 27 [.int (x2 + 1), .int x3] (wI m (gR m r0 8) (x4 : Int32).toNatClampNeg x1)).bind (gd_k0I fun z15 m13 => some (.int z15, m13))) else none) else ((gd_call 27 [.int (x2 + 1), .int x3] m).bind (gd_k0I fun z18 m16 => some (.int z18, m16))))) else none) else none) else (if (x4 < x3 : Prop) then (if gd_ok (gN m) r0 6 = true then (if gd_okA (gN m) (gR m r0 8) 10 x4 = true then ((gd_call 27 [.int (x2 + 1), .int x3] (wI m (gR m r0 8) (x4 : Int32).toNatClampNeg x1)).bind (gd_k0I fun z25 m23 => some (.int z25, m23))) else none) else none) else ((gd_call 27 [.int (x2 + 1), .int x3] m).bind (gd_k0I fun z28 m26 => some (.int z28, m26)))) := by
  refine Eq.trans (D_iload (x := x4) gk_f178_22 rfl) ?_
  refine Eq.trans (D_if_le (t := 68) gk_f178_24 (by decide)) ?_
  refine gd_ite (fun h1 => ?_) (fun h2 => ?_)
  · refine Eq.trans (D_aload_n (x := r0) gk_f178_27 rfl) ?_
    refine Eq.trans (D_gfR gk_f178_28 (by decide)) ?_
    refine gd_ite (fun h3 => ?_) (fun _ => rfl)
    refine Eq.trans (D_iload (x := x4) gk_f178_31 rfl) ?_
    refine Eq.trans (D_iconst (x := 1) gk_f178_33 gk_c_1) ?_
    refine Eq.trans (D_isub gk_f178_34) ?_
    refine Eq.trans (D_iald gk_f178_35 gk_n10_178) ?_
    refine gd_ite (fun h4 => ?_) (fun _ => rfl)
    refine Eq.trans (D_iload_n (x := x1) gk_f178_36 rfl) ?_
    refine Eq.trans (D_ic_ge (t := 68) gk_f178_37 (by decide)) ?_
    refine gd_ite (fun h5 => ?_) (fun h6 => ?_)
    · refine Eq.trans (D_iload (x := x4) gk_f178_40 rfl) ?_
      refine Eq.trans (D_iload_n (x := x3) gk_f178_42 rfl) ?_
      refine Eq.trans (D_ic_ge (t := 62) gk_f178_43 (by decide)) ?_
      refine gd_ite (fun h7 => ?_) (fun h8 => ?_)
      · refine Eq.trans (D_aload_n (x := r0) gk_f178_46 rfl) ?_
        refine Eq.trans (D_gfR gk_f178_47 (by decide)) ?_
        refine Eq.trans (if_pos h3) ?_
        refine Eq.trans (D_iload (x := x4) gk_f178_50 rfl) ?_
        refine Eq.trans (D_aload_n (x := r0) gk_f178_52 rfl) ?_
        refine Eq.trans (D_gfR gk_f178_53 (by decide)) ?_
        refine Eq.trans (if_pos h3) ?_
        refine Eq.trans (D_iload (x := x4) gk_f178_56 rfl) ?_
        refine Eq.trans (D_iconst (x := 1) gk_f178_58 gk_c_1) ?_
        refine Eq.trans (D_isub gk_f178_59) ?_
        refine Eq.trans (D_iald gk_f178_60 gk_n10_178) ?_
        refine Eq.trans (if_pos h4) ?_
        refine Eq.trans (D_iast gk_f178_61) ?_
        refine gd_ite (fun h9 => ?_) (fun _ => rfl)
        refine Eq.trans (D_iinc (x := x4) (y := (-1)) gk_f178_62 rfl gk_c_m1 gk_st178_4) ?_
        refine Eq.trans (D_goto (t := 22) gk_f178_65 (by decide)) ?_
        rfl
      · refine Eq.trans (D_iinc (x := x4) (y := (-1)) gk_f178_62 rfl gk_c_m1 gk_st178_4) ?_
        refine Eq.trans (D_goto (t := 22) gk_f178_65 (by decide)) ?_
        rfl
    · refine Eq.trans (D_iload (x := x4) gk_f178_68 rfl) ?_
      refine Eq.trans (D_iload_n (x := x3) gk_f178_70 rfl) ?_
      refine Eq.trans (D_ic_ge (t := 82) gk_f178_71 (by decide)) ?_
      refine gd_ite (fun h10 => ?_) (fun h11 => ?_)
      · refine Eq.trans (D_aload_n (x := r0) gk_f178_74 rfl) ?_
        refine Eq.trans (D_gfR gk_f178_75 (by decide)) ?_
        refine Eq.trans (if_pos h3) ?_
        refine Eq.trans (D_iload (x := x4) gk_f178_78 rfl) ?_
        refine Eq.trans (D_iload_n (x := x1) gk_f178_80 rfl) ?_
        refine Eq.trans (D_iast gk_f178_81) ?_
        refine gd_ite (fun h12 => ?_) (fun _ => rfl)
        refine Eq.trans (D_iload_n (x := x2) gk_f178_82 rfl) ?_
        refine Eq.trans (D_iconst (x := 1) gk_f178_83 gk_c_1) ?_
        refine Eq.trans (D_iadd gk_f178_84) ?_
        refine Eq.trans (D_iload_n (x := x3) gk_f178_85 rfl) ?_
        refine Eq.trans (D_isI (args := [.int (x2 + 1), .int x3]) (rest := []) gk_f178_86 rfl rfl rfl (gd_rmk gk_rm178_27 gk_ln27 gk_ml27 rfl rfl rfl) gk_rk27 (gd_hnd_n gk_nc178)) ?_
        refine gd_bnd (gd_k0I_c fun z15 m13 => ?_)
        refine Eq.trans (D_ireturn gk_f178_89 gk_rk178) ?_
        rfl
      · refine Eq.trans (D_iload_n (x := x2) gk_f178_82 rfl) ?_
        refine Eq.trans (D_iconst (x := 1) gk_f178_83 gk_c_1) ?_
        refine Eq.trans (D_iadd gk_f178_84) ?_
        refine Eq.trans (D_iload_n (x := x3) gk_f178_85 rfl) ?_
        refine Eq.trans (D_isI (args := [.int (x2 + 1), .int x3]) (rest := []) gk_f178_86 rfl rfl rfl (gd_rmk gk_rm178_27 gk_ln27 gk_ml27 rfl rfl rfl) gk_rk27 (gd_hnd_n gk_nc178)) ?_
        refine gd_bnd (gd_k0I_c fun z18 m16 => ?_)
        refine Eq.trans (D_ireturn gk_f178_89 gk_rk178) ?_
        rfl
  · refine Eq.trans (D_iload (x := x4) gk_f178_68 rfl) ?_
    refine Eq.trans (D_iload_n (x := x3) gk_f178_70 rfl) ?_
    refine Eq.trans (D_ic_ge (t := 82) gk_f178_71 (by decide)) ?_
    refine gd_ite (fun h19 => ?_) (fun h20 => ?_)
    · refine Eq.trans (D_aload_n (x := r0) gk_f178_74 rfl) ?_
      refine Eq.trans (D_gfR gk_f178_75 (by decide)) ?_
      refine gd_ite (fun h21 => ?_) (fun _ => rfl)
      refine Eq.trans (D_iload (x := x4) gk_f178_78 rfl) ?_
      refine Eq.trans (D_iload_n (x := x1) gk_f178_80 rfl) ?_
      refine Eq.trans (D_iast gk_f178_81) ?_
      refine gd_ite (fun h22 => ?_) (fun _ => rfl)
      refine Eq.trans (D_iload_n (x := x2) gk_f178_82 rfl) ?_
      refine Eq.trans (D_iconst (x := 1) gk_f178_83 gk_c_1) ?_
      refine Eq.trans (D_iadd gk_f178_84) ?_
      refine Eq.trans (D_iload_n (x := x3) gk_f178_85 rfl) ?_
      refine Eq.trans (D_isI (args := [.int (x2 + 1), .int x3]) (rest := []) gk_f178_86 rfl rfl rfl (gd_rmk gk_rm178_27 gk_ln27 gk_ml27 rfl rfl rfl) gk_rk27 (gd_hnd_n gk_nc178)) ?_
      refine gd_bnd (gd_k0I_c fun z25 m23 => ?_)
      refine Eq.trans (D_ireturn gk_f178_89 gk_rk178) ?_
      rfl
    · refine Eq.trans (D_iload_n (x := x2) gk_f178_82 rfl) ?_
      refine Eq.trans (D_iconst (x := 1) gk_f178_83 gk_c_1) ?_
      refine Eq.trans (D_iadd gk_f178_84) ?_
      refine Eq.trans (D_iload_n (x := x3) gk_f178_85 rfl) ?_
      refine Eq.trans (D_isI (args := [.int (x2 + 1), .int x3]) (rest := []) gk_f178_86 rfl rfl rfl (gd_rmk gk_rm178_27 gk_ln27 gk_ml27 rfl rfl rfl) gk_rk27 (gd_hnd_n gk_nc178)) ?_
      refine gd_bnd (gd_k0I_c fun z28 m26 => ?_)
      refine Eq.trans (D_ireturn gk_f178_89 gk_rk178) ?_
      rfl
/-! GymDesk.scoreOf (II)I -/
set_option maxRecDepth 20000 in
theorem gk_f179_0 : gd_fetch 179 0 = some (0, .iconst 0, 1, 0, 0, 0, 0, 0) := rfl
set_option maxRecDepth 20000 in
theorem gk_f179_1 : gd_fetch 179 1 = some (1, .istore_n 3, 1, 0, 0, 0, 0, 0) := rfl
set_option maxRecDepth 20000 in
theorem gk_f179_2 : gd_fetch 179 2 = some (2, .iconst 0, 1, 0, 0, 0, 0, 0) := rfl
set_option maxRecDepth 20000 in
theorem gk_f179_3 : gd_fetch 179 3 = some (3, .istore 4, 2, 0, 0, 0, 0, 0) := rfl
set_option maxRecDepth 20000 in
theorem gk_f179_5 : gd_fetch 179 5 = some (5, .iload 4, 2, 0, 0, 0, 0, 0) := rfl
set_option maxRecDepth 20000 in
theorem gk_f179_7 : gd_fetch 179 7 = some (7, .aload_n 0, 1, 0, 0, 0, 0, 0) := rfl
set_option maxRecDepth 20000 in
theorem gk_f179_8 : gd_fetch 179 8 = some (8, .getfield 86, 3, 472, 6, 12, 0, 0) := rfl
set_option maxRecDepth 20000 in
theorem gk_f179_11 : gd_fetch 179 11 = some (11, .if_icmp .ge 53, 3, 0, 0, 0, 0, 0) := rfl
set_option maxRecDepth 20000 in
theorem gk_f179_14 : gd_fetch 179 14 = some (14, .aload_n 0, 1, 0, 0, 0, 0, 0) := rfl
set_option maxRecDepth 20000 in
theorem gk_f179_15 : gd_fetch 179 15 = some (15, .iload 4, 2, 0, 0, 0, 0, 0) := rfl
set_option maxRecDepth 20000 in
theorem gk_f179_17 : gd_fetch 179 17 = some (17, .iload_n 2, 1, 0, 0, 0, 0, 0) := rfl
set_option maxRecDepth 20000 in
theorem gk_f179_18 : gd_fetch 179 18 = some (18, .invokevirtual 124, 3, 685, 93, 2, 0, 0) := rfl
set_option maxRecDepth 20000 in
theorem gk_f179_21 : gd_fetch 179 21 = some (21, .astore 5, 2, 0, 0, 0, 0, 0) := rfl
set_option maxRecDepth 20000 in
theorem gk_f179_23 : gd_fetch 179 23 = some (23, .aload_n 0, 1, 0, 0, 0, 0, 0) := rfl
set_option maxRecDepth 20000 in
theorem gk_f179_24 : gd_fetch 179 24 = some (24, .getfield 40, 3, 465, 6, 5, 4, 1) := rfl
set_option maxRecDepth 20000 in
theorem gk_f179_27 : gd_fetch 179 27 = some (27, .iload 4, 2, 0, 0, 0, 0, 0) := rfl
set_option maxRecDepth 20000 in
theorem gk_f179_29 : gd_fetch 179 29 = some (29, .iaload, 1, 0, 0, 0, 0, 0) := rfl
set_option maxRecDepth 20000 in
theorem gk_f179_30 : gd_fetch 179 30 = some (30, .iload_n 1, 1, 0, 0, 0, 0, 0) := rfl
set_option maxRecDepth 20000 in
theorem gk_f179_31 : gd_fetch 179 31 = some (31, .if_icmp .ne 27, 3, 0, 0, 0, 0, 0) := rfl
set_option maxRecDepth 20000 in
theorem gk_f179_34 : gd_fetch 179 34 = some (34, .aload 5, 2, 0, 0, 0, 0, 0) := rfl
set_option maxRecDepth 20000 in
theorem gk_f179_36 : gd_fetch 179 36 = some (36, .ifnull 22, 3, 0, 0, 0, 0, 0) := rfl
set_option maxRecDepth 20000 in
theorem gk_f179_39 : gd_fetch 179 39 = some (39, .aload 5, 2, 0, 0, 0, 0, 0) := rfl
set_option maxRecDepth 20000 in
theorem gk_f179_41 : gd_fetch 179 41 = some (41, .invokevirtual 239, 3, 852, 151, 0, 0, 0) := rfl
set_option maxRecDepth 20000 in
theorem gk_f179_44 : gd_fetch 179 44 = some (44, .ifCond .eq 14, 3, 0, 0, 0, 0, 0) := rfl
set_option maxRecDepth 20000 in
theorem gk_f179_47 : gd_fetch 179 47 = some (47, .aload_n 0, 1, 0, 0, 0, 0, 0) := rfl
set_option maxRecDepth 20000 in
theorem gk_f179_48 : gd_fetch 179 48 = some (48, .aload 5, 2, 0, 0, 0, 0, 0) := rfl
set_option maxRecDepth 20000 in
theorem gk_f179_50 : gd_fetch 179 50 = some (50, .getfield 185, 3, 424, 4, 12, 0, 0) := rfl
set_option maxRecDepth 20000 in
theorem gk_f179_53 : gd_fetch 179 53 = some (53, .iload_n 3, 1, 0, 0, 0, 0, 0) := rfl
set_option maxRecDepth 20000 in
theorem gk_f179_54 : gd_fetch 179 54 = some (54, .invokevirtual 297, 3, 933, 178, 2, 0, 0) := rfl
set_option maxRecDepth 20000 in
theorem gk_f179_57 : gd_fetch 179 57 = some (57, .istore_n 3, 1, 0, 0, 0, 0, 0) := rfl
set_option maxRecDepth 20000 in
theorem gk_f179_58 : gd_fetch 179 58 = some (58, .iinc 4 1, 3, 0, 0, 0, 0, 0) := rfl
set_option maxRecDepth 20000 in
theorem gk_f179_61 : gd_fetch 179 61 = some (61, .goto (-56), 3, 0, 0, 0, 0, 0) := rfl
set_option maxRecDepth 20000 in
theorem gk_f179_64 : gd_fetch 179 64 = some (64, .iconst 0, 1, 0, 0, 0, 0, 0) := rfl
set_option maxRecDepth 20000 in
theorem gk_f179_65 : gd_fetch 179 65 = some (65, .istore 4, 2, 0, 0, 0, 0, 0) := rfl
set_option maxRecDepth 20000 in
theorem gk_f179_67 : gd_fetch 179 67 = some (67, .iconst 0, 1, 0, 0, 0, 0, 0) := rfl
set_option maxRecDepth 20000 in
theorem gk_f179_68 : gd_fetch 179 68 = some (68, .istore 5, 2, 0, 0, 0, 0, 0) := rfl
set_option maxRecDepth 20000 in
theorem gk_f179_70 : gd_fetch 179 70 = some (70, .iload 5, 2, 0, 0, 0, 0, 0) := rfl
set_option maxRecDepth 20000 in
theorem gk_f179_72 : gd_fetch 179 72 = some (72, .iload_n 3, 1, 0, 0, 0, 0, 0) := rfl
set_option maxRecDepth 20000 in
theorem gk_f179_73 : gd_fetch 179 73 = some (73, .if_icmp .ge 21, 3, 0, 0, 0, 0, 0) := rfl
set_option maxRecDepth 20000 in
theorem gk_f179_76 : gd_fetch 179 76 = some (76, .iload 4, 2, 0, 0, 0, 0, 0) := rfl
set_option maxRecDepth 20000 in
theorem gk_f179_78 : gd_fetch 179 78 = some (78, .aload_n 0, 1, 0, 0, 0, 0, 0) := rfl
set_option maxRecDepth 20000 in
theorem gk_f179_79 : gd_fetch 179 79 = some (79, .getfield 50, 3, 468, 6, 8, 4, 1) := rfl
set_option maxRecDepth 20000 in
theorem gk_f179_82 : gd_fetch 179 82 = some (82, .iload 5, 2, 0, 0, 0, 0, 0) := rfl
set_option maxRecDepth 20000 in
theorem gk_f179_84 : gd_fetch 179 84 = some (84, .iaload, 1, 0, 0, 0, 0, 0) := rfl
set_option maxRecDepth 20000 in
theorem gk_f179_85 : gd_fetch 179 85 = some (85, .iadd, 1, 0, 0, 0, 0, 0) := rfl
set_option maxRecDepth 20000 in
theorem gk_f179_86 : gd_fetch 179 86 = some (86, .istore 4, 2, 0, 0, 0, 0, 0) := rfl
set_option maxRecDepth 20000 in
theorem gk_f179_88 : gd_fetch 179 88 = some (88, .iinc 5 1, 3, 0, 0, 0, 0, 0) := rfl
set_option maxRecDepth 20000 in
theorem gk_f179_91 : gd_fetch 179 91 = some (91, .goto (-21), 3, 0, 0, 0, 0, 0) := rfl
set_option maxRecDepth 20000 in
theorem gk_f179_94 : gd_fetch 179 94 = some (94, .iload 4, 2, 0, 0, 0, 0, 0) := rfl
set_option maxRecDepth 20000 in
theorem gk_f179_96 : gd_fetch 179 96 = some (96, .ireturn, 1, 0, 0, 0, 0, 0) := rfl
set_option maxRecDepth 20000 in
set_option maxHeartbeats 4000000 in
theorem q_X_scoreOf (r0 : Nat) (x1 : Int32) (x2 : Int32) (m : gd_M) : gd_call 179 [.ref r0, .int x1, .int x2] m = gd_Den (179, 5, [.ref r0, .int x1, .int x2, .int 0, .int 0, .null], [], m) := by
  refine Eq.trans (show gd_call 179 [.ref r0, .int x1, .int x2] m = gd_Den (179, 0, [.ref r0, .int x1, .int x2, .null, .null, .null], [], m) from by unfold gd_call gd_ent; rw [gk_ml179]; rfl) ?_
  refine Eq.trans (D_iconst (x := 0) gk_f179_0 gk_c_0) ?_
  refine Eq.trans (D_istore_n gk_f179_1 gk_st179_3) ?_
  refine Eq.trans (D_iconst (x := 0) gk_f179_2 gk_c_0) ?_
  refine Eq.trans (D_istore gk_f179_3 gk_st179_4) ?_
  rfl
set_option maxRecDepth 20000 in
set_option maxHeartbeats 4000000 in
theorem q_X_scoreOf_5 (r0 : Nat) (x1 : Int32) (x2 : Int32) (x3 : Int32) (x4 : Int32) (v5 : Value) (m : gd_M) : gd_Den (179, 5, [.ref r0, .int x1, .int x2, .int x3, .int x4, v5], [], m) = if gd_ok (gN m) r0 6 = true then (if (x4 < (gI m r0 12) : Prop) then ((gd_call 93 [.ref r0, .int x4, .int x2] m).bind (gd_kR fun o6 m4 => if gd_ok (gN m4) r0 6 = true then (if gd_okA (gN m4) (gR m4 r0 5) 10 x4 = true then (if ((gI m4 (gR m4 r0 5) (x4 : Int32).toNatClampNeg) = x1 : Prop) then (if o6 = 0 then (gd_Den (179, 5, [.ref r0, .int x1, .int x2, .int x3, .int (x4 + 1), .ref o6], [], m4)) else if 8 ≤ o6 then (if gd_ok (gN m4) o6 4 = true then ((gd_call 151 [.ref o6] m4).bind (gd_kI fun z17 m15 => if (z17 = 0 : Prop) then (gd_Den (179, 5, [.ref r0, .int x1, .int x2, .int x3, .int (x4 + 1), .ref o6], [], m15)) else (if gd_ok (gN m15) o6 4 = true then (if gd_ok (gN m15) r0 6 = true then ((gd_call 178 [.ref r0, .int (gI m15 o6 12), .int x3] m15).bind (gd_kI fun z24 m22 => gd_Den (179, 5, [.ref r0, .int x1, .int x2, .int z24, .int (x4 + 1), .ref o6], [], m22))) else none) else none))) else none) else none) else (gd_Den (179, 5, [.ref r0, .int x1, .int x2, .int x3, .int (x4 + 1), .ref o6], [], m4))) else none) else none)) else (gd_Den (179, 70, [.ref r0, .int x1, .int x2, .int x3, .int 0, .int 0], [], m))) else none := by
  refine Eq.trans (D_iload (x := x4) gk_f179_5 rfl) ?_
  refine Eq.trans (D_aload_n (x := r0) gk_f179_7 rfl) ?_
  refine Eq.trans (D_gfI gk_f179_8 (by decide) (by decide) (by decide)) ?_
  refine gd_ite (fun h1 => ?_) (fun _ => rfl)
  refine Eq.trans (D_ic_ge (t := 64) gk_f179_11 (by decide)) ?_
  refine gd_ite (fun h2 => ?_) (fun h3 => ?_)
  · refine Eq.trans (D_aload_n (x := r0) gk_f179_14 rfl) ?_
    refine Eq.trans (D_iload (x := x4) gk_f179_15 rfl) ?_
    refine Eq.trans (D_iload_n (x := x2) gk_f179_17 rfl) ?_
    refine Eq.trans (D_ivR (cl := 6) (args := [.ref r0, .int x4, .int x2]) (rest := []) gk_f179_18 rfl rfl (gd_rmk gk_rm179_93 gk_ln93 gk_ml93 rfl rfl rfl) gk_rk93 (gd_hnd_n gk_nc179) gk_nc93 gk_n11_93 gk_cl93) ?_
    refine Eq.trans (if_pos h1) ?_
    refine gd_bnd (gd_kR_c fun o6 m4 => ?_)
    refine Eq.trans (D_astore gk_f179_21 gk_st179_5) ?_
    refine Eq.trans (D_aload_n (x := r0) gk_f179_23 rfl) ?_
    refine Eq.trans (D_gfR gk_f179_24 (by decide)) ?_
    refine gd_ite (fun h7 => ?_) (fun _ => rfl)
    refine Eq.trans (D_iload (x := x4) gk_f179_27 rfl) ?_
    refine Eq.trans (D_iald gk_f179_29 gk_n10_179) ?_
    refine gd_ite (fun h8 => ?_) (fun _ => rfl)
    refine Eq.trans (D_iload_n (x := x1) gk_f179_30 rfl) ?_
    refine Eq.trans (D_ic_ne (t := 58) gk_f179_31 (by decide)) ?_
    refine gd_ite (fun h9 => ?_) (fun h10 => ?_)
    · refine Eq.trans (D_aload (x := o6) gk_f179_34 rfl) ?_
      refine Eq.trans (D_ifnull (t := 58) gk_f179_36 (by decide)) ?_
      refine gd_ite (fun h11 => ?_) (fun h12 => gd_ite (fun h13 => ?_) (fun _ => rfl))
      · refine Eq.trans (D_iinc (x := x4) (y := 1) gk_f179_58 rfl gk_c_1 gk_st179_4) ?_
        refine Eq.trans (D_goto (t := 5) gk_f179_61 (by decide)) ?_
        rfl
      · refine Eq.trans (D_aload (x := o6) gk_f179_39 rfl) ?_
        refine Eq.trans (D_ivZ (cl := 4) (args := [.ref o6]) (rest := []) gk_f179_41 rfl rfl (gd_rmk gk_rm179_151 gk_ln151 gk_ml151 rfl rfl rfl) gk_rk151 (gd_hnd_n gk_nc179) gk_nc151 gk_n11_151 gk_cl151) ?_
        refine gd_ite (fun h14 => ?_) (fun _ => rfl)
        refine gd_bnd (gd_kI_c fun z17 m15 => ?_)
        refine Eq.trans (D_if_eq (t := 58) gk_f179_44 (by decide)) ?_
        refine gd_ite (fun h18 => ?_) (fun h19 => ?_)
        · refine Eq.trans (D_iinc (x := x4) (y := 1) gk_f179_58 rfl gk_c_1 gk_st179_4) ?_
          refine Eq.trans (D_goto (t := 5) gk_f179_61 (by decide)) ?_
          rfl
        · refine Eq.trans (D_aload_n (x := r0) gk_f179_47 rfl) ?_
          refine Eq.trans (D_aload (x := o6) gk_f179_48 rfl) ?_
          refine Eq.trans (D_gfI gk_f179_50 (by decide) (by decide) (by decide)) ?_
          refine gd_ite (fun h20 => ?_) (fun _ => rfl)
          refine Eq.trans (D_iload_n (x := x3) gk_f179_53 rfl) ?_
          refine Eq.trans (D_ivI (cl := 6) (args := [.ref r0, .int (gI m15 o6 12), .int x3]) (rest := []) gk_f179_54 rfl rfl (gd_rmk gk_rm179_178 gk_ln178 gk_ml178 rfl rfl rfl) gk_rk178 (gd_hnd_n gk_nc179) gk_nc178 gk_n11_178 gk_cl178) ?_
          refine gd_ite (fun h21 => ?_) (fun _ => rfl)
          refine gd_bnd (gd_kI_c fun z24 m22 => ?_)
          refine Eq.trans (D_istore_n gk_f179_57 gk_st179_3) ?_
          refine Eq.trans (D_iinc (x := x4) (y := 1) gk_f179_58 rfl gk_c_1 gk_st179_4) ?_
          refine Eq.trans (D_goto (t := 5) gk_f179_61 (by decide)) ?_
          rfl
    · refine Eq.trans (D_iinc (x := x4) (y := 1) gk_f179_58 rfl gk_c_1 gk_st179_4) ?_
      refine Eq.trans (D_goto (t := 5) gk_f179_61 (by decide)) ?_
      rfl
  · refine Eq.trans (D_iconst (x := 0) gk_f179_64 gk_c_0) ?_
    refine Eq.trans (D_istore gk_f179_65 gk_st179_4) ?_
    refine Eq.trans (D_iconst (x := 0) gk_f179_67 gk_c_0) ?_
    refine Eq.trans (D_istore gk_f179_68 gk_st179_5) ?_
    rfl
set_option maxRecDepth 20000 in
set_option maxHeartbeats 4000000 in
theorem q_X_scoreOf_70 (r0 : Nat) (x1 : Int32) (x2 : Int32) (x3 : Int32) (x4 : Int32) (x5 : Int32) (m : gd_M) : gd_Den (179, 70, [.ref r0, .int x1, .int x2, .int x3, .int x4, .int x5], [], m) = if (x5 < x3 : Prop) then (if gd_ok (gN m) r0 6 = true then (if gd_okA (gN m) (gR m r0 8) 10 x5 = true then (gd_Den (179, 70, [.ref r0, .int x1, .int x2, .int x3, .int (x4 + (gI m (gR m r0 8) (x5 : Int32).toNatClampNeg)), .int (x5 + 1)], [], m)) else none) else none) else (some (.int x4, m)) := by
  refine Eq.trans (D_iload (x := x5) gk_f179_70 rfl) ?_
  refine Eq.trans (D_iload_n (x := x3) gk_f179_72 rfl) ?_
  refine Eq.trans (D_ic_ge (t := 94) gk_f179_73 (by decide)) ?_
  refine gd_ite (fun h1 => ?_) (fun h2 => ?_)
  · refine Eq.trans (D_iload (x := x4) gk_f179_76 rfl) ?_
    refine Eq.trans (D_aload_n (x := r0) gk_f179_78 rfl) ?_
    refine Eq.trans (D_gfR gk_f179_79 (by decide)) ?_
    refine gd_ite (fun h3 => ?_) (fun _ => rfl)
    refine Eq.trans (D_iload (x := x5) gk_f179_82 rfl) ?_
    refine Eq.trans (D_iald gk_f179_84 gk_n10_179) ?_
    refine gd_ite (fun h4 => ?_) (fun _ => rfl)
    refine Eq.trans (D_iadd gk_f179_85) ?_
    refine Eq.trans (D_istore gk_f179_86 gk_st179_4) ?_
    refine Eq.trans (D_iinc (x := x5) (y := 1) gk_f179_88 rfl gk_c_1 gk_st179_5) ?_
    refine Eq.trans (D_goto (t := 70) gk_f179_91 (by decide)) ?_
    rfl
  · refine Eq.trans (D_iload (x := x4) gk_f179_94 rfl) ?_
    refine Eq.trans (D_ireturn gk_f179_96 gk_rk179) ?_
    rfl
/-! GymDesk.totalOf (I)I -/
set_option maxRecDepth 20000 in
theorem gk_f180_0 : gd_fetch 180 0 = some (0, .iconst 0, 1, 0, 0, 0, 0, 0) := rfl
set_option maxRecDepth 20000 in
theorem gk_f180_1 : gd_fetch 180 1 = some (1, .istore_n 2, 1, 0, 0, 0, 0, 0) := rfl
set_option maxRecDepth 20000 in
theorem gk_f180_2 : gd_fetch 180 2 = some (2, .iconst 0, 1, 0, 0, 0, 0, 0) := rfl
set_option maxRecDepth 20000 in
theorem gk_f180_3 : gd_fetch 180 3 = some (3, .istore_n 3, 1, 0, 0, 0, 0, 0) := rfl
set_option maxRecDepth 20000 in
theorem gk_f180_4 : gd_fetch 180 4 = some (4, .iload_n 3, 1, 0, 0, 0, 0, 0) := rfl
set_option maxRecDepth 20000 in
theorem gk_f180_5 : gd_fetch 180 5 = some (5, .iconst 4, 1, 0, 0, 0, 0, 0) := rfl
set_option maxRecDepth 20000 in
theorem gk_f180_6 : gd_fetch 180 6 = some (6, .if_icmp .ge 18, 3, 0, 0, 0, 0, 0) := rfl
set_option maxRecDepth 20000 in
theorem gk_f180_9 : gd_fetch 180 9 = some (9, .iload_n 2, 1, 0, 0, 0, 0, 0) := rfl
set_option maxRecDepth 20000 in
theorem gk_f180_10 : gd_fetch 180 10 = some (10, .aload_n 0, 1, 0, 0, 0, 0, 0) := rfl
set_option maxRecDepth 20000 in
theorem gk_f180_11 : gd_fetch 180 11 = some (11, .iload_n 1, 1, 0, 0, 0, 0, 0) := rfl
set_option maxRecDepth 20000 in
theorem gk_f180_12 : gd_fetch 180 12 = some (12, .iload_n 3, 1, 0, 0, 0, 0, 0) := rfl
set_option maxRecDepth 20000 in
theorem gk_f180_13 : gd_fetch 180 13 = some (13, .invokevirtual 294, 3, 929, 179, 2, 0, 0) := rfl
set_option maxRecDepth 20000 in
theorem gk_f180_16 : gd_fetch 180 16 = some (16, .iadd, 1, 0, 0, 0, 0, 0) := rfl
set_option maxRecDepth 20000 in
theorem gk_f180_17 : gd_fetch 180 17 = some (17, .istore_n 2, 1, 0, 0, 0, 0, 0) := rfl
set_option maxRecDepth 20000 in
theorem gk_f180_18 : gd_fetch 180 18 = some (18, .iinc 3 1, 3, 0, 0, 0, 0, 0) := rfl
set_option maxRecDepth 20000 in
theorem gk_f180_21 : gd_fetch 180 21 = some (21, .goto (-17), 3, 0, 0, 0, 0, 0) := rfl
set_option maxRecDepth 20000 in
theorem gk_f180_24 : gd_fetch 180 24 = some (24, .iload_n 2, 1, 0, 0, 0, 0, 0) := rfl
set_option maxRecDepth 20000 in
theorem gk_f180_25 : gd_fetch 180 25 = some (25, .ireturn, 1, 0, 0, 0, 0, 0) := rfl
set_option maxRecDepth 20000 in
set_option maxHeartbeats 4000000 in
theorem q_X_totalOf (r0 : Nat) (x1 : Int32) (m : gd_M) : gd_call 180 [.ref r0, .int x1] m = gd_Den (180, 4, [.ref r0, .int x1, .int 0, .int 0], [], m) := by
  refine Eq.trans (show gd_call 180 [.ref r0, .int x1] m = gd_Den (180, 0, [.ref r0, .int x1, .null, .null], [], m) from by unfold gd_call gd_ent; rw [gk_ml180]; rfl) ?_
  refine Eq.trans (D_iconst (x := 0) gk_f180_0 gk_c_0) ?_
  refine Eq.trans (D_istore_n gk_f180_1 gk_st180_2) ?_
  refine Eq.trans (D_iconst (x := 0) gk_f180_2 gk_c_0) ?_
  refine Eq.trans (D_istore_n gk_f180_3 gk_st180_3) ?_
  rfl
set_option maxRecDepth 20000 in
set_option maxHeartbeats 4000000 in
theorem q_X_totalOf_4 (r0 : Nat) (x1 : Int32) (x2 : Int32) (x3 : Int32) (m : gd_M) : gd_Den (180, 4, [.ref r0, .int x1, .int x2, .int x3], [], m) = if (x3 < 4 : Prop) then (if gd_ok (gN m) r0 6 = true then ((gd_call 179 [.ref r0, .int x1, .int x3] m).bind (gd_kI fun z6 m4 => gd_Den (180, 4, [.ref r0, .int x1, .int (x2 + z6), .int (x3 + 1)], [], m4))) else none) else (some (.int x2, m)) := by
  refine Eq.trans (D_iload_n (x := x3) gk_f180_4 rfl) ?_
  refine Eq.trans (D_iconst (x := 4) gk_f180_5 gk_c_4) ?_
  refine Eq.trans (D_ic_ge (t := 24) gk_f180_6 (by decide)) ?_
  refine gd_ite (fun h1 => ?_) (fun h2 => ?_)
  · refine Eq.trans (D_iload_n (x := x2) gk_f180_9 rfl) ?_
    refine Eq.trans (D_aload_n (x := r0) gk_f180_10 rfl) ?_
    refine Eq.trans (D_iload_n (x := x1) gk_f180_11 rfl) ?_
    refine Eq.trans (D_iload_n (x := x3) gk_f180_12 rfl) ?_
    refine Eq.trans (D_ivI (cl := 6) (args := [.ref r0, .int x1, .int x3]) (rest := [.int x2]) gk_f180_13 rfl rfl (gd_rmk gk_rm180_179 gk_ln179 gk_ml179 rfl rfl rfl) gk_rk179 (gd_hnd_n gk_nc180) gk_nc179 gk_n11_179 gk_cl179) ?_
    refine gd_ite (fun h3 => ?_) (fun _ => rfl)
    refine gd_bnd (gd_kI_c fun z6 m4 => ?_)
    refine Eq.trans (D_iadd gk_f180_16) ?_
    refine Eq.trans (D_istore_n gk_f180_17 gk_st180_2) ?_
    refine Eq.trans (D_iinc (x := x3) (y := 1) gk_f180_18 rfl gk_c_1 gk_st180_3) ?_
    refine Eq.trans (D_goto (t := 4) gk_f180_21 (by decide)) ?_
    rfl
  · refine Eq.trans (D_iload_n (x := x2) gk_f180_24 rfl) ?_
    refine Eq.trans (D_ireturn gk_f180_25 gk_rk180) ?_
    rfl
/-! GymDesk.land (II)I -/
set_option maxRecDepth 20000 in
theorem gk_f181_0 : gd_fetch 181 0 = some (0, .iload_n 1, 1, 0, 0, 0, 0, 0) := rfl
set_option maxRecDepth 20000 in
theorem gk_f181_1 : gd_fetch 181 1 = some (1, .invokestatic 118, 3, 678, 89, 1, 0, 0) := rfl
set_option maxRecDepth 20000 in
theorem gk_f181_4 : gd_fetch 181 4 = some (4, .ifCond .eq 10, 3, 0, 0, 0, 0, 0) := rfl
set_option maxRecDepth 20000 in
theorem gk_f181_7 : gd_fetch 181 7 = some (7, .iload_n 2, 1, 0, 0, 0, 0, 0) := rfl
set_option maxRecDepth 20000 in
theorem gk_f181_8 : gd_fetch 181 8 = some (8, .invokestatic 246, 3, 865, 156, 1, 0, 0) := rfl
set_option maxRecDepth 20000 in
theorem gk_f181_11 : gd_fetch 181 11 = some (11, .ifCond .ne 6, 3, 0, 0, 0, 0, 0) := rfl
set_option maxRecDepth 20000 in
theorem gk_f181_14 : gd_fetch 181 14 = some (14, .bipush (-2), 2, 0, 0, 0, 0, 0) := rfl
set_option maxRecDepth 20000 in
theorem gk_f181_16 : gd_fetch 181 16 = some (16, .ireturn, 1, 0, 0, 0, 0, 0) := rfl
set_option maxRecDepth 20000 in
theorem gk_f181_17 : gd_fetch 181 17 = some (17, .iload_n 2, 1, 0, 0, 0, 0, 0) := rfl
set_option maxRecDepth 20000 in
theorem gk_f181_18 : gd_fetch 181 18 = some (18, .iconst 4, 1, 0, 0, 0, 0, 0) := rfl
set_option maxRecDepth 20000 in
theorem gk_f181_19 : gd_fetch 181 19 = some (19, .if_icmp .ne 11, 3, 0, 0, 0, 0, 0) := rfl
set_option maxRecDepth 20000 in
theorem gk_f181_22 : gd_fetch 181 22 = some (22, .aload_n 0, 1, 0, 0, 0, 0, 0) := rfl
set_option maxRecDepth 20000 in
theorem gk_f181_23 : gd_fetch 181 23 = some (23, .iload_n 1, 1, 0, 0, 0, 0, 0) := rfl
set_option maxRecDepth 20000 in
theorem gk_f181_24 : gd_fetch 181 24 = some (24, .invokevirtual 291, 3, 925, 180, 1, 0, 0) := rfl
set_option maxRecDepth 20000 in
theorem gk_f181_27 : gd_fetch 181 27 = some (27, .goto 9, 3, 0, 0, 0, 0, 0) := rfl
set_option maxRecDepth 20000 in
theorem gk_f181_30 : gd_fetch 181 30 = some (30, .aload_n 0, 1, 0, 0, 0, 0, 0) := rfl
set_option maxRecDepth 20000 in
theorem gk_f181_31 : gd_fetch 181 31 = some (31, .iload_n 1, 1, 0, 0, 0, 0, 0) := rfl
set_option maxRecDepth 20000 in
theorem gk_f181_32 : gd_fetch 181 32 = some (32, .iload_n 2, 1, 0, 0, 0, 0, 0) := rfl
set_option maxRecDepth 20000 in
theorem gk_f181_33 : gd_fetch 181 33 = some (33, .invokevirtual 294, 3, 929, 179, 2, 0, 0) := rfl
set_option maxRecDepth 20000 in
theorem gk_f181_36 : gd_fetch 181 36 = some (36, .ireturn, 1, 0, 0, 0, 0, 0) := rfl
set_option maxRecDepth 20000 in
set_option maxHeartbeats 4000000 in
theorem q_X_land (r0 : Nat) (x1 : Int32) (x2 : Int32) (m : gd_M) : gd_call 181 [.ref r0, .int x1, .int x2] m = (gd_call 89 [.int x1] m).bind (gd_k0I fun z3 m1 => if (z3 = 0 : Prop) then (some (.int (-2), m1)) else ((gd_call 156 [.int x2] m1).bind (gd_k0I fun z8 m6 => if (z8 = 0 : Prop) then (some (.int (-2), m6)) else (if (x2 = 4 : Prop) then (if gd_ok (gN m6) r0 6 = true then ((gd_call 180 [.ref r0, .int x1] m6).bind (gd_kI fun z16 m14 => some (.int z16, m14))) else none) else (if gd_ok (gN m6) r0 6 = true then ((gd_call 179 [.ref r0, .int x1, .int x2] m6).bind (gd_kI fun z20 m18 => some (.int z20, m18))) else none))))) := by
  refine Eq.trans (show gd_call 181 [.ref r0, .int x1, .int x2] m = gd_Den (181, 0, [.ref r0, .int x1, .int x2], [], m) from by unfold gd_call gd_ent; rw [gk_ml181]; rfl) ?_
  refine Eq.trans (D_iload_n (x := x1) gk_f181_0 rfl) ?_
  refine Eq.trans (D_isZ (args := [.int x1]) (rest := []) gk_f181_1 rfl rfl rfl (gd_rmk gk_rm181_89 gk_ln89 gk_ml89 rfl rfl rfl) gk_rk89 (gd_hnd_n gk_nc181)) ?_
  refine gd_bnd (gd_k0I_c fun z3 m1 => ?_)
  refine Eq.trans (D_if_eq (t := 14) gk_f181_4 (by decide)) ?_
  refine gd_ite (fun h4 => ?_) (fun h5 => ?_)
  · refine Eq.trans (D_bipush (x := (-2)) gk_f181_14 gk_b_m2) ?_
    refine Eq.trans (D_ireturn gk_f181_16 gk_rk181) ?_
    rfl
  · refine Eq.trans (D_iload_n (x := x2) gk_f181_7 rfl) ?_
    refine Eq.trans (D_isZ (args := [.int x2]) (rest := []) gk_f181_8 rfl rfl rfl (gd_rmk gk_rm181_156 gk_ln156 gk_ml156 rfl rfl rfl) gk_rk156 (gd_hnd_n gk_nc181)) ?_
    refine gd_bnd (gd_k0I_c fun z8 m6 => ?_)
    refine Eq.trans (D_if_ne (t := 17) gk_f181_11 (by decide)) ?_
    refine gd_ite (fun h9 => ?_) (fun h10 => ?_)
    · refine Eq.trans (D_bipush (x := (-2)) gk_f181_14 gk_b_m2) ?_
      refine Eq.trans (D_ireturn gk_f181_16 gk_rk181) ?_
      rfl
    · refine Eq.trans (D_iload_n (x := x2) gk_f181_17 rfl) ?_
      refine Eq.trans (D_iconst (x := 4) gk_f181_18 gk_c_4) ?_
      refine Eq.trans (D_ic_ne (t := 30) gk_f181_19 (by decide)) ?_
      refine gd_ite (fun h11 => ?_) (fun h12 => ?_)
      · refine Eq.trans (D_aload_n (x := r0) gk_f181_22 rfl) ?_
        refine Eq.trans (D_iload_n (x := x1) gk_f181_23 rfl) ?_
        refine Eq.trans (D_ivI (cl := 6) (args := [.ref r0, .int x1]) (rest := []) gk_f181_24 rfl rfl (gd_rmk gk_rm181_180 gk_ln180 gk_ml180 rfl rfl rfl) gk_rk180 (gd_hnd_n gk_nc181) gk_nc180 gk_n11_180 gk_cl180) ?_
        refine gd_ite (fun h13 => ?_) (fun _ => rfl)
        refine gd_bnd (gd_kI_c fun z16 m14 => ?_)
        refine Eq.trans (D_goto (t := 36) gk_f181_27 (by decide)) ?_
        refine Eq.trans (D_ireturn gk_f181_36 gk_rk181) ?_
        rfl
      · refine Eq.trans (D_aload_n (x := r0) gk_f181_30 rfl) ?_
        refine Eq.trans (D_iload_n (x := x1) gk_f181_31 rfl) ?_
        refine Eq.trans (D_iload_n (x := x2) gk_f181_32 rfl) ?_
        refine Eq.trans (D_ivI (cl := 6) (args := [.ref r0, .int x1, .int x2]) (rest := []) gk_f181_33 rfl rfl (gd_rmk gk_rm181_179 gk_ln179 gk_ml179 rfl rfl rfl) gk_rk179 (gd_hnd_n gk_nc181) gk_nc179 gk_n11_179 gk_cl179) ?_
        refine gd_ite (fun h17 => ?_) (fun _ => rfl)
        refine gd_bnd (gd_kI_c fun z20 m18 => ?_)
        refine Eq.trans (D_ireturn gk_f181_36 gk_rk181) ?_
        rfl
/-! GymDeskModel.landAt (II)I -/
set_option maxRecDepth 20000 in
theorem gk_f182_0 : gd_fetch 182 0 = some (0, .iconst 0, 1, 0, 0, 0, 0, 0) := rfl
set_option maxRecDepth 20000 in
theorem gk_f182_1 : gd_fetch 182 1 = some (1, .istore_n 3, 1, 0, 0, 0, 0, 0) := rfl
set_option maxRecDepth 20000 in
theorem gk_f182_2 : gd_fetch 182 2 = some (2, .iconst 0, 1, 0, 0, 0, 0, 0) := rfl
set_option maxRecDepth 20000 in
theorem gk_f182_3 : gd_fetch 182 3 = some (3, .istore 4, 2, 0, 0, 0, 0, 0) := rfl
set_option maxRecDepth 20000 in
theorem gk_f182_5 : gd_fetch 182 5 = some (5, .iload 4, 2, 0, 0, 0, 0, 0) := rfl
set_option maxRecDepth 20000 in
theorem gk_f182_7 : gd_fetch 182 7 = some (7, .aload_n 0, 1, 0, 0, 0, 0, 0) := rfl
set_option maxRecDepth 20000 in
theorem gk_f182_8 : gd_fetch 182 8 = some (8, .getfield 326, 3, 1181, 9, 18, 0, 0) := rfl
set_option maxRecDepth 20000 in
theorem gk_f182_11 : gd_fetch 182 11 = some (11, .if_icmp .ge 104, 3, 0, 0, 0, 0, 0) := rfl
set_option maxRecDepth 20000 in
theorem gk_f182_14 : gd_fetch 182 14 = some (14, .aload_n 0, 1, 0, 0, 0, 0, 0) := rfl
set_option maxRecDepth 20000 in
theorem gk_f182_15 : gd_fetch 182 15 = some (15, .getfield 41, 3, 1183, 9, 20, 4, 1) := rfl
set_option maxRecDepth 20000 in
theorem gk_f182_18 : gd_fetch 182 18 = some (18, .iload 4, 2, 0, 0, 0, 0, 0) := rfl
set_option maxRecDepth 20000 in
theorem gk_f182_20 : gd_fetch 182 20 = some (20, .iaload, 1, 0, 0, 0, 0, 0) := rfl
set_option maxRecDepth 20000 in
theorem gk_f182_21 : gd_fetch 182 21 = some (21, .iload_n 1, 1, 0, 0, 0, 0, 0) := rfl
set_option maxRecDepth 20000 in
theorem gk_f182_22 : gd_fetch 182 22 = some (22, .if_icmp .ne 87, 3, 0, 0, 0, 0, 0) := rfl
set_option maxRecDepth 20000 in
theorem gk_f182_25 : gd_fetch 182 25 = some (25, .aload_n 0, 1, 0, 0, 0, 0, 0) := rfl
set_option maxRecDepth 20000 in
theorem gk_f182_26 : gd_fetch 182 26 = some (26, .iconst 4, 1, 0, 0, 0, 0, 0) := rfl
set_option maxRecDepth 20000 in
theorem gk_f182_27 : gd_fetch 182 27 = some (27, .iload 4, 2, 0, 0, 0, 0, 0) := rfl
set_option maxRecDepth 20000 in
theorem gk_f182_29 : gd_fetch 182 29 = some (29, .imul, 1, 0, 0, 0, 0, 0) := rfl
set_option maxRecDepth 20000 in
theorem gk_f182_30 : gd_fetch 182 30 = some (30, .iload_n 2, 1, 0, 0, 0, 0, 0) := rfl
set_option maxRecDepth 20000 in
theorem gk_f182_31 : gd_fetch 182 31 = some (31, .iadd, 1, 0, 0, 0, 0, 0) := rfl
set_option maxRecDepth 20000 in
theorem gk_f182_32 : gd_fetch 182 32 = some (32, .invokevirtual 372, 3, 1480, 149, 1, 0, 0) := rfl
set_option maxRecDepth 20000 in
theorem gk_f182_35 : gd_fetch 182 35 = some (35, .ifCond .ne 6, 3, 0, 0, 0, 0, 0) := rfl
set_option maxRecDepth 20000 in
theorem gk_f182_38 : gd_fetch 182 38 = some (38, .goto 71, 3, 0, 0, 0, 0, 0) := rfl
set_option maxRecDepth 20000 in
theorem gk_f182_41 : gd_fetch 182 41 = some (41, .aload_n 0, 1, 0, 0, 0, 0, 0) := rfl
set_option maxRecDepth 20000 in
theorem gk_f182_42 : gd_fetch 182 42 = some (42, .iconst 4, 1, 0, 0, 0, 0, 0) := rfl
set_option maxRecDepth 20000 in
theorem gk_f182_43 : gd_fetch 182 43 = some (43, .iload 4, 2, 0, 0, 0, 0, 0) := rfl
set_option maxRecDepth 20000 in
theorem gk_f182_45 : gd_fetch 182 45 = some (45, .imul, 1, 0, 0, 0, 0, 0) := rfl
set_option maxRecDepth 20000 in
theorem gk_f182_46 : gd_fetch 182 46 = some (46, .iload_n 2, 1, 0, 0, 0, 0, 0) := rfl
set_option maxRecDepth 20000 in
theorem gk_f182_47 : gd_fetch 182 47 = some (47, .iadd, 1, 0, 0, 0, 0, 0) := rfl
set_option maxRecDepth 20000 in
theorem gk_f182_48 : gd_fetch 182 48 = some (48, .invokevirtual 369, 3, 1447, 144, 1, 0, 0) := rfl
set_option maxRecDepth 20000 in
theorem gk_f182_51 : gd_fetch 182 51 = some (51, .istore 5, 2, 0, 0, 0, 0, 0) := rfl
set_option maxRecDepth 20000 in
theorem gk_f182_53 : gd_fetch 182 53 = some (53, .iload_n 3, 1, 0, 0, 0, 0, 0) := rfl
set_option maxRecDepth 20000 in
theorem gk_f182_54 : gd_fetch 182 54 = some (54, .istore 6, 2, 0, 0, 0, 0, 0) := rfl
set_option maxRecDepth 20000 in
theorem gk_f182_56 : gd_fetch 182 56 = some (56, .iload 6, 2, 0, 0, 0, 0, 0) := rfl
set_option maxRecDepth 20000 in
theorem gk_f182_58 : gd_fetch 182 58 = some (58, .ifCond .le 39, 3, 0, 0, 0, 0, 0) := rfl
set_option maxRecDepth 20000 in
theorem gk_f182_61 : gd_fetch 182 61 = some (61, .aload_n 0, 1, 0, 0, 0, 0, 0) := rfl
set_option maxRecDepth 20000 in
theorem gk_f182_62 : gd_fetch 182 62 = some (62, .getfield 108, 3, 1207, 9, 44, 4, 1) := rfl
set_option maxRecDepth 20000 in
theorem gk_f182_65 : gd_fetch 182 65 = some (65, .iload 6, 2, 0, 0, 0, 0, 0) := rfl
set_option maxRecDepth 20000 in
theorem gk_f182_67 : gd_fetch 182 67 = some (67, .iconst 1, 1, 0, 0, 0, 0, 0) := rfl
set_option maxRecDepth 20000 in
theorem gk_f182_68 : gd_fetch 182 68 = some (68, .isub, 1, 0, 0, 0, 0, 0) := rfl
set_option maxRecDepth 20000 in
theorem gk_f182_69 : gd_fetch 182 69 = some (69, .iaload, 1, 0, 0, 0, 0, 0) := rfl
set_option maxRecDepth 20000 in
theorem gk_f182_70 : gd_fetch 182 70 = some (70, .iload 5, 2, 0, 0, 0, 0, 0) := rfl
set_option maxRecDepth 20000 in
theorem gk_f182_72 : gd_fetch 182 72 = some (72, .if_icmp .ge 25, 3, 0, 0, 0, 0, 0) := rfl
set_option maxRecDepth 20000 in
theorem gk_f182_75 : gd_fetch 182 75 = some (75, .aload_n 0, 1, 0, 0, 0, 0, 0) := rfl
set_option maxRecDepth 20000 in
theorem gk_f182_76 : gd_fetch 182 76 = some (76, .getfield 108, 3, 1207, 9, 44, 4, 1) := rfl
set_option maxRecDepth 20000 in
theorem gk_f182_79 : gd_fetch 182 79 = some (79, .iload 6, 2, 0, 0, 0, 0, 0) := rfl
set_option maxRecDepth 20000 in
theorem gk_f182_81 : gd_fetch 182 81 = some (81, .aload_n 0, 1, 0, 0, 0, 0, 0) := rfl
set_option maxRecDepth 20000 in
theorem gk_f182_82 : gd_fetch 182 82 = some (82, .getfield 108, 3, 1207, 9, 44, 4, 1) := rfl
set_option maxRecDepth 20000 in
theorem gk_f182_85 : gd_fetch 182 85 = some (85, .iload 6, 2, 0, 0, 0, 0, 0) := rfl
set_option maxRecDepth 20000 in
theorem gk_f182_87 : gd_fetch 182 87 = some (87, .iconst 1, 1, 0, 0, 0, 0, 0) := rfl
set_option maxRecDepth 20000 in
theorem gk_f182_88 : gd_fetch 182 88 = some (88, .isub, 1, 0, 0, 0, 0, 0) := rfl
set_option maxRecDepth 20000 in
theorem gk_f182_89 : gd_fetch 182 89 = some (89, .iaload, 1, 0, 0, 0, 0, 0) := rfl
set_option maxRecDepth 20000 in
theorem gk_f182_90 : gd_fetch 182 90 = some (90, .iastore, 1, 0, 0, 0, 0, 0) := rfl
set_option maxRecDepth 20000 in
theorem gk_f182_91 : gd_fetch 182 91 = some (91, .iinc 6 (-1), 3, 0, 0, 0, 0, 0) := rfl
set_option maxRecDepth 20000 in
theorem gk_f182_94 : gd_fetch 182 94 = some (94, .goto (-38), 3, 0, 0, 0, 0, 0) := rfl
set_option maxRecDepth 20000 in
theorem gk_f182_97 : gd_fetch 182 97 = some (97, .aload_n 0, 1, 0, 0, 0, 0, 0) := rfl
set_option maxRecDepth 20000 in
theorem gk_f182_98 : gd_fetch 182 98 = some (98, .getfield 108, 3, 1207, 9, 44, 4, 1) := rfl
set_option maxRecDepth 20000 in
theorem gk_f182_101 : gd_fetch 182 101 = some (101, .iload 6, 2, 0, 0, 0, 0, 0) := rfl
set_option maxRecDepth 20000 in
theorem gk_f182_103 : gd_fetch 182 103 = some (103, .iload 5, 2, 0, 0, 0, 0, 0) := rfl
set_option maxRecDepth 20000 in
theorem gk_f182_105 : gd_fetch 182 105 = some (105, .iastore, 1, 0, 0, 0, 0, 0) := rfl
set_option maxRecDepth 20000 in
theorem gk_f182_106 : gd_fetch 182 106 = some (106, .iinc 3 1, 3, 0, 0, 0, 0, 0) := rfl
set_option maxRecDepth 20000 in
theorem gk_f182_109 : gd_fetch 182 109 = some (109, .iinc 4 1, 3, 0, 0, 0, 0, 0) := rfl
set_option maxRecDepth 20000 in
theorem gk_f182_112 : gd_fetch 182 112 = some (112, .goto (-107), 3, 0, 0, 0, 0, 0) := rfl
set_option maxRecDepth 20000 in
theorem gk_f182_115 : gd_fetch 182 115 = some (115, .iconst 0, 1, 0, 0, 0, 0, 0) := rfl
set_option maxRecDepth 20000 in
theorem gk_f182_116 : gd_fetch 182 116 = some (116, .istore 4, 2, 0, 0, 0, 0, 0) := rfl
set_option maxRecDepth 20000 in
theorem gk_f182_118 : gd_fetch 182 118 = some (118, .iconst 0, 1, 0, 0, 0, 0, 0) := rfl
set_option maxRecDepth 20000 in
theorem gk_f182_119 : gd_fetch 182 119 = some (119, .istore 5, 2, 0, 0, 0, 0, 0) := rfl
set_option maxRecDepth 20000 in
theorem gk_f182_121 : gd_fetch 182 121 = some (121, .iload 5, 2, 0, 0, 0, 0, 0) := rfl
set_option maxRecDepth 20000 in
theorem gk_f182_123 : gd_fetch 182 123 = some (123, .iload_n 3, 1, 0, 0, 0, 0, 0) := rfl
set_option maxRecDepth 20000 in
theorem gk_f182_124 : gd_fetch 182 124 = some (124, .if_icmp .ge 33, 3, 0, 0, 0, 0, 0) := rfl
set_option maxRecDepth 20000 in
theorem gk_f182_127 : gd_fetch 182 127 = some (127, .iload 5, 2, 0, 0, 0, 0, 0) := rfl
set_option maxRecDepth 20000 in
theorem gk_f182_129 : gd_fetch 182 129 = some (129, .aload_n 0, 1, 0, 0, 0, 0, 0) := rfl
set_option maxRecDepth 20000 in
theorem gk_f182_130 : gd_fetch 182 130 = some (130, .getfield 19, 3, 1164, 9, 1, 4, 0) := rfl
set_option maxRecDepth 20000 in
theorem gk_f182_133 : gd_fetch 182 133 = some (133, .getfield 312, 3, 1079, 7, 24, 0, 0) := rfl
set_option maxRecDepth 20000 in
theorem gk_f182_136 : gd_fetch 182 136 = some (136, .if_icmp .ge 21, 3, 0, 0, 0, 0, 0) := rfl
set_option maxRecDepth 20000 in
theorem gk_f182_139 : gd_fetch 182 139 = some (139, .iload 4, 2, 0, 0, 0, 0, 0) := rfl
set_option maxRecDepth 20000 in
theorem gk_f182_141 : gd_fetch 182 141 = some (141, .aload_n 0, 1, 0, 0, 0, 0, 0) := rfl
set_option maxRecDepth 20000 in
theorem gk_f182_142 : gd_fetch 182 142 = some (142, .getfield 108, 3, 1207, 9, 44, 4, 1) := rfl
set_option maxRecDepth 20000 in
theorem gk_f182_145 : gd_fetch 182 145 = some (145, .iload 5, 2, 0, 0, 0, 0, 0) := rfl
set_option maxRecDepth 20000 in
theorem gk_f182_147 : gd_fetch 182 147 = some (147, .iaload, 1, 0, 0, 0, 0, 0) := rfl
set_option maxRecDepth 20000 in
theorem gk_f182_148 : gd_fetch 182 148 = some (148, .iadd, 1, 0, 0, 0, 0, 0) := rfl
set_option maxRecDepth 20000 in
theorem gk_f182_149 : gd_fetch 182 149 = some (149, .istore 4, 2, 0, 0, 0, 0, 0) := rfl
set_option maxRecDepth 20000 in
theorem gk_f182_151 : gd_fetch 182 151 = some (151, .iinc 5 1, 3, 0, 0, 0, 0, 0) := rfl
set_option maxRecDepth 20000 in
theorem gk_f182_154 : gd_fetch 182 154 = some (154, .goto (-33), 3, 0, 0, 0, 0, 0) := rfl
set_option maxRecDepth 20000 in
theorem gk_f182_157 : gd_fetch 182 157 = some (157, .iload 4, 2, 0, 0, 0, 0, 0) := rfl
set_option maxRecDepth 20000 in
theorem gk_f182_159 : gd_fetch 182 159 = some (159, .ireturn, 1, 0, 0, 0, 0, 0) := rfl
set_option maxRecDepth 20000 in
set_option maxHeartbeats 4000000 in
theorem q_Mo_landAt (r0 : Nat) (x1 : Int32) (x2 : Int32) (m : gd_M) : gd_call 182 [.ref r0, .int x1, .int x2] m = gd_Den (182, 5, [.ref r0, .int x1, .int x2, .int 0, .int 0, .null, .null], [], m) := by
  refine Eq.trans (show gd_call 182 [.ref r0, .int x1, .int x2] m = gd_Den (182, 0, [.ref r0, .int x1, .int x2, .null, .null, .null, .null], [], m) from by unfold gd_call gd_ent; rw [gk_ml182]; rfl) ?_
  refine Eq.trans (D_iconst (x := 0) gk_f182_0 gk_c_0) ?_
  refine Eq.trans (D_istore_n gk_f182_1 gk_st182_3) ?_
  refine Eq.trans (D_iconst (x := 0) gk_f182_2 gk_c_0) ?_
  refine Eq.trans (D_istore gk_f182_3 gk_st182_4) ?_
  rfl
set_option maxRecDepth 20000 in
set_option maxHeartbeats 4000000 in
theorem q_Mo_landAt_5 (r0 : Nat) (x1 : Int32) (x2 : Int32) (x3 : Int32) (x4 : Int32) (v5 : Value) (v6 : Value) (m : gd_M) : gd_Den (182, 5, [.ref r0, .int x1, .int x2, .int x3, .int x4, v5, v6], [], m) = if gd_ok (gN m) r0 9 = true then (if (x4 < (gI m r0 18) : Prop) then (if gd_okA (gN m) (gR m r0 20) 10 x4 = true then (if ((gI m (gR m r0 20) (x4 : Int32).toNatClampNeg) = x1 : Prop) then ((gd_call 149 [.ref r0, .int ((4 * x4) + x2)] m).bind (gd_kI fun z9 m7 => if (z9 = 0 : Prop) then (gd_Den (182, 5, [.ref r0, .int x1, .int x2, .int x3, .int (x4 + 1), v5, v6], [], m7)) else (if gd_ok (gN m7) r0 9 = true then ((gd_call 144 [.ref r0, .int ((4 * x4) + x2)] m7).bind (gd_kI fun z15 m13 => gd_Den (182, 56, [.ref r0, .int x1, .int x2, .int x3, .int x4, .int z15, .int x3], [], m13))) else none))) else (gd_Den (182, 5, [.ref r0, .int x1, .int x2, .int x3, .int (x4 + 1), v5, v6], [], m))) else none) else (gd_Den (182, 121, [.ref r0, .int x1, .int x2, .int x3, .int 0, .int 0, v6], [], m))) else none := by
  refine Eq.trans (D_iload (x := x4) gk_f182_5 rfl) ?_
  refine Eq.trans (D_aload_n (x := r0) gk_f182_7 rfl) ?_
  refine Eq.trans (D_gfI gk_f182_8 (by decide) (by decide) (by decide)) ?_
  refine gd_ite (fun h1 => ?_) (fun _ => rfl)
  refine Eq.trans (D_ic_ge (t := 115) gk_f182_11 (by decide)) ?_
  refine gd_ite (fun h2 => ?_) (fun h3 => ?_)
  · refine Eq.trans (D_aload_n (x := r0) gk_f182_14 rfl) ?_
    refine Eq.trans (D_gfR gk_f182_15 (by decide)) ?_
    refine Eq.trans (if_pos h1) ?_
    refine Eq.trans (D_iload (x := x4) gk_f182_18 rfl) ?_
    refine Eq.trans (D_iald gk_f182_20 gk_n10_182) ?_
    refine gd_ite (fun h4 => ?_) (fun _ => rfl)
    refine Eq.trans (D_iload_n (x := x1) gk_f182_21 rfl) ?_
    refine Eq.trans (D_ic_ne (t := 109) gk_f182_22 (by decide)) ?_
    refine gd_ite (fun h5 => ?_) (fun h6 => ?_)
    · refine Eq.trans (D_aload_n (x := r0) gk_f182_25 rfl) ?_
      refine Eq.trans (D_iconst (x := 4) gk_f182_26 gk_c_4) ?_
      refine Eq.trans (D_iload (x := x4) gk_f182_27 rfl) ?_
      refine Eq.trans (D_imul gk_f182_29) ?_
      refine Eq.trans (D_iload_n (x := x2) gk_f182_30 rfl) ?_
      refine Eq.trans (D_iadd gk_f182_31) ?_
      refine Eq.trans (D_ivZ (cl := 9) (args := [.ref r0, .int ((4 * x4) + x2)]) (rest := []) gk_f182_32 rfl rfl (gd_rmk gk_rm182_149 gk_ln149 gk_ml149 rfl rfl rfl) gk_rk149 (gd_hnd_n gk_nc182) gk_nc149 gk_n11_149 gk_cl149) ?_
      refine Eq.trans (if_pos h1) ?_
      refine gd_bnd (gd_kI_c fun z9 m7 => ?_)
      refine Eq.trans (D_if_ne (t := 41) gk_f182_35 (by decide)) ?_
      refine gd_ite (fun h10 => ?_) (fun h11 => ?_)
      · refine Eq.trans (D_goto (t := 109) gk_f182_38 (by decide)) ?_
        refine Eq.trans (D_iinc (x := x4) (y := 1) gk_f182_109 rfl gk_c_1 gk_st182_4) ?_
        refine Eq.trans (D_goto (t := 5) gk_f182_112 (by decide)) ?_
        rfl
      · refine Eq.trans (D_aload_n (x := r0) gk_f182_41 rfl) ?_
        refine Eq.trans (D_iconst (x := 4) gk_f182_42 gk_c_4) ?_
        refine Eq.trans (D_iload (x := x4) gk_f182_43 rfl) ?_
        refine Eq.trans (D_imul gk_f182_45) ?_
        refine Eq.trans (D_iload_n (x := x2) gk_f182_46 rfl) ?_
        refine Eq.trans (D_iadd gk_f182_47) ?_
        refine Eq.trans (D_ivI (cl := 9) (args := [.ref r0, .int ((4 * x4) + x2)]) (rest := []) gk_f182_48 rfl rfl (gd_rmk gk_rm182_144 gk_ln144 gk_ml144 rfl rfl rfl) gk_rk144 (gd_hnd_n gk_nc182) gk_nc144 gk_n11_144 gk_cl144) ?_
        refine gd_ite (fun h12 => ?_) (fun _ => rfl)
        refine gd_bnd (gd_kI_c fun z15 m13 => ?_)
        refine Eq.trans (D_istore gk_f182_51 gk_st182_5) ?_
        refine Eq.trans (D_iload_n (x := x3) gk_f182_53 rfl) ?_
        refine Eq.trans (D_istore gk_f182_54 gk_st182_6) ?_
        rfl
    · refine Eq.trans (D_iinc (x := x4) (y := 1) gk_f182_109 rfl gk_c_1 gk_st182_4) ?_
      refine Eq.trans (D_goto (t := 5) gk_f182_112 (by decide)) ?_
      rfl
  · refine Eq.trans (D_iconst (x := 0) gk_f182_115 gk_c_0) ?_
    refine Eq.trans (D_istore gk_f182_116 gk_st182_4) ?_
    refine Eq.trans (D_iconst (x := 0) gk_f182_118 gk_c_0) ?_
    refine Eq.trans (D_istore gk_f182_119 gk_st182_5) ?_
    rfl
set_option maxRecDepth 20000 in
set_option maxHeartbeats 4000000 in
theorem q_Mo_landAt_56 (r0 : Nat) (x1 : Int32) (x2 : Int32) (x3 : Int32) (x4 : Int32) (x5 : Int32) (x6 : Int32) (m : gd_M) : gd_Den (182, 56, [.ref r0, .int x1, .int x2, .int x3, .int x4, .int x5, .int x6], [], m) = if (0 < x6 : Prop) then (if gd_ok (gN m) r0 9 = true then (if gd_okA (gN m) (gR m r0 44) 10 (x6 - 1) = true then (if ((gI m (gR m r0 44) ((x6 - 1) : Int32).toNatClampNeg) < x5 : Prop) then (if gd_okA (gN m) (gR m r0 44) 10 x6 = true then (gd_Den (182, 56, [.ref r0, .int x1, .int x2, .int x3, .int x4, .int x5, .int (x6 + (-1))], [], (wI m (gR m r0 44) (x6 : Int32).toNatClampNeg (gI m (gR m r0 44) ((x6 - 1) : Int32).toNatClampNeg)))) else none) else (if gd_okA (gN m) (gR m r0 44) 10 x6 = true then (gd_Den (182, 5, [.ref r0, .int x1, .int x2, .int (x3 + 1), .int (x4 + 1), .int x5, .int x6], [], (wI m (gR m r0 44) (x6 : Int32).toNatClampNeg x5))) else none)) else none) else none) else (if gd_ok (gN m) r0 9 = true then (if gd_okA (gN m) (gR m r0 44) 10 x6 = true then (gd_Den (182, 5, [.ref r0, .int x1, .int x2, .int (x3 + 1), .int (x4 + 1), .int x5, .int x6], [], (wI m (gR m r0 44) (x6 : Int32).toNatClampNeg x5))) else none) else none) := by
  refine Eq.trans (D_iload (x := x6) gk_f182_56 rfl) ?_
  refine Eq.trans (D_if_le (t := 97) gk_f182_58 (by decide)) ?_
  refine gd_ite (fun h1 => ?_) (fun h2 => ?_)
  · refine Eq.trans (D_aload_n (x := r0) gk_f182_61 rfl) ?_
    refine Eq.trans (D_gfR gk_f182_62 (by decide)) ?_
    refine gd_ite (fun h3 => ?_) (fun _ => rfl)
    refine Eq.trans (D_iload (x := x6) gk_f182_65 rfl) ?_
    refine Eq.trans (D_iconst (x := 1) gk_f182_67 gk_c_1) ?_
    refine Eq.trans (D_isub gk_f182_68) ?_
    refine Eq.trans (D_iald gk_f182_69 gk_n10_182) ?_
    refine gd_ite (fun h4 => ?_) (fun _ => rfl)
    refine Eq.trans (D_iload (x := x5) gk_f182_70 rfl) ?_
    refine Eq.trans (D_ic_ge (t := 97) gk_f182_72 (by decide)) ?_
    refine gd_ite (fun h5 => ?_) (fun h6 => ?_)
    · refine Eq.trans (D_aload_n (x := r0) gk_f182_75 rfl) ?_
      refine Eq.trans (D_gfR gk_f182_76 (by decide)) ?_
      refine Eq.trans (if_pos h3) ?_
      refine Eq.trans (D_iload (x := x6) gk_f182_79 rfl) ?_
      refine Eq.trans (D_aload_n (x := r0) gk_f182_81 rfl) ?_
      refine Eq.trans (D_gfR gk_f182_82 (by decide)) ?_
      refine Eq.trans (if_pos h3) ?_
      refine Eq.trans (D_iload (x := x6) gk_f182_85 rfl) ?_
      refine Eq.trans (D_iconst (x := 1) gk_f182_87 gk_c_1) ?_
      refine Eq.trans (D_isub gk_f182_88) ?_
      refine Eq.trans (D_iald gk_f182_89 gk_n10_182) ?_
      refine Eq.trans (if_pos h4) ?_
      refine Eq.trans (D_iast gk_f182_90) ?_
      refine gd_ite (fun h7 => ?_) (fun _ => rfl)
      refine Eq.trans (D_iinc (x := x6) (y := (-1)) gk_f182_91 rfl gk_c_m1 gk_st182_6) ?_
      refine Eq.trans (D_goto (t := 56) gk_f182_94 (by decide)) ?_
      rfl
    · refine Eq.trans (D_aload_n (x := r0) gk_f182_97 rfl) ?_
      refine Eq.trans (D_gfR gk_f182_98 (by decide)) ?_
      refine Eq.trans (if_pos h3) ?_
      refine Eq.trans (D_iload (x := x6) gk_f182_101 rfl) ?_
      refine Eq.trans (D_iload (x := x5) gk_f182_103 rfl) ?_
      refine Eq.trans (D_iast gk_f182_105) ?_
      refine gd_ite (fun h8 => ?_) (fun _ => rfl)
      refine Eq.trans (D_iinc (x := x3) (y := 1) gk_f182_106 rfl gk_c_1 gk_st182_3) ?_
      refine Eq.trans (D_iinc (x := x4) (y := 1) gk_f182_109 rfl gk_c_1 gk_st182_4) ?_
      refine Eq.trans (D_goto (t := 5) gk_f182_112 (by decide)) ?_
      rfl
  · refine Eq.trans (D_aload_n (x := r0) gk_f182_97 rfl) ?_
    refine Eq.trans (D_gfR gk_f182_98 (by decide)) ?_
    refine gd_ite (fun h9 => ?_) (fun _ => rfl)
    refine Eq.trans (D_iload (x := x6) gk_f182_101 rfl) ?_
    refine Eq.trans (D_iload (x := x5) gk_f182_103 rfl) ?_
    refine Eq.trans (D_iast gk_f182_105) ?_
    refine gd_ite (fun h10 => ?_) (fun _ => rfl)
    refine Eq.trans (D_iinc (x := x3) (y := 1) gk_f182_106 rfl gk_c_1 gk_st182_3) ?_
    refine Eq.trans (D_iinc (x := x4) (y := 1) gk_f182_109 rfl gk_c_1 gk_st182_4) ?_
    refine Eq.trans (D_goto (t := 5) gk_f182_112 (by decide)) ?_
    rfl
set_option maxRecDepth 20000 in
set_option maxHeartbeats 4000000 in
theorem q_Mo_landAt_121 (r0 : Nat) (x1 : Int32) (x2 : Int32) (x3 : Int32) (x4 : Int32) (x5 : Int32) (v6 : Value) (m : gd_M) : gd_Den (182, 121, [.ref r0, .int x1, .int x2, .int x3, .int x4, .int x5, v6], [], m) = if (x5 < x3 : Prop) then (if gd_ok (gN m) r0 9 = true then (if gd_ok (gN m) (gR m r0 1) 7 = true then (if (x5 < (gI m (gR m r0 1) 24) : Prop) then (if gd_okA (gN m) (gR m r0 44) 10 x5 = true then (gd_Den (182, 121, [.ref r0, .int x1, .int x2, .int x3, .int (x4 + (gI m (gR m r0 44) (x5 : Int32).toNatClampNeg)), .int (x5 + 1), v6], [], m)) else none) else (some (.int x4, m))) else none) else none) else (some (.int x4, m)) := by
  refine Eq.trans (D_iload (x := x5) gk_f182_121 rfl) ?_
  refine Eq.trans (D_iload_n (x := x3) gk_f182_123 rfl) ?_
  refine Eq.trans (D_ic_ge (t := 157) gk_f182_124 (by decide)) ?_
  refine gd_ite (fun h1 => ?_) (fun h2 => ?_)
  · refine Eq.trans (D_iload (x := x5) gk_f182_127 rfl) ?_
    refine Eq.trans (D_aload_n (x := r0) gk_f182_129 rfl) ?_
    refine Eq.trans (D_gfR gk_f182_130 (by decide)) ?_
    refine gd_ite (fun h3 => ?_) (fun _ => rfl)
    refine Eq.trans (D_gfI gk_f182_133 (by decide) (by decide) (by decide)) ?_
    refine gd_ite (fun h4 => ?_) (fun _ => rfl)
    refine Eq.trans (D_ic_ge (t := 157) gk_f182_136 (by decide)) ?_
    refine gd_ite (fun h5 => ?_) (fun h6 => ?_)
    · refine Eq.trans (D_iload (x := x4) gk_f182_139 rfl) ?_
      refine Eq.trans (D_aload_n (x := r0) gk_f182_141 rfl) ?_
      refine Eq.trans (D_gfR gk_f182_142 (by decide)) ?_
      refine Eq.trans (if_pos h3) ?_
      refine Eq.trans (D_iload (x := x5) gk_f182_145 rfl) ?_
      refine Eq.trans (D_iald gk_f182_147 gk_n10_182) ?_
      refine gd_ite (fun h7 => ?_) (fun _ => rfl)
      refine Eq.trans (D_iadd gk_f182_148) ?_
      refine Eq.trans (D_istore gk_f182_149 gk_st182_4) ?_
      refine Eq.trans (D_iinc (x := x5) (y := 1) gk_f182_151 rfl gk_c_1 gk_st182_5) ?_
      refine Eq.trans (D_goto (t := 121) gk_f182_154 (by decide)) ?_
      rfl
    · refine Eq.trans (D_iload (x := x4) gk_f182_157 rfl) ?_
      refine Eq.trans (D_ireturn gk_f182_159 gk_rk182) ?_
      rfl
  · refine Eq.trans (D_iload (x := x4) gk_f182_157 rfl) ?_
    refine Eq.trans (D_ireturn gk_f182_159 gk_rk182) ?_
    rfl
/-! GymDeskModel.land (II)I -/
set_option maxRecDepth 20000 in
theorem gk_f183_0 : gd_fetch 183 0 = some (0, .iload_n 1, 1, 0, 0, 0, 0, 0) := rfl
set_option maxRecDepth 20000 in
theorem gk_f183_1 : gd_fetch 183 1 = some (1, .iconst 0, 1, 0, 0, 0, 0, 0) := rfl
set_option maxRecDepth 20000 in
theorem gk_f183_2 : gd_fetch 183 2 = some (2, .bipush 9, 2, 0, 0, 0, 0, 0) := rfl
set_option maxRecDepth 20000 in
theorem gk_f183_4 : gd_fetch 183 4 = some (4, .invokestatic 192, 3, 1360, 71, 3, 0, 0) := rfl
set_option maxRecDepth 20000 in
theorem gk_f183_7 : gd_fetch 183 7 = some (7, .ifCond .eq 12, 3, 0, 0, 0, 0, 0) := rfl
set_option maxRecDepth 20000 in
theorem gk_f183_10 : gd_fetch 183 10 = some (10, .iload_n 2, 1, 0, 0, 0, 0, 0) := rfl
set_option maxRecDepth 20000 in
theorem gk_f183_11 : gd_fetch 183 11 = some (11, .iconst 0, 1, 0, 0, 0, 0, 0) := rfl
set_option maxRecDepth 20000 in
theorem gk_f183_12 : gd_fetch 183 12 = some (12, .iconst 4, 1, 0, 0, 0, 0, 0) := rfl
set_option maxRecDepth 20000 in
theorem gk_f183_13 : gd_fetch 183 13 = some (13, .invokestatic 192, 3, 1360, 71, 3, 0, 0) := rfl
set_option maxRecDepth 20000 in
theorem gk_f183_16 : gd_fetch 183 16 = some (16, .ifCond .ne 6, 3, 0, 0, 0, 0, 0) := rfl
set_option maxRecDepth 20000 in
theorem gk_f183_19 : gd_fetch 183 19 = some (19, .bipush (-2), 2, 0, 0, 0, 0, 0) := rfl
set_option maxRecDepth 20000 in
theorem gk_f183_21 : gd_fetch 183 21 = some (21, .ireturn, 1, 0, 0, 0, 0, 0) := rfl
set_option maxRecDepth 20000 in
theorem gk_f183_22 : gd_fetch 183 22 = some (22, .iload_n 2, 1, 0, 0, 0, 0, 0) := rfl
set_option maxRecDepth 20000 in
theorem gk_f183_23 : gd_fetch 183 23 = some (23, .iconst 4, 1, 0, 0, 0, 0, 0) := rfl
set_option maxRecDepth 20000 in
theorem gk_f183_24 : gd_fetch 183 24 = some (24, .if_icmp .ge 10, 3, 0, 0, 0, 0, 0) := rfl
set_option maxRecDepth 20000 in
theorem gk_f183_27 : gd_fetch 183 27 = some (27, .aload_n 0, 1, 0, 0, 0, 0, 0) := rfl
set_option maxRecDepth 20000 in
theorem gk_f183_28 : gd_fetch 183 28 = some (28, .iload_n 1, 1, 0, 0, 0, 0, 0) := rfl
set_option maxRecDepth 20000 in
theorem gk_f183_29 : gd_fetch 183 29 = some (29, .iload_n 2, 1, 0, 0, 0, 0, 0) := rfl
set_option maxRecDepth 20000 in
theorem gk_f183_30 : gd_fetch 183 30 = some (30, .invokevirtual 390, 3, 1525, 182, 2, 0, 0) := rfl
set_option maxRecDepth 20000 in
theorem gk_f183_33 : gd_fetch 183 33 = some (33, .ireturn, 1, 0, 0, 0, 0, 0) := rfl
set_option maxRecDepth 20000 in
theorem gk_f183_34 : gd_fetch 183 34 = some (34, .aload_n 0, 1, 0, 0, 0, 0, 0) := rfl
set_option maxRecDepth 20000 in
theorem gk_f183_35 : gd_fetch 183 35 = some (35, .iload_n 1, 1, 0, 0, 0, 0, 0) := rfl
set_option maxRecDepth 20000 in
theorem gk_f183_36 : gd_fetch 183 36 = some (36, .iconst 0, 1, 0, 0, 0, 0, 0) := rfl
set_option maxRecDepth 20000 in
theorem gk_f183_37 : gd_fetch 183 37 = some (37, .invokevirtual 390, 3, 1525, 182, 2, 0, 0) := rfl
set_option maxRecDepth 20000 in
theorem gk_f183_40 : gd_fetch 183 40 = some (40, .aload_n 0, 1, 0, 0, 0, 0, 0) := rfl
set_option maxRecDepth 20000 in
theorem gk_f183_41 : gd_fetch 183 41 = some (41, .iload_n 1, 1, 0, 0, 0, 0, 0) := rfl
set_option maxRecDepth 20000 in
theorem gk_f183_42 : gd_fetch 183 42 = some (42, .iconst 1, 1, 0, 0, 0, 0, 0) := rfl
set_option maxRecDepth 20000 in
theorem gk_f183_43 : gd_fetch 183 43 = some (43, .invokevirtual 390, 3, 1525, 182, 2, 0, 0) := rfl
set_option maxRecDepth 20000 in
theorem gk_f183_46 : gd_fetch 183 46 = some (46, .iadd, 1, 0, 0, 0, 0, 0) := rfl
set_option maxRecDepth 20000 in
theorem gk_f183_47 : gd_fetch 183 47 = some (47, .aload_n 0, 1, 0, 0, 0, 0, 0) := rfl
set_option maxRecDepth 20000 in
theorem gk_f183_48 : gd_fetch 183 48 = some (48, .iload_n 1, 1, 0, 0, 0, 0, 0) := rfl
set_option maxRecDepth 20000 in
theorem gk_f183_49 : gd_fetch 183 49 = some (49, .iconst 2, 1, 0, 0, 0, 0, 0) := rfl
set_option maxRecDepth 20000 in
theorem gk_f183_50 : gd_fetch 183 50 = some (50, .invokevirtual 390, 3, 1525, 182, 2, 0, 0) := rfl
set_option maxRecDepth 20000 in
theorem gk_f183_53 : gd_fetch 183 53 = some (53, .iadd, 1, 0, 0, 0, 0, 0) := rfl
set_option maxRecDepth 20000 in
theorem gk_f183_54 : gd_fetch 183 54 = some (54, .aload_n 0, 1, 0, 0, 0, 0, 0) := rfl
set_option maxRecDepth 20000 in
theorem gk_f183_55 : gd_fetch 183 55 = some (55, .iload_n 1, 1, 0, 0, 0, 0, 0) := rfl
set_option maxRecDepth 20000 in
theorem gk_f183_56 : gd_fetch 183 56 = some (56, .iconst 3, 1, 0, 0, 0, 0, 0) := rfl
set_option maxRecDepth 20000 in
theorem gk_f183_57 : gd_fetch 183 57 = some (57, .invokevirtual 390, 3, 1525, 182, 2, 0, 0) := rfl
set_option maxRecDepth 20000 in
theorem gk_f183_60 : gd_fetch 183 60 = some (60, .iadd, 1, 0, 0, 0, 0, 0) := rfl
set_option maxRecDepth 20000 in
theorem gk_f183_61 : gd_fetch 183 61 = some (61, .ireturn, 1, 0, 0, 0, 0, 0) := rfl
set_option maxRecDepth 20000 in
set_option maxHeartbeats 4000000 in
theorem q_Mo_land (r0 : Nat) (x1 : Int32) (x2 : Int32) (m : gd_M) : gd_call 183 [.ref r0, .int x1, .int x2] m = (gd_call 71 [.int x1, .int 0, .int 9] m).bind (gd_k0I fun z3 m1 => if (z3 = 0 : Prop) then (some (.int (-2), m1)) else ((gd_call 71 [.int x2, .int 0, .int 4] m1).bind (gd_k0I fun z8 m6 => if (z8 = 0 : Prop) then (some (.int (-2), m6)) else (if (x2 < 4 : Prop) then (if gd_ok (gN m6) r0 9 = true then ((gd_call 182 [.ref r0, .int x1, .int x2] m6).bind (gd_kI fun z16 m14 => some (.int z16, m14))) else none) else (if gd_ok (gN m6) r0 9 = true then ((gd_call 182 [.ref r0, .int x1, .int 0] m6).bind (gd_kI fun z20 m18 => if gd_ok (gN m18) r0 9 = true then ((gd_call 182 [.ref r0, .int x1, .int 1] m18).bind (gd_kI fun z24 m22 => if gd_ok (gN m22) r0 9 = true then ((gd_call 182 [.ref r0, .int x1, .int 2] m22).bind (gd_kI fun z28 m26 => if gd_ok (gN m26) r0 9 = true then ((gd_call 182 [.ref r0, .int x1, .int 3] m26).bind (gd_kI fun z32 m30 => some (.int (((z20 + z24) + z28) + z32), m30))) else none)) else none)) else none)) else none))))) := by
  refine Eq.trans (show gd_call 183 [.ref r0, .int x1, .int x2] m = gd_Den (183, 0, [.ref r0, .int x1, .int x2], [], m) from by unfold gd_call gd_ent; rw [gk_ml183]; rfl) ?_
  refine Eq.trans (D_iload_n (x := x1) gk_f183_0 rfl) ?_
  refine Eq.trans (D_iconst (x := 0) gk_f183_1 gk_c_0) ?_
  refine Eq.trans (D_bipush (x := 9) gk_f183_2 gk_b_9) ?_
  refine Eq.trans (D_isZ (args := [.int x1, .int 0, .int 9]) (rest := []) gk_f183_4 rfl rfl rfl (gd_rmk gk_rm183_71 gk_ln71 gk_ml71 rfl rfl rfl) gk_rk71 (gd_hnd_n gk_nc183)) ?_
  refine gd_bnd (gd_k0I_c fun z3 m1 => ?_)
  refine Eq.trans (D_if_eq (t := 19) gk_f183_7 (by decide)) ?_
  refine gd_ite (fun h4 => ?_) (fun h5 => ?_)
  · refine Eq.trans (D_bipush (x := (-2)) gk_f183_19 gk_b_m2) ?_
    refine Eq.trans (D_ireturn gk_f183_21 gk_rk183) ?_
    rfl
  · refine Eq.trans (D_iload_n (x := x2) gk_f183_10 rfl) ?_
    refine Eq.trans (D_iconst (x := 0) gk_f183_11 gk_c_0) ?_
    refine Eq.trans (D_iconst (x := 4) gk_f183_12 gk_c_4) ?_
    refine Eq.trans (D_isZ (args := [.int x2, .int 0, .int 4]) (rest := []) gk_f183_13 rfl rfl rfl (gd_rmk gk_rm183_71 gk_ln71 gk_ml71 rfl rfl rfl) gk_rk71 (gd_hnd_n gk_nc183)) ?_
    refine gd_bnd (gd_k0I_c fun z8 m6 => ?_)
    refine Eq.trans (D_if_ne (t := 22) gk_f183_16 (by decide)) ?_
    refine gd_ite (fun h9 => ?_) (fun h10 => ?_)
    · refine Eq.trans (D_bipush (x := (-2)) gk_f183_19 gk_b_m2) ?_
      refine Eq.trans (D_ireturn gk_f183_21 gk_rk183) ?_
      rfl
    · refine Eq.trans (D_iload_n (x := x2) gk_f183_22 rfl) ?_
      refine Eq.trans (D_iconst (x := 4) gk_f183_23 gk_c_4) ?_
      refine Eq.trans (D_ic_ge (t := 34) gk_f183_24 (by decide)) ?_
      refine gd_ite (fun h11 => ?_) (fun h12 => ?_)
      · refine Eq.trans (D_aload_n (x := r0) gk_f183_27 rfl) ?_
        refine Eq.trans (D_iload_n (x := x1) gk_f183_28 rfl) ?_
        refine Eq.trans (D_iload_n (x := x2) gk_f183_29 rfl) ?_
        refine Eq.trans (D_ivI (cl := 9) (args := [.ref r0, .int x1, .int x2]) (rest := []) gk_f183_30 rfl rfl (gd_rmk gk_rm183_182 gk_ln182 gk_ml182 rfl rfl rfl) gk_rk182 (gd_hnd_n gk_nc183) gk_nc182 gk_n11_182 gk_cl182) ?_
        refine gd_ite (fun h13 => ?_) (fun _ => rfl)
        refine gd_bnd (gd_kI_c fun z16 m14 => ?_)
        refine Eq.trans (D_ireturn gk_f183_33 gk_rk183) ?_
        rfl
      · refine Eq.trans (D_aload_n (x := r0) gk_f183_34 rfl) ?_
        refine Eq.trans (D_iload_n (x := x1) gk_f183_35 rfl) ?_
        refine Eq.trans (D_iconst (x := 0) gk_f183_36 gk_c_0) ?_
        refine Eq.trans (D_ivI (cl := 9) (args := [.ref r0, .int x1, .int 0]) (rest := []) gk_f183_37 rfl rfl (gd_rmk gk_rm183_182 gk_ln182 gk_ml182 rfl rfl rfl) gk_rk182 (gd_hnd_n gk_nc183) gk_nc182 gk_n11_182 gk_cl182) ?_
        refine gd_ite (fun h17 => ?_) (fun _ => rfl)
        refine gd_bnd (gd_kI_c fun z20 m18 => ?_)
        refine Eq.trans (D_aload_n (x := r0) gk_f183_40 rfl) ?_
        refine Eq.trans (D_iload_n (x := x1) gk_f183_41 rfl) ?_
        refine Eq.trans (D_iconst (x := 1) gk_f183_42 gk_c_1) ?_
        refine Eq.trans (D_ivI (cl := 9) (args := [.ref r0, .int x1, .int 1]) (rest := [.int z20]) gk_f183_43 rfl rfl (gd_rmk gk_rm183_182 gk_ln182 gk_ml182 rfl rfl rfl) gk_rk182 (gd_hnd_n gk_nc183) gk_nc182 gk_n11_182 gk_cl182) ?_
        refine gd_ite (fun h21 => ?_) (fun _ => rfl)
        refine gd_bnd (gd_kI_c fun z24 m22 => ?_)
        refine Eq.trans (D_iadd gk_f183_46) ?_
        refine Eq.trans (D_aload_n (x := r0) gk_f183_47 rfl) ?_
        refine Eq.trans (D_iload_n (x := x1) gk_f183_48 rfl) ?_
        refine Eq.trans (D_iconst (x := 2) gk_f183_49 gk_c_2) ?_
        refine Eq.trans (D_ivI (cl := 9) (args := [.ref r0, .int x1, .int 2]) (rest := [.int (z20 + z24)]) gk_f183_50 rfl rfl (gd_rmk gk_rm183_182 gk_ln182 gk_ml182 rfl rfl rfl) gk_rk182 (gd_hnd_n gk_nc183) gk_nc182 gk_n11_182 gk_cl182) ?_
        refine gd_ite (fun h25 => ?_) (fun _ => rfl)
        refine gd_bnd (gd_kI_c fun z28 m26 => ?_)
        refine Eq.trans (D_iadd gk_f183_53) ?_
        refine Eq.trans (D_aload_n (x := r0) gk_f183_54 rfl) ?_
        refine Eq.trans (D_iload_n (x := x1) gk_f183_55 rfl) ?_
        refine Eq.trans (D_iconst (x := 3) gk_f183_56 gk_c_3) ?_
        refine Eq.trans (D_ivI (cl := 9) (args := [.ref r0, .int x1, .int 3]) (rest := [.int ((z20 + z24) + z28)]) gk_f183_57 rfl rfl (gd_rmk gk_rm183_182 gk_ln182 gk_ml182 rfl rfl rfl) gk_rk182 (gd_hnd_n gk_nc183) gk_nc182 gk_n11_182 gk_cl182) ?_
        refine gd_ite (fun h29 => ?_) (fun _ => rfl)
        refine gd_bnd (gd_kI_c fun z32 m30 => ?_)
        refine Eq.trans (D_iadd gk_f183_60) ?_
        refine Eq.trans (D_ireturn gk_f183_61 gk_rk183) ?_
        rfl
/-! GymDesk.standing (I)I -/
set_option maxRecDepth 20000 in
theorem gk_f184_0 : gd_fetch 184 0 = some (0, .iload_n 1, 1, 0, 0, 0, 0, 0) := rfl
set_option maxRecDepth 20000 in
theorem gk_f184_1 : gd_fetch 184 1 = some (1, .invokestatic 118, 3, 678, 89, 1, 0, 0) := rfl
set_option maxRecDepth 20000 in
theorem gk_f184_4 : gd_fetch 184 4 = some (4, .ifCond .ne 6, 3, 0, 0, 0, 0, 0) := rfl
set_option maxRecDepth 20000 in
theorem gk_f184_7 : gd_fetch 184 7 = some (7, .bipush (-2), 2, 0, 0, 0, 0, 0) := rfl
set_option maxRecDepth 20000 in
theorem gk_f184_9 : gd_fetch 184 9 = some (9, .ireturn, 1, 0, 0, 0, 0, 0) := rfl
set_option maxRecDepth 20000 in
theorem gk_f184_10 : gd_fetch 184 10 = some (10, .aload_n 0, 1, 0, 0, 0, 0, 0) := rfl
set_option maxRecDepth 20000 in
theorem gk_f184_11 : gd_fetch 184 11 = some (11, .iload_n 1, 1, 0, 0, 0, 0, 0) := rfl
set_option maxRecDepth 20000 in
theorem gk_f184_12 : gd_fetch 184 12 = some (12, .invokevirtual 291, 3, 925, 180, 1, 0, 0) := rfl
set_option maxRecDepth 20000 in
theorem gk_f184_15 : gd_fetch 184 15 = some (15, .istore_n 2, 1, 0, 0, 0, 0, 0) := rfl
set_option maxRecDepth 20000 in
theorem gk_f184_16 : gd_fetch 184 16 = some (16, .iconst 0, 1, 0, 0, 0, 0, 0) := rfl
set_option maxRecDepth 20000 in
theorem gk_f184_17 : gd_fetch 184 17 = some (17, .istore_n 3, 1, 0, 0, 0, 0, 0) := rfl
set_option maxRecDepth 20000 in
theorem gk_f184_18 : gd_fetch 184 18 = some (18, .iconst 0, 1, 0, 0, 0, 0, 0) := rfl
set_option maxRecDepth 20000 in
theorem gk_f184_19 : gd_fetch 184 19 = some (19, .istore 4, 2, 0, 0, 0, 0, 0) := rfl
set_option maxRecDepth 20000 in
theorem gk_f184_21 : gd_fetch 184 21 = some (21, .iload 4, 2, 0, 0, 0, 0, 0) := rfl
set_option maxRecDepth 20000 in
theorem gk_f184_23 : gd_fetch 184 23 = some (23, .bipush 10, 2, 0, 0, 0, 0, 0) := rfl
set_option maxRecDepth 20000 in
theorem gk_f184_25 : gd_fetch 184 25 = some (25, .if_icmp .ge 22, 3, 0, 0, 0, 0, 0) := rfl
set_option maxRecDepth 20000 in
theorem gk_f184_28 : gd_fetch 184 28 = some (28, .aload_n 0, 1, 0, 0, 0, 0, 0) := rfl
set_option maxRecDepth 20000 in
theorem gk_f184_29 : gd_fetch 184 29 = some (29, .iload 4, 2, 0, 0, 0, 0, 0) := rfl
set_option maxRecDepth 20000 in
theorem gk_f184_31 : gd_fetch 184 31 = some (31, .invokevirtual 291, 3, 925, 180, 1, 0, 0) := rfl
set_option maxRecDepth 20000 in
theorem gk_f184_34 : gd_fetch 184 34 = some (34, .iload_n 2, 1, 0, 0, 0, 0, 0) := rfl
set_option maxRecDepth 20000 in
theorem gk_f184_35 : gd_fetch 184 35 = some (35, .if_icmp .le 6, 3, 0, 0, 0, 0, 0) := rfl
set_option maxRecDepth 20000 in
theorem gk_f184_38 : gd_fetch 184 38 = some (38, .iinc 3 1, 3, 0, 0, 0, 0, 0) := rfl
set_option maxRecDepth 20000 in
theorem gk_f184_41 : gd_fetch 184 41 = some (41, .iinc 4 1, 3, 0, 0, 0, 0, 0) := rfl
set_option maxRecDepth 20000 in
theorem gk_f184_44 : gd_fetch 184 44 = some (44, .goto (-23), 3, 0, 0, 0, 0, 0) := rfl
set_option maxRecDepth 20000 in
theorem gk_f184_47 : gd_fetch 184 47 = some (47, .iload_n 3, 1, 0, 0, 0, 0, 0) := rfl
set_option maxRecDepth 20000 in
theorem gk_f184_48 : gd_fetch 184 48 = some (48, .iconst 1, 1, 0, 0, 0, 0, 0) := rfl
set_option maxRecDepth 20000 in
theorem gk_f184_49 : gd_fetch 184 49 = some (49, .iadd, 1, 0, 0, 0, 0, 0) := rfl
set_option maxRecDepth 20000 in
theorem gk_f184_50 : gd_fetch 184 50 = some (50, .ireturn, 1, 0, 0, 0, 0, 0) := rfl
set_option maxRecDepth 20000 in
set_option maxHeartbeats 4000000 in
theorem q_X_standing (r0 : Nat) (x1 : Int32) (m : gd_M) : gd_call 184 [.ref r0, .int x1] m = (gd_call 89 [.int x1] m).bind (gd_k0I fun z3 m1 => if (z3 = 0 : Prop) then (some (.int (-2), m1)) else (if gd_ok (gN m1) r0 6 = true then ((gd_call 180 [.ref r0, .int x1] m1).bind (gd_kI fun z9 m7 => gd_Den (184, 21, [.ref r0, .int x1, .int z9, .int 0, .int 0], [], m7))) else none)) := by
  refine Eq.trans (show gd_call 184 [.ref r0, .int x1] m = gd_Den (184, 0, [.ref r0, .int x1, .null, .null, .null], [], m) from by unfold gd_call gd_ent; rw [gk_ml184]; rfl) ?_
  refine Eq.trans (D_iload_n (x := x1) gk_f184_0 rfl) ?_
  refine Eq.trans (D_isZ (args := [.int x1]) (rest := []) gk_f184_1 rfl rfl rfl (gd_rmk gk_rm184_89 gk_ln89 gk_ml89 rfl rfl rfl) gk_rk89 (gd_hnd_n gk_nc184)) ?_
  refine gd_bnd (gd_k0I_c fun z3 m1 => ?_)
  refine Eq.trans (D_if_ne (t := 10) gk_f184_4 (by decide)) ?_
  refine gd_ite (fun h4 => ?_) (fun h5 => ?_)
  · refine Eq.trans (D_bipush (x := (-2)) gk_f184_7 gk_b_m2) ?_
    refine Eq.trans (D_ireturn gk_f184_9 gk_rk184) ?_
    rfl
  · refine Eq.trans (D_aload_n (x := r0) gk_f184_10 rfl) ?_
    refine Eq.trans (D_iload_n (x := x1) gk_f184_11 rfl) ?_
    refine Eq.trans (D_ivI (cl := 6) (args := [.ref r0, .int x1]) (rest := []) gk_f184_12 rfl rfl (gd_rmk gk_rm184_180 gk_ln180 gk_ml180 rfl rfl rfl) gk_rk180 (gd_hnd_n gk_nc184) gk_nc180 gk_n11_180 gk_cl180) ?_
    refine gd_ite (fun h6 => ?_) (fun _ => rfl)
    refine gd_bnd (gd_kI_c fun z9 m7 => ?_)
    refine Eq.trans (D_istore_n gk_f184_15 gk_st184_2) ?_
    refine Eq.trans (D_iconst (x := 0) gk_f184_16 gk_c_0) ?_
    refine Eq.trans (D_istore_n gk_f184_17 gk_st184_3) ?_
    refine Eq.trans (D_iconst (x := 0) gk_f184_18 gk_c_0) ?_
    refine Eq.trans (D_istore gk_f184_19 gk_st184_4) ?_
    rfl
set_option maxRecDepth 20000 in
set_option maxHeartbeats 4000000 in
theorem q_X_standing_21 (r0 : Nat) (x1 : Int32) (x2 : Int32) (x3 : Int32) (x4 : Int32) (m : gd_M) : gd_Den (184, 21, [.ref r0, .int x1, .int x2, .int x3, .int x4], [], m) = if (x4 < 10 : Prop) then (if gd_ok (gN m) r0 6 = true then ((gd_call 180 [.ref r0, .int x4] m).bind (gd_kI fun z6 m4 => if (x2 < z6 : Prop) then (gd_Den (184, 21, [.ref r0, .int x1, .int x2, .int (x3 + 1), .int (x4 + 1)], [], m4)) else (gd_Den (184, 21, [.ref r0, .int x1, .int x2, .int x3, .int (x4 + 1)], [], m4)))) else none) else (some (.int (x3 + 1), m)) := by
  refine Eq.trans (D_iload (x := x4) gk_f184_21 rfl) ?_
  refine Eq.trans (D_bipush (x := 10) gk_f184_23 gk_b_10) ?_
  refine Eq.trans (D_ic_ge (t := 47) gk_f184_25 (by decide)) ?_
  refine gd_ite (fun h1 => ?_) (fun h2 => ?_)
  · refine Eq.trans (D_aload_n (x := r0) gk_f184_28 rfl) ?_
    refine Eq.trans (D_iload (x := x4) gk_f184_29 rfl) ?_
    refine Eq.trans (D_ivI (cl := 6) (args := [.ref r0, .int x4]) (rest := []) gk_f184_31 rfl rfl (gd_rmk gk_rm184_180 gk_ln180 gk_ml180 rfl rfl rfl) gk_rk180 (gd_hnd_n gk_nc184) gk_nc180 gk_n11_180 gk_cl180) ?_
    refine gd_ite (fun h3 => ?_) (fun _ => rfl)
    refine gd_bnd (gd_kI_c fun z6 m4 => ?_)
    refine Eq.trans (D_iload_n (x := x2) gk_f184_34 rfl) ?_
    refine Eq.trans (D_ic_le (t := 41) gk_f184_35 (by decide)) ?_
    refine gd_ite (fun h7 => ?_) (fun h8 => ?_)
    · refine Eq.trans (D_iinc (x := x3) (y := 1) gk_f184_38 rfl gk_c_1 gk_st184_3) ?_
      refine Eq.trans (D_iinc (x := x4) (y := 1) gk_f184_41 rfl gk_c_1 gk_st184_4) ?_
      refine Eq.trans (D_goto (t := 21) gk_f184_44 (by decide)) ?_
      rfl
    · refine Eq.trans (D_iinc (x := x4) (y := 1) gk_f184_41 rfl gk_c_1 gk_st184_4) ?_
      refine Eq.trans (D_goto (t := 21) gk_f184_44 (by decide)) ?_
      rfl
  · refine Eq.trans (D_iload_n (x := x3) gk_f184_47 rfl) ?_
    refine Eq.trans (D_iconst (x := 1) gk_f184_48 gk_c_1) ?_
    refine Eq.trans (D_iadd gk_f184_49) ?_
    refine Eq.trans (D_ireturn gk_f184_50 gk_rk184) ?_
    rfl
