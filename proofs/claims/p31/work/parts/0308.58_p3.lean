theorem dg_X12_qPartTold_0_0 : bqL cX12_qPartTold 0 [(0, [4]), (1, [60]), (2, [27]), (3, [153, 0, 183]), (186, [42]), (187, [180, 0, 195]), (190, [153, 0, 4]), (194, [42]), (195, [3]), (196, [16, 10]), (198, [182, 2, 1]), (201, [61]), (202, [28]), (203, [2]), (204, [159, 0, 8]), (212, [42]), (213, [28]), (214, [2]), (215, [159, 0, 10]), (225, [17, 3, 232]), (228, [42]), (229, [3]), (230, [17, 39, 15]), (233, [182, 0, 249]), (236, [96]), (237, [182, 1, 242]), (240, [42]), (241, [182, 2, 10]), (244, [177]), (207, [42]), (208, [28]), (209, [182, 2, 7]), (218, [16, 40]), (220, [28]), (221, [96]), (222, [167, 0, 15]), (193, [177]), (6, [42]), (7, [180, 0, 195]), (10, [154, 0, 176])] = true := by decide +kernel
theorem dX12_qPartTold_0 : decode cX12_qPartTold 0 = .ok (.iconst 1, 1) := q_iconst1 (bat_get dg_X12_qPartTold_0_0 0 rfl rfl)
theorem dX12_qPartTold_1 : decode cX12_qPartTold 1 = .ok (.istore_n 1, 1) := q_istore_n1 (bat_get dg_X12_qPartTold_0_0 1 rfl rfl)
theorem dX12_qPartTold_2 : decode cX12_qPartTold 2 = .ok (.iload_n 1, 1) := q_iload_n1 (bat_get dg_X12_qPartTold_0_0 2 rfl rfl)
theorem dX12_qPartTold_3 : decode cX12_qPartTold 3 = .ok (.ifCond .eq 183, 3) := q_ifCond_eq (bat_get dg_X12_qPartTold_0_0 3 rfl rfl) rfl
theorem dX12_qPartTold_186 : decode cX12_qPartTold 186 = .ok (.aload_n 0, 1) := q_aload_n0 (bat_get dg_X12_qPartTold_0_0 4 rfl rfl)
theorem dX12_qPartTold_187 : decode cX12_qPartTold 187 = .ok (.getfield 195, 3) := q_getfield (bat_get dg_X12_qPartTold_0_0 5 rfl rfl) rfl
theorem dX12_qPartTold_190 : decode cX12_qPartTold 190 = .ok (.ifCond .eq 4, 3) := q_ifCond_eq (bat_get dg_X12_qPartTold_0_0 6 rfl rfl) rfl
theorem dX12_qPartTold_194 : decode cX12_qPartTold 194 = .ok (.aload_n 0, 1) := q_aload_n0 (bat_get dg_X12_qPartTold_0_0 7 rfl rfl)
theorem dX12_qPartTold_195 : decode cX12_qPartTold 195 = .ok (.iconst 0, 1) := q_iconst0 (bat_get dg_X12_qPartTold_0_0 8 rfl rfl)
theorem dX12_qPartTold_196 : decode cX12_qPartTold 196 = .ok (.bipush 10, 2) := q_bipush (bat_get dg_X12_qPartTold_0_0 9 rfl rfl) rfl
theorem dX12_qPartTold_198 : decode cX12_qPartTold 198 = .ok (.invokevirtual 513, 3) := q_invokevirtual (bat_get dg_X12_qPartTold_0_0 10 rfl rfl) rfl
theorem dX12_qPartTold_201 : decode cX12_qPartTold 201 = .ok (.istore_n 2, 1) := q_istore_n2 (bat_get dg_X12_qPartTold_0_0 11 rfl rfl)
theorem dX12_qPartTold_202 : decode cX12_qPartTold 202 = .ok (.iload_n 2, 1) := q_iload_n2 (bat_get dg_X12_qPartTold_0_0 12 rfl rfl)
theorem dX12_qPartTold_203 : decode cX12_qPartTold 203 = .ok (.iconst (-1), 1) := q_iconstm1 (bat_get dg_X12_qPartTold_0_0 13 rfl rfl)
theorem dX12_qPartTold_204 : decode cX12_qPartTold 204 = .ok (.if_icmp .eq 8, 3) := q_if_icmp_eq (bat_get dg_X12_qPartTold_0_0 14 rfl rfl) rfl
theorem dX12_qPartTold_212 : decode cX12_qPartTold 212 = .ok (.aload_n 0, 1) := q_aload_n0 (bat_get dg_X12_qPartTold_0_0 15 rfl rfl)
theorem dX12_qPartTold_213 : decode cX12_qPartTold 213 = .ok (.iload_n 2, 1) := q_iload_n2 (bat_get dg_X12_qPartTold_0_0 16 rfl rfl)
theorem dX12_qPartTold_214 : decode cX12_qPartTold 214 = .ok (.iconst (-1), 1) := q_iconstm1 (bat_get dg_X12_qPartTold_0_0 17 rfl rfl)
theorem dX12_qPartTold_215 : decode cX12_qPartTold 215 = .ok (.if_icmp .eq 10, 3) := q_if_icmp_eq (bat_get dg_X12_qPartTold_0_0 18 rfl rfl) rfl
theorem dX12_qPartTold_225 : decode cX12_qPartTold 225 = .ok (.sipush 1000, 3) := q_sipush (bat_get dg_X12_qPartTold_0_0 19 rfl rfl) rfl
theorem dX12_qPartTold_228 : decode cX12_qPartTold 228 = .ok (.aload_n 0, 1) := q_aload_n0 (bat_get dg_X12_qPartTold_0_0 20 rfl rfl)
theorem dX12_qPartTold_229 : decode cX12_qPartTold 229 = .ok (.iconst 0, 1) := q_iconst0 (bat_get dg_X12_qPartTold_0_0 21 rfl rfl)
theorem dX12_qPartTold_230 : decode cX12_qPartTold 230 = .ok (.sipush 9999, 3) := q_sipush (bat_get dg_X12_qPartTold_0_0 22 rfl rfl) rfl
theorem dX12_qPartTold_233 : decode cX12_qPartTold 233 = .ok (.invokevirtual 249, 3) := q_invokevirtual (bat_get dg_X12_qPartTold_0_0 23 rfl rfl) rfl
theorem dX12_qPartTold_236 : decode cX12_qPartTold 236 = .ok (.iadd, 1) := q_iadd (bat_get dg_X12_qPartTold_0_0 24 rfl rfl)
theorem dX12_qPartTold_237 : decode cX12_qPartTold 237 = .ok (.invokevirtual 498, 3) := q_invokevirtual (bat_get dg_X12_qPartTold_0_0 25 rfl rfl) rfl
theorem dX12_qPartTold_240 : decode cX12_qPartTold 240 = .ok (.aload_n 0, 1) := q_aload_n0 (bat_get dg_X12_qPartTold_0_0 26 rfl rfl)
theorem dX12_qPartTold_241 : decode cX12_qPartTold 241 = .ok (.invokevirtual 522, 3) := q_invokevirtual (bat_get dg_X12_qPartTold_0_0 27 rfl rfl) rfl
theorem dX12_qPartTold_244 : decode cX12_qPartTold 244 = .ok (.return_, 1) := q_return_ (bat_get dg_X12_qPartTold_0_0 28 rfl rfl)
theorem dX12_qPartTold_207 : decode cX12_qPartTold 207 = .ok (.aload_n 0, 1) := q_aload_n0 (bat_get dg_X12_qPartTold_0_0 29 rfl rfl)
theorem dX12_qPartTold_208 : decode cX12_qPartTold 208 = .ok (.iload_n 2, 1) := q_iload_n2 (bat_get dg_X12_qPartTold_0_0 30 rfl rfl)
theorem dX12_qPartTold_209 : decode cX12_qPartTold 209 = .ok (.invokevirtual 519, 3) := q_invokevirtual (bat_get dg_X12_qPartTold_0_0 31 rfl rfl) rfl
theorem dX12_qPartTold_218 : decode cX12_qPartTold 218 = .ok (.bipush 40, 2) := q_bipush (bat_get dg_X12_qPartTold_0_0 32 rfl rfl) rfl
theorem dX12_qPartTold_220 : decode cX12_qPartTold 220 = .ok (.iload_n 2, 1) := q_iload_n2 (bat_get dg_X12_qPartTold_0_0 33 rfl rfl)
theorem dX12_qPartTold_221 : decode cX12_qPartTold 221 = .ok (.iadd, 1) := q_iadd (bat_get dg_X12_qPartTold_0_0 34 rfl rfl)
theorem dX12_qPartTold_222 : decode cX12_qPartTold 222 = .ok (.goto 15, 3) := q_goto (bat_get dg_X12_qPartTold_0_0 35 rfl rfl) rfl
theorem dX12_qPartTold_193 : decode cX12_qPartTold 193 = .ok (.return_, 1) := q_return_ (bat_get dg_X12_qPartTold_0_0 36 rfl rfl)
theorem dX12_qPartTold_6 : decode cX12_qPartTold 6 = .ok (.aload_n 0, 1) := q_aload_n0 (bat_get dg_X12_qPartTold_0_0 37 rfl rfl)
theorem dX12_qPartTold_7 : decode cX12_qPartTold 7 = .ok (.getfield 195, 3) := q_getfield (bat_get dg_X12_qPartTold_0_0 38 rfl rfl) rfl
theorem dX12_qPartTold_10 : decode cX12_qPartTold 10 = .ok (.ifCond .ne 176, 3) := q_ifCond_ne (bat_get dg_X12_qPartTold_0_0 39 rfl rfl) rfl
theorem dg_X12_qPartTold_13_13 : bqL cX12_qPartTold 13 [(0, [42]), (1, [182, 0, 207]), (4, [61]), (5, [42]), (6, [16, 10]), (8, [16, 11]), (10, [182, 2, 1]), (13, [62]), (14, [28]), (15, [16, 40]), (17, [160, 0, 26]), (43, [42]), (44, [42]), (45, [180, 0, 144]), (48, [182, 0, 218]), (51, [154, 0, 14]), (65, [42]), (66, [42]), (67, [180, 0, 144]), (70, [182, 0, 222]), (73, [54, 4]), (75, [21, 4]), (77, [154, 0, 11]), (88, [42]), (89, [182, 0, 207]), (92, [16, 40]), (94, [160, 0, 10]), (104, [2]), (105, [54, 5]), (107, [21, 5]), (109, [2]), (110, [159, 0, 21]), (131, [42]), (132, [16, 40]), (134, [182, 0, 253]), (137, [167, 0, 33]), (170, [167, 255, 75]), (97, [42]), (98, [180, 0, 201]), (101, [167, 0, 4])] = true := by decide +kernel
theorem dX12_qPartTold_13 : decode cX12_qPartTold 13 = .ok (.aload_n 0, 1) := q_aload_n0 (bat_get dg_X12_qPartTold_13_13 0 rfl rfl)
theorem dX12_qPartTold_14 : decode cX12_qPartTold 14 = .ok (.invokevirtual 207, 3) := q_invokevirtual (bat_get dg_X12_qPartTold_13_13 1 rfl rfl) rfl
theorem dX12_qPartTold_17 : decode cX12_qPartTold 17 = .ok (.istore_n 2, 1) := q_istore_n2 (bat_get dg_X12_qPartTold_13_13 2 rfl rfl)
theorem dX12_qPartTold_18 : decode cX12_qPartTold 18 = .ok (.aload_n 0, 1) := q_aload_n0 (bat_get dg_X12_qPartTold_13_13 3 rfl rfl)
theorem dX12_qPartTold_19 : decode cX12_qPartTold 19 = .ok (.bipush 10, 2) := q_bipush (bat_get dg_X12_qPartTold_13_13 4 rfl rfl) rfl
theorem dX12_qPartTold_21 : decode cX12_qPartTold 21 = .ok (.bipush 11, 2) := q_bipush (bat_get dg_X12_qPartTold_13_13 5 rfl rfl) rfl
theorem dX12_qPartTold_23 : decode cX12_qPartTold 23 = .ok (.invokevirtual 513, 3) := q_invokevirtual (bat_get dg_X12_qPartTold_13_13 6 rfl rfl) rfl
theorem dX12_qPartTold_26 : decode cX12_qPartTold 26 = .ok (.istore_n 3, 1) := q_istore_n3 (bat_get dg_X12_qPartTold_13_13 7 rfl rfl)
theorem dX12_qPartTold_27 : decode cX12_qPartTold 27 = .ok (.iload_n 2, 1) := q_iload_n2 (bat_get dg_X12_qPartTold_13_13 8 rfl rfl)
theorem dX12_qPartTold_28 : decode cX12_qPartTold 28 = .ok (.bipush 40, 2) := q_bipush (bat_get dg_X12_qPartTold_13_13 9 rfl rfl) rfl
theorem dX12_qPartTold_30 : decode cX12_qPartTold 30 = .ok (.if_icmp .ne 26, 3) := q_if_icmp_ne (bat_get dg_X12_qPartTold_13_13 10 rfl rfl) rfl
theorem dX12_qPartTold_56 : decode cX12_qPartTold 56 = .ok (.aload_n 0, 1) := q_aload_n0 (bat_get dg_X12_qPartTold_13_13 11 rfl rfl)
theorem dX12_qPartTold_57 : decode cX12_qPartTold 57 = .ok (.aload_n 0, 1) := q_aload_n0 (bat_get dg_X12_qPartTold_13_13 12 rfl rfl)
theorem dX12_qPartTold_58 : decode cX12_qPartTold 58 = .ok (.getfield 144, 3) := q_getfield (bat_get dg_X12_qPartTold_13_13 13 rfl rfl) rfl
theorem dX12_qPartTold_61 : decode cX12_qPartTold 61 = .ok (.invokevirtual 218, 3) := q_invokevirtual (bat_get dg_X12_qPartTold_13_13 14 rfl rfl) rfl
theorem dX12_qPartTold_64 : decode cX12_qPartTold 64 = .ok (.ifCond .ne 14, 3) := q_ifCond_ne (bat_get dg_X12_qPartTold_13_13 15 rfl rfl) rfl
theorem dX12_qPartTold_78 : decode cX12_qPartTold 78 = .ok (.aload_n 0, 1) := q_aload_n0 (bat_get dg_X12_qPartTold_13_13 16 rfl rfl)
theorem dX12_qPartTold_79 : decode cX12_qPartTold 79 = .ok (.aload_n 0, 1) := q_aload_n0 (bat_get dg_X12_qPartTold_13_13 17 rfl rfl)
theorem dX12_qPartTold_80 : decode cX12_qPartTold 80 = .ok (.getfield 144, 3) := q_getfield (bat_get dg_X12_qPartTold_13_13 18 rfl rfl) rfl
theorem dX12_qPartTold_83 : decode cX12_qPartTold 83 = .ok (.invokevirtual 222, 3) := q_invokevirtual (bat_get dg_X12_qPartTold_13_13 19 rfl rfl) rfl
theorem dX12_qPartTold_86 : decode cX12_qPartTold 86 = .ok (.istore 4, 2) := q_istore (bat_get dg_X12_qPartTold_13_13 20 rfl rfl)
theorem dX12_qPartTold_88 : decode cX12_qPartTold 88 = .ok (.iload 4, 2) := q_iload (bat_get dg_X12_qPartTold_13_13 21 rfl rfl)
theorem dX12_qPartTold_90 : decode cX12_qPartTold 90 = .ok (.ifCond .ne 11, 3) := q_ifCond_ne (bat_get dg_X12_qPartTold_13_13 22 rfl rfl) rfl
theorem dX12_qPartTold_101 : decode cX12_qPartTold 101 = .ok (.aload_n 0, 1) := q_aload_n0 (bat_get dg_X12_qPartTold_13_13 23 rfl rfl)
theorem dX12_qPartTold_102 : decode cX12_qPartTold 102 = .ok (.invokevirtual 207, 3) := q_invokevirtual (bat_get dg_X12_qPartTold_13_13 24 rfl rfl) rfl
theorem dX12_qPartTold_105 : decode cX12_qPartTold 105 = .ok (.bipush 40, 2) := q_bipush (bat_get dg_X12_qPartTold_13_13 25 rfl rfl) rfl
theorem dX12_qPartTold_107 : decode cX12_qPartTold 107 = .ok (.if_icmp .ne 10, 3) := q_if_icmp_ne (bat_get dg_X12_qPartTold_13_13 26 rfl rfl) rfl
theorem dX12_qPartTold_117 : decode cX12_qPartTold 117 = .ok (.iconst (-1), 1) := q_iconstm1 (bat_get dg_X12_qPartTold_13_13 27 rfl rfl)
theorem dX12_qPartTold_118 : decode cX12_qPartTold 118 = .ok (.istore 5, 2) := q_istore (bat_get dg_X12_qPartTold_13_13 28 rfl rfl)
theorem dX12_qPartTold_120 : decode cX12_qPartTold 120 = .ok (.iload 5, 2) := q_iload (bat_get dg_X12_qPartTold_13_13 29 rfl rfl)
theorem dX12_qPartTold_122 : decode cX12_qPartTold 122 = .ok (.iconst (-1), 1) := q_iconstm1 (bat_get dg_X12_qPartTold_13_13 30 rfl rfl)
theorem dX12_qPartTold_123 : decode cX12_qPartTold 123 = .ok (.if_icmp .eq 21, 3) := q_if_icmp_eq (bat_get dg_X12_qPartTold_13_13 31 rfl rfl) rfl
theorem dX12_qPartTold_144 : decode cX12_qPartTold 144 = .ok (.aload_n 0, 1) := q_aload_n0 (bat_get dg_X12_qPartTold_13_13 32 rfl rfl)
theorem dX12_qPartTold_145 : decode cX12_qPartTold 145 = .ok (.bipush 40, 2) := q_bipush (bat_get dg_X12_qPartTold_13_13 33 rfl rfl) rfl
theorem dX12_qPartTold_147 : decode cX12_qPartTold 147 = .ok (.invokevirtual 253, 3) := q_invokevirtual (bat_get dg_X12_qPartTold_13_13 34 rfl rfl) rfl
theorem dX12_qPartTold_150 : decode cX12_qPartTold 150 = .ok (.goto 33, 3) := q_goto (bat_get dg_X12_qPartTold_13_13 35 rfl rfl) rfl
theorem dX12_qPartTold_183 : decode cX12_qPartTold 183 = .ok (.goto (-181), 3) := q_goto (bat_get dg_X12_qPartTold_13_13 36 rfl rfl) rfl
theorem dX12_qPartTold_110 : decode cX12_qPartTold 110 = .ok (.aload_n 0, 1) := q_aload_n0 (bat_get dg_X12_qPartTold_13_13 37 rfl rfl)
theorem dX12_qPartTold_111 : decode cX12_qPartTold 111 = .ok (.getfield 201, 3) := q_getfield (bat_get dg_X12_qPartTold_13_13 38 rfl rfl) rfl
theorem dX12_qPartTold_114 : decode cX12_qPartTold 114 = .ok (.goto 4, 3) := q_goto (bat_get dg_X12_qPartTold_13_13 39 rfl rfl) rfl
theorem dg_X12_qPartTold_33_126 : bqL cX12_qPartTold 33 [(93, [42]), (94, [21, 4]), (96, [153, 0, 8]), (104, [16, 22]), (106, [21, 5]), (108, [182, 2, 4]), (99, [16, 21]), (101, [167, 0, 5]), (60, [42]), (61, [42]), (62, [180, 0, 147]), (65, [182, 0, 245]), (34, [42]), (35, [42]), (36, [180, 0, 147]), (39, [182, 0, 218]), (42, [153, 0, 78]), (120, [29]), (121, [2]), (122, [159, 0, 26]), (148, [3]), (149, [60]), (125, [42]), (126, [16, 60]), (128, [29]), (129, [96]), (130, [16, 10]), (132, [100]), (133, [42]), (134, [180, 0, 201]), (137, [182, 2, 4]), (140, [42]), (141, [29]), (142, [182, 2, 7]), (145, [167, 0, 5]), (0, [42]), (1, [16, 20]), (3, [42]), (4, [180, 0, 201]), (7, [182, 2, 4])] = true := by decide +kernel
theorem dX12_qPartTold_126 : decode cX12_qPartTold 126 = .ok (.aload_n 0, 1) := q_aload_n0 (bat_get dg_X12_qPartTold_33_126 0 rfl rfl)
theorem dX12_qPartTold_127 : decode cX12_qPartTold 127 = .ok (.iload 4, 2) := q_iload (bat_get dg_X12_qPartTold_33_126 1 rfl rfl)
theorem dX12_qPartTold_129 : decode cX12_qPartTold 129 = .ok (.ifCond .eq 8, 3) := q_ifCond_eq (bat_get dg_X12_qPartTold_33_126 2 rfl rfl) rfl
theorem dX12_qPartTold_137 : decode cX12_qPartTold 137 = .ok (.bipush 22, 2) := q_bipush (bat_get dg_X12_qPartTold_33_126 3 rfl rfl) rfl
theorem dX12_qPartTold_139 : decode cX12_qPartTold 139 = .ok (.iload 5, 2) := q_iload (bat_get dg_X12_qPartTold_33_126 4 rfl rfl)
theorem dX12_qPartTold_141 : decode cX12_qPartTold 141 = .ok (.invokevirtual 516, 3) := q_invokevirtual (bat_get dg_X12_qPartTold_33_126 5 rfl rfl) rfl
theorem dX12_qPartTold_132 : decode cX12_qPartTold 132 = .ok (.bipush 21, 2) := q_bipush (bat_get dg_X12_qPartTold_33_126 6 rfl rfl) rfl
theorem dX12_qPartTold_134 : decode cX12_qPartTold 134 = .ok (.goto 5, 3) := q_goto (bat_get dg_X12_qPartTold_33_126 7 rfl rfl) rfl
theorem dX12_qPartTold_93 : decode cX12_qPartTold 93 = .ok (.aload_n 0, 1) := q_aload_n0 (bat_get dg_X12_qPartTold_33_126 8 rfl rfl)
theorem dX12_qPartTold_94 : decode cX12_qPartTold 94 = .ok (.aload_n 0, 1) := q_aload_n0 (bat_get dg_X12_qPartTold_33_126 9 rfl rfl)
theorem dX12_qPartTold_95 : decode cX12_qPartTold 95 = .ok (.getfield 147, 3) := q_getfield (bat_get dg_X12_qPartTold_33_126 10 rfl rfl) rfl
theorem dX12_qPartTold_98 : decode cX12_qPartTold 98 = .ok (.invokevirtual 245, 3) := q_invokevirtual (bat_get dg_X12_qPartTold_33_126 11 rfl rfl) rfl
theorem dX12_qPartTold_67 : decode cX12_qPartTold 67 = .ok (.aload_n 0, 1) := q_aload_n0 (bat_get dg_X12_qPartTold_33_126 12 rfl rfl)
theorem dX12_qPartTold_68 : decode cX12_qPartTold 68 = .ok (.aload_n 0, 1) := q_aload_n0 (bat_get dg_X12_qPartTold_33_126 13 rfl rfl)
theorem dX12_qPartTold_69 : decode cX12_qPartTold 69 = .ok (.getfield 147, 3) := q_getfield (bat_get dg_X12_qPartTold_33_126 14 rfl rfl) rfl
theorem dX12_qPartTold_72 : decode cX12_qPartTold 72 = .ok (.invokevirtual 218, 3) := q_invokevirtual (bat_get dg_X12_qPartTold_33_126 15 rfl rfl) rfl
theorem dX12_qPartTold_75 : decode cX12_qPartTold 75 = .ok (.ifCond .eq 78, 3) := q_ifCond_eq (bat_get dg_X12_qPartTold_33_126 16 rfl rfl) rfl
theorem dX12_qPartTold_153 : decode cX12_qPartTold 153 = .ok (.iload_n 3, 1) := q_iload_n3 (bat_get dg_X12_qPartTold_33_126 17 rfl rfl)
theorem dX12_qPartTold_154 : decode cX12_qPartTold 154 = .ok (.iconst (-1), 1) := q_iconstm1 (bat_get dg_X12_qPartTold_33_126 18 rfl rfl)
theorem dX12_qPartTold_155 : decode cX12_qPartTold 155 = .ok (.if_icmp .eq 26, 3) := q_if_icmp_eq (bat_get dg_X12_qPartTold_33_126 19 rfl rfl) rfl
theorem dX12_qPartTold_181 : decode cX12_qPartTold 181 = .ok (.iconst 0, 1) := q_iconst0 (bat_get dg_X12_qPartTold_33_126 20 rfl rfl)
theorem dX12_qPartTold_182 : decode cX12_qPartTold 182 = .ok (.istore_n 1, 1) := q_istore_n1 (bat_get dg_X12_qPartTold_33_126 21 rfl rfl)
