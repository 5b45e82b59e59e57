theorem dg_J9_floorMod_f86c9_0_0 : bqL cJ9_floorMod_f86c9 0 [(0, [30]), (1, [32]), (2, [113]), (3, [55, 4]), (5, [30]), (6, [32]), (7, [131]), (8, [9]), (9, [148]), (10, [156, 0, 15]), (25, [22, 4]), (27, [173]), (13, [22, 4]), (15, [9]), (16, [148]), (17, [153, 0, 8]), (20, [22, 4]), (22, [32]), (23, [97]), (24, [173])] = true := by decide +kernel
theorem dJ9_floorMod_f86c9_0 : decode cJ9_floorMod_f86c9 0 = .ok (.lload_n 0, 1) := q_lload_n0 (bat_get dg_J9_floorMod_f86c9_0_0 0 rfl rfl)
theorem dJ9_floorMod_f86c9_1 : decode cJ9_floorMod_f86c9 1 = .ok (.lload_n 2, 1) := q_lload_n2 (bat_get dg_J9_floorMod_f86c9_0_0 1 rfl rfl)
theorem dJ9_floorMod_f86c9_2 : decode cJ9_floorMod_f86c9 2 = .ok (.lrem, 1) := q_lrem (bat_get dg_J9_floorMod_f86c9_0_0 2 rfl rfl)
theorem dJ9_floorMod_f86c9_3 : decode cJ9_floorMod_f86c9 3 = .ok (.lstore 4, 2) := q_lstore (bat_get dg_J9_floorMod_f86c9_0_0 3 rfl rfl)
theorem dJ9_floorMod_f86c9_5 : decode cJ9_floorMod_f86c9 5 = .ok (.lload_n 0, 1) := q_lload_n0 (bat_get dg_J9_floorMod_f86c9_0_0 4 rfl rfl)
theorem dJ9_floorMod_f86c9_6 : decode cJ9_floorMod_f86c9 6 = .ok (.lload_n 2, 1) := q_lload_n2 (bat_get dg_J9_floorMod_f86c9_0_0 5 rfl rfl)
theorem dJ9_floorMod_f86c9_7 : decode cJ9_floorMod_f86c9 7 = .ok (.lxor, 1) := q_lxor (bat_get dg_J9_floorMod_f86c9_0_0 6 rfl rfl)
theorem dJ9_floorMod_f86c9_8 : decode cJ9_floorMod_f86c9 8 = .ok (.lconst 0, 1) := q_lconst0 (bat_get dg_J9_floorMod_f86c9_0_0 7 rfl rfl)
theorem dJ9_floorMod_f86c9_9 : decode cJ9_floorMod_f86c9 9 = .ok (.lcmp, 1) := q_lcmp (bat_get dg_J9_floorMod_f86c9_0_0 8 rfl rfl)
theorem dJ9_floorMod_f86c9_10 : decode cJ9_floorMod_f86c9 10 = .ok (.ifCond .ge 15, 3) := q_ifCond_ge (bat_get dg_J9_floorMod_f86c9_0_0 9 rfl rfl) rfl
theorem dJ9_floorMod_f86c9_25 : decode cJ9_floorMod_f86c9 25 = .ok (.lload 4, 2) := q_lload (bat_get dg_J9_floorMod_f86c9_0_0 10 rfl rfl)
theorem dJ9_floorMod_f86c9_27 : decode cJ9_floorMod_f86c9 27 = .ok (.lreturn, 1) := q_lreturn (bat_get dg_J9_floorMod_f86c9_0_0 11 rfl rfl)
theorem dJ9_floorMod_f86c9_13 : decode cJ9_floorMod_f86c9 13 = .ok (.lload 4, 2) := q_lload (bat_get dg_J9_floorMod_f86c9_0_0 12 rfl rfl)
theorem dJ9_floorMod_f86c9_15 : decode cJ9_floorMod_f86c9 15 = .ok (.lconst 0, 1) := q_lconst0 (bat_get dg_J9_floorMod_f86c9_0_0 13 rfl rfl)
theorem dJ9_floorMod_f86c9_16 : decode cJ9_floorMod_f86c9 16 = .ok (.lcmp, 1) := q_lcmp (bat_get dg_J9_floorMod_f86c9_0_0 14 rfl rfl)
theorem dJ9_floorMod_f86c9_17 : decode cJ9_floorMod_f86c9 17 = .ok (.ifCond .eq 8, 3) := q_ifCond_eq (bat_get dg_J9_floorMod_f86c9_0_0 15 rfl rfl) rfl
theorem dJ9_floorMod_f86c9_20 : decode cJ9_floorMod_f86c9 20 = .ok (.lload 4, 2) := q_lload (bat_get dg_J9_floorMod_f86c9_0_0 16 rfl rfl)
theorem dJ9_floorMod_f86c9_22 : decode cJ9_floorMod_f86c9 22 = .ok (.lload_n 2, 1) := q_lload_n2 (bat_get dg_J9_floorMod_f86c9_0_0 17 rfl rfl)
theorem dJ9_floorMod_f86c9_23 : decode cJ9_floorMod_f86c9 23 = .ok (.ladd, 1) := q_ladd (bat_get dg_J9_floorMod_f86c9_0_0 18 rfl rfl)
theorem dJ9_floorMod_f86c9_24 : decode cJ9_floorMod_f86c9 24 = .ok (.lreturn, 1) := q_lreturn (bat_get dg_J9_floorMod_f86c9_0_0 19 rfl rfl)
theorem w_4_12 : (Cond.code yJ9_floorMod_f86c9 cJ9_floorMod_f86c9 6 (some .long)) ∈ wsL_law := sk_mem (ck_4 _ (List.mem_of_getElem? (i := 12) rfl)) rfl
theorem dg_J9_floorMod_1978a_0_0 : bqL cJ9_floorMod_1978a 0 [(0, [30]), (1, [28]), (2, [133]), (3, [184, 0, 146]), (6, [136]), (7, [172])] = true := by decide +kernel
theorem dJ9_floorMod_1978a_0 : decode cJ9_floorMod_1978a 0 = .ok (.lload_n 0, 1) := q_lload_n0 (bat_get dg_J9_floorMod_1978a_0_0 0 rfl rfl)
theorem dJ9_floorMod_1978a_1 : decode cJ9_floorMod_1978a 1 = .ok (.iload_n 2, 1) := q_iload_n2 (bat_get dg_J9_floorMod_1978a_0_0 1 rfl rfl)
theorem dJ9_floorMod_1978a_2 : decode cJ9_floorMod_1978a 2 = .ok (.i2l, 1) := q_i2l (bat_get dg_J9_floorMod_1978a_0_0 2 rfl rfl)
theorem dJ9_floorMod_1978a_3 : decode cJ9_floorMod_1978a 3 = .ok (.invokestatic 146, 3) := q_invokestatic (bat_get dg_J9_floorMod_1978a_0_0 3 rfl rfl) rfl
theorem dJ9_floorMod_1978a_6 : decode cJ9_floorMod_1978a 6 = .ok (.l2i, 1) := q_l2i (bat_get dg_J9_floorMod_1978a_0_0 4 rfl rfl)
theorem dJ9_floorMod_1978a_7 : decode cJ9_floorMod_1978a 7 = .ok (.ireturn, 1) := q_ireturn (bat_get dg_J9_floorMod_1978a_0_0 5 rfl rfl)
theorem w_4_10 : (Cond.methodLink RJ9 146 yJ9_floorMod_f86c9) ∈ wsL_law := sk_mem (ck_4 _ (List.mem_of_getElem? (i := 10) rfl)) rfl
theorem w_4_11 : (Cond.static yJ9_floorMod_f86c9) ∈ wsL_law := sk_mem (ck_4 _ (List.mem_of_getElem? (i := 11) rfl)) rfl
theorem w_4_9 : (Cond.code yJ9_floorMod_1978a cJ9_floorMod_1978a 3 (some .int)) ∈ wsL_law := sk_mem (ck_4 _ (List.mem_of_getElem? (i := 9) rfl)) rfl
theorem hd_J9_floorMod_f86c9_2 : skD yJ9_floorMod_f86c9 2 := by decide +kernel
theorem dg_X0_run_0_0 : bqL cX0_run 0 [(0, [3]), (1, [62]), (2, [27]), (3, [3]), (4, [184, 0, 35]), (7, [54, 4]), (9, [21, 4]), (11, [28]), (12, [162, 0, 161]), (173, [29]), (174, [158, 0, 12]), (186, [9]), (187, [173]), (177, [42]), (178, [180, 0, 17]), (181, [3]), (182, [47]), (183, [167, 0, 4]), (15, [21, 4]), (17, [42]), (18, [180, 0, 27]), (21, [162, 0, 152]), (24, [42]), (25, [180, 0, 11]), (28, [21, 4]), (30, [46]), (31, [54, 5]), (33, [21, 5]), (35, [17, 117, 48]), (38, [161, 0, 41]), (79, [21, 5]), (81, [17, 78, 32]), (84, [161, 0, 32]), (116, [29]), (117, [42]), (118, [180, 0, 17]), (121, [190]), (122, [162, 0, 45]), (167, [132, 4, 1]), (170, [167, 255, 95])] = true := by decide +kernel
theorem dX0_run_0 : decode cX0_run 0 = .ok (.iconst 0, 1) := q_iconst0 (bat_get dg_X0_run_0_0 0 rfl rfl)
theorem dX0_run_1 : decode cX0_run 1 = .ok (.istore_n 3, 1) := q_istore_n3 (bat_get dg_X0_run_0_0 1 rfl rfl)
theorem dX0_run_2 : decode cX0_run 2 = .ok (.iload_n 1, 1) := q_iload_n1 (bat_get dg_X0_run_0_0 2 rfl rfl)
theorem dX0_run_3 : decode cX0_run 3 = .ok (.iconst 0, 1) := q_iconst0 (bat_get dg_X0_run_0_0 3 rfl rfl)
theorem dX0_run_4 : decode cX0_run 4 = .ok (.invokestatic 35, 3) := q_invokestatic (bat_get dg_X0_run_0_0 4 rfl rfl) rfl
theorem dX0_run_7 : decode cX0_run 7 = .ok (.istore 4, 2) := q_istore (bat_get dg_X0_run_0_0 5 rfl rfl)
theorem dX0_run_9 : decode cX0_run 9 = .ok (.iload 4, 2) := q_iload (bat_get dg_X0_run_0_0 6 rfl rfl)
theorem dX0_run_11 : decode cX0_run 11 = .ok (.iload_n 2, 1) := q_iload_n2 (bat_get dg_X0_run_0_0 7 rfl rfl)
theorem dX0_run_12 : decode cX0_run 12 = .ok (.if_icmp .ge 161, 3) := q_if_icmp_ge (bat_get dg_X0_run_0_0 8 rfl rfl) rfl
theorem dX0_run_173 : decode cX0_run 173 = .ok (.iload_n 3, 1) := q_iload_n3 (bat_get dg_X0_run_0_0 9 rfl rfl)
theorem dX0_run_174 : decode cX0_run 174 = .ok (.ifCond .le 12, 3) := q_ifCond_le (bat_get dg_X0_run_0_0 10 rfl rfl) rfl
theorem dX0_run_186 : decode cX0_run 186 = .ok (.lconst 0, 1) := q_lconst0 (bat_get dg_X0_run_0_0 11 rfl rfl)
theorem dX0_run_187 : decode cX0_run 187 = .ok (.lreturn, 1) := q_lreturn (bat_get dg_X0_run_0_0 12 rfl rfl)
theorem dX0_run_177 : decode cX0_run 177 = .ok (.aload_n 0, 1) := q_aload_n0 (bat_get dg_X0_run_0_0 13 rfl rfl)
theorem dX0_run_178 : decode cX0_run 178 = .ok (.getfield 17, 3) := q_getfield (bat_get dg_X0_run_0_0 14 rfl rfl) rfl
theorem dX0_run_181 : decode cX0_run 181 = .ok (.iconst 0, 1) := q_iconst0 (bat_get dg_X0_run_0_0 15 rfl rfl)
theorem dX0_run_182 : decode cX0_run 182 = .ok (.laload, 1) := q_laload (bat_get dg_X0_run_0_0 16 rfl rfl)
theorem dX0_run_183 : decode cX0_run 183 = .ok (.goto 4, 3) := q_goto (bat_get dg_X0_run_0_0 17 rfl rfl) rfl
theorem dX0_run_15 : decode cX0_run 15 = .ok (.iload 4, 2) := q_iload (bat_get dg_X0_run_0_0 18 rfl rfl)
theorem dX0_run_17 : decode cX0_run 17 = .ok (.aload_n 0, 1) := q_aload_n0 (bat_get dg_X0_run_0_0 19 rfl rfl)
theorem dX0_run_18 : decode cX0_run 18 = .ok (.getfield 27, 3) := q_getfield (bat_get dg_X0_run_0_0 20 rfl rfl) rfl
theorem dX0_run_21 : decode cX0_run 21 = .ok (.if_icmp .ge 152, 3) := q_if_icmp_ge (bat_get dg_X0_run_0_0 21 rfl rfl) rfl
theorem dX0_run_24 : decode cX0_run 24 = .ok (.aload_n 0, 1) := q_aload_n0 (bat_get dg_X0_run_0_0 22 rfl rfl)
theorem dX0_run_25 : decode cX0_run 25 = .ok (.getfield 11, 3) := q_getfield (bat_get dg_X0_run_0_0 23 rfl rfl) rfl
theorem dX0_run_28 : decode cX0_run 28 = .ok (.iload 4, 2) := q_iload (bat_get dg_X0_run_0_0 24 rfl rfl)
theorem dX0_run_30 : decode cX0_run 30 = .ok (.iaload, 1) := q_iaload (bat_get dg_X0_run_0_0 25 rfl rfl)
theorem dX0_run_31 : decode cX0_run 31 = .ok (.istore 5, 2) := q_istore (bat_get dg_X0_run_0_0 26 rfl rfl)
theorem dX0_run_33 : decode cX0_run 33 = .ok (.iload 5, 2) := q_iload (bat_get dg_X0_run_0_0 27 rfl rfl)
theorem dX0_run_35 : decode cX0_run 35 = .ok (.sipush 30000, 3) := q_sipush (bat_get dg_X0_run_0_0 28 rfl rfl) rfl
theorem dX0_run_38 : decode cX0_run 38 = .ok (.if_icmp .lt 41, 3) := q_if_icmp_lt (bat_get dg_X0_run_0_0 29 rfl rfl) rfl
theorem dX0_run_79 : decode cX0_run 79 = .ok (.iload 5, 2) := q_iload (bat_get dg_X0_run_0_0 30 rfl rfl)
theorem dX0_run_81 : decode cX0_run 81 = .ok (.sipush 20000, 3) := q_sipush (bat_get dg_X0_run_0_0 31 rfl rfl) rfl
theorem dX0_run_84 : decode cX0_run 84 = .ok (.if_icmp .lt 32, 3) := q_if_icmp_lt (bat_get dg_X0_run_0_0 32 rfl rfl) rfl
theorem dX0_run_116 : decode cX0_run 116 = .ok (.iload_n 3, 1) := q_iload_n3 (bat_get dg_X0_run_0_0 33 rfl rfl)
theorem dX0_run_117 : decode cX0_run 117 = .ok (.aload_n 0, 1) := q_aload_n0 (bat_get dg_X0_run_0_0 34 rfl rfl)
theorem dX0_run_118 : decode cX0_run 118 = .ok (.getfield 17, 3) := q_getfield (bat_get dg_X0_run_0_0 35 rfl rfl) rfl
theorem dX0_run_121 : decode cX0_run 121 = .ok (.arraylength, 1) := q_arraylength (bat_get dg_X0_run_0_0 36 rfl rfl)
theorem dX0_run_122 : decode cX0_run 122 = .ok (.if_icmp .ge 45, 3) := q_if_icmp_ge (bat_get dg_X0_run_0_0 37 rfl rfl) rfl
theorem dX0_run_167 : decode cX0_run 167 = .ok (.iinc 4 1, 3) := q_iinc (bat_get dg_X0_run_0_0 38 rfl rfl) rfl
theorem dX0_run_170 : decode cX0_run 170 = .ok (.goto (-161), 3) := q_goto (bat_get dg_X0_run_0_0 39 rfl rfl) rfl
theorem dg_X0_run_41_125 : bqL cX0_run 41 [(84, [21, 5]), (86, [17, 39, 16]), (89, [100]), (90, [54, 6]), (92, [42]), (93, [180, 0, 17]), (96, [29]), (97, [21, 6]), (99, [155, 0, 20]), (119, [21, 5]), (121, [133]), (122, [80]), (123, [132, 3, 1]), (102, [21, 6]), (104, [16, 9]), (106, [162, 0, 13]), (109, [42]), (110, [180, 0, 21]), (113, [21, 6]), (115, [47]), (116, [167, 0, 6]), (46, [29]), (47, [158, 0, 79]), (50, [42]), (51, [180, 0, 17]), (54, [29]), (55, [4]), (56, [100]), (57, [42]), (58, [21, 5]), (60, [42]), (61, [180, 0, 17]), (64, [29]), (65, [4]), (66, [100]), (67, [47]), (68, [182, 0, 45]), (71, [80]), (72, [167, 0, 54]), (0, [29])] = true := by decide +kernel
theorem dX0_run_125 : decode cX0_run 125 = .ok (.iload 5, 2) := q_iload (bat_get dg_X0_run_41_125 0 rfl rfl)
theorem dX0_run_127 : decode cX0_run 127 = .ok (.sipush 10000, 3) := q_sipush (bat_get dg_X0_run_41_125 1 rfl rfl) rfl
theorem dX0_run_130 : decode cX0_run 130 = .ok (.isub, 1) := q_isub (bat_get dg_X0_run_41_125 2 rfl rfl)
theorem dX0_run_131 : decode cX0_run 131 = .ok (.istore 6, 2) := q_istore (bat_get dg_X0_run_41_125 3 rfl rfl)
theorem dX0_run_133 : decode cX0_run 133 = .ok (.aload_n 0, 1) := q_aload_n0 (bat_get dg_X0_run_41_125 4 rfl rfl)
theorem dX0_run_134 : decode cX0_run 134 = .ok (.getfield 17, 3) := q_getfield (bat_get dg_X0_run_41_125 5 rfl rfl) rfl
theorem dX0_run_137 : decode cX0_run 137 = .ok (.iload_n 3, 1) := q_iload_n3 (bat_get dg_X0_run_41_125 6 rfl rfl)
theorem dX0_run_138 : decode cX0_run 138 = .ok (.iload 6, 2) := q_iload (bat_get dg_X0_run_41_125 7 rfl rfl)
theorem dX0_run_140 : decode cX0_run 140 = .ok (.ifCond .lt 20, 3) := q_ifCond_lt (bat_get dg_X0_run_41_125 8 rfl rfl) rfl
theorem dX0_run_160 : decode cX0_run 160 = .ok (.iload 5, 2) := q_iload (bat_get dg_X0_run_41_125 9 rfl rfl)
theorem dX0_run_162 : decode cX0_run 162 = .ok (.i2l, 1) := q_i2l (bat_get dg_X0_run_41_125 10 rfl rfl)
theorem dX0_run_163 : decode cX0_run 163 = .ok (.lastore, 1) := q_lastore (bat_get dg_X0_run_41_125 11 rfl rfl)
theorem dX0_run_164 : decode cX0_run 164 = .ok (.iinc 3 1, 3) := q_iinc (bat_get dg_X0_run_41_125 12 rfl rfl) rfl
theorem dX0_run_143 : decode cX0_run 143 = .ok (.iload 6, 2) := q_iload (bat_get dg_X0_run_41_125 13 rfl rfl)
theorem dX0_run_145 : decode cX0_run 145 = .ok (.bipush 9, 2) := q_bipush (bat_get dg_X0_run_41_125 14 rfl rfl) rfl
theorem dX0_run_147 : decode cX0_run 147 = .ok (.if_icmp .ge 13, 3) := q_if_icmp_ge (bat_get dg_X0_run_41_125 15 rfl rfl) rfl
theorem dX0_run_150 : decode cX0_run 150 = .ok (.aload_n 0, 1) := q_aload_n0 (bat_get dg_X0_run_41_125 16 rfl rfl)
theorem dX0_run_151 : decode cX0_run 151 = .ok (.getfield 21, 3) := q_getfield (bat_get dg_X0_run_41_125 17 rfl rfl) rfl
theorem dX0_run_154 : decode cX0_run 154 = .ok (.iload 6, 2) := q_iload (bat_get dg_X0_run_41_125 18 rfl rfl)
theorem dX0_run_156 : decode cX0_run 156 = .ok (.laload, 1) := q_laload (bat_get dg_X0_run_41_125 19 rfl rfl)
theorem dX0_run_157 : decode cX0_run 157 = .ok (.goto 6, 3) := q_goto (bat_get dg_X0_run_41_125 20 rfl rfl) rfl
theorem dX0_run_87 : decode cX0_run 87 = .ok (.iload_n 3, 1) := q_iload_n3 (bat_get dg_X0_run_41_125 21 rfl rfl)
theorem dX0_run_88 : decode cX0_run 88 = .ok (.ifCond .le 79, 3) := q_ifCond_le (bat_get dg_X0_run_41_125 22 rfl rfl) rfl
theorem dX0_run_91 : decode cX0_run 91 = .ok (.aload_n 0, 1) := q_aload_n0 (bat_get dg_X0_run_41_125 23 rfl rfl)
theorem dX0_run_92 : decode cX0_run 92 = .ok (.getfield 17, 3) := q_getfield (bat_get dg_X0_run_41_125 24 rfl rfl) rfl
theorem dX0_run_95 : decode cX0_run 95 = .ok (.iload_n 3, 1) := q_iload_n3 (bat_get dg_X0_run_41_125 25 rfl rfl)
theorem dX0_run_96 : decode cX0_run 96 = .ok (.iconst 1, 1) := q_iconst1 (bat_get dg_X0_run_41_125 26 rfl rfl)
theorem dX0_run_97 : decode cX0_run 97 = .ok (.isub, 1) := q_isub (bat_get dg_X0_run_41_125 27 rfl rfl)
theorem dX0_run_98 : decode cX0_run 98 = .ok (.aload_n 0, 1) := q_aload_n0 (bat_get dg_X0_run_41_125 28 rfl rfl)
theorem dX0_run_99 : decode cX0_run 99 = .ok (.iload 5, 2) := q_iload (bat_get dg_X0_run_41_125 29 rfl rfl)
theorem dX0_run_101 : decode cX0_run 101 = .ok (.aload_n 0, 1) := q_aload_n0 (bat_get dg_X0_run_41_125 30 rfl rfl)
theorem dX0_run_102 : decode cX0_run 102 = .ok (.getfield 17, 3) := q_getfield (bat_get dg_X0_run_41_125 31 rfl rfl) rfl
theorem dX0_run_105 : decode cX0_run 105 = .ok (.iload_n 3, 1) := q_iload_n3 (bat_get dg_X0_run_41_125 32 rfl rfl)
theorem dX0_run_106 : decode cX0_run 106 = .ok (.iconst 1, 1) := q_iconst1 (bat_get dg_X0_run_41_125 33 rfl rfl)
theorem dX0_run_107 : decode cX0_run 107 = .ok (.isub, 1) := q_isub (bat_get dg_X0_run_41_125 34 rfl rfl)
theorem dX0_run_108 : decode cX0_run 108 = .ok (.laload, 1) := q_laload (bat_get dg_X0_run_41_125 35 rfl rfl)
theorem dX0_run_109 : decode cX0_run 109 = .ok (.invokevirtual 45, 3) := q_invokevirtual (bat_get dg_X0_run_41_125 36 rfl rfl) rfl
theorem dX0_run_112 : decode cX0_run 112 = .ok (.lastore, 1) := q_lastore (bat_get dg_X0_run_41_125 37 rfl rfl)
theorem dX0_run_113 : decode cX0_run 113 = .ok (.goto 54, 3) := q_goto (bat_get dg_X0_run_41_125 38 rfl rfl) rfl
theorem dX0_run_41 : decode cX0_run 41 = .ok (.iload_n 3, 1) := q_iload_n3 (bat_get dg_X0_run_41_125 39 rfl rfl)
theorem dg_X0_run_42_42 : bqL cX0_run 42 [(0, [4]), (1, [164, 0, 124]), (4, [132, 3, 255]), (7, [42]), (8, [180, 0, 17]), (11, [29]), (12, [4]), (13, [100]), (14, [21, 5]), (16, [42]), (17, [180, 0, 17]), (20, [29]), (21, [4]), (22, [100]), (23, [47]), (24, [42]), (25, [180, 0, 17]), (28, [29]), (29, [47]), (30, [184, 0, 41]), (33, [80]), (34, [167, 0, 91])] = true := by decide +kernel
theorem dX0_run_42 : decode cX0_run 42 = .ok (.iconst 1, 1) := q_iconst1 (bat_get dg_X0_run_42_42 0 rfl rfl)
theorem dX0_run_43 : decode cX0_run 43 = .ok (.if_icmp .le 124, 3) := q_if_icmp_le (bat_get dg_X0_run_42_42 1 rfl rfl) rfl
theorem dX0_run_46 : decode cX0_run 46 = .ok (.iinc 3 (-1), 3) := q_iinc (bat_get dg_X0_run_42_42 2 rfl rfl) rfl
theorem dX0_run_49 : decode cX0_run 49 = .ok (.aload_n 0, 1) := q_aload_n0 (bat_get dg_X0_run_42_42 3 rfl rfl)
theorem dX0_run_50 : decode cX0_run 50 = .ok (.getfield 17, 3) := q_getfield (bat_get dg_X0_run_42_42 4 rfl rfl) rfl
