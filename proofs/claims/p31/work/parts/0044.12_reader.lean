theorem dX6_readWord_76 : decode cX6_readWord 76 = .ok (.bipush 6, 2) := q_bipush (bat_get dg_X6_readWord_0_0 14 rfl rfl) rfl
theorem dX6_readWord_78 : decode cX6_readWord 78 = .ok (.if_icmp .le 4, 3) := q_if_icmp_le (bat_get dg_X6_readWord_0_0 15 rfl rfl) rfl
theorem dX6_readWord_82 : decode cX6_readWord 82 = .ok (.iconst 0, 1) := q_iconst0 (bat_get dg_X6_readWord_0_0 16 rfl rfl)
theorem dX6_readWord_83 : decode cX6_readWord 83 = .ok (.istore_n 1, 1) := q_istore_n1 (bat_get dg_X6_readWord_0_0 17 rfl rfl)
theorem dX6_readWord_84 : decode cX6_readWord 84 = .ok (.iload_n 1, 1) := q_iload_n1 (bat_get dg_X6_readWord_0_0 18 rfl rfl)
theorem dX6_readWord_85 : decode cX6_readWord 85 = .ok (.bipush 6, 2) := q_bipush (bat_get dg_X6_readWord_0_0 19 rfl rfl) rfl
theorem dX6_readWord_87 : decode cX6_readWord 87 = .ok (.iadd, 1) := q_iadd (bat_get dg_X6_readWord_0_0 20 rfl rfl)
theorem dX6_readWord_88 : decode cX6_readWord 88 = .ok (.ldc 59, 2) := q_ldc (bat_get dg_X6_readWord_0_0 21 rfl rfl)
theorem dX6_readWord_90 : decode cX6_readWord 90 = .ok (.invokevirtual 61, 3) := q_invokevirtual (bat_get dg_X6_readWord_0_0 22 rfl rfl) rfl
theorem dX6_readWord_93 : decode cX6_readWord 93 = .ok (.if_icmp .gt 99, 3) := q_if_icmp_gt (bat_get dg_X6_readWord_0_0 23 rfl rfl) rfl
theorem dX6_readWord_192 : decode cX6_readWord 192 = .ok (.return_, 1) := q_return_ (bat_get dg_X6_readWord_0_0 24 rfl rfl)
theorem dX6_readWord_96 : decode cX6_readWord 96 = .ok (.iconst 1, 1) := q_iconst1 (bat_get dg_X6_readWord_0_0 25 rfl rfl)
theorem dX6_readWord_97 : decode cX6_readWord 97 = .ok (.istore_n 2, 1) := q_istore_n2 (bat_get dg_X6_readWord_0_0 26 rfl rfl)
theorem dX6_readWord_98 : decode cX6_readWord 98 = .ok (.iconst 0, 1) := q_iconst0 (bat_get dg_X6_readWord_0_0 27 rfl rfl)
theorem dX6_readWord_99 : decode cX6_readWord 99 = .ok (.istore_n 3, 1) := q_istore_n3 (bat_get dg_X6_readWord_0_0 28 rfl rfl)
theorem dX6_readWord_100 : decode cX6_readWord 100 = .ok (.iload_n 3, 1) := q_iload_n3 (bat_get dg_X6_readWord_0_0 29 rfl rfl)
theorem dX6_readWord_101 : decode cX6_readWord 101 = .ok (.bipush 6, 2) := q_bipush (bat_get dg_X6_readWord_0_0 30 rfl rfl) rfl
theorem dX6_readWord_103 : decode cX6_readWord 103 = .ok (.if_icmp .ge 66, 3) := q_if_icmp_ge (bat_get dg_X6_readWord_0_0 31 rfl rfl) rfl
theorem dX6_readWord_169 : decode cX6_readWord 169 = .ok (.iload_n 2, 1) := q_iload_n2 (bat_get dg_X6_readWord_0_0 32 rfl rfl)
theorem dX6_readWord_170 : decode cX6_readWord 170 = .ok (.ifCond .eq 16, 3) := q_ifCond_eq (bat_get dg_X6_readWord_0_0 33 rfl rfl) rfl
theorem dX6_readWord_186 : decode cX6_readWord 186 = .ok (.iinc 1 6, 3) := q_iinc (bat_get dg_X6_readWord_0_0 34 rfl rfl) rfl
theorem dX6_readWord_189 : decode cX6_readWord 189 = .ok (.goto (-105), 3) := q_goto (bat_get dg_X6_readWord_0_0 35 rfl rfl) rfl
theorem dX6_readWord_173 : decode cX6_readWord 173 = .ok (.aload_n 0, 1) := q_aload_n0 (bat_get dg_X6_readWord_0_0 36 rfl rfl)
theorem dX6_readWord_174 : decode cX6_readWord 174 = .ok (.sipush 256, 3) := q_sipush (bat_get dg_X6_readWord_0_0 37 rfl rfl) rfl
theorem dX6_readWord_177 : decode cX6_readWord 177 = .ok (.iload_n 1, 1) := q_iload_n1 (bat_get dg_X6_readWord_0_0 38 rfl rfl)
theorem dX6_readWord_178 : decode cX6_readWord 178 = .ok (.bipush 6, 2) := q_bipush (bat_get dg_X6_readWord_0_0 39 rfl rfl) rfl
theorem dg_X6_readWord_14_180 : bqL cX6_readWord 14 [(166, [108]), (167, [96]), (168, [181, 0, 21]), (171, [177]), (92, [28]), (93, [153, 0, 62]), (128, [54, 4]), (130, [18, 59]), (132, [27]), (133, [29]), (134, [96]), (135, [182, 0, 66]), (138, [21, 4]), (140, [160, 0, 7]), (147, [3]), (148, [61]), (149, [132, 3, 1]), (152, [167, 255, 190]), (143, [4]), (144, [167, 0, 4]), (96, [42]), (97, [180, 0, 24]), (100, [29]), (101, [96]), (102, [42]), (103, [180, 0, 9]), (106, [162, 0, 20]), (126, [16, 32]), (109, [42]), (110, [180, 0, 33]), (113, [180, 0, 49]), (116, [42]), (117, [180, 0, 24]), (120, [29]), (121, [96]), (122, [46]), (123, [167, 0, 5]), (67, [177]), (0, [42]), (1, [180, 0, 33])] = true := by decide +kernel
theorem dX6_readWord_180 : decode cX6_readWord 180 = .ok (.idiv, 1) := q_idiv (bat_get dg_X6_readWord_14_180 0 rfl rfl)
theorem dX6_readWord_181 : decode cX6_readWord 181 = .ok (.iadd, 1) := q_iadd (bat_get dg_X6_readWord_14_180 1 rfl rfl)
theorem dX6_readWord_182 : decode cX6_readWord 182 = .ok (.putfield 21, 3) := q_putfield (bat_get dg_X6_readWord_14_180 2 rfl rfl) rfl
theorem dX6_readWord_185 : decode cX6_readWord 185 = .ok (.return_, 1) := q_return_ (bat_get dg_X6_readWord_14_180 3 rfl rfl)
theorem dX6_readWord_106 : decode cX6_readWord 106 = .ok (.iload_n 2, 1) := q_iload_n2 (bat_get dg_X6_readWord_14_180 4 rfl rfl)
theorem dX6_readWord_107 : decode cX6_readWord 107 = .ok (.ifCond .eq 62, 3) := q_ifCond_eq (bat_get dg_X6_readWord_14_180 5 rfl rfl) rfl
theorem dX6_readWord_142 : decode cX6_readWord 142 = .ok (.istore 4, 2) := q_istore (bat_get dg_X6_readWord_14_180 6 rfl rfl)
theorem dX6_readWord_144 : decode cX6_readWord 144 = .ok (.ldc 59, 2) := q_ldc (bat_get dg_X6_readWord_14_180 7 rfl rfl)
theorem dX6_readWord_146 : decode cX6_readWord 146 = .ok (.iload_n 1, 1) := q_iload_n1 (bat_get dg_X6_readWord_14_180 8 rfl rfl)
theorem dX6_readWord_147 : decode cX6_readWord 147 = .ok (.iload_n 3, 1) := q_iload_n3 (bat_get dg_X6_readWord_14_180 9 rfl rfl)
theorem dX6_readWord_148 : decode cX6_readWord 148 = .ok (.iadd, 1) := q_iadd (bat_get dg_X6_readWord_14_180 10 rfl rfl)
theorem dX6_readWord_149 : decode cX6_readWord 149 = .ok (.invokevirtual 66, 3) := q_invokevirtual (bat_get dg_X6_readWord_14_180 11 rfl rfl) rfl
theorem dX6_readWord_152 : decode cX6_readWord 152 = .ok (.iload 4, 2) := q_iload (bat_get dg_X6_readWord_14_180 12 rfl rfl)
theorem dX6_readWord_154 : decode cX6_readWord 154 = .ok (.if_icmp .ne 7, 3) := q_if_icmp_ne (bat_get dg_X6_readWord_14_180 13 rfl rfl) rfl
theorem dX6_readWord_161 : decode cX6_readWord 161 = .ok (.iconst 0, 1) := q_iconst0 (bat_get dg_X6_readWord_14_180 14 rfl rfl)
theorem dX6_readWord_162 : decode cX6_readWord 162 = .ok (.istore_n 2, 1) := q_istore_n2 (bat_get dg_X6_readWord_14_180 15 rfl rfl)
theorem dX6_readWord_163 : decode cX6_readWord 163 = .ok (.iinc 3 1, 3) := q_iinc (bat_get dg_X6_readWord_14_180 16 rfl rfl) rfl
theorem dX6_readWord_166 : decode cX6_readWord 166 = .ok (.goto (-66), 3) := q_goto (bat_get dg_X6_readWord_14_180 17 rfl rfl) rfl
theorem dX6_readWord_157 : decode cX6_readWord 157 = .ok (.iconst 1, 1) := q_iconst1 (bat_get dg_X6_readWord_14_180 18 rfl rfl)
theorem dX6_readWord_158 : decode cX6_readWord 158 = .ok (.goto 4, 3) := q_goto (bat_get dg_X6_readWord_14_180 19 rfl rfl) rfl
theorem dX6_readWord_110 : decode cX6_readWord 110 = .ok (.aload_n 0, 1) := q_aload_n0 (bat_get dg_X6_readWord_14_180 20 rfl rfl)
theorem dX6_readWord_111 : decode cX6_readWord 111 = .ok (.getfield 24, 3) := q_getfield (bat_get dg_X6_readWord_14_180 21 rfl rfl) rfl
theorem dX6_readWord_114 : decode cX6_readWord 114 = .ok (.iload_n 3, 1) := q_iload_n3 (bat_get dg_X6_readWord_14_180 22 rfl rfl)
theorem dX6_readWord_115 : decode cX6_readWord 115 = .ok (.iadd, 1) := q_iadd (bat_get dg_X6_readWord_14_180 23 rfl rfl)
theorem dX6_readWord_116 : decode cX6_readWord 116 = .ok (.aload_n 0, 1) := q_aload_n0 (bat_get dg_X6_readWord_14_180 24 rfl rfl)
theorem dX6_readWord_117 : decode cX6_readWord 117 = .ok (.getfield 9, 3) := q_getfield (bat_get dg_X6_readWord_14_180 25 rfl rfl) rfl
theorem dX6_readWord_120 : decode cX6_readWord 120 = .ok (.if_icmp .ge 20, 3) := q_if_icmp_ge (bat_get dg_X6_readWord_14_180 26 rfl rfl) rfl
theorem dX6_readWord_140 : decode cX6_readWord 140 = .ok (.bipush 32, 2) := q_bipush (bat_get dg_X6_readWord_14_180 27 rfl rfl) rfl
theorem dX6_readWord_123 : decode cX6_readWord 123 = .ok (.aload_n 0, 1) := q_aload_n0 (bat_get dg_X6_readWord_14_180 28 rfl rfl)
theorem dX6_readWord_124 : decode cX6_readWord 124 = .ok (.getfield 33, 3) := q_getfield (bat_get dg_X6_readWord_14_180 29 rfl rfl) rfl
theorem dX6_readWord_127 : decode cX6_readWord 127 = .ok (.getfield 49, 3) := q_getfield (bat_get dg_X6_readWord_14_180 30 rfl rfl) rfl
theorem dX6_readWord_130 : decode cX6_readWord 130 = .ok (.aload_n 0, 1) := q_aload_n0 (bat_get dg_X6_readWord_14_180 31 rfl rfl)
theorem dX6_readWord_131 : decode cX6_readWord 131 = .ok (.getfield 24, 3) := q_getfield (bat_get dg_X6_readWord_14_180 32 rfl rfl) rfl
theorem dX6_readWord_134 : decode cX6_readWord 134 = .ok (.iload_n 3, 1) := q_iload_n3 (bat_get dg_X6_readWord_14_180 33 rfl rfl)
theorem dX6_readWord_135 : decode cX6_readWord 135 = .ok (.iadd, 1) := q_iadd (bat_get dg_X6_readWord_14_180 34 rfl rfl)
theorem dX6_readWord_136 : decode cX6_readWord 136 = .ok (.iaload, 1) := q_iaload (bat_get dg_X6_readWord_14_180 35 rfl rfl)
theorem dX6_readWord_137 : decode cX6_readWord 137 = .ok (.goto 5, 3) := q_goto (bat_get dg_X6_readWord_14_180 36 rfl rfl) rfl
theorem dX6_readWord_81 : decode cX6_readWord 81 = .ok (.return_, 1) := q_return_ (bat_get dg_X6_readWord_14_180 37 rfl rfl)
theorem dX6_readWord_14 : decode cX6_readWord 14 = .ok (.aload_n 0, 1) := q_aload_n0 (bat_get dg_X6_readWord_14_180 38 rfl rfl)
theorem dX6_readWord_15 : decode cX6_readWord 15 = .ok (.getfield 33, 3) := q_getfield (bat_get dg_X6_readWord_14_180 39 rfl rfl) rfl
theorem dg_X6_readWord_18_18 : bqL cX6_readWord 18 [(0, [180, 0, 49]), (3, [42]), (4, [180, 0, 9]), (7, [46]), (8, [16, 97]), (10, [161, 0, 33]), (13, [42]), (14, [180, 0, 33]), (17, [180, 0, 49]), (20, [42]), (21, [180, 0, 9]), (24, [46]), (25, [16, 122]), (27, [163, 0, 16]), (30, [42]), (31, [89]), (32, [180, 0, 9]), (35, [4]), (36, [96]), (37, [181, 0, 9]), (40, [167, 255, 198])] = true := by decide +kernel
theorem dX6_readWord_18 : decode cX6_readWord 18 = .ok (.getfield 49, 3) := q_getfield (bat_get dg_X6_readWord_18_18 0 rfl rfl) rfl
theorem dX6_readWord_21 : decode cX6_readWord 21 = .ok (.aload_n 0, 1) := q_aload_n0 (bat_get dg_X6_readWord_18_18 1 rfl rfl)
theorem dX6_readWord_22 : decode cX6_readWord 22 = .ok (.getfield 9, 3) := q_getfield (bat_get dg_X6_readWord_18_18 2 rfl rfl) rfl
theorem dX6_readWord_25 : decode cX6_readWord 25 = .ok (.iaload, 1) := q_iaload (bat_get dg_X6_readWord_18_18 3 rfl rfl)
theorem dX6_readWord_26 : decode cX6_readWord 26 = .ok (.bipush 97, 2) := q_bipush (bat_get dg_X6_readWord_18_18 4 rfl rfl) rfl
theorem dX6_readWord_28 : decode cX6_readWord 28 = .ok (.if_icmp .lt 33, 3) := q_if_icmp_lt (bat_get dg_X6_readWord_18_18 5 rfl rfl) rfl
theorem dX6_readWord_31 : decode cX6_readWord 31 = .ok (.aload_n 0, 1) := q_aload_n0 (bat_get dg_X6_readWord_18_18 6 rfl rfl)
theorem dX6_readWord_32 : decode cX6_readWord 32 = .ok (.getfield 33, 3) := q_getfield (bat_get dg_X6_readWord_18_18 7 rfl rfl) rfl
theorem dX6_readWord_35 : decode cX6_readWord 35 = .ok (.getfield 49, 3) := q_getfield (bat_get dg_X6_readWord_18_18 8 rfl rfl) rfl
theorem dX6_readWord_38 : decode cX6_readWord 38 = .ok (.aload_n 0, 1) := q_aload_n0 (bat_get dg_X6_readWord_18_18 9 rfl rfl)
theorem dX6_readWord_39 : decode cX6_readWord 39 = .ok (.getfield 9, 3) := q_getfield (bat_get dg_X6_readWord_18_18 10 rfl rfl) rfl
theorem dX6_readWord_42 : decode cX6_readWord 42 = .ok (.iaload, 1) := q_iaload (bat_get dg_X6_readWord_18_18 11 rfl rfl)
theorem dX6_readWord_43 : decode cX6_readWord 43 = .ok (.bipush 122, 2) := q_bipush (bat_get dg_X6_readWord_18_18 12 rfl rfl) rfl
theorem dX6_readWord_45 : decode cX6_readWord 45 = .ok (.if_icmp .gt 16, 3) := q_if_icmp_gt (bat_get dg_X6_readWord_18_18 13 rfl rfl) rfl
theorem dX6_readWord_48 : decode cX6_readWord 48 = .ok (.aload_n 0, 1) := q_aload_n0 (bat_get dg_X6_readWord_18_18 14 rfl rfl)
theorem dX6_readWord_49 : decode cX6_readWord 49 = .ok (.dup, 1) := q_dup (bat_get dg_X6_readWord_18_18 15 rfl rfl)
theorem dX6_readWord_50 : decode cX6_readWord 50 = .ok (.getfield 9, 3) := q_getfield (bat_get dg_X6_readWord_18_18 16 rfl rfl) rfl
theorem dX6_readWord_53 : decode cX6_readWord 53 = .ok (.iconst 1, 1) := q_iconst1 (bat_get dg_X6_readWord_18_18 17 rfl rfl)
theorem dX6_readWord_54 : decode cX6_readWord 54 = .ok (.iadd, 1) := q_iadd (bat_get dg_X6_readWord_18_18 18 rfl rfl)
theorem dX6_readWord_55 : decode cX6_readWord 55 = .ok (.putfield 9, 3) := q_putfield (bat_get dg_X6_readWord_18_18 19 rfl rfl) rfl
theorem dX6_readWord_58 : decode cX6_readWord 58 = .ok (.goto (-58), 3) := q_goto (bat_get dg_X6_readWord_18_18 20 rfl rfl) rfl
theorem w_2_234 : (Cond.methodLink RX6 61 yJ0_length_8abf5) ∈ wsL_law := sk_mem (ck_2 _ (List.mem_of_getElem? (i := 234) rfl)) rfl
theorem w_2_235 : (Cond.instanceMethod yJ0_length_8abf5) ∈ wsL_law := sk_mem (ck_2 _ (List.mem_of_getElem? (i := 235) rfl)) rfl
theorem w_2_236 : (Cond.selects RJ0 yJ0_length_8abf5 yJ0_length_8abf5) ∈ wsL_law := sk_mem (ck_2 _ (List.mem_of_getElem? (i := 236) rfl)) rfl
theorem w_3_4 : (Cond.methodLink RX6 66 yJ0_charAt_5068e) ∈ wsL_law := sk_mem (ck_3 _ (List.mem_of_getElem? (i := 4) rfl)) rfl
theorem w_3_5 : (Cond.instanceMethod yJ0_charAt_5068e) ∈ wsL_law := sk_mem (ck_3 _ (List.mem_of_getElem? (i := 5) rfl)) rfl
theorem w_3_6 : (Cond.selects RJ0 yJ0_charAt_5068e yJ0_charAt_5068e) ∈ wsL_law := sk_mem (ck_3 _ (List.mem_of_getElem? (i := 6) rfl)) rfl
theorem w_2_232 : (Cond.code yX6_readWord cX6_readWord 5 none) ∈ wsL_law := sk_mem (ck_2 _ (List.mem_of_getElem? (i := 232) rfl)) rfl
theorem hd_J0_length_8abf5_0 : skD yJ0_length_8abf5 0 := by decide +kernel
theorem hd_J0_charAt_5068e_1 : skD yJ0_charAt_5068e 1 := by decide +kernel
theorem dg_X6_step_0_0 : bqL cX6_step 0 [(0, [42]), (1, [180, 0, 27]), (4, [153, 0, 4]), (35, [60]), (36, [42]), (37, [180, 0, 9]), (40, [42]), (41, [180, 0, 33]), (44, [180, 0, 44]), (47, [162, 0, 50]), (192, [42]), (193, [180, 0, 24]), (196, [27]), (197, [160, 0, 9]), (206, [177]), (200, [42]), (201, [16, 254]), (203, [181, 0, 21]), (97, [42]), (98, [42]), (99, [180, 0, 9]), (102, [181, 0, 24]), (105, [42]), (106, [180, 0, 9]), (109, [42]), (110, [180, 0, 33]), (113, [180, 0, 44]), (116, [161, 0, 9]), (125, [42]), (126, [180, 0, 33]), (129, [180, 0, 49]), (132, [42]), (133, [180, 0, 9]), (136, [46]), (137, [61]), (138, [28]), (139, [16, 97]), (141, [161, 0, 16]), (157, [28]), (158, [16, 48])] = true := by decide +kernel
theorem dX6_step_0 : decode cX6_step 0 = .ok (.aload_n 0, 1) := q_aload_n0 (bat_get dg_X6_step_0_0 0 rfl rfl)
theorem dX6_step_1 : decode cX6_step 1 = .ok (.getfield 27, 3) := q_getfield (bat_get dg_X6_step_0_0 1 rfl rfl) rfl
theorem dX6_step_4 : decode cX6_step 4 = .ok (.ifCond .eq 4, 3) := q_ifCond_eq (bat_get dg_X6_step_0_0 2 rfl rfl) rfl
theorem dX6_step_35 : decode cX6_step 35 = .ok (.istore_n 1, 1) := q_istore_n1 (bat_get dg_X6_step_0_0 3 rfl rfl)
theorem dX6_step_36 : decode cX6_step 36 = .ok (.aload_n 0, 1) := q_aload_n0 (bat_get dg_X6_step_0_0 4 rfl rfl)
theorem dX6_step_37 : decode cX6_step 37 = .ok (.getfield 9, 3) := q_getfield (bat_get dg_X6_step_0_0 5 rfl rfl) rfl
theorem dX6_step_40 : decode cX6_step 40 = .ok (.aload_n 0, 1) := q_aload_n0 (bat_get dg_X6_step_0_0 6 rfl rfl)
theorem dX6_step_41 : decode cX6_step 41 = .ok (.getfield 33, 3) := q_getfield (bat_get dg_X6_step_0_0 7 rfl rfl) rfl
theorem dX6_step_44 : decode cX6_step 44 = .ok (.getfield 44, 3) := q_getfield (bat_get dg_X6_step_0_0 8 rfl rfl) rfl
theorem dX6_step_47 : decode cX6_step 47 = .ok (.if_icmp .ge 50, 3) := q_if_icmp_ge (bat_get dg_X6_step_0_0 9 rfl rfl) rfl
theorem dX6_step_192 : decode cX6_step 192 = .ok (.aload_n 0, 1) := q_aload_n0 (bat_get dg_X6_step_0_0 10 rfl rfl)
theorem dX6_step_193 : decode cX6_step 193 = .ok (.getfield 24, 3) := q_getfield (bat_get dg_X6_step_0_0 11 rfl rfl) rfl
theorem dX6_step_196 : decode cX6_step 196 = .ok (.iload_n 1, 1) := q_iload_n1 (bat_get dg_X6_step_0_0 12 rfl rfl)
theorem dX6_step_197 : decode cX6_step 197 = .ok (.if_icmp .ne 9, 3) := q_if_icmp_ne (bat_get dg_X6_step_0_0 13 rfl rfl) rfl
theorem dX6_step_206 : decode cX6_step 206 = .ok (.return_, 1) := q_return_ (bat_get dg_X6_step_0_0 14 rfl rfl)
theorem dX6_step_200 : decode cX6_step 200 = .ok (.aload_n 0, 1) := q_aload_n0 (bat_get dg_X6_step_0_0 15 rfl rfl)
theorem dX6_step_201 : decode cX6_step 201 = .ok (.bipush (-2), 2) := q_bipush (bat_get dg_X6_step_0_0 16 rfl rfl) rfl
