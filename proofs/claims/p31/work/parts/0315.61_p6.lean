theorem dg_X12_qDropsNots_0_0 : bqL cX12_qDropsNots 0 [(0, [42]), (1, [180, 0, 195]), (4, [154, 0, 29]), (33, [177]), (7, [42]), (8, [16, 12]), (10, [182, 2, 19]), (13, [153, 0, 20]), (16, [42]), (17, [89]), (18, [180, 1, 7]), (21, [4]), (22, [100]), (23, [181, 1, 7]), (26, [42]), (27, [182, 1, 248]), (30, [167, 255, 226])] = true := by decide +kernel
theorem dX12_qDropsNots_0 : decode cX12_qDropsNots 0 = .ok (.aload_n 0, 1) := q_aload_n0 (bat_get dg_X12_qDropsNots_0_0 0 rfl rfl)
theorem dX12_qDropsNots_1 : decode cX12_qDropsNots 1 = .ok (.getfield 195, 3) := q_getfield (bat_get dg_X12_qDropsNots_0_0 1 rfl rfl) rfl
theorem dX12_qDropsNots_4 : decode cX12_qDropsNots 4 = .ok (.ifCond .ne 29, 3) := q_ifCond_ne (bat_get dg_X12_qDropsNots_0_0 2 rfl rfl) rfl
theorem dX12_qDropsNots_33 : decode cX12_qDropsNots 33 = .ok (.return_, 1) := q_return_ (bat_get dg_X12_qDropsNots_0_0 3 rfl rfl)
theorem dX12_qDropsNots_7 : decode cX12_qDropsNots 7 = .ok (.aload_n 0, 1) := q_aload_n0 (bat_get dg_X12_qDropsNots_0_0 4 rfl rfl)
theorem dX12_qDropsNots_8 : decode cX12_qDropsNots 8 = .ok (.bipush 12, 2) := q_bipush (bat_get dg_X12_qDropsNots_0_0 5 rfl rfl) rfl
theorem dX12_qDropsNots_10 : decode cX12_qDropsNots 10 = .ok (.invokevirtual 531, 3) := q_invokevirtual (bat_get dg_X12_qDropsNots_0_0 6 rfl rfl) rfl
theorem dX12_qDropsNots_13 : decode cX12_qDropsNots 13 = .ok (.ifCond .eq 20, 3) := q_ifCond_eq (bat_get dg_X12_qDropsNots_0_0 7 rfl rfl) rfl
theorem dX12_qDropsNots_16 : decode cX12_qDropsNots 16 = .ok (.aload_n 0, 1) := q_aload_n0 (bat_get dg_X12_qDropsNots_0_0 8 rfl rfl)
theorem dX12_qDropsNots_17 : decode cX12_qDropsNots 17 = .ok (.dup, 1) := q_dup (bat_get dg_X12_qDropsNots_0_0 9 rfl rfl)
theorem dX12_qDropsNots_18 : decode cX12_qDropsNots 18 = .ok (.getfield 263, 3) := q_getfield (bat_get dg_X12_qDropsNots_0_0 10 rfl rfl) rfl
theorem dX12_qDropsNots_21 : decode cX12_qDropsNots 21 = .ok (.iconst 1, 1) := q_iconst1 (bat_get dg_X12_qDropsNots_0_0 11 rfl rfl)
theorem dX12_qDropsNots_22 : decode cX12_qDropsNots 22 = .ok (.isub, 1) := q_isub (bat_get dg_X12_qDropsNots_0_0 12 rfl rfl)
theorem dX12_qDropsNots_23 : decode cX12_qDropsNots 23 = .ok (.putfield 263, 3) := q_putfield (bat_get dg_X12_qDropsNots_0_0 13 rfl rfl) rfl
theorem dX12_qDropsNots_26 : decode cX12_qDropsNots 26 = .ok (.aload_n 0, 1) := q_aload_n0 (bat_get dg_X12_qDropsNots_0_0 14 rfl rfl)
theorem dX12_qDropsNots_27 : decode cX12_qDropsNots 27 = .ok (.invokevirtual 504, 3) := q_invokevirtual (bat_get dg_X12_qDropsNots_0_0 15 rfl rfl) rfl
theorem dX12_qDropsNots_30 : decode cX12_qDropsNots 30 = .ok (.goto (-30), 3) := q_goto (bat_get dg_X12_qDropsNots_0_0 16 rfl rfl) rfl
theorem w_8_182 : (Cond.code yX12_qDropsNots cX12_qDropsNots 1 none) ∈ wsL_law := sk_mem (ck_8 _ (List.mem_of_getElem? (i := 182) rfl)) rfl
theorem dg_X12_qGoesOnTest_0_0 : bqL cX12_qGoesOnTest 0 [(0, [42]), (1, [180, 0, 195]), (4, [154, 0, 72]), (76, [42]), (77, [42]), (78, [180, 0, 135]), (81, [182, 0, 222]), (84, [153, 0, 42]), (126, [42]), (127, [42]), (128, [180, 0, 138]), (131, [182, 0, 222]), (134, [153, 0, 51]), (185, [42]), (186, [180, 0, 195]), (189, [154, 0, 19]), (208, [3]), (209, [172]), (192, [42]), (193, [182, 2, 37]), (196, [153, 0, 12]), (199, [42]), (200, [4]), (201, [42]), (202, [180, 0, 201]), (205, [182, 0, 225]), (137, [42]), (138, [16, 10]), (140, [182, 2, 19]), (143, [154, 0, 12]), (155, [42]), (156, [182, 1, 248]), (159, [167, 255, 234]), (146, [42]), (147, [16, 11]), (149, [182, 2, 19]), (152, [153, 0, 10]), (162, [42]), (163, [180, 0, 183]), (166, [42])] = true := by decide +kernel
theorem dX12_qGoesOnTest_0 : decode cX12_qGoesOnTest 0 = .ok (.aload_n 0, 1) := q_aload_n0 (bat_get dg_X12_qGoesOnTest_0_0 0 rfl rfl)
theorem dX12_qGoesOnTest_1 : decode cX12_qGoesOnTest 1 = .ok (.getfield 195, 3) := q_getfield (bat_get dg_X12_qGoesOnTest_0_0 1 rfl rfl) rfl
theorem dX12_qGoesOnTest_4 : decode cX12_qGoesOnTest 4 = .ok (.ifCond .ne 72, 3) := q_ifCond_ne (bat_get dg_X12_qGoesOnTest_0_0 2 rfl rfl) rfl
theorem dX12_qGoesOnTest_76 : decode cX12_qGoesOnTest 76 = .ok (.aload_n 0, 1) := q_aload_n0 (bat_get dg_X12_qGoesOnTest_0_0 3 rfl rfl)
theorem dX12_qGoesOnTest_77 : decode cX12_qGoesOnTest 77 = .ok (.aload_n 0, 1) := q_aload_n0 (bat_get dg_X12_qGoesOnTest_0_0 4 rfl rfl)
theorem dX12_qGoesOnTest_78 : decode cX12_qGoesOnTest 78 = .ok (.getfield 135, 3) := q_getfield (bat_get dg_X12_qGoesOnTest_0_0 5 rfl rfl) rfl
theorem dX12_qGoesOnTest_81 : decode cX12_qGoesOnTest 81 = .ok (.invokevirtual 222, 3) := q_invokevirtual (bat_get dg_X12_qGoesOnTest_0_0 6 rfl rfl) rfl
theorem dX12_qGoesOnTest_84 : decode cX12_qGoesOnTest 84 = .ok (.ifCond .eq 42, 3) := q_ifCond_eq (bat_get dg_X12_qGoesOnTest_0_0 7 rfl rfl) rfl
theorem dX12_qGoesOnTest_126 : decode cX12_qGoesOnTest 126 = .ok (.aload_n 0, 1) := q_aload_n0 (bat_get dg_X12_qGoesOnTest_0_0 8 rfl rfl)
theorem dX12_qGoesOnTest_127 : decode cX12_qGoesOnTest 127 = .ok (.aload_n 0, 1) := q_aload_n0 (bat_get dg_X12_qGoesOnTest_0_0 9 rfl rfl)
theorem dX12_qGoesOnTest_128 : decode cX12_qGoesOnTest 128 = .ok (.getfield 138, 3) := q_getfield (bat_get dg_X12_qGoesOnTest_0_0 10 rfl rfl) rfl
theorem dX12_qGoesOnTest_131 : decode cX12_qGoesOnTest 131 = .ok (.invokevirtual 222, 3) := q_invokevirtual (bat_get dg_X12_qGoesOnTest_0_0 11 rfl rfl) rfl
theorem dX12_qGoesOnTest_134 : decode cX12_qGoesOnTest 134 = .ok (.ifCond .eq 51, 3) := q_ifCond_eq (bat_get dg_X12_qGoesOnTest_0_0 12 rfl rfl) rfl
theorem dX12_qGoesOnTest_185 : decode cX12_qGoesOnTest 185 = .ok (.aload_n 0, 1) := q_aload_n0 (bat_get dg_X12_qGoesOnTest_0_0 13 rfl rfl)
theorem dX12_qGoesOnTest_186 : decode cX12_qGoesOnTest 186 = .ok (.getfield 195, 3) := q_getfield (bat_get dg_X12_qGoesOnTest_0_0 14 rfl rfl) rfl
theorem dX12_qGoesOnTest_189 : decode cX12_qGoesOnTest 189 = .ok (.ifCond .ne 19, 3) := q_ifCond_ne (bat_get dg_X12_qGoesOnTest_0_0 15 rfl rfl) rfl
theorem dX12_qGoesOnTest_208 : decode cX12_qGoesOnTest 208 = .ok (.iconst 0, 1) := q_iconst0 (bat_get dg_X12_qGoesOnTest_0_0 16 rfl rfl)
theorem dX12_qGoesOnTest_209 : decode cX12_qGoesOnTest 209 = .ok (.ireturn, 1) := q_ireturn (bat_get dg_X12_qGoesOnTest_0_0 17 rfl rfl)
theorem dX12_qGoesOnTest_192 : decode cX12_qGoesOnTest 192 = .ok (.aload_n 0, 1) := q_aload_n0 (bat_get dg_X12_qGoesOnTest_0_0 18 rfl rfl)
theorem dX12_qGoesOnTest_193 : decode cX12_qGoesOnTest 193 = .ok (.invokevirtual 549, 3) := q_invokevirtual (bat_get dg_X12_qGoesOnTest_0_0 19 rfl rfl) rfl
theorem dX12_qGoesOnTest_196 : decode cX12_qGoesOnTest 196 = .ok (.ifCond .eq 12, 3) := q_ifCond_eq (bat_get dg_X12_qGoesOnTest_0_0 20 rfl rfl) rfl
theorem dX12_qGoesOnTest_199 : decode cX12_qGoesOnTest 199 = .ok (.aload_n 0, 1) := q_aload_n0 (bat_get dg_X12_qGoesOnTest_0_0 21 rfl rfl)
theorem dX12_qGoesOnTest_200 : decode cX12_qGoesOnTest 200 = .ok (.iconst 1, 1) := q_iconst1 (bat_get dg_X12_qGoesOnTest_0_0 22 rfl rfl)
theorem dX12_qGoesOnTest_201 : decode cX12_qGoesOnTest 201 = .ok (.aload_n 0, 1) := q_aload_n0 (bat_get dg_X12_qGoesOnTest_0_0 23 rfl rfl)
theorem dX12_qGoesOnTest_202 : decode cX12_qGoesOnTest 202 = .ok (.getfield 201, 3) := q_getfield (bat_get dg_X12_qGoesOnTest_0_0 24 rfl rfl) rfl
theorem dX12_qGoesOnTest_205 : decode cX12_qGoesOnTest 205 = .ok (.invokevirtual 225, 3) := q_invokevirtual (bat_get dg_X12_qGoesOnTest_0_0 25 rfl rfl) rfl
theorem dX12_qGoesOnTest_137 : decode cX12_qGoesOnTest 137 = .ok (.aload_n 0, 1) := q_aload_n0 (bat_get dg_X12_qGoesOnTest_0_0 26 rfl rfl)
theorem dX12_qGoesOnTest_138 : decode cX12_qGoesOnTest 138 = .ok (.bipush 10, 2) := q_bipush (bat_get dg_X12_qGoesOnTest_0_0 27 rfl rfl) rfl
theorem dX12_qGoesOnTest_140 : decode cX12_qGoesOnTest 140 = .ok (.invokevirtual 531, 3) := q_invokevirtual (bat_get dg_X12_qGoesOnTest_0_0 28 rfl rfl) rfl
theorem dX12_qGoesOnTest_143 : decode cX12_qGoesOnTest 143 = .ok (.ifCond .ne 12, 3) := q_ifCond_ne (bat_get dg_X12_qGoesOnTest_0_0 29 rfl rfl) rfl
theorem dX12_qGoesOnTest_155 : decode cX12_qGoesOnTest 155 = .ok (.aload_n 0, 1) := q_aload_n0 (bat_get dg_X12_qGoesOnTest_0_0 30 rfl rfl)
theorem dX12_qGoesOnTest_156 : decode cX12_qGoesOnTest 156 = .ok (.invokevirtual 504, 3) := q_invokevirtual (bat_get dg_X12_qGoesOnTest_0_0 31 rfl rfl) rfl
theorem dX12_qGoesOnTest_159 : decode cX12_qGoesOnTest 159 = .ok (.goto (-22), 3) := q_goto (bat_get dg_X12_qGoesOnTest_0_0 32 rfl rfl) rfl
theorem dX12_qGoesOnTest_146 : decode cX12_qGoesOnTest 146 = .ok (.aload_n 0, 1) := q_aload_n0 (bat_get dg_X12_qGoesOnTest_0_0 33 rfl rfl)
theorem dX12_qGoesOnTest_147 : decode cX12_qGoesOnTest 147 = .ok (.bipush 11, 2) := q_bipush (bat_get dg_X12_qGoesOnTest_0_0 34 rfl rfl) rfl
theorem dX12_qGoesOnTest_149 : decode cX12_qGoesOnTest 149 = .ok (.invokevirtual 531, 3) := q_invokevirtual (bat_get dg_X12_qGoesOnTest_0_0 35 rfl rfl) rfl
theorem dX12_qGoesOnTest_152 : decode cX12_qGoesOnTest 152 = .ok (.ifCond .eq 10, 3) := q_ifCond_eq (bat_get dg_X12_qGoesOnTest_0_0 36 rfl rfl) rfl
theorem dX12_qGoesOnTest_162 : decode cX12_qGoesOnTest 162 = .ok (.aload_n 0, 1) := q_aload_n0 (bat_get dg_X12_qGoesOnTest_0_0 37 rfl rfl)
theorem dX12_qGoesOnTest_163 : decode cX12_qGoesOnTest 163 = .ok (.getfield 183, 3) := q_getfield (bat_get dg_X12_qGoesOnTest_0_0 38 rfl rfl) rfl
theorem dX12_qGoesOnTest_166 : decode cX12_qGoesOnTest 166 = .ok (.aload_n 0, 1) := q_aload_n0 (bat_get dg_X12_qGoesOnTest_0_0 39 rfl rfl)
theorem dg_X12_qGoesOnTest_7_167 : bqL cX12_qGoesOnTest 7 [(160, [180, 1, 4]), (163, [16, 11]), (165, [79]), (166, [42]), (167, [89]), (168, [180, 1, 4]), (171, [4]), (172, [96]), (173, [181, 1, 4]), (176, [4]), (177, [172]), (80, [42]), (81, [16, 10]), (83, [182, 2, 19]), (86, [153, 0, 10]), (96, [42]), (97, [180, 0, 183]), (100, [42]), (101, [180, 1, 4]), (104, [16, 10]), (106, [79]), (107, [42]), (108, [89]), (109, [180, 1, 4]), (112, [4]), (113, [96]), (114, [181, 1, 4]), (117, [4]), (118, [172]), (89, [42]), (90, [182, 1, 248]), (93, [167, 255, 243]), (0, [42]), (1, [182, 0, 207]), (4, [16, 93]), (6, [160, 0, 63]), (9, [42]), (10, [182, 2, 37]), (13, [153, 0, 56]), (16, [42])] = true := by decide +kernel
theorem dX12_qGoesOnTest_167 : decode cX12_qGoesOnTest 167 = .ok (.getfield 260, 3) := q_getfield (bat_get dg_X12_qGoesOnTest_7_167 0 rfl rfl) rfl
theorem dX12_qGoesOnTest_170 : decode cX12_qGoesOnTest 170 = .ok (.bipush 11, 2) := q_bipush (bat_get dg_X12_qGoesOnTest_7_167 1 rfl rfl) rfl
theorem dX12_qGoesOnTest_172 : decode cX12_qGoesOnTest 172 = .ok (.iastore, 1) := q_iastore (bat_get dg_X12_qGoesOnTest_7_167 2 rfl rfl)
theorem dX12_qGoesOnTest_173 : decode cX12_qGoesOnTest 173 = .ok (.aload_n 0, 1) := q_aload_n0 (bat_get dg_X12_qGoesOnTest_7_167 3 rfl rfl)
theorem dX12_qGoesOnTest_174 : decode cX12_qGoesOnTest 174 = .ok (.dup, 1) := q_dup (bat_get dg_X12_qGoesOnTest_7_167 4 rfl rfl)
theorem dX12_qGoesOnTest_175 : decode cX12_qGoesOnTest 175 = .ok (.getfield 260, 3) := q_getfield (bat_get dg_X12_qGoesOnTest_7_167 5 rfl rfl) rfl
theorem dX12_qGoesOnTest_178 : decode cX12_qGoesOnTest 178 = .ok (.iconst 1, 1) := q_iconst1 (bat_get dg_X12_qGoesOnTest_7_167 6 rfl rfl)
theorem dX12_qGoesOnTest_179 : decode cX12_qGoesOnTest 179 = .ok (.iadd, 1) := q_iadd (bat_get dg_X12_qGoesOnTest_7_167 7 rfl rfl)
theorem dX12_qGoesOnTest_180 : decode cX12_qGoesOnTest 180 = .ok (.putfield 260, 3) := q_putfield (bat_get dg_X12_qGoesOnTest_7_167 8 rfl rfl) rfl
theorem dX12_qGoesOnTest_183 : decode cX12_qGoesOnTest 183 = .ok (.iconst 1, 1) := q_iconst1 (bat_get dg_X12_qGoesOnTest_7_167 9 rfl rfl)
theorem dX12_qGoesOnTest_184 : decode cX12_qGoesOnTest 184 = .ok (.ireturn, 1) := q_ireturn (bat_get dg_X12_qGoesOnTest_7_167 10 rfl rfl)
theorem dX12_qGoesOnTest_87 : decode cX12_qGoesOnTest 87 = .ok (.aload_n 0, 1) := q_aload_n0 (bat_get dg_X12_qGoesOnTest_7_167 11 rfl rfl)
theorem dX12_qGoesOnTest_88 : decode cX12_qGoesOnTest 88 = .ok (.bipush 10, 2) := q_bipush (bat_get dg_X12_qGoesOnTest_7_167 12 rfl rfl) rfl
theorem dX12_qGoesOnTest_90 : decode cX12_qGoesOnTest 90 = .ok (.invokevirtual 531, 3) := q_invokevirtual (bat_get dg_X12_qGoesOnTest_7_167 13 rfl rfl) rfl
theorem dX12_qGoesOnTest_93 : decode cX12_qGoesOnTest 93 = .ok (.ifCond .eq 10, 3) := q_ifCond_eq (bat_get dg_X12_qGoesOnTest_7_167 14 rfl rfl) rfl
theorem dX12_qGoesOnTest_103 : decode cX12_qGoesOnTest 103 = .ok (.aload_n 0, 1) := q_aload_n0 (bat_get dg_X12_qGoesOnTest_7_167 15 rfl rfl)
theorem dX12_qGoesOnTest_104 : decode cX12_qGoesOnTest 104 = .ok (.getfield 183, 3) := q_getfield (bat_get dg_X12_qGoesOnTest_7_167 16 rfl rfl) rfl
theorem dX12_qGoesOnTest_107 : decode cX12_qGoesOnTest 107 = .ok (.aload_n 0, 1) := q_aload_n0 (bat_get dg_X12_qGoesOnTest_7_167 17 rfl rfl)
theorem dX12_qGoesOnTest_108 : decode cX12_qGoesOnTest 108 = .ok (.getfield 260, 3) := q_getfield (bat_get dg_X12_qGoesOnTest_7_167 18 rfl rfl) rfl
theorem dX12_qGoesOnTest_111 : decode cX12_qGoesOnTest 111 = .ok (.bipush 10, 2) := q_bipush (bat_get dg_X12_qGoesOnTest_7_167 19 rfl rfl) rfl
theorem dX12_qGoesOnTest_113 : decode cX12_qGoesOnTest 113 = .ok (.iastore, 1) := q_iastore (bat_get dg_X12_qGoesOnTest_7_167 20 rfl rfl)
theorem dX12_qGoesOnTest_114 : decode cX12_qGoesOnTest 114 = .ok (.aload_n 0, 1) := q_aload_n0 (bat_get dg_X12_qGoesOnTest_7_167 21 rfl rfl)
theorem dX12_qGoesOnTest_115 : decode cX12_qGoesOnTest 115 = .ok (.dup, 1) := q_dup (bat_get dg_X12_qGoesOnTest_7_167 22 rfl rfl)
theorem dX12_qGoesOnTest_116 : decode cX12_qGoesOnTest 116 = .ok (.getfield 260, 3) := q_getfield (bat_get dg_X12_qGoesOnTest_7_167 23 rfl rfl) rfl
theorem dX12_qGoesOnTest_119 : decode cX12_qGoesOnTest 119 = .ok (.iconst 1, 1) := q_iconst1 (bat_get dg_X12_qGoesOnTest_7_167 24 rfl rfl)
theorem dX12_qGoesOnTest_120 : decode cX12_qGoesOnTest 120 = .ok (.iadd, 1) := q_iadd (bat_get dg_X12_qGoesOnTest_7_167 25 rfl rfl)
theorem dX12_qGoesOnTest_121 : decode cX12_qGoesOnTest 121 = .ok (.putfield 260, 3) := q_putfield (bat_get dg_X12_qGoesOnTest_7_167 26 rfl rfl) rfl
theorem dX12_qGoesOnTest_124 : decode cX12_qGoesOnTest 124 = .ok (.iconst 1, 1) := q_iconst1 (bat_get dg_X12_qGoesOnTest_7_167 27 rfl rfl)
theorem dX12_qGoesOnTest_125 : decode cX12_qGoesOnTest 125 = .ok (.ireturn, 1) := q_ireturn (bat_get dg_X12_qGoesOnTest_7_167 28 rfl rfl)
theorem dX12_qGoesOnTest_96 : decode cX12_qGoesOnTest 96 = .ok (.aload_n 0, 1) := q_aload_n0 (bat_get dg_X12_qGoesOnTest_7_167 29 rfl rfl)
theorem dX12_qGoesOnTest_97 : decode cX12_qGoesOnTest 97 = .ok (.invokevirtual 504, 3) := q_invokevirtual (bat_get dg_X12_qGoesOnTest_7_167 30 rfl rfl) rfl
theorem dX12_qGoesOnTest_100 : decode cX12_qGoesOnTest 100 = .ok (.goto (-13), 3) := q_goto (bat_get dg_X12_qGoesOnTest_7_167 31 rfl rfl) rfl
theorem dX12_qGoesOnTest_7 : decode cX12_qGoesOnTest 7 = .ok (.aload_n 0, 1) := q_aload_n0 (bat_get dg_X12_qGoesOnTest_7_167 32 rfl rfl)
theorem dX12_qGoesOnTest_8 : decode cX12_qGoesOnTest 8 = .ok (.invokevirtual 207, 3) := q_invokevirtual (bat_get dg_X12_qGoesOnTest_7_167 33 rfl rfl) rfl
theorem dX12_qGoesOnTest_11 : decode cX12_qGoesOnTest 11 = .ok (.bipush 93, 2) := q_bipush (bat_get dg_X12_qGoesOnTest_7_167 34 rfl rfl) rfl
theorem dX12_qGoesOnTest_13 : decode cX12_qGoesOnTest 13 = .ok (.if_icmp .ne 63, 3) := q_if_icmp_ne (bat_get dg_X12_qGoesOnTest_7_167 35 rfl rfl) rfl
theorem dX12_qGoesOnTest_16 : decode cX12_qGoesOnTest 16 = .ok (.aload_n 0, 1) := q_aload_n0 (bat_get dg_X12_qGoesOnTest_7_167 36 rfl rfl)
theorem dX12_qGoesOnTest_17 : decode cX12_qGoesOnTest 17 = .ok (.invokevirtual 549, 3) := q_invokevirtual (bat_get dg_X12_qGoesOnTest_7_167 37 rfl rfl) rfl
theorem dX12_qGoesOnTest_20 : decode cX12_qGoesOnTest 20 = .ok (.ifCond .eq 56, 3) := q_ifCond_eq (bat_get dg_X12_qGoesOnTest_7_167 38 rfl rfl) rfl
theorem dX12_qGoesOnTest_23 : decode cX12_qGoesOnTest 23 = .ok (.aload_n 0, 1) := q_aload_n0 (bat_get dg_X12_qGoesOnTest_7_167 39 rfl rfl)
theorem dg_X12_qGoesOnTest_24_24 : bqL cX12_qGoesOnTest 24 [(0, [89]), (1, [180, 0, 201]), (4, [4]), (5, [96]), (6, [181, 0, 201]), (9, [42]), (10, [16, 25]), (12, [182, 2, 19]), (15, [154, 0, 10]), (25, [42]), (26, [89]), (27, [180, 1, 4]), (30, [4]), (31, [100]), (32, [181, 1, 4]), (35, [42]), (36, [89]), (37, [180, 1, 7]), (40, [4]), (41, [100]), (42, [181, 1, 7]), (45, [42]), (46, [182, 2, 31]), (49, [167, 255, 183]), (18, [42]), (19, [182, 1, 248]), (22, [167, 255, 243])] = true := by decide +kernel
