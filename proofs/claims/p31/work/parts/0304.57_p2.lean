theorem dg_X12_isAllowed_0_0 : bqL cX12_isAllowed 0 [(0, [42]), (1, [180, 0, 242]), (4, [154, 0, 16]), (20, [42]), (21, [180, 0, 242]), (24, [4]), (25, [160, 0, 17]), (42, [27]), (43, [4]), (44, [159, 0, 19]), (63, [4]), (64, [167, 0, 4]), (68, [172]), (47, [27]), (48, [5]), (49, [159, 0, 14]), (52, [27]), (53, [7]), (54, [159, 0, 9]), (57, [27]), (58, [16, 6]), (60, [164, 0, 7]), (67, [3]), (28, [27]), (29, [16, 7]), (31, [162, 0, 7]), (38, [3]), (39, [167, 0, 29]), (34, [4]), (35, [167, 0, 33]), (7, [27]), (8, [8]), (9, [162, 0, 7]), (16, [3]), (17, [167, 0, 51]), (12, [4]), (13, [167, 0, 55])] = true := by decide +kernel
theorem dX12_isAllowed_0 : decode cX12_isAllowed 0 = .ok (.aload_n 0, 1) := q_aload_n0 (bat_get dg_X12_isAllowed_0_0 0 rfl rfl)
theorem dX12_isAllowed_1 : decode cX12_isAllowed 1 = .ok (.getfield 242, 3) := q_getfield (bat_get dg_X12_isAllowed_0_0 1 rfl rfl) rfl
theorem dX12_isAllowed_4 : decode cX12_isAllowed 4 = .ok (.ifCond .ne 16, 3) := q_ifCond_ne (bat_get dg_X12_isAllowed_0_0 2 rfl rfl) rfl
theorem dX12_isAllowed_20 : decode cX12_isAllowed 20 = .ok (.aload_n 0, 1) := q_aload_n0 (bat_get dg_X12_isAllowed_0_0 3 rfl rfl)
theorem dX12_isAllowed_21 : decode cX12_isAllowed 21 = .ok (.getfield 242, 3) := q_getfield (bat_get dg_X12_isAllowed_0_0 4 rfl rfl) rfl
theorem dX12_isAllowed_24 : decode cX12_isAllowed 24 = .ok (.iconst 1, 1) := q_iconst1 (bat_get dg_X12_isAllowed_0_0 5 rfl rfl)
theorem dX12_isAllowed_25 : decode cX12_isAllowed 25 = .ok (.if_icmp .ne 17, 3) := q_if_icmp_ne (bat_get dg_X12_isAllowed_0_0 6 rfl rfl) rfl
theorem dX12_isAllowed_42 : decode cX12_isAllowed 42 = .ok (.iload_n 1, 1) := q_iload_n1 (bat_get dg_X12_isAllowed_0_0 7 rfl rfl)
theorem dX12_isAllowed_43 : decode cX12_isAllowed 43 = .ok (.iconst 1, 1) := q_iconst1 (bat_get dg_X12_isAllowed_0_0 8 rfl rfl)
theorem dX12_isAllowed_44 : decode cX12_isAllowed 44 = .ok (.if_icmp .eq 19, 3) := q_if_icmp_eq (bat_get dg_X12_isAllowed_0_0 9 rfl rfl) rfl
theorem dX12_isAllowed_63 : decode cX12_isAllowed 63 = .ok (.iconst 1, 1) := q_iconst1 (bat_get dg_X12_isAllowed_0_0 10 rfl rfl)
theorem dX12_isAllowed_64 : decode cX12_isAllowed 64 = .ok (.goto 4, 3) := q_goto (bat_get dg_X12_isAllowed_0_0 11 rfl rfl) rfl
theorem dX12_isAllowed_68 : decode cX12_isAllowed 68 = .ok (.ireturn, 1) := q_ireturn (bat_get dg_X12_isAllowed_0_0 12 rfl rfl)
theorem dX12_isAllowed_47 : decode cX12_isAllowed 47 = .ok (.iload_n 1, 1) := q_iload_n1 (bat_get dg_X12_isAllowed_0_0 13 rfl rfl)
theorem dX12_isAllowed_48 : decode cX12_isAllowed 48 = .ok (.iconst 2, 1) := q_iconst2 (bat_get dg_X12_isAllowed_0_0 14 rfl rfl)
theorem dX12_isAllowed_49 : decode cX12_isAllowed 49 = .ok (.if_icmp .eq 14, 3) := q_if_icmp_eq (bat_get dg_X12_isAllowed_0_0 15 rfl rfl) rfl
theorem dX12_isAllowed_52 : decode cX12_isAllowed 52 = .ok (.iload_n 1, 1) := q_iload_n1 (bat_get dg_X12_isAllowed_0_0 16 rfl rfl)
theorem dX12_isAllowed_53 : decode cX12_isAllowed 53 = .ok (.iconst 4, 1) := q_iconst4 (bat_get dg_X12_isAllowed_0_0 17 rfl rfl)
theorem dX12_isAllowed_54 : decode cX12_isAllowed 54 = .ok (.if_icmp .eq 9, 3) := q_if_icmp_eq (bat_get dg_X12_isAllowed_0_0 18 rfl rfl) rfl
theorem dX12_isAllowed_57 : decode cX12_isAllowed 57 = .ok (.iload_n 1, 1) := q_iload_n1 (bat_get dg_X12_isAllowed_0_0 19 rfl rfl)
theorem dX12_isAllowed_58 : decode cX12_isAllowed 58 = .ok (.bipush 6, 2) := q_bipush (bat_get dg_X12_isAllowed_0_0 20 rfl rfl) rfl
theorem dX12_isAllowed_60 : decode cX12_isAllowed 60 = .ok (.if_icmp .le 7, 3) := q_if_icmp_le (bat_get dg_X12_isAllowed_0_0 21 rfl rfl) rfl
theorem dX12_isAllowed_67 : decode cX12_isAllowed 67 = .ok (.iconst 0, 1) := q_iconst0 (bat_get dg_X12_isAllowed_0_0 22 rfl rfl)
theorem dX12_isAllowed_28 : decode cX12_isAllowed 28 = .ok (.iload_n 1, 1) := q_iload_n1 (bat_get dg_X12_isAllowed_0_0 23 rfl rfl)
theorem dX12_isAllowed_29 : decode cX12_isAllowed 29 = .ok (.bipush 7, 2) := q_bipush (bat_get dg_X12_isAllowed_0_0 24 rfl rfl) rfl
theorem dX12_isAllowed_31 : decode cX12_isAllowed 31 = .ok (.if_icmp .ge 7, 3) := q_if_icmp_ge (bat_get dg_X12_isAllowed_0_0 25 rfl rfl) rfl
theorem dX12_isAllowed_38 : decode cX12_isAllowed 38 = .ok (.iconst 0, 1) := q_iconst0 (bat_get dg_X12_isAllowed_0_0 26 rfl rfl)
theorem dX12_isAllowed_39 : decode cX12_isAllowed 39 = .ok (.goto 29, 3) := q_goto (bat_get dg_X12_isAllowed_0_0 27 rfl rfl) rfl
theorem dX12_isAllowed_34 : decode cX12_isAllowed 34 = .ok (.iconst 1, 1) := q_iconst1 (bat_get dg_X12_isAllowed_0_0 28 rfl rfl)
theorem dX12_isAllowed_35 : decode cX12_isAllowed 35 = .ok (.goto 33, 3) := q_goto (bat_get dg_X12_isAllowed_0_0 29 rfl rfl) rfl
theorem dX12_isAllowed_7 : decode cX12_isAllowed 7 = .ok (.iload_n 1, 1) := q_iload_n1 (bat_get dg_X12_isAllowed_0_0 30 rfl rfl)
theorem dX12_isAllowed_8 : decode cX12_isAllowed 8 = .ok (.iconst 5, 1) := q_iconst5 (bat_get dg_X12_isAllowed_0_0 31 rfl rfl)
theorem dX12_isAllowed_9 : decode cX12_isAllowed 9 = .ok (.if_icmp .ge 7, 3) := q_if_icmp_ge (bat_get dg_X12_isAllowed_0_0 32 rfl rfl) rfl
theorem dX12_isAllowed_16 : decode cX12_isAllowed 16 = .ok (.iconst 0, 1) := q_iconst0 (bat_get dg_X12_isAllowed_0_0 33 rfl rfl)
theorem dX12_isAllowed_17 : decode cX12_isAllowed 17 = .ok (.goto 51, 3) := q_goto (bat_get dg_X12_isAllowed_0_0 34 rfl rfl) rfl
theorem dX12_isAllowed_12 : decode cX12_isAllowed 12 = .ok (.iconst 1, 1) := q_iconst1 (bat_get dg_X12_isAllowed_0_0 35 rfl rfl)
theorem dX12_isAllowed_13 : decode cX12_isAllowed 13 = .ok (.goto 55, 3) := q_goto (bat_get dg_X12_isAllowed_0_0 36 rfl rfl) rfl
theorem w_7_46 : (Cond.code yX12_isAllowed cX12_isAllowed 2 (some .boolean)) ∈ wsL_law := sk_mem (ck_7 _ (List.mem_of_getElem? (i := 46) rfl)) rfl
theorem dg_X12_qWordHere_0_0 : bqL cX12_qWordHere 0 [(0, [42]), (1, [42]), (2, [180, 0, 150]), (5, [182, 0, 218]), (8, [153, 0, 5]), (13, [42]), (14, [42]), (15, [180, 0, 153]), (18, [182, 0, 218]), (21, [153, 0, 5]), (26, [42]), (27, [42]), (28, [180, 0, 156]), (31, [182, 0, 218]), (34, [153, 0, 5]), (39, [42]), (40, [42]), (41, [180, 0, 159]), (44, [182, 0, 218]), (47, [153, 0, 5]), (52, [42]), (53, [42]), (54, [180, 0, 162]), (57, [182, 0, 218]), (60, [153, 0, 5]), (65, [42]), (66, [42]), (67, [180, 0, 165]), (70, [182, 0, 218]), (73, [153, 0, 5]), (78, [42]), (79, [42]), (80, [180, 0, 168]), (83, [182, 0, 218]), (86, [153, 0, 6]), (92, [42]), (93, [42]), (94, [180, 0, 171]), (97, [182, 0, 218]), (100, [153, 0, 6])] = true := by decide +kernel
theorem dX12_qWordHere_0 : decode cX12_qWordHere 0 = .ok (.aload_n 0, 1) := q_aload_n0 (bat_get dg_X12_qWordHere_0_0 0 rfl rfl)
theorem dX12_qWordHere_1 : decode cX12_qWordHere 1 = .ok (.aload_n 0, 1) := q_aload_n0 (bat_get dg_X12_qWordHere_0_0 1 rfl rfl)
theorem dX12_qWordHere_2 : decode cX12_qWordHere 2 = .ok (.getfield 150, 3) := q_getfield (bat_get dg_X12_qWordHere_0_0 2 rfl rfl) rfl
theorem dX12_qWordHere_5 : decode cX12_qWordHere 5 = .ok (.invokevirtual 218, 3) := q_invokevirtual (bat_get dg_X12_qWordHere_0_0 3 rfl rfl) rfl
theorem dX12_qWordHere_8 : decode cX12_qWordHere 8 = .ok (.ifCond .eq 5, 3) := q_ifCond_eq (bat_get dg_X12_qWordHere_0_0 4 rfl rfl) rfl
theorem dX12_qWordHere_13 : decode cX12_qWordHere 13 = .ok (.aload_n 0, 1) := q_aload_n0 (bat_get dg_X12_qWordHere_0_0 5 rfl rfl)
theorem dX12_qWordHere_14 : decode cX12_qWordHere 14 = .ok (.aload_n 0, 1) := q_aload_n0 (bat_get dg_X12_qWordHere_0_0 6 rfl rfl)
theorem dX12_qWordHere_15 : decode cX12_qWordHere 15 = .ok (.getfield 153, 3) := q_getfield (bat_get dg_X12_qWordHere_0_0 7 rfl rfl) rfl
theorem dX12_qWordHere_18 : decode cX12_qWordHere 18 = .ok (.invokevirtual 218, 3) := q_invokevirtual (bat_get dg_X12_qWordHere_0_0 8 rfl rfl) rfl
theorem dX12_qWordHere_21 : decode cX12_qWordHere 21 = .ok (.ifCond .eq 5, 3) := q_ifCond_eq (bat_get dg_X12_qWordHere_0_0 9 rfl rfl) rfl
theorem dX12_qWordHere_26 : decode cX12_qWordHere 26 = .ok (.aload_n 0, 1) := q_aload_n0 (bat_get dg_X12_qWordHere_0_0 10 rfl rfl)
theorem dX12_qWordHere_27 : decode cX12_qWordHere 27 = .ok (.aload_n 0, 1) := q_aload_n0 (bat_get dg_X12_qWordHere_0_0 11 rfl rfl)
theorem dX12_qWordHere_28 : decode cX12_qWordHere 28 = .ok (.getfield 156, 3) := q_getfield (bat_get dg_X12_qWordHere_0_0 12 rfl rfl) rfl
theorem dX12_qWordHere_31 : decode cX12_qWordHere 31 = .ok (.invokevirtual 218, 3) := q_invokevirtual (bat_get dg_X12_qWordHere_0_0 13 rfl rfl) rfl
theorem dX12_qWordHere_34 : decode cX12_qWordHere 34 = .ok (.ifCond .eq 5, 3) := q_ifCond_eq (bat_get dg_X12_qWordHere_0_0 14 rfl rfl) rfl
theorem dX12_qWordHere_39 : decode cX12_qWordHere 39 = .ok (.aload_n 0, 1) := q_aload_n0 (bat_get dg_X12_qWordHere_0_0 15 rfl rfl)
theorem dX12_qWordHere_40 : decode cX12_qWordHere 40 = .ok (.aload_n 0, 1) := q_aload_n0 (bat_get dg_X12_qWordHere_0_0 16 rfl rfl)
theorem dX12_qWordHere_41 : decode cX12_qWordHere 41 = .ok (.getfield 159, 3) := q_getfield (bat_get dg_X12_qWordHere_0_0 17 rfl rfl) rfl
theorem dX12_qWordHere_44 : decode cX12_qWordHere 44 = .ok (.invokevirtual 218, 3) := q_invokevirtual (bat_get dg_X12_qWordHere_0_0 18 rfl rfl) rfl
theorem dX12_qWordHere_47 : decode cX12_qWordHere 47 = .ok (.ifCond .eq 5, 3) := q_ifCond_eq (bat_get dg_X12_qWordHere_0_0 19 rfl rfl) rfl
theorem dX12_qWordHere_52 : decode cX12_qWordHere 52 = .ok (.aload_n 0, 1) := q_aload_n0 (bat_get dg_X12_qWordHere_0_0 20 rfl rfl)
theorem dX12_qWordHere_53 : decode cX12_qWordHere 53 = .ok (.aload_n 0, 1) := q_aload_n0 (bat_get dg_X12_qWordHere_0_0 21 rfl rfl)
theorem dX12_qWordHere_54 : decode cX12_qWordHere 54 = .ok (.getfield 162, 3) := q_getfield (bat_get dg_X12_qWordHere_0_0 22 rfl rfl) rfl
theorem dX12_qWordHere_57 : decode cX12_qWordHere 57 = .ok (.invokevirtual 218, 3) := q_invokevirtual (bat_get dg_X12_qWordHere_0_0 23 rfl rfl) rfl
theorem dX12_qWordHere_60 : decode cX12_qWordHere 60 = .ok (.ifCond .eq 5, 3) := q_ifCond_eq (bat_get dg_X12_qWordHere_0_0 24 rfl rfl) rfl
theorem dX12_qWordHere_65 : decode cX12_qWordHere 65 = .ok (.aload_n 0, 1) := q_aload_n0 (bat_get dg_X12_qWordHere_0_0 25 rfl rfl)
theorem dX12_qWordHere_66 : decode cX12_qWordHere 66 = .ok (.aload_n 0, 1) := q_aload_n0 (bat_get dg_X12_qWordHere_0_0 26 rfl rfl)
theorem dX12_qWordHere_67 : decode cX12_qWordHere 67 = .ok (.getfield 165, 3) := q_getfield (bat_get dg_X12_qWordHere_0_0 27 rfl rfl) rfl
theorem dX12_qWordHere_70 : decode cX12_qWordHere 70 = .ok (.invokevirtual 218, 3) := q_invokevirtual (bat_get dg_X12_qWordHere_0_0 28 rfl rfl) rfl
theorem dX12_qWordHere_73 : decode cX12_qWordHere 73 = .ok (.ifCond .eq 5, 3) := q_ifCond_eq (bat_get dg_X12_qWordHere_0_0 29 rfl rfl) rfl
theorem dX12_qWordHere_78 : decode cX12_qWordHere 78 = .ok (.aload_n 0, 1) := q_aload_n0 (bat_get dg_X12_qWordHere_0_0 30 rfl rfl)
theorem dX12_qWordHere_79 : decode cX12_qWordHere 79 = .ok (.aload_n 0, 1) := q_aload_n0 (bat_get dg_X12_qWordHere_0_0 31 rfl rfl)
theorem dX12_qWordHere_80 : decode cX12_qWordHere 80 = .ok (.getfield 168, 3) := q_getfield (bat_get dg_X12_qWordHere_0_0 32 rfl rfl) rfl
theorem dX12_qWordHere_83 : decode cX12_qWordHere 83 = .ok (.invokevirtual 218, 3) := q_invokevirtual (bat_get dg_X12_qWordHere_0_0 33 rfl rfl) rfl
theorem dX12_qWordHere_86 : decode cX12_qWordHere 86 = .ok (.ifCond .eq 6, 3) := q_ifCond_eq (bat_get dg_X12_qWordHere_0_0 34 rfl rfl) rfl
theorem dX12_qWordHere_92 : decode cX12_qWordHere 92 = .ok (.aload_n 0, 1) := q_aload_n0 (bat_get dg_X12_qWordHere_0_0 35 rfl rfl)
theorem dX12_qWordHere_93 : decode cX12_qWordHere 93 = .ok (.aload_n 0, 1) := q_aload_n0 (bat_get dg_X12_qWordHere_0_0 36 rfl rfl)
theorem dX12_qWordHere_94 : decode cX12_qWordHere 94 = .ok (.getfield 171, 3) := q_getfield (bat_get dg_X12_qWordHere_0_0 37 rfl rfl) rfl
theorem dX12_qWordHere_97 : decode cX12_qWordHere 97 = .ok (.invokevirtual 218, 3) := q_invokevirtual (bat_get dg_X12_qWordHere_0_0 38 rfl rfl) rfl
theorem dX12_qWordHere_100 : decode cX12_qWordHere 100 = .ok (.ifCond .eq 6, 3) := q_ifCond_eq (bat_get dg_X12_qWordHere_0_0 39 rfl rfl) rfl
theorem dg_X12_qWordHere_11_106 : bqL cX12_qWordHere 11 [(95, [42]), (96, [42]), (97, [180, 0, 174]), (100, [182, 0, 218]), (103, [153, 0, 6]), (109, [42]), (110, [42]), (111, [180, 0, 114]), (114, [182, 0, 218]), (117, [153, 0, 6]), (123, [42]), (124, [42]), (125, [180, 0, 177]), (128, [182, 0, 218]), (131, [153, 0, 6]), (137, [2]), (138, [172]), (134, [16, 10]), (136, [172]), (120, [16, 9]), (122, [172]), (106, [16, 8]), (108, [172]), (92, [16, 7]), (94, [172]), (78, [16, 6]), (80, [172]), (65, [8]), (66, [172]), (52, [7]), (53, [172]), (39, [6]), (40, [172]), (26, [5]), (27, [172]), (13, [4]), (14, [172]), (0, [3]), (1, [172])] = true := by decide +kernel
theorem dX12_qWordHere_106 : decode cX12_qWordHere 106 = .ok (.aload_n 0, 1) := q_aload_n0 (bat_get dg_X12_qWordHere_11_106 0 rfl rfl)
theorem dX12_qWordHere_107 : decode cX12_qWordHere 107 = .ok (.aload_n 0, 1) := q_aload_n0 (bat_get dg_X12_qWordHere_11_106 1 rfl rfl)
theorem dX12_qWordHere_108 : decode cX12_qWordHere 108 = .ok (.getfield 174, 3) := q_getfield (bat_get dg_X12_qWordHere_11_106 2 rfl rfl) rfl
theorem dX12_qWordHere_111 : decode cX12_qWordHere 111 = .ok (.invokevirtual 218, 3) := q_invokevirtual (bat_get dg_X12_qWordHere_11_106 3 rfl rfl) rfl
theorem dX12_qWordHere_114 : decode cX12_qWordHere 114 = .ok (.ifCond .eq 6, 3) := q_ifCond_eq (bat_get dg_X12_qWordHere_11_106 4 rfl rfl) rfl
theorem dX12_qWordHere_120 : decode cX12_qWordHere 120 = .ok (.aload_n 0, 1) := q_aload_n0 (bat_get dg_X12_qWordHere_11_106 5 rfl rfl)
theorem dX12_qWordHere_121 : decode cX12_qWordHere 121 = .ok (.aload_n 0, 1) := q_aload_n0 (bat_get dg_X12_qWordHere_11_106 6 rfl rfl)
theorem dX12_qWordHere_122 : decode cX12_qWordHere 122 = .ok (.getfield 114, 3) := q_getfield (bat_get dg_X12_qWordHere_11_106 7 rfl rfl) rfl
theorem dX12_qWordHere_125 : decode cX12_qWordHere 125 = .ok (.invokevirtual 218, 3) := q_invokevirtual (bat_get dg_X12_qWordHere_11_106 8 rfl rfl) rfl
theorem dX12_qWordHere_128 : decode cX12_qWordHere 128 = .ok (.ifCond .eq 6, 3) := q_ifCond_eq (bat_get dg_X12_qWordHere_11_106 9 rfl rfl) rfl
theorem dX12_qWordHere_134 : decode cX12_qWordHere 134 = .ok (.aload_n 0, 1) := q_aload_n0 (bat_get dg_X12_qWordHere_11_106 10 rfl rfl)
theorem dX12_qWordHere_135 : decode cX12_qWordHere 135 = .ok (.aload_n 0, 1) := q_aload_n0 (bat_get dg_X12_qWordHere_11_106 11 rfl rfl)
theorem dX12_qWordHere_136 : decode cX12_qWordHere 136 = .ok (.getfield 177, 3) := q_getfield (bat_get dg_X12_qWordHere_11_106 12 rfl rfl) rfl
theorem dX12_qWordHere_139 : decode cX12_qWordHere 139 = .ok (.invokevirtual 218, 3) := q_invokevirtual (bat_get dg_X12_qWordHere_11_106 13 rfl rfl) rfl
theorem dX12_qWordHere_142 : decode cX12_qWordHere 142 = .ok (.ifCond .eq 6, 3) := q_ifCond_eq (bat_get dg_X12_qWordHere_11_106 14 rfl rfl) rfl
theorem dX12_qWordHere_148 : decode cX12_qWordHere 148 = .ok (.iconst (-1), 1) := q_iconstm1 (bat_get dg_X12_qWordHere_11_106 15 rfl rfl)
theorem dX12_qWordHere_149 : decode cX12_qWordHere 149 = .ok (.ireturn, 1) := q_ireturn (bat_get dg_X12_qWordHere_11_106 16 rfl rfl)
theorem dX12_qWordHere_145 : decode cX12_qWordHere 145 = .ok (.bipush 10, 2) := q_bipush (bat_get dg_X12_qWordHere_11_106 17 rfl rfl) rfl
theorem dX12_qWordHere_147 : decode cX12_qWordHere 147 = .ok (.ireturn, 1) := q_ireturn (bat_get dg_X12_qWordHere_11_106 18 rfl rfl)
theorem dX12_qWordHere_131 : decode cX12_qWordHere 131 = .ok (.bipush 9, 2) := q_bipush (bat_get dg_X12_qWordHere_11_106 19 rfl rfl) rfl
theorem dX12_qWordHere_133 : decode cX12_qWordHere 133 = .ok (.ireturn, 1) := q_ireturn (bat_get dg_X12_qWordHere_11_106 20 rfl rfl)
theorem dX12_qWordHere_117 : decode cX12_qWordHere 117 = .ok (.bipush 8, 2) := q_bipush (bat_get dg_X12_qWordHere_11_106 21 rfl rfl) rfl
theorem dX12_qWordHere_119 : decode cX12_qWordHere 119 = .ok (.ireturn, 1) := q_ireturn (bat_get dg_X12_qWordHere_11_106 22 rfl rfl)
theorem dX12_qWordHere_103 : decode cX12_qWordHere 103 = .ok (.bipush 7, 2) := q_bipush (bat_get dg_X12_qWordHere_11_106 23 rfl rfl) rfl
theorem dX12_qWordHere_105 : decode cX12_qWordHere 105 = .ok (.ireturn, 1) := q_ireturn (bat_get dg_X12_qWordHere_11_106 24 rfl rfl)
theorem dX12_qWordHere_89 : decode cX12_qWordHere 89 = .ok (.bipush 6, 2) := q_bipush (bat_get dg_X12_qWordHere_11_106 25 rfl rfl) rfl
