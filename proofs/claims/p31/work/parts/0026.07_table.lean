theorem dX9_fillDeeds_73 : decode cX9_fillDeeds 73 = .ok (.iload 4, 2) := q_iload (bat_get dg_X9_fillDeeds_70_70 2 rfl rfl)
theorem dX9_fillDeeds_75 : decode cX9_fillDeeds 75 = .ok (.iload 5, 2) := q_iload (bat_get dg_X9_fillDeeds_70_70 3 rfl rfl)
theorem dX9_fillDeeds_77 : decode cX9_fillDeeds 77 = .ok (.invokevirtual 85, 3) := q_invokevirtual (bat_get dg_X9_fillDeeds_70_70 4 rfl rfl) rfl
theorem dX9_fillDeeds_80 : decode cX9_fillDeeds 80 = .ok (.bipush 10, 2) := q_bipush (bat_get dg_X9_fillDeeds_70_70 5 rfl rfl) rfl
theorem dX9_fillDeeds_82 : decode cX9_fillDeeds 82 = .ok (.invokestatic 89, 3) := q_invokestatic (bat_get dg_X9_fillDeeds_70_70 6 rfl rfl) rfl
theorem dX9_fillDeeds_85 : decode cX9_fillDeeds 85 = .ok (.iastore, 1) := q_iastore (bat_get dg_X9_fillDeeds_70_70 7 rfl rfl)
theorem dX9_fillDeeds_86 : decode cX9_fillDeeds 86 = .ok (.aload_n 3, 1) := q_aload_n3 (bat_get dg_X9_fillDeeds_70_70 8 rfl rfl)
theorem dX9_fillDeeds_87 : decode cX9_fillDeeds 87 = .ok (.sipush 10006, 3) := q_sipush (bat_get dg_X9_fillDeeds_70_70 9 rfl rfl) rfl
theorem dX9_fillDeeds_90 : decode cX9_fillDeeds 90 = .ok (.lconst 0, 1) := q_lconst0 (bat_get dg_X9_fillDeeds_70_70 10 rfl rfl)
theorem dX9_fillDeeds_91 : decode cX9_fillDeeds 91 = .ok (.invokevirtual 75, 3) := q_invokevirtual (bat_get dg_X9_fillDeeds_70_70 11 rfl rfl) rfl
theorem dX9_fillDeeds_94 : decode cX9_fillDeeds 94 = .ok (.iconst 0, 1) := q_iconst0 (bat_get dg_X9_fillDeeds_70_70 12 rfl rfl)
theorem dX9_fillDeeds_95 : decode cX9_fillDeeds 95 = .ok (.istore 8, 2) := q_istore (bat_get dg_X9_fillDeeds_70_70 13 rfl rfl)
theorem dX9_fillDeeds_97 : decode cX9_fillDeeds 97 = .ok (.iload 8, 2) := q_iload (bat_get dg_X9_fillDeeds_70_70 14 rfl rfl)
theorem dX9_fillDeeds_99 : decode cX9_fillDeeds 99 = .ok (.bipush 10, 2) := q_bipush (bat_get dg_X9_fillDeeds_70_70 15 rfl rfl) rfl
theorem dX9_fillDeeds_101 : decode cX9_fillDeeds 101 = .ok (.if_icmp .ge 45, 3) := q_if_icmp_ge (bat_get dg_X9_fillDeeds_70_70 16 rfl rfl) rfl
theorem dX9_fillDeeds_146 : decode cX9_fillDeeds 146 = .ok (.aload_n 0, 1) := q_aload_n0 (bat_get dg_X9_fillDeeds_70_70 17 rfl rfl)
theorem dX9_fillDeeds_147 : decode cX9_fillDeeds 147 = .ok (.getfield 21, 3) := q_getfield (bat_get dg_X9_fillDeeds_70_70 18 rfl rfl) rfl
theorem dX9_fillDeeds_150 : decode cX9_fillDeeds 150 = .ok (.iload 7, 2) := q_iload (bat_get dg_X9_fillDeeds_70_70 19 rfl rfl)
theorem dX9_fillDeeds_152 : decode cX9_fillDeeds 152 = .ok (.aload_n 0, 1) := q_aload_n0 (bat_get dg_X9_fillDeeds_70_70 20 rfl rfl)
theorem dX9_fillDeeds_153 : decode cX9_fillDeeds 153 = .ok (.iload_n 2, 1) := q_iload_n2 (bat_get dg_X9_fillDeeds_70_70 21 rfl rfl)
theorem dX9_fillDeeds_154 : decode cX9_fillDeeds 154 = .ok (.iload 6, 2) := q_iload (bat_get dg_X9_fillDeeds_70_70 22 rfl rfl)
theorem dX9_fillDeeds_156 : decode cX9_fillDeeds 156 = .ok (.iconst 0, 1) := q_iconst0 (bat_get dg_X9_fillDeeds_70_70 23 rfl rfl)
theorem dX9_fillDeeds_157 : decode cX9_fillDeeds 157 = .ok (.invokevirtual 95, 3) := q_invokevirtual (bat_get dg_X9_fillDeeds_70_70 24 rfl rfl) rfl
theorem dX9_fillDeeds_160 : decode cX9_fillDeeds 160 = .ok (.iastore, 1) := q_iastore (bat_get dg_X9_fillDeeds_70_70 25 rfl rfl)
theorem dX9_fillDeeds_161 : decode cX9_fillDeeds 161 = .ok (.iinc 6 1, 3) := q_iinc (bat_get dg_X9_fillDeeds_70_70 26 rfl rfl) rfl
theorem dX9_fillDeeds_164 : decode cX9_fillDeeds 164 = .ok (.goto (-140), 3) := q_goto (bat_get dg_X9_fillDeeds_70_70 27 rfl rfl) rfl
theorem dX9_fillDeeds_104 : decode cX9_fillDeeds 104 = .ok (.aload_n 3, 1) := q_aload_n3 (bat_get dg_X9_fillDeeds_70_70 28 rfl rfl)
theorem dX9_fillDeeds_105 : decode cX9_fillDeeds 105 = .ok (.sipush 10005, 3) := q_sipush (bat_get dg_X9_fillDeeds_70_70 29 rfl rfl) rfl
theorem dX9_fillDeeds_108 : decode cX9_fillDeeds 108 = .ok (.iload 8, 2) := q_iload (bat_get dg_X9_fillDeeds_70_70 30 rfl rfl)
theorem dX9_fillDeeds_110 : decode cX9_fillDeeds 110 = .ok (.i2l, 1) := q_i2l (bat_get dg_X9_fillDeeds_70_70 31 rfl rfl)
theorem dX9_fillDeeds_111 : decode cX9_fillDeeds 111 = .ok (.invokevirtual 75, 3) := q_invokevirtual (bat_get dg_X9_fillDeeds_70_70 32 rfl rfl) rfl
theorem dX9_fillDeeds_114 : decode cX9_fillDeeds 114 = .ok (.aload_n 0, 1) := q_aload_n0 (bat_get dg_X9_fillDeeds_70_70 33 rfl rfl)
theorem dX9_fillDeeds_115 : decode cX9_fillDeeds 115 = .ok (.getfield 15, 3) := q_getfield (bat_get dg_X9_fillDeeds_70_70 34 rfl rfl) rfl
theorem dX9_fillDeeds_118 : decode cX9_fillDeeds 118 = .ok (.iload 7, 2) := q_iload (bat_get dg_X9_fillDeeds_70_70 35 rfl rfl)
theorem dX9_fillDeeds_120 : decode cX9_fillDeeds 120 = .ok (.bipush 10, 2) := q_bipush (bat_get dg_X9_fillDeeds_70_70 36 rfl rfl) rfl
theorem dX9_fillDeeds_122 : decode cX9_fillDeeds 122 = .ok (.imul, 1) := q_imul (bat_get dg_X9_fillDeeds_70_70 37 rfl rfl)
theorem dX9_fillDeeds_123 : decode cX9_fillDeeds 123 = .ok (.iload 8, 2) := q_iload (bat_get dg_X9_fillDeeds_70_70 38 rfl rfl)
theorem dX9_fillDeeds_125 : decode cX9_fillDeeds 125 = .ok (.iadd, 1) := q_iadd (bat_get dg_X9_fillDeeds_70_70 39 rfl rfl)
theorem dg_X9_fillDeeds_126_126 : bqL cX9_fillDeeds 126 [(0, [45]), (1, [21, 4]), (3, [21, 5]), (5, [182, 0, 85]), (8, [16, 10]), (10, [184, 0, 89]), (13, [79]), (14, [132, 8, 1]), (17, [167, 255, 210])] = true := by decide +kernel
theorem dX9_fillDeeds_126 : decode cX9_fillDeeds 126 = .ok (.aload_n 3, 1) := q_aload_n3 (bat_get dg_X9_fillDeeds_126_126 0 rfl rfl)
theorem dX9_fillDeeds_127 : decode cX9_fillDeeds 127 = .ok (.iload 4, 2) := q_iload (bat_get dg_X9_fillDeeds_126_126 1 rfl rfl)
theorem dX9_fillDeeds_129 : decode cX9_fillDeeds 129 = .ok (.iload 5, 2) := q_iload (bat_get dg_X9_fillDeeds_126_126 2 rfl rfl)
theorem dX9_fillDeeds_131 : decode cX9_fillDeeds 131 = .ok (.invokevirtual 85, 3) := q_invokevirtual (bat_get dg_X9_fillDeeds_126_126 3 rfl rfl) rfl
theorem dX9_fillDeeds_134 : decode cX9_fillDeeds 134 = .ok (.bipush 10, 2) := q_bipush (bat_get dg_X9_fillDeeds_126_126 4 rfl rfl) rfl
theorem dX9_fillDeeds_136 : decode cX9_fillDeeds 136 = .ok (.invokestatic 89, 3) := q_invokestatic (bat_get dg_X9_fillDeeds_126_126 5 rfl rfl) rfl
theorem dX9_fillDeeds_139 : decode cX9_fillDeeds 139 = .ok (.iastore, 1) := q_iastore (bat_get dg_X9_fillDeeds_126_126 6 rfl rfl)
theorem dX9_fillDeeds_140 : decode cX9_fillDeeds 140 = .ok (.iinc 8 1, 3) := q_iinc (bat_get dg_X9_fillDeeds_126_126 7 rfl rfl) rfl
theorem dX9_fillDeeds_143 : decode cX9_fillDeeds 143 = .ok (.goto (-46), 3) := q_goto (bat_get dg_X9_fillDeeds_126_126 8 rfl rfl) rfl
theorem w_2_67 : (Cond.fieldLink RX9 18 "SameKeeper$Table" "alone" "[I") ∈ wsL_law := sk_mem (ck_2 _ (List.mem_of_getElem? (i := 67) rfl)) rfl
theorem w_2_70 : (Cond.fieldLink RX9 21 "SameKeeper$Table" "open" "[I") ∈ wsL_law := sk_mem (ck_2 _ (List.mem_of_getElem? (i := 70) rfl)) rfl
theorem w_4_17 : (Cond.methodLink RX9 95 yX9_moodsBehind) ∈ wsL_law := sk_mem (ck_4 _ (List.mem_of_getElem? (i := 17) rfl)) rfl
theorem w_4_18 : (Cond.instanceMethod yX9_moodsBehind) ∈ wsL_law := sk_mem (ck_4 _ (List.mem_of_getElem? (i := 18) rfl)) rfl
theorem w_4_19 : (Cond.selects RX9 yX9_moodsBehind yX9_moodsBehind) ∈ wsL_law := sk_mem (ck_4 _ (List.mem_of_getElem? (i := 19) rfl)) rfl
theorem w_1_12 : (Cond.initialized RX9) ∈ wsL_law := sk_mem (ck_1 _ (List.mem_of_getElem? (i := 12) rfl)) rfl
theorem w_4_16 : (Cond.code yX9_fillDeeds cX9_fillDeeds 9 none) ∈ wsL_law := sk_mem (ck_4 _ (List.mem_of_getElem? (i := 16) rfl)) rfl
def om_13_48 : List Bool := false :: false :: false :: false :: false :: false :: true :: false :: false :: true :: false :: false :: false :: []
def om_13_7c : List Bool := false :: false :: false :: false :: false :: false :: true :: true :: true :: true :: true :: false :: false :: []
def om_13_1c00 : List Bool := true :: true :: true :: false :: false :: false :: false :: false :: false :: false :: false :: false :: false :: []
theorem hd_X9_moodsBehind_3 : skD yX9_moodsBehind 3 := by decide +kernel
theorem dg_X9_fit_18_18 : bqL cX9_fit 18 [(0, [62]), (1, [3]), (2, [54, 4]), (4, [21, 4]), (6, [44]), (7, [180, 0, 55]), (10, [162, 0, 86]), (96, [177]), (13, [21, 4]), (15, [16, 9]), (17, [162, 0, 79]), (20, [29]), (21, [16, 10]), (23, [104]), (24, [44]), (25, [180, 0, 58]), (28, [21, 4]), (30, [46]), (31, [96]), (32, [16, 10]), (34, [104]), (35, [44]), (36, [180, 0, 61]), (39, [21, 4]), (41, [46]), (42, [96]), (43, [54, 5]), (45, [42]), (46, [180, 0, 28]), (49, [21, 4]), (51, [46]), (52, [21, 5]), (54, [159, 0, 36]), (90, [132, 4, 1]), (93, [167, 255, 167]), (57, [42]), (58, [180, 0, 28]), (61, [21, 4]), (63, [21, 5]), (65, [79])] = true := by decide +kernel
theorem dX9_fit_18 : decode cX9_fit 18 = .ok (.istore_n 3, 1) := q_istore_n3 (bat_get dg_X9_fit_18_18 0 rfl rfl)
theorem dX9_fit_19 : decode cX9_fit 19 = .ok (.iconst 0, 1) := q_iconst0 (bat_get dg_X9_fit_18_18 1 rfl rfl)
theorem dX9_fit_20 : decode cX9_fit 20 = .ok (.istore 4, 2) := q_istore (bat_get dg_X9_fit_18_18 2 rfl rfl)
theorem dX9_fit_22 : decode cX9_fit 22 = .ok (.iload 4, 2) := q_iload (bat_get dg_X9_fit_18_18 3 rfl rfl)
theorem dX9_fit_24 : decode cX9_fit 24 = .ok (.aload_n 2, 1) := q_aload_n2 (bat_get dg_X9_fit_18_18 4 rfl rfl)
theorem dX9_fit_25 : decode cX9_fit 25 = .ok (.getfield 55, 3) := q_getfield (bat_get dg_X9_fit_18_18 5 rfl rfl) rfl
theorem dX9_fit_28 : decode cX9_fit 28 = .ok (.if_icmp .ge 86, 3) := q_if_icmp_ge (bat_get dg_X9_fit_18_18 6 rfl rfl) rfl
theorem dX9_fit_114 : decode cX9_fit 114 = .ok (.return_, 1) := q_return_ (bat_get dg_X9_fit_18_18 7 rfl rfl)
theorem dX9_fit_31 : decode cX9_fit 31 = .ok (.iload 4, 2) := q_iload (bat_get dg_X9_fit_18_18 8 rfl rfl)
theorem dX9_fit_33 : decode cX9_fit 33 = .ok (.bipush 9, 2) := q_bipush (bat_get dg_X9_fit_18_18 9 rfl rfl) rfl
theorem dX9_fit_35 : decode cX9_fit 35 = .ok (.if_icmp .ge 79, 3) := q_if_icmp_ge (bat_get dg_X9_fit_18_18 10 rfl rfl) rfl
theorem dX9_fit_38 : decode cX9_fit 38 = .ok (.iload_n 3, 1) := q_iload_n3 (bat_get dg_X9_fit_18_18 11 rfl rfl)
theorem dX9_fit_39 : decode cX9_fit 39 = .ok (.bipush 10, 2) := q_bipush (bat_get dg_X9_fit_18_18 12 rfl rfl) rfl
theorem dX9_fit_41 : decode cX9_fit 41 = .ok (.imul, 1) := q_imul (bat_get dg_X9_fit_18_18 13 rfl rfl)
theorem dX9_fit_42 : decode cX9_fit 42 = .ok (.aload_n 2, 1) := q_aload_n2 (bat_get dg_X9_fit_18_18 14 rfl rfl)
theorem dX9_fit_43 : decode cX9_fit 43 = .ok (.getfield 58, 3) := q_getfield (bat_get dg_X9_fit_18_18 15 rfl rfl) rfl
theorem dX9_fit_46 : decode cX9_fit 46 = .ok (.iload 4, 2) := q_iload (bat_get dg_X9_fit_18_18 16 rfl rfl)
theorem dX9_fit_48 : decode cX9_fit 48 = .ok (.iaload, 1) := q_iaload (bat_get dg_X9_fit_18_18 17 rfl rfl)
theorem dX9_fit_49 : decode cX9_fit 49 = .ok (.iadd, 1) := q_iadd (bat_get dg_X9_fit_18_18 18 rfl rfl)
theorem dX9_fit_50 : decode cX9_fit 50 = .ok (.bipush 10, 2) := q_bipush (bat_get dg_X9_fit_18_18 19 rfl rfl) rfl
theorem dX9_fit_52 : decode cX9_fit 52 = .ok (.imul, 1) := q_imul (bat_get dg_X9_fit_18_18 20 rfl rfl)
theorem dX9_fit_53 : decode cX9_fit 53 = .ok (.aload_n 2, 1) := q_aload_n2 (bat_get dg_X9_fit_18_18 21 rfl rfl)
theorem dX9_fit_54 : decode cX9_fit 54 = .ok (.getfield 61, 3) := q_getfield (bat_get dg_X9_fit_18_18 22 rfl rfl) rfl
theorem dX9_fit_57 : decode cX9_fit 57 = .ok (.iload 4, 2) := q_iload (bat_get dg_X9_fit_18_18 23 rfl rfl)
theorem dX9_fit_59 : decode cX9_fit 59 = .ok (.iaload, 1) := q_iaload (bat_get dg_X9_fit_18_18 24 rfl rfl)
theorem dX9_fit_60 : decode cX9_fit 60 = .ok (.iadd, 1) := q_iadd (bat_get dg_X9_fit_18_18 25 rfl rfl)
theorem dX9_fit_61 : decode cX9_fit 61 = .ok (.istore 5, 2) := q_istore (bat_get dg_X9_fit_18_18 26 rfl rfl)
theorem dX9_fit_63 : decode cX9_fit 63 = .ok (.aload_n 0, 1) := q_aload_n0 (bat_get dg_X9_fit_18_18 27 rfl rfl)
theorem dX9_fit_64 : decode cX9_fit 64 = .ok (.getfield 28, 3) := q_getfield (bat_get dg_X9_fit_18_18 28 rfl rfl) rfl
theorem dX9_fit_67 : decode cX9_fit 67 = .ok (.iload 4, 2) := q_iload (bat_get dg_X9_fit_18_18 29 rfl rfl)
theorem dX9_fit_69 : decode cX9_fit 69 = .ok (.iaload, 1) := q_iaload (bat_get dg_X9_fit_18_18 30 rfl rfl)
theorem dX9_fit_70 : decode cX9_fit 70 = .ok (.iload 5, 2) := q_iload (bat_get dg_X9_fit_18_18 31 rfl rfl)
theorem dX9_fit_72 : decode cX9_fit 72 = .ok (.if_icmp .eq 36, 3) := q_if_icmp_eq (bat_get dg_X9_fit_18_18 32 rfl rfl) rfl
theorem dX9_fit_108 : decode cX9_fit 108 = .ok (.iinc 4 1, 3) := q_iinc (bat_get dg_X9_fit_18_18 33 rfl rfl) rfl
theorem dX9_fit_111 : decode cX9_fit 111 = .ok (.goto (-89), 3) := q_goto (bat_get dg_X9_fit_18_18 34 rfl rfl) rfl
theorem dX9_fit_75 : decode cX9_fit 75 = .ok (.aload_n 0, 1) := q_aload_n0 (bat_get dg_X9_fit_18_18 35 rfl rfl)
theorem dX9_fit_76 : decode cX9_fit 76 = .ok (.getfield 28, 3) := q_getfield (bat_get dg_X9_fit_18_18 36 rfl rfl) rfl
theorem dX9_fit_79 : decode cX9_fit 79 = .ok (.iload 4, 2) := q_iload (bat_get dg_X9_fit_18_18 37 rfl rfl)
theorem dX9_fit_81 : decode cX9_fit 81 = .ok (.iload 5, 2) := q_iload (bat_get dg_X9_fit_18_18 38 rfl rfl)
theorem dX9_fit_83 : decode cX9_fit 83 = .ok (.iastore, 1) := q_iastore (bat_get dg_X9_fit_18_18 39 rfl rfl)
theorem dg_X9_fit_0_84 : bqL cX9_fit 0 [(84, [43]), (85, [180, 0, 37]), (88, [44]), (89, [21, 4]), (91, [184, 0, 64]), (94, [42]), (95, [43]), (96, [21, 4]), (98, [182, 0, 68]), (101, [42]), (102, [43]), (103, [21, 4]), (105, [182, 0, 72]), (0, [43]), (1, [180, 0, 37]), (4, [180, 0, 43]), (7, [153, 0, 10]), (17, [3]), (10, [44]), (11, [180, 0, 49]), (14, [167, 0, 4])] = true := by decide +kernel
theorem dX9_fit_84 : decode cX9_fit 84 = .ok (.aload_n 1, 1) := q_aload_n1 (bat_get dg_X9_fit_0_84 0 rfl rfl)
theorem dX9_fit_85 : decode cX9_fit 85 = .ok (.getfield 37, 3) := q_getfield (bat_get dg_X9_fit_0_84 1 rfl rfl) rfl
theorem dX9_fit_88 : decode cX9_fit 88 = .ok (.aload_n 2, 1) := q_aload_n2 (bat_get dg_X9_fit_0_84 2 rfl rfl)
theorem dX9_fit_89 : decode cX9_fit 89 = .ok (.iload 4, 2) := q_iload (bat_get dg_X9_fit_0_84 3 rfl rfl)
theorem dX9_fit_91 : decode cX9_fit 91 = .ok (.invokestatic 64, 3) := q_invokestatic (bat_get dg_X9_fit_0_84 4 rfl rfl) rfl
theorem dX9_fit_94 : decode cX9_fit 94 = .ok (.aload_n 0, 1) := q_aload_n0 (bat_get dg_X9_fit_0_84 5 rfl rfl)
theorem dX9_fit_95 : decode cX9_fit 95 = .ok (.aload_n 1, 1) := q_aload_n1 (bat_get dg_X9_fit_0_84 6 rfl rfl)
theorem dX9_fit_96 : decode cX9_fit 96 = .ok (.iload 4, 2) := q_iload (bat_get dg_X9_fit_0_84 7 rfl rfl)
theorem dX9_fit_98 : decode cX9_fit 98 = .ok (.invokevirtual 68, 3) := q_invokevirtual (bat_get dg_X9_fit_0_84 8 rfl rfl) rfl
theorem dX9_fit_101 : decode cX9_fit 101 = .ok (.aload_n 0, 1) := q_aload_n0 (bat_get dg_X9_fit_0_84 9 rfl rfl)
theorem dX9_fit_102 : decode cX9_fit 102 = .ok (.aload_n 1, 1) := q_aload_n1 (bat_get dg_X9_fit_0_84 10 rfl rfl)
theorem dX9_fit_103 : decode cX9_fit 103 = .ok (.iload 4, 2) := q_iload (bat_get dg_X9_fit_0_84 11 rfl rfl)
theorem dX9_fit_105 : decode cX9_fit 105 = .ok (.invokevirtual 72, 3) := q_invokevirtual (bat_get dg_X9_fit_0_84 12 rfl rfl) rfl
theorem dX9_fit_0 : decode cX9_fit 0 = .ok (.aload_n 1, 1) := q_aload_n1 (bat_get dg_X9_fit_0_84 13 rfl rfl)
theorem dX9_fit_1 : decode cX9_fit 1 = .ok (.getfield 37, 3) := q_getfield (bat_get dg_X9_fit_0_84 14 rfl rfl) rfl
theorem dX9_fit_4 : decode cX9_fit 4 = .ok (.getfield 43, 3) := q_getfield (bat_get dg_X9_fit_0_84 15 rfl rfl) rfl
theorem dX9_fit_7 : decode cX9_fit 7 = .ok (.ifCond .eq 10, 3) := q_ifCond_eq (bat_get dg_X9_fit_0_84 16 rfl rfl) rfl
theorem dX9_fit_17 : decode cX9_fit 17 = .ok (.iconst 0, 1) := q_iconst0 (bat_get dg_X9_fit_0_84 17 rfl rfl)
theorem dX9_fit_10 : decode cX9_fit 10 = .ok (.aload_n 2, 1) := q_aload_n2 (bat_get dg_X9_fit_0_84 18 rfl rfl)
theorem dX9_fit_11 : decode cX9_fit 11 = .ok (.getfield 49, 3) := q_getfield (bat_get dg_X9_fit_0_84 19 rfl rfl) rfl
theorem dX9_fit_14 : decode cX9_fit 14 = .ok (.goto 4, 3) := q_goto (bat_get dg_X9_fit_0_84 20 rfl rfl) rfl
theorem w_2_0 : (Cond.fieldLink RX9 55 "SameKeeper$State" "days" "I") ∈ wsL_law := sk_mem (ck_2 _ (List.mem_of_getElem? (i := 0) rfl)) rfl
theorem w_3_209 : (Cond.methodLink RX9 64 yX9_nameDay) ∈ wsL_law := sk_mem (ck_3 _ (List.mem_of_getElem? (i := 209) rfl)) rfl
theorem w_3_210 : (Cond.static yX9_nameDay) ∈ wsL_law := sk_mem (ck_3 _ (List.mem_of_getElem? (i := 210) rfl)) rfl
