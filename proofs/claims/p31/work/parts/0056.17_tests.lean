theorem dX5_stepOf_1 : decode cX5_stepOf 1 = .ok (.tableswitch 39 60 62 #[27, 35, 31], 27) := by decide +kernel
theorem dg_X5_stepOf_0_0 : bqL cX5_stepOf 0 [(0, [26]), (28, [17, 117, 54]), (31, [172]), (36, [17, 117, 56]), (39, [172]), (32, [17, 117, 55]), (35, [172]), (40, [2]), (41, [172])] = true := by decide +kernel
theorem dX5_stepOf_0 : decode cX5_stepOf 0 = .ok (.iload_n 0, 1) := q_iload_n0 (bat_get dg_X5_stepOf_0_0 0 rfl rfl)
theorem dX5_stepOf_28 : decode cX5_stepOf 28 = .ok (.sipush 30006, 3) := q_sipush (bat_get dg_X5_stepOf_0_0 1 rfl rfl) rfl
theorem dX5_stepOf_31 : decode cX5_stepOf 31 = .ok (.ireturn, 1) := q_ireturn (bat_get dg_X5_stepOf_0_0 2 rfl rfl)
theorem dX5_stepOf_36 : decode cX5_stepOf 36 = .ok (.sipush 30008, 3) := q_sipush (bat_get dg_X5_stepOf_0_0 3 rfl rfl) rfl
theorem dX5_stepOf_39 : decode cX5_stepOf 39 = .ok (.ireturn, 1) := q_ireturn (bat_get dg_X5_stepOf_0_0 4 rfl rfl)
theorem dX5_stepOf_32 : decode cX5_stepOf 32 = .ok (.sipush 30007, 3) := q_sipush (bat_get dg_X5_stepOf_0_0 5 rfl rfl) rfl
theorem dX5_stepOf_35 : decode cX5_stepOf 35 = .ok (.ireturn, 1) := q_ireturn (bat_get dg_X5_stepOf_0_0 6 rfl rfl)
theorem dX5_stepOf_40 : decode cX5_stepOf 40 = .ok (.iconst (-1), 1) := q_iconstm1 (bat_get dg_X5_stepOf_0_0 7 rfl rfl)
theorem dX5_stepOf_41 : decode cX5_stepOf 41 = .ok (.ireturn, 1) := q_ireturn (bat_get dg_X5_stepOf_0_0 8 rfl rfl)
theorem w_5_93 : (Cond.code yX5_stepOf cX5_stepOf 1 (some .int)) ∈ wsL_law := sk_mem (ck_5 _ (List.mem_of_getElem? (i := 93) rfl)) rfl
theorem dg_X5_readFact_0_0 : bqL cX5_readFact 0 [(0, [42]), (1, [180, 0, 24]), (4, [180, 0, 43]), (7, [17, 1, 19]), (10, [160, 0, 40]), (50, [42]), (51, [180, 0, 24]), (54, [180, 0, 43]), (57, [16, 91]), (59, [160, 0, 38]), (97, [42]), (98, [180, 0, 24]), (101, [17, 1, 20]), (104, [182, 0, 64]), (107, [153, 0, 14]), (121, [42]), (122, [180, 0, 33]), (125, [42]), (126, [180, 0, 12]), (129, [182, 0, 52]), (132, [42]), (133, [180, 0, 24]), (136, [180, 0, 43]), (139, [184, 0, 84]), (142, [60]), (143, [27]), (144, [2]), (145, [160, 0, 13]), (158, [42]), (159, [180, 0, 24]), (162, [182, 0, 46]), (165, [42]), (166, [180, 0, 33]), (169, [42]), (170, [180, 0, 12]), (173, [182, 0, 52]), (176, [42]), (177, [180, 0, 12]), (180, [27]), (181, [182, 0, 68])] = true := by decide +kernel
theorem dX5_readFact_0 : decode cX5_readFact 0 = .ok (.aload_n 0, 1) := q_aload_n0 (bat_get dg_X5_readFact_0_0 0 rfl rfl)
theorem dX5_readFact_1 : decode cX5_readFact 1 = .ok (.getfield 24, 3) := q_getfield (bat_get dg_X5_readFact_0_0 1 rfl rfl) rfl
theorem dX5_readFact_4 : decode cX5_readFact 4 = .ok (.getfield 43, 3) := q_getfield (bat_get dg_X5_readFact_0_0 2 rfl rfl) rfl
theorem dX5_readFact_7 : decode cX5_readFact 7 = .ok (.sipush 275, 3) := q_sipush (bat_get dg_X5_readFact_0_0 3 rfl rfl) rfl
theorem dX5_readFact_10 : decode cX5_readFact 10 = .ok (.if_icmp .ne 40, 3) := q_if_icmp_ne (bat_get dg_X5_readFact_0_0 4 rfl rfl) rfl
theorem dX5_readFact_50 : decode cX5_readFact 50 = .ok (.aload_n 0, 1) := q_aload_n0 (bat_get dg_X5_readFact_0_0 5 rfl rfl)
theorem dX5_readFact_51 : decode cX5_readFact 51 = .ok (.getfield 24, 3) := q_getfield (bat_get dg_X5_readFact_0_0 6 rfl rfl) rfl
theorem dX5_readFact_54 : decode cX5_readFact 54 = .ok (.getfield 43, 3) := q_getfield (bat_get dg_X5_readFact_0_0 7 rfl rfl) rfl
theorem dX5_readFact_57 : decode cX5_readFact 57 = .ok (.bipush 91, 2) := q_bipush (bat_get dg_X5_readFact_0_0 8 rfl rfl) rfl
theorem dX5_readFact_59 : decode cX5_readFact 59 = .ok (.if_icmp .ne 38, 3) := q_if_icmp_ne (bat_get dg_X5_readFact_0_0 9 rfl rfl) rfl
theorem dX5_readFact_97 : decode cX5_readFact 97 = .ok (.aload_n 0, 1) := q_aload_n0 (bat_get dg_X5_readFact_0_0 10 rfl rfl)
theorem dX5_readFact_98 : decode cX5_readFact 98 = .ok (.getfield 24, 3) := q_getfield (bat_get dg_X5_readFact_0_0 11 rfl rfl) rfl
theorem dX5_readFact_101 : decode cX5_readFact 101 = .ok (.sipush 276, 3) := q_sipush (bat_get dg_X5_readFact_0_0 12 rfl rfl) rfl
theorem dX5_readFact_104 : decode cX5_readFact 104 = .ok (.invokevirtual 64, 3) := q_invokevirtual (bat_get dg_X5_readFact_0_0 13 rfl rfl) rfl
theorem dX5_readFact_107 : decode cX5_readFact 107 = .ok (.ifCond .eq 14, 3) := q_ifCond_eq (bat_get dg_X5_readFact_0_0 14 rfl rfl) rfl
theorem dX5_readFact_121 : decode cX5_readFact 121 = .ok (.aload_n 0, 1) := q_aload_n0 (bat_get dg_X5_readFact_0_0 15 rfl rfl)
theorem dX5_readFact_122 : decode cX5_readFact 122 = .ok (.getfield 33, 3) := q_getfield (bat_get dg_X5_readFact_0_0 16 rfl rfl) rfl
theorem dX5_readFact_125 : decode cX5_readFact 125 = .ok (.aload_n 0, 1) := q_aload_n0 (bat_get dg_X5_readFact_0_0 17 rfl rfl)
theorem dX5_readFact_126 : decode cX5_readFact 126 = .ok (.getfield 12, 3) := q_getfield (bat_get dg_X5_readFact_0_0 18 rfl rfl) rfl
theorem dX5_readFact_129 : decode cX5_readFact 129 = .ok (.invokevirtual 52, 3) := q_invokevirtual (bat_get dg_X5_readFact_0_0 19 rfl rfl) rfl
theorem dX5_readFact_132 : decode cX5_readFact 132 = .ok (.aload_n 0, 1) := q_aload_n0 (bat_get dg_X5_readFact_0_0 20 rfl rfl)
theorem dX5_readFact_133 : decode cX5_readFact 133 = .ok (.getfield 24, 3) := q_getfield (bat_get dg_X5_readFact_0_0 21 rfl rfl) rfl
theorem dX5_readFact_136 : decode cX5_readFact 136 = .ok (.getfield 43, 3) := q_getfield (bat_get dg_X5_readFact_0_0 22 rfl rfl) rfl
theorem dX5_readFact_139 : decode cX5_readFact 139 = .ok (.invokestatic 84, 3) := q_invokestatic (bat_get dg_X5_readFact_0_0 23 rfl rfl) rfl
theorem dX5_readFact_142 : decode cX5_readFact 142 = .ok (.istore_n 1, 1) := q_istore_n1 (bat_get dg_X5_readFact_0_0 24 rfl rfl)
theorem dX5_readFact_143 : decode cX5_readFact 143 = .ok (.iload_n 1, 1) := q_iload_n1 (bat_get dg_X5_readFact_0_0 25 rfl rfl)
theorem dX5_readFact_144 : decode cX5_readFact 144 = .ok (.iconst (-1), 1) := q_iconstm1 (bat_get dg_X5_readFact_0_0 26 rfl rfl)
theorem dX5_readFact_145 : decode cX5_readFact 145 = .ok (.if_icmp .ne 13, 3) := q_if_icmp_ne (bat_get dg_X5_readFact_0_0 27 rfl rfl) rfl
theorem dX5_readFact_158 : decode cX5_readFact 158 = .ok (.aload_n 0, 1) := q_aload_n0 (bat_get dg_X5_readFact_0_0 28 rfl rfl)
theorem dX5_readFact_159 : decode cX5_readFact 159 = .ok (.getfield 24, 3) := q_getfield (bat_get dg_X5_readFact_0_0 29 rfl rfl) rfl
theorem dX5_readFact_162 : decode cX5_readFact 162 = .ok (.invokevirtual 46, 3) := q_invokevirtual (bat_get dg_X5_readFact_0_0 30 rfl rfl) rfl
theorem dX5_readFact_165 : decode cX5_readFact 165 = .ok (.aload_n 0, 1) := q_aload_n0 (bat_get dg_X5_readFact_0_0 31 rfl rfl)
theorem dX5_readFact_166 : decode cX5_readFact 166 = .ok (.getfield 33, 3) := q_getfield (bat_get dg_X5_readFact_0_0 32 rfl rfl) rfl
theorem dX5_readFact_169 : decode cX5_readFact 169 = .ok (.aload_n 0, 1) := q_aload_n0 (bat_get dg_X5_readFact_0_0 33 rfl rfl)
theorem dX5_readFact_170 : decode cX5_readFact 170 = .ok (.getfield 12, 3) := q_getfield (bat_get dg_X5_readFact_0_0 34 rfl rfl) rfl
theorem dX5_readFact_173 : decode cX5_readFact 173 = .ok (.invokevirtual 52, 3) := q_invokevirtual (bat_get dg_X5_readFact_0_0 35 rfl rfl) rfl
theorem dX5_readFact_176 : decode cX5_readFact 176 = .ok (.aload_n 0, 1) := q_aload_n0 (bat_get dg_X5_readFact_0_0 36 rfl rfl)
theorem dX5_readFact_177 : decode cX5_readFact 177 = .ok (.getfield 12, 3) := q_getfield (bat_get dg_X5_readFact_0_0 37 rfl rfl) rfl
theorem dX5_readFact_180 : decode cX5_readFact 180 = .ok (.iload_n 1, 1) := q_iload_n1 (bat_get dg_X5_readFact_0_0 38 rfl rfl)
theorem dX5_readFact_181 : decode cX5_readFact 181 = .ok (.invokevirtual 68, 3) := q_invokevirtual (bat_get dg_X5_readFact_0_0 39 rfl rfl) rfl
theorem dg_X5_readFact_13_184 : bqL cX5_readFact 13 [(171, [177]), (135, [42]), (136, [180, 0, 24]), (139, [182, 0, 56]), (142, [167, 0, 29]), (97, [42]), (98, [180, 0, 12]), (101, [4]), (102, [182, 0, 68]), (105, [167, 0, 66]), (49, [42]), (50, [180, 0, 24]), (53, [16, 91]), (55, [182, 0, 75]), (58, [153, 0, 113]), (61, [42]), (62, [182, 0, 49]), (65, [42]), (66, [180, 0, 24]), (69, [182, 0, 78]), (72, [42]), (73, [180, 0, 24]), (76, [16, 93]), (78, [182, 0, 81]), (81, [167, 0, 90]), (0, [42]), (1, [180, 0, 24]), (4, [17, 1, 19]), (7, [182, 0, 75]), (10, [153, 0, 161]), (13, [42]), (14, [182, 0, 72]), (17, [42]), (18, [180, 0, 12]), (21, [17, 78, 33]), (24, [182, 0, 68]), (27, [42]), (28, [180, 0, 24]), (31, [182, 0, 78]), (34, [167, 0, 137])] = true := by decide +kernel
theorem dX5_readFact_184 : decode cX5_readFact 184 = .ok (.return_, 1) := q_return_ (bat_get dg_X5_readFact_13_184 0 rfl rfl)
theorem dX5_readFact_148 : decode cX5_readFact 148 = .ok (.aload_n 0, 1) := q_aload_n0 (bat_get dg_X5_readFact_13_184 1 rfl rfl)
theorem dX5_readFact_149 : decode cX5_readFact 149 = .ok (.getfield 24, 3) := q_getfield (bat_get dg_X5_readFact_13_184 2 rfl rfl) rfl
theorem dX5_readFact_152 : decode cX5_readFact 152 = .ok (.invokevirtual 56, 3) := q_invokevirtual (bat_get dg_X5_readFact_13_184 3 rfl rfl) rfl
theorem dX5_readFact_155 : decode cX5_readFact 155 = .ok (.goto 29, 3) := q_goto (bat_get dg_X5_readFact_13_184 4 rfl rfl) rfl
theorem dX5_readFact_110 : decode cX5_readFact 110 = .ok (.aload_n 0, 1) := q_aload_n0 (bat_get dg_X5_readFact_13_184 5 rfl rfl)
theorem dX5_readFact_111 : decode cX5_readFact 111 = .ok (.getfield 12, 3) := q_getfield (bat_get dg_X5_readFact_13_184 6 rfl rfl) rfl
theorem dX5_readFact_114 : decode cX5_readFact 114 = .ok (.iconst 1, 1) := q_iconst1 (bat_get dg_X5_readFact_13_184 7 rfl rfl)
theorem dX5_readFact_115 : decode cX5_readFact 115 = .ok (.invokevirtual 68, 3) := q_invokevirtual (bat_get dg_X5_readFact_13_184 8 rfl rfl) rfl
theorem dX5_readFact_118 : decode cX5_readFact 118 = .ok (.goto 66, 3) := q_goto (bat_get dg_X5_readFact_13_184 9 rfl rfl) rfl
theorem dX5_readFact_62 : decode cX5_readFact 62 = .ok (.aload_n 0, 1) := q_aload_n0 (bat_get dg_X5_readFact_13_184 10 rfl rfl)
theorem dX5_readFact_63 : decode cX5_readFact 63 = .ok (.getfield 24, 3) := q_getfield (bat_get dg_X5_readFact_13_184 11 rfl rfl) rfl
theorem dX5_readFact_66 : decode cX5_readFact 66 = .ok (.bipush 91, 2) := q_bipush (bat_get dg_X5_readFact_13_184 12 rfl rfl) rfl
theorem dX5_readFact_68 : decode cX5_readFact 68 = .ok (.invokevirtual 75, 3) := q_invokevirtual (bat_get dg_X5_readFact_13_184 13 rfl rfl) rfl
theorem dX5_readFact_71 : decode cX5_readFact 71 = .ok (.ifCond .eq 113, 3) := q_ifCond_eq (bat_get dg_X5_readFact_13_184 14 rfl rfl) rfl
theorem dX5_readFact_74 : decode cX5_readFact 74 = .ok (.aload_n 0, 1) := q_aload_n0 (bat_get dg_X5_readFact_13_184 15 rfl rfl)
theorem dX5_readFact_75 : decode cX5_readFact 75 = .ok (.invokevirtual 49, 3) := q_invokevirtual (bat_get dg_X5_readFact_13_184 16 rfl rfl) rfl
theorem dX5_readFact_78 : decode cX5_readFact 78 = .ok (.aload_n 0, 1) := q_aload_n0 (bat_get dg_X5_readFact_13_184 17 rfl rfl)
theorem dX5_readFact_79 : decode cX5_readFact 79 = .ok (.getfield 24, 3) := q_getfield (bat_get dg_X5_readFact_13_184 18 rfl rfl) rfl
theorem dX5_readFact_82 : decode cX5_readFact 82 = .ok (.invokevirtual 78, 3) := q_invokevirtual (bat_get dg_X5_readFact_13_184 19 rfl rfl) rfl
theorem dX5_readFact_85 : decode cX5_readFact 85 = .ok (.aload_n 0, 1) := q_aload_n0 (bat_get dg_X5_readFact_13_184 20 rfl rfl)
theorem dX5_readFact_86 : decode cX5_readFact 86 = .ok (.getfield 24, 3) := q_getfield (bat_get dg_X5_readFact_13_184 21 rfl rfl) rfl
theorem dX5_readFact_89 : decode cX5_readFact 89 = .ok (.bipush 93, 2) := q_bipush (bat_get dg_X5_readFact_13_184 22 rfl rfl) rfl
theorem dX5_readFact_91 : decode cX5_readFact 91 = .ok (.invokevirtual 81, 3) := q_invokevirtual (bat_get dg_X5_readFact_13_184 23 rfl rfl) rfl
theorem dX5_readFact_94 : decode cX5_readFact 94 = .ok (.goto 90, 3) := q_goto (bat_get dg_X5_readFact_13_184 24 rfl rfl) rfl
theorem dX5_readFact_13 : decode cX5_readFact 13 = .ok (.aload_n 0, 1) := q_aload_n0 (bat_get dg_X5_readFact_13_184 25 rfl rfl)
theorem dX5_readFact_14 : decode cX5_readFact 14 = .ok (.getfield 24, 3) := q_getfield (bat_get dg_X5_readFact_13_184 26 rfl rfl) rfl
theorem dX5_readFact_17 : decode cX5_readFact 17 = .ok (.sipush 275, 3) := q_sipush (bat_get dg_X5_readFact_13_184 27 rfl rfl) rfl
theorem dX5_readFact_20 : decode cX5_readFact 20 = .ok (.invokevirtual 75, 3) := q_invokevirtual (bat_get dg_X5_readFact_13_184 28 rfl rfl) rfl
theorem dX5_readFact_23 : decode cX5_readFact 23 = .ok (.ifCond .eq 161, 3) := q_ifCond_eq (bat_get dg_X5_readFact_13_184 29 rfl rfl) rfl
theorem dX5_readFact_26 : decode cX5_readFact 26 = .ok (.aload_n 0, 1) := q_aload_n0 (bat_get dg_X5_readFact_13_184 30 rfl rfl)
theorem dX5_readFact_27 : decode cX5_readFact 27 = .ok (.invokevirtual 72, 3) := q_invokevirtual (bat_get dg_X5_readFact_13_184 31 rfl rfl) rfl
theorem dX5_readFact_30 : decode cX5_readFact 30 = .ok (.aload_n 0, 1) := q_aload_n0 (bat_get dg_X5_readFact_13_184 32 rfl rfl)
theorem dX5_readFact_31 : decode cX5_readFact 31 = .ok (.getfield 12, 3) := q_getfield (bat_get dg_X5_readFact_13_184 33 rfl rfl) rfl
theorem dX5_readFact_34 : decode cX5_readFact 34 = .ok (.sipush 20001, 3) := q_sipush (bat_get dg_X5_readFact_13_184 34 rfl rfl) rfl
theorem dX5_readFact_37 : decode cX5_readFact 37 = .ok (.invokevirtual 68, 3) := q_invokevirtual (bat_get dg_X5_readFact_13_184 35 rfl rfl) rfl
theorem dX5_readFact_40 : decode cX5_readFact 40 = .ok (.aload_n 0, 1) := q_aload_n0 (bat_get dg_X5_readFact_13_184 36 rfl rfl)
theorem dX5_readFact_41 : decode cX5_readFact 41 = .ok (.getfield 24, 3) := q_getfield (bat_get dg_X5_readFact_13_184 37 rfl rfl) rfl
theorem dX5_readFact_44 : decode cX5_readFact 44 = .ok (.invokevirtual 78, 3) := q_invokevirtual (bat_get dg_X5_readFact_13_184 38 rfl rfl) rfl
theorem dX5_readFact_47 : decode cX5_readFact 47 = .ok (.goto 137, 3) := q_goto (bat_get dg_X5_readFact_13_184 39 rfl rfl) rfl
theorem w_1_154 : (Cond.fieldLink RX5 24 "SameKeeper$Question" "reader" "LSameKeeper$Reader;") ∈ wsL_law := sk_mem (ck_1 _ (List.mem_of_getElem? (i := 154) rfl)) rfl
theorem w_1_61 : (Cond.fieldLink RX5 43 "SameKeeper$Reader" "token" "I") ∈ wsL_law := sk_mem (ck_1 _ (List.mem_of_getElem? (i := 61) rfl)) rfl
theorem w_5_86 : (Cond.methodLink RX5 64 yX6_takes) ∈ wsL_law := sk_mem (ck_5 _ (List.mem_of_getElem? (i := 86) rfl)) rfl
theorem w_5_87 : (Cond.instanceMethod yX6_takes) ∈ wsL_law := sk_mem (ck_5 _ (List.mem_of_getElem? (i := 87) rfl)) rfl
theorem w_5_88 : (Cond.selects RX6 yX6_takes yX6_takes) ∈ wsL_law := sk_mem (ck_5 _ (List.mem_of_getElem? (i := 88) rfl)) rfl
theorem w_1_155 : (Cond.fieldLink RX5 33 "SameKeeper$Question" "sums" "LSameKeeper$Sums;") ∈ wsL_law := sk_mem (ck_1 _ (List.mem_of_getElem? (i := 155) rfl)) rfl
theorem w_1_156 : (Cond.fieldLink RX5 12 "SameKeeper$Question" "code" "LSameKeeper$Code;") ∈ wsL_law := sk_mem (ck_1 _ (List.mem_of_getElem? (i := 156) rfl)) rfl
theorem w_5_90 : (Cond.methodLink RX5 52 yX8_read) ∈ wsL_law := sk_mem (ck_5 _ (List.mem_of_getElem? (i := 90) rfl)) rfl
theorem w_5_91 : (Cond.methodLink RX5 84 yX5_stepOf) ∈ wsL_law := sk_mem (ck_5 _ (List.mem_of_getElem? (i := 91) rfl)) rfl
theorem w_5_92 : (Cond.static yX5_stepOf) ∈ wsL_law := sk_mem (ck_5 _ (List.mem_of_getElem? (i := 92) rfl)) rfl
theorem w_1_7 : (Cond.initialized RX5) ∈ wsL_law := sk_mem (ck_1 _ (List.mem_of_getElem? (i := 7) rfl)) rfl
theorem w_5_69 : (Cond.methodLink RX5 46 yX6_step) ∈ wsL_law := sk_mem (ck_5 _ (List.mem_of_getElem? (i := 69) rfl)) rfl
theorem w_5_83 : (Cond.methodLink RX5 68 yX0_add) ∈ wsL_law := sk_mem (ck_5 _ (List.mem_of_getElem? (i := 83) rfl)) rfl
theorem w_5_94 : (Cond.methodLink RX5 56 yX6_failHere) ∈ wsL_law := sk_mem (ck_5 _ (List.mem_of_getElem? (i := 94) rfl)) rfl
theorem w_5_82 : (Cond.methodLink RX5 75 yX6_opens) ∈ wsL_law := sk_mem (ck_5 _ (List.mem_of_getElem? (i := 82) rfl)) rfl
theorem w_5_70 : (Cond.methodLink RX5 49 yX5_readTest) ∈ wsL_law := sk_mem (ck_5 _ (List.mem_of_getElem? (i := 70) rfl)) rfl
theorem w_5_72 : (Cond.instanceMethod yX5_readTest) ∈ wsL_law := sk_mem (ck_5 _ (List.mem_of_getElem? (i := 72) rfl)) rfl
theorem w_0_34 : (Cond.selects RX5 yX5_readTest yX5_readTest) ∈ wsL_law := sk_mem (ck_0 _ (List.mem_of_getElem? (i := 34) rfl)) rfl
theorem w_5_73 : (Cond.code yX5_readTest cX5_readTest 2 none) ∈ wsL_law := sk_mem (ck_5 _ (List.mem_of_getElem? (i := 73) rfl)) rfl
