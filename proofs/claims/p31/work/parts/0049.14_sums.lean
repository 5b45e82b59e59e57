theorem dX8_readPart_32 : decode cX8_readPart 32 = .ok (.iload_n 2, 1) := q_iload_n2 (bat_get dg_X8_readPart_0_0 7 rfl rfl)
theorem dX8_readPart_33 : decode cX8_readPart 33 = .ok (.bipush 40, 2) := q_bipush (bat_get dg_X8_readPart_0_0 8 rfl rfl) rfl
theorem dX8_readPart_35 : decode cX8_readPart 35 = .ok (.if_icmp .ne 39, 3) := q_if_icmp_ne (bat_get dg_X8_readPart_0_0 9 rfl rfl) rfl
theorem dX8_readPart_74 : decode cX8_readPart 74 = .ok (.iload_n 2, 1) := q_iload_n2 (bat_get dg_X8_readPart_0_0 10 rfl rfl)
theorem dX8_readPart_75 : decode cX8_readPart 75 = .ok (.sipush 277, 3) := q_sipush (bat_get dg_X8_readPart_0_0 11 rfl rfl) rfl
theorem dX8_readPart_78 : decode cX8_readPart 78 = .ok (.if_icmp .eq 10, 3) := q_if_icmp_eq (bat_get dg_X8_readPart_0_0 12 rfl rfl) rfl
theorem dX8_readPart_88 : decode cX8_readPart 88 = .ok (.aload_n 0, 1) := q_aload_n0 (bat_get dg_X8_readPart_0_0 13 rfl rfl)
theorem dX8_readPart_89 : decode cX8_readPart 89 = .ok (.getfield 9, 3) := q_getfield (bat_get dg_X8_readPart_0_0 14 rfl rfl) rfl
theorem dX8_readPart_92 : decode cX8_readPart 92 = .ok (.invokevirtual 35, 3) := q_invokevirtual (bat_get dg_X8_readPart_0_0 15 rfl rfl) rfl
theorem dX8_readPart_95 : decode cX8_readPart 95 = .ok (.aload_n 0, 1) := q_aload_n0 (bat_get dg_X8_readPart_0_0 16 rfl rfl)
theorem dX8_readPart_96 : decode cX8_readPart 96 = .ok (.aload_n 1, 1) := q_aload_n1 (bat_get dg_X8_readPart_0_0 17 rfl rfl)
theorem dX8_readPart_97 : decode cX8_readPart 97 = .ok (.iload_n 2, 1) := q_iload_n2 (bat_get dg_X8_readPart_0_0 18 rfl rfl)
theorem dX8_readPart_98 : decode cX8_readPart 98 = .ok (.sipush 277, 3) := q_sipush (bat_get dg_X8_readPart_0_0 19 rfl rfl) rfl
theorem dX8_readPart_101 : decode cX8_readPart 101 = .ok (.if_icmp .ne 9, 3) := q_if_icmp_ne (bat_get dg_X8_readPart_0_0 20 rfl rfl) rfl
theorem dX8_readPart_110 : decode cX8_readPart 110 = .ok (.sipush 30005, 3) := q_sipush (bat_get dg_X8_readPart_0_0 21 rfl rfl) rfl
theorem dX8_readPart_113 : decode cX8_readPart 113 = .ok (.invokevirtual 59, 3) := q_invokevirtual (bat_get dg_X8_readPart_0_0 22 rfl rfl) rfl
theorem dX8_readPart_116 : decode cX8_readPart 116 = .ok (.goto 101, 3) := q_goto (bat_get dg_X8_readPart_0_0 23 rfl rfl) rfl
theorem dX8_readPart_217 : decode cX8_readPart 217 = .ok (.return_, 1) := q_return_ (bat_get dg_X8_readPart_0_0 24 rfl rfl)
theorem dX8_readPart_104 : decode cX8_readPart 104 = .ok (.sipush 30004, 3) := q_sipush (bat_get dg_X8_readPart_0_0 25 rfl rfl) rfl
theorem dX8_readPart_107 : decode cX8_readPart 107 = .ok (.goto 6, 3) := q_goto (bat_get dg_X8_readPart_0_0 26 rfl rfl) rfl
theorem dX8_readPart_81 : decode cX8_readPart 81 = .ok (.iload_n 2, 1) := q_iload_n2 (bat_get dg_X8_readPart_0_0 27 rfl rfl)
theorem dX8_readPart_82 : decode cX8_readPart 82 = .ok (.sipush 278, 3) := q_sipush (bat_get dg_X8_readPart_0_0 28 rfl rfl) rfl
theorem dX8_readPart_85 : decode cX8_readPart 85 = .ok (.if_icmp .ne 34, 3) := q_if_icmp_ne (bat_get dg_X8_readPart_0_0 29 rfl rfl) rfl
theorem dX8_readPart_119 : decode cX8_readPart 119 = .ok (.iload_n 2, 1) := q_iload_n2 (bat_get dg_X8_readPart_0_0 30 rfl rfl)
theorem dX8_readPart_120 : decode cX8_readPart 120 = .ok (.sipush 272, 3) := q_sipush (bat_get dg_X8_readPart_0_0 31 rfl rfl) rfl
theorem dX8_readPart_123 : decode cX8_readPart 123 = .ok (.if_icmp .ne 46, 3) := q_if_icmp_ne (bat_get dg_X8_readPart_0_0 32 rfl rfl) rfl
theorem dX8_readPart_169 : decode cX8_readPart 169 = .ok (.aload_n 0, 1) := q_aload_n0 (bat_get dg_X8_readPart_0_0 33 rfl rfl)
theorem dX8_readPart_170 : decode cX8_readPart 170 = .ok (.getfield 15, 3) := q_getfield (bat_get dg_X8_readPart_0_0 34 rfl rfl) rfl
theorem dX8_readPart_173 : decode cX8_readPart 173 = .ok (.iconst 2, 1) := q_iconst2 (bat_get dg_X8_readPart_0_0 35 rfl rfl)
theorem dX8_readPart_174 : decode cX8_readPart 174 = .ok (.if_icmp .ne 10, 3) := q_if_icmp_ne (bat_get dg_X8_readPart_0_0 36 rfl rfl) rfl
theorem dX8_readPart_184 : decode cX8_readPart 184 = .ok (.aload_n 0, 1) := q_aload_n0 (bat_get dg_X8_readPart_0_0 37 rfl rfl)
theorem dX8_readPart_185 : decode cX8_readPart 185 = .ok (.iload_n 2, 1) := q_iload_n2 (bat_get dg_X8_readPart_0_0 38 rfl rfl)
theorem dX8_readPart_186 : decode cX8_readPart 186 = .ok (.invokevirtual 67, 3) := q_invokevirtual (bat_get dg_X8_readPart_0_0 39 rfl rfl) rfl
theorem dg_X8_readPart_38_189 : bqL cX8_readPart 38 [(151, [62]), (152, [29]), (153, [2]), (154, [160, 0, 13]), (167, [43]), (168, [29]), (169, [182, 0, 38]), (172, [42]), (173, [180, 0, 9]), (176, [182, 0, 35]), (157, [42]), (158, [180, 0, 9]), (161, [182, 0, 70]), (164, [167, 0, 15]), (139, [28]), (140, [184, 0, 63]), (143, [167, 0, 8]), (88, [42]), (89, [180, 0, 15]), (92, [5]), (93, [160, 0, 38]), (96, [42]), (97, [180, 0, 9]), (100, [17, 1, 16]), (103, [182, 0, 49]), (106, [153, 0, 73]), (109, [42]), (110, [43]), (111, [182, 0, 42]), (114, [43]), (115, [17, 78, 32]), (118, [182, 0, 38]), (121, [42]), (122, [180, 0, 9]), (125, [182, 0, 53]), (128, [167, 0, 51]), (0, [42]), (1, [180, 0, 9]), (4, [16, 40]), (6, [182, 0, 49])] = true := by decide +kernel
theorem dX8_readPart_189 : decode cX8_readPart 189 = .ok (.istore_n 3, 1) := q_istore_n3 (bat_get dg_X8_readPart_38_189 0 rfl rfl)
theorem dX8_readPart_190 : decode cX8_readPart 190 = .ok (.iload_n 3, 1) := q_iload_n3 (bat_get dg_X8_readPart_38_189 1 rfl rfl)
theorem dX8_readPart_191 : decode cX8_readPart 191 = .ok (.iconst (-1), 1) := q_iconstm1 (bat_get dg_X8_readPart_38_189 2 rfl rfl)
theorem dX8_readPart_192 : decode cX8_readPart 192 = .ok (.if_icmp .ne 13, 3) := q_if_icmp_ne (bat_get dg_X8_readPart_38_189 3 rfl rfl) rfl
theorem dX8_readPart_205 : decode cX8_readPart 205 = .ok (.aload_n 1, 1) := q_aload_n1 (bat_get dg_X8_readPart_38_189 4 rfl rfl)
theorem dX8_readPart_206 : decode cX8_readPart 206 = .ok (.iload_n 3, 1) := q_iload_n3 (bat_get dg_X8_readPart_38_189 5 rfl rfl)
theorem dX8_readPart_207 : decode cX8_readPart 207 = .ok (.invokevirtual 38, 3) := q_invokevirtual (bat_get dg_X8_readPart_38_189 6 rfl rfl) rfl
theorem dX8_readPart_210 : decode cX8_readPart 210 = .ok (.aload_n 0, 1) := q_aload_n0 (bat_get dg_X8_readPart_38_189 7 rfl rfl)
theorem dX8_readPart_211 : decode cX8_readPart 211 = .ok (.getfield 9, 3) := q_getfield (bat_get dg_X8_readPart_38_189 8 rfl rfl) rfl
theorem dX8_readPart_214 : decode cX8_readPart 214 = .ok (.invokevirtual 35, 3) := q_invokevirtual (bat_get dg_X8_readPart_38_189 9 rfl rfl) rfl
theorem dX8_readPart_195 : decode cX8_readPart 195 = .ok (.aload_n 0, 1) := q_aload_n0 (bat_get dg_X8_readPart_38_189 10 rfl rfl)
theorem dX8_readPart_196 : decode cX8_readPart 196 = .ok (.getfield 9, 3) := q_getfield (bat_get dg_X8_readPart_38_189 11 rfl rfl) rfl
theorem dX8_readPart_199 : decode cX8_readPart 199 = .ok (.invokevirtual 70, 3) := q_invokevirtual (bat_get dg_X8_readPart_38_189 12 rfl rfl) rfl
theorem dX8_readPart_202 : decode cX8_readPart 202 = .ok (.goto 15, 3) := q_goto (bat_get dg_X8_readPart_38_189 13 rfl rfl) rfl
theorem dX8_readPart_177 : decode cX8_readPart 177 = .ok (.iload_n 2, 1) := q_iload_n2 (bat_get dg_X8_readPart_38_189 14 rfl rfl)
theorem dX8_readPart_178 : decode cX8_readPart 178 = .ok (.invokestatic 63, 3) := q_invokestatic (bat_get dg_X8_readPart_38_189 15 rfl rfl) rfl
theorem dX8_readPart_181 : decode cX8_readPart 181 = .ok (.goto 8, 3) := q_goto (bat_get dg_X8_readPart_38_189 16 rfl rfl) rfl
theorem dX8_readPart_126 : decode cX8_readPart 126 = .ok (.aload_n 0, 1) := q_aload_n0 (bat_get dg_X8_readPart_38_189 17 rfl rfl)
theorem dX8_readPart_127 : decode cX8_readPart 127 = .ok (.getfield 15, 3) := q_getfield (bat_get dg_X8_readPart_38_189 18 rfl rfl) rfl
theorem dX8_readPart_130 : decode cX8_readPart 130 = .ok (.iconst 2, 1) := q_iconst2 (bat_get dg_X8_readPart_38_189 19 rfl rfl)
theorem dX8_readPart_131 : decode cX8_readPart 131 = .ok (.if_icmp .ne 38, 3) := q_if_icmp_ne (bat_get dg_X8_readPart_38_189 20 rfl rfl) rfl
theorem dX8_readPart_134 : decode cX8_readPart 134 = .ok (.aload_n 0, 1) := q_aload_n0 (bat_get dg_X8_readPart_38_189 21 rfl rfl)
theorem dX8_readPart_135 : decode cX8_readPart 135 = .ok (.getfield 9, 3) := q_getfield (bat_get dg_X8_readPart_38_189 22 rfl rfl) rfl
theorem dX8_readPart_138 : decode cX8_readPart 138 = .ok (.sipush 272, 3) := q_sipush (bat_get dg_X8_readPart_38_189 23 rfl rfl) rfl
theorem dX8_readPart_141 : decode cX8_readPart 141 = .ok (.invokevirtual 49, 3) := q_invokevirtual (bat_get dg_X8_readPart_38_189 24 rfl rfl) rfl
theorem dX8_readPart_144 : decode cX8_readPart 144 = .ok (.ifCond .eq 73, 3) := q_ifCond_eq (bat_get dg_X8_readPart_38_189 25 rfl rfl) rfl
theorem dX8_readPart_147 : decode cX8_readPart 147 = .ok (.aload_n 0, 1) := q_aload_n0 (bat_get dg_X8_readPart_38_189 26 rfl rfl)
theorem dX8_readPart_148 : decode cX8_readPart 148 = .ok (.aload_n 1, 1) := q_aload_n1 (bat_get dg_X8_readPart_38_189 27 rfl rfl)
theorem dX8_readPart_149 : decode cX8_readPart 149 = .ok (.invokevirtual 42, 3) := q_invokevirtual (bat_get dg_X8_readPart_38_189 28 rfl rfl) rfl
theorem dX8_readPart_152 : decode cX8_readPart 152 = .ok (.aload_n 1, 1) := q_aload_n1 (bat_get dg_X8_readPart_38_189 29 rfl rfl)
theorem dX8_readPart_153 : decode cX8_readPart 153 = .ok (.sipush 20000, 3) := q_sipush (bat_get dg_X8_readPart_38_189 30 rfl rfl) rfl
theorem dX8_readPart_156 : decode cX8_readPart 156 = .ok (.invokevirtual 38, 3) := q_invokevirtual (bat_get dg_X8_readPart_38_189 31 rfl rfl) rfl
theorem dX8_readPart_159 : decode cX8_readPart 159 = .ok (.aload_n 0, 1) := q_aload_n0 (bat_get dg_X8_readPart_38_189 32 rfl rfl)
theorem dX8_readPart_160 : decode cX8_readPart 160 = .ok (.getfield 9, 3) := q_getfield (bat_get dg_X8_readPart_38_189 33 rfl rfl) rfl
theorem dX8_readPart_163 : decode cX8_readPart 163 = .ok (.invokevirtual 53, 3) := q_invokevirtual (bat_get dg_X8_readPart_38_189 34 rfl rfl) rfl
theorem dX8_readPart_166 : decode cX8_readPart 166 = .ok (.goto 51, 3) := q_goto (bat_get dg_X8_readPart_38_189 35 rfl rfl) rfl
theorem dX8_readPart_38 : decode cX8_readPart 38 = .ok (.aload_n 0, 1) := q_aload_n0 (bat_get dg_X8_readPart_38_189 36 rfl rfl)
theorem dX8_readPart_39 : decode cX8_readPart 39 = .ok (.getfield 9, 3) := q_getfield (bat_get dg_X8_readPart_38_189 37 rfl rfl) rfl
theorem dX8_readPart_42 : decode cX8_readPart 42 = .ok (.bipush 40, 2) := q_bipush (bat_get dg_X8_readPart_38_189 38 rfl rfl) rfl
theorem dX8_readPart_44 : decode cX8_readPart 44 = .ok (.invokevirtual 49, 3) := q_invokevirtual (bat_get dg_X8_readPart_38_189 39 rfl rfl) rfl
theorem dg_X8_readPart_14_47 : bqL cX8_readPart 14 [(33, [153, 0, 170]), (36, [42]), (37, [43]), (38, [182, 0, 19]), (41, [42]), (42, [180, 0, 9]), (45, [182, 0, 53]), (48, [42]), (49, [180, 0, 9]), (52, [16, 41]), (54, [182, 0, 56]), (57, [167, 0, 146]), (0, [43]), (1, [42]), (2, [180, 0, 9]), (5, [3]), (6, [17, 39, 15]), (9, [182, 0, 45]), (12, [182, 0, 38]), (15, [167, 0, 188])] = true := by decide +kernel
theorem dX8_readPart_47 : decode cX8_readPart 47 = .ok (.ifCond .eq 170, 3) := q_ifCond_eq (bat_get dg_X8_readPart_14_47 0 rfl rfl) rfl
theorem dX8_readPart_50 : decode cX8_readPart 50 = .ok (.aload_n 0, 1) := q_aload_n0 (bat_get dg_X8_readPart_14_47 1 rfl rfl)
theorem dX8_readPart_51 : decode cX8_readPart 51 = .ok (.aload_n 1, 1) := q_aload_n1 (bat_get dg_X8_readPart_14_47 2 rfl rfl)
theorem dX8_readPart_52 : decode cX8_readPart 52 = .ok (.invokevirtual 19, 3) := q_invokevirtual (bat_get dg_X8_readPart_14_47 3 rfl rfl) rfl
theorem dX8_readPart_55 : decode cX8_readPart 55 = .ok (.aload_n 0, 1) := q_aload_n0 (bat_get dg_X8_readPart_14_47 4 rfl rfl)
theorem dX8_readPart_56 : decode cX8_readPart 56 = .ok (.getfield 9, 3) := q_getfield (bat_get dg_X8_readPart_14_47 5 rfl rfl) rfl
theorem dX8_readPart_59 : decode cX8_readPart 59 = .ok (.invokevirtual 53, 3) := q_invokevirtual (bat_get dg_X8_readPart_14_47 6 rfl rfl) rfl
theorem dX8_readPart_62 : decode cX8_readPart 62 = .ok (.aload_n 0, 1) := q_aload_n0 (bat_get dg_X8_readPart_14_47 7 rfl rfl)
theorem dX8_readPart_63 : decode cX8_readPart 63 = .ok (.getfield 9, 3) := q_getfield (bat_get dg_X8_readPart_14_47 8 rfl rfl) rfl
theorem dX8_readPart_66 : decode cX8_readPart 66 = .ok (.bipush 41, 2) := q_bipush (bat_get dg_X8_readPart_14_47 9 rfl rfl) rfl
theorem dX8_readPart_68 : decode cX8_readPart 68 = .ok (.invokevirtual 56, 3) := q_invokevirtual (bat_get dg_X8_readPart_14_47 10 rfl rfl) rfl
theorem dX8_readPart_71 : decode cX8_readPart 71 = .ok (.goto 146, 3) := q_goto (bat_get dg_X8_readPart_14_47 11 rfl rfl) rfl
theorem dX8_readPart_14 : decode cX8_readPart 14 = .ok (.aload_n 1, 1) := q_aload_n1 (bat_get dg_X8_readPart_14_47 12 rfl rfl)
theorem dX8_readPart_15 : decode cX8_readPart 15 = .ok (.aload_n 0, 1) := q_aload_n0 (bat_get dg_X8_readPart_14_47 13 rfl rfl)
theorem dX8_readPart_16 : decode cX8_readPart 16 = .ok (.getfield 9, 3) := q_getfield (bat_get dg_X8_readPart_14_47 14 rfl rfl) rfl
theorem dX8_readPart_19 : decode cX8_readPart 19 = .ok (.iconst 0, 1) := q_iconst0 (bat_get dg_X8_readPart_14_47 15 rfl rfl)
theorem dX8_readPart_20 : decode cX8_readPart 20 = .ok (.sipush 9999, 3) := q_sipush (bat_get dg_X8_readPart_14_47 16 rfl rfl) rfl
theorem dX8_readPart_23 : decode cX8_readPart 23 = .ok (.invokevirtual 45, 3) := q_invokevirtual (bat_get dg_X8_readPart_14_47 17 rfl rfl) rfl
theorem dX8_readPart_26 : decode cX8_readPart 26 = .ok (.invokevirtual 38, 3) := q_invokevirtual (bat_get dg_X8_readPart_14_47 18 rfl rfl) rfl
theorem dX8_readPart_29 : decode cX8_readPart 29 = .ok (.goto 188, 3) := q_goto (bat_get dg_X8_readPart_14_47 19 rfl rfl) rfl
theorem w_1_63 : (Cond.fieldLink RX8 28 "SameKeeper$Reader" "token" "I") ∈ wsL_law := sk_mem (ck_1 _ (List.mem_of_getElem? (i := 63) rfl)) rfl
theorem w_3_110 : (Cond.methodLink RX8 35 yX6_step) ∈ wsL_law := sk_mem (ck_3 _ (List.mem_of_getElem? (i := 110) rfl)) rfl
theorem w_3_111 : (Cond.methodLink RX8 59 yX8_readPair) ∈ wsL_law := sk_mem (ck_3 _ (List.mem_of_getElem? (i := 111) rfl)) rfl
theorem w_3_113 : (Cond.instanceMethod yX8_readPair) ∈ wsL_law := sk_mem (ck_3 _ (List.mem_of_getElem? (i := 113) rfl)) rfl
theorem w_0_9 : (Cond.selects RX8 yX8_readPair yX8_readPair) ∈ wsL_law := sk_mem (ck_0 _ (List.mem_of_getElem? (i := 9) rfl)) rfl
theorem w_3_118 : (Cond.methodLink RX8 67 yX8_nameInLock) ∈ wsL_law := sk_mem (ck_3 _ (List.mem_of_getElem? (i := 118) rfl)) rfl
theorem w_3_120 : (Cond.instanceMethod yX8_nameInLock) ∈ wsL_law := sk_mem (ck_3 _ (List.mem_of_getElem? (i := 120) rfl)) rfl
theorem w_0_10 : (Cond.selects RX8 yX8_nameInLock yX8_nameInLock) ∈ wsL_law := sk_mem (ck_0 _ (List.mem_of_getElem? (i := 10) rfl)) rfl
theorem w_3_122 : (Cond.methodLink RX8 70 yX6_failHere) ∈ wsL_law := sk_mem (ck_3 _ (List.mem_of_getElem? (i := 122) rfl)) rfl
theorem w_3_115 : (Cond.methodLink RX8 63 yX8_nameInQuestion) ∈ wsL_law := sk_mem (ck_3 _ (List.mem_of_getElem? (i := 115) rfl)) rfl
theorem w_3_116 : (Cond.static yX8_nameInQuestion) ∈ wsL_law := sk_mem (ck_3 _ (List.mem_of_getElem? (i := 116) rfl)) rfl
theorem w_3_92 : (Cond.methodLink RX8 42 yX8_readPart) ∈ wsL_law := sk_mem (ck_3 _ (List.mem_of_getElem? (i := 92) rfl)) rfl
theorem w_3_94 : (Cond.instanceMethod yX8_readPart) ∈ wsL_law := sk_mem (ck_3 _ (List.mem_of_getElem? (i := 94) rfl)) rfl
theorem w_0_8 : (Cond.selects RX8 yX8_readPart yX8_readPart) ∈ wsL_law := sk_mem (ck_0 _ (List.mem_of_getElem? (i := 8) rfl)) rfl
theorem w_3_95 : (Cond.code yX8_readPart cX8_readPart 4 none) ∈ wsL_law := sk_mem (ck_3 _ (List.mem_of_getElem? (i := 95) rfl)) rfl
theorem w_3_96 : (Cond.methodLink RX8 45 yX6_takeNumber) ∈ wsL_law := sk_mem (ck_3 _ (List.mem_of_getElem? (i := 96) rfl)) rfl
theorem w_3_63 : (Cond.instanceMethod yX6_takeNumber) ∈ wsL_law := sk_mem (ck_3 _ (List.mem_of_getElem? (i := 63) rfl)) rfl
theorem w_3_64 : (Cond.selects RX6 yX6_takeNumber yX6_takeNumber) ∈ wsL_law := sk_mem (ck_3 _ (List.mem_of_getElem? (i := 64) rfl)) rfl
def om_6_20 : List Bool := true :: false :: false :: false :: false :: false :: []
theorem hd_X8_readPair_2 : skD yX8_readPair 2 := by decide +kernel
theorem hd_X8_nameInLock_1 : skD yX8_nameInLock 1 := by decide +kernel
theorem hd_X8_nameInQuestion_1 : skD yX8_nameInQuestion 1 := by decide +kernel
