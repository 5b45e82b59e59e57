theorem dX6_step_203 : decode cX6_step 203 = .ok (.putfield 21, 3) := q_putfield (bat_get dg_X6_step_0_0 17 rfl rfl) rfl
theorem dX6_step_97 : decode cX6_step 97 = .ok (.aload_n 0, 1) := q_aload_n0 (bat_get dg_X6_step_0_0 18 rfl rfl)
theorem dX6_step_98 : decode cX6_step 98 = .ok (.aload_n 0, 1) := q_aload_n0 (bat_get dg_X6_step_0_0 19 rfl rfl)
theorem dX6_step_99 : decode cX6_step 99 = .ok (.getfield 9, 3) := q_getfield (bat_get dg_X6_step_0_0 20 rfl rfl) rfl
theorem dX6_step_102 : decode cX6_step 102 = .ok (.putfield 24, 3) := q_putfield (bat_get dg_X6_step_0_0 21 rfl rfl) rfl
theorem dX6_step_105 : decode cX6_step 105 = .ok (.aload_n 0, 1) := q_aload_n0 (bat_get dg_X6_step_0_0 22 rfl rfl)
theorem dX6_step_106 : decode cX6_step 106 = .ok (.getfield 9, 3) := q_getfield (bat_get dg_X6_step_0_0 23 rfl rfl) rfl
theorem dX6_step_109 : decode cX6_step 109 = .ok (.aload_n 0, 1) := q_aload_n0 (bat_get dg_X6_step_0_0 24 rfl rfl)
theorem dX6_step_110 : decode cX6_step 110 = .ok (.getfield 33, 3) := q_getfield (bat_get dg_X6_step_0_0 25 rfl rfl) rfl
theorem dX6_step_113 : decode cX6_step 113 = .ok (.getfield 44, 3) := q_getfield (bat_get dg_X6_step_0_0 26 rfl rfl) rfl
theorem dX6_step_116 : decode cX6_step 116 = .ok (.if_icmp .lt 9, 3) := q_if_icmp_lt (bat_get dg_X6_step_0_0 27 rfl rfl) rfl
theorem dX6_step_125 : decode cX6_step 125 = .ok (.aload_n 0, 1) := q_aload_n0 (bat_get dg_X6_step_0_0 28 rfl rfl)
theorem dX6_step_126 : decode cX6_step 126 = .ok (.getfield 33, 3) := q_getfield (bat_get dg_X6_step_0_0 29 rfl rfl) rfl
theorem dX6_step_129 : decode cX6_step 129 = .ok (.getfield 49, 3) := q_getfield (bat_get dg_X6_step_0_0 30 rfl rfl) rfl
theorem dX6_step_132 : decode cX6_step 132 = .ok (.aload_n 0, 1) := q_aload_n0 (bat_get dg_X6_step_0_0 31 rfl rfl)
theorem dX6_step_133 : decode cX6_step 133 = .ok (.getfield 9, 3) := q_getfield (bat_get dg_X6_step_0_0 32 rfl rfl) rfl
theorem dX6_step_136 : decode cX6_step 136 = .ok (.iaload, 1) := q_iaload (bat_get dg_X6_step_0_0 33 rfl rfl)
theorem dX6_step_137 : decode cX6_step 137 = .ok (.istore_n 2, 1) := q_istore_n2 (bat_get dg_X6_step_0_0 34 rfl rfl)
theorem dX6_step_138 : decode cX6_step 138 = .ok (.iload_n 2, 1) := q_iload_n2 (bat_get dg_X6_step_0_0 35 rfl rfl)
theorem dX6_step_139 : decode cX6_step 139 = .ok (.bipush 97, 2) := q_bipush (bat_get dg_X6_step_0_0 36 rfl rfl) rfl
theorem dX6_step_141 : decode cX6_step 141 = .ok (.if_icmp .lt 16, 3) := q_if_icmp_lt (bat_get dg_X6_step_0_0 37 rfl rfl) rfl
theorem dX6_step_157 : decode cX6_step 157 = .ok (.iload_n 2, 1) := q_iload_n2 (bat_get dg_X6_step_0_0 38 rfl rfl)
theorem dX6_step_158 : decode cX6_step 158 = .ok (.bipush 48, 2) := q_bipush (bat_get dg_X6_step_0_0 39 rfl rfl) rfl
theorem dg_X6_step_50_160 : bqL cX6_step 50 [(110, [161, 0, 16]), (126, [42]), (127, [89]), (128, [180, 0, 9]), (131, [4]), (132, [96]), (133, [181, 0, 9]), (136, [42]), (137, [28]), (138, [181, 0, 21]), (141, [177]), (113, [28]), (114, [16, 57]), (116, [163, 0, 10]), (119, [42]), (120, [182, 0, 56]), (123, [167, 0, 19]), (94, [28]), (95, [16, 122]), (97, [163, 0, 10]), (100, [42]), (101, [182, 0, 53]), (104, [167, 0, 38]), (69, [42]), (70, [2]), (71, [181, 0, 21]), (74, [177]), (0, [42]), (1, [180, 0, 33]), (4, [180, 0, 49]), (7, [42]), (8, [180, 0, 9]), (11, [46]), (12, [16, 32]), (14, [159, 0, 20]), (34, [42]), (35, [89]), (36, [180, 0, 9]), (39, [4]), (40, [96])] = true := by decide +kernel
theorem dX6_step_160 : decode cX6_step 160 = .ok (.if_icmp .lt 16, 3) := q_if_icmp_lt (bat_get dg_X6_step_50_160 0 rfl rfl) rfl
theorem dX6_step_176 : decode cX6_step 176 = .ok (.aload_n 0, 1) := q_aload_n0 (bat_get dg_X6_step_50_160 1 rfl rfl)
theorem dX6_step_177 : decode cX6_step 177 = .ok (.dup, 1) := q_dup (bat_get dg_X6_step_50_160 2 rfl rfl)
theorem dX6_step_178 : decode cX6_step 178 = .ok (.getfield 9, 3) := q_getfield (bat_get dg_X6_step_50_160 3 rfl rfl) rfl
theorem dX6_step_181 : decode cX6_step 181 = .ok (.iconst 1, 1) := q_iconst1 (bat_get dg_X6_step_50_160 4 rfl rfl)
theorem dX6_step_182 : decode cX6_step 182 = .ok (.iadd, 1) := q_iadd (bat_get dg_X6_step_50_160 5 rfl rfl)
theorem dX6_step_183 : decode cX6_step 183 = .ok (.putfield 9, 3) := q_putfield (bat_get dg_X6_step_50_160 6 rfl rfl) rfl
theorem dX6_step_186 : decode cX6_step 186 = .ok (.aload_n 0, 1) := q_aload_n0 (bat_get dg_X6_step_50_160 7 rfl rfl)
theorem dX6_step_187 : decode cX6_step 187 = .ok (.iload_n 2, 1) := q_iload_n2 (bat_get dg_X6_step_50_160 8 rfl rfl)
theorem dX6_step_188 : decode cX6_step 188 = .ok (.putfield 21, 3) := q_putfield (bat_get dg_X6_step_50_160 9 rfl rfl) rfl
theorem dX6_step_191 : decode cX6_step 191 = .ok (.return_, 1) := q_return_ (bat_get dg_X6_step_50_160 10 rfl rfl)
theorem dX6_step_163 : decode cX6_step 163 = .ok (.iload_n 2, 1) := q_iload_n2 (bat_get dg_X6_step_50_160 11 rfl rfl)
theorem dX6_step_164 : decode cX6_step 164 = .ok (.bipush 57, 2) := q_bipush (bat_get dg_X6_step_50_160 12 rfl rfl) rfl
theorem dX6_step_166 : decode cX6_step 166 = .ok (.if_icmp .gt 10, 3) := q_if_icmp_gt (bat_get dg_X6_step_50_160 13 rfl rfl) rfl
theorem dX6_step_169 : decode cX6_step 169 = .ok (.aload_n 0, 1) := q_aload_n0 (bat_get dg_X6_step_50_160 14 rfl rfl)
theorem dX6_step_170 : decode cX6_step 170 = .ok (.invokevirtual 56, 3) := q_invokevirtual (bat_get dg_X6_step_50_160 15 rfl rfl) rfl
theorem dX6_step_173 : decode cX6_step 173 = .ok (.goto 19, 3) := q_goto (bat_get dg_X6_step_50_160 16 rfl rfl) rfl
theorem dX6_step_144 : decode cX6_step 144 = .ok (.iload_n 2, 1) := q_iload_n2 (bat_get dg_X6_step_50_160 17 rfl rfl)
theorem dX6_step_145 : decode cX6_step 145 = .ok (.bipush 122, 2) := q_bipush (bat_get dg_X6_step_50_160 18 rfl rfl) rfl
theorem dX6_step_147 : decode cX6_step 147 = .ok (.if_icmp .gt 10, 3) := q_if_icmp_gt (bat_get dg_X6_step_50_160 19 rfl rfl) rfl
theorem dX6_step_150 : decode cX6_step 150 = .ok (.aload_n 0, 1) := q_aload_n0 (bat_get dg_X6_step_50_160 20 rfl rfl)
theorem dX6_step_151 : decode cX6_step 151 = .ok (.invokevirtual 53, 3) := q_invokevirtual (bat_get dg_X6_step_50_160 21 rfl rfl) rfl
theorem dX6_step_154 : decode cX6_step 154 = .ok (.goto 38, 3) := q_goto (bat_get dg_X6_step_50_160 22 rfl rfl) rfl
theorem dX6_step_119 : decode cX6_step 119 = .ok (.aload_n 0, 1) := q_aload_n0 (bat_get dg_X6_step_50_160 23 rfl rfl)
theorem dX6_step_120 : decode cX6_step 120 = .ok (.iconst (-1), 1) := q_iconstm1 (bat_get dg_X6_step_50_160 24 rfl rfl)
theorem dX6_step_121 : decode cX6_step 121 = .ok (.putfield 21, 3) := q_putfield (bat_get dg_X6_step_50_160 25 rfl rfl) rfl
theorem dX6_step_124 : decode cX6_step 124 = .ok (.return_, 1) := q_return_ (bat_get dg_X6_step_50_160 26 rfl rfl)
theorem dX6_step_50 : decode cX6_step 50 = .ok (.aload_n 0, 1) := q_aload_n0 (bat_get dg_X6_step_50_160 27 rfl rfl)
theorem dX6_step_51 : decode cX6_step 51 = .ok (.getfield 33, 3) := q_getfield (bat_get dg_X6_step_50_160 28 rfl rfl) rfl
theorem dX6_step_54 : decode cX6_step 54 = .ok (.getfield 49, 3) := q_getfield (bat_get dg_X6_step_50_160 29 rfl rfl) rfl
theorem dX6_step_57 : decode cX6_step 57 = .ok (.aload_n 0, 1) := q_aload_n0 (bat_get dg_X6_step_50_160 30 rfl rfl)
theorem dX6_step_58 : decode cX6_step 58 = .ok (.getfield 9, 3) := q_getfield (bat_get dg_X6_step_50_160 31 rfl rfl) rfl
theorem dX6_step_61 : decode cX6_step 61 = .ok (.iaload, 1) := q_iaload (bat_get dg_X6_step_50_160 32 rfl rfl)
theorem dX6_step_62 : decode cX6_step 62 = .ok (.bipush 32, 2) := q_bipush (bat_get dg_X6_step_50_160 33 rfl rfl) rfl
theorem dX6_step_64 : decode cX6_step 64 = .ok (.if_icmp .eq 20, 3) := q_if_icmp_eq (bat_get dg_X6_step_50_160 34 rfl rfl) rfl
theorem dX6_step_84 : decode cX6_step 84 = .ok (.aload_n 0, 1) := q_aload_n0 (bat_get dg_X6_step_50_160 35 rfl rfl)
theorem dX6_step_85 : decode cX6_step 85 = .ok (.dup, 1) := q_dup (bat_get dg_X6_step_50_160 36 rfl rfl)
theorem dX6_step_86 : decode cX6_step 86 = .ok (.getfield 9, 3) := q_getfield (bat_get dg_X6_step_50_160 37 rfl rfl) rfl
theorem dX6_step_89 : decode cX6_step 89 = .ok (.iconst 1, 1) := q_iconst1 (bat_get dg_X6_step_50_160 38 rfl rfl)
theorem dX6_step_90 : decode cX6_step 90 = .ok (.iadd, 1) := q_iadd (bat_get dg_X6_step_50_160 39 rfl rfl)
theorem dg_X6_step_7_91 : bqL cX6_step 7 [(84, [181, 0, 9]), (87, [167, 255, 198]), (60, [42]), (61, [180, 0, 33]), (64, [180, 0, 49]), (67, [42]), (68, [180, 0, 9]), (71, [46]), (72, [16, 10]), (74, [160, 0, 16]), (1, [42]), (2, [180, 0, 21]), (5, [16, 253]), (7, [159, 0, 13]), (20, [42]), (21, [180, 0, 9]), (24, [167, 0, 4]), (10, [42]), (11, [180, 0, 21]), (14, [17, 1, 0]), (17, [161, 0, 10]), (27, [2]), (0, [177])] = true := by decide +kernel
theorem dX6_step_91 : decode cX6_step 91 = .ok (.putfield 9, 3) := q_putfield (bat_get dg_X6_step_7_91 0 rfl rfl) rfl
theorem dX6_step_94 : decode cX6_step 94 = .ok (.goto (-58), 3) := q_goto (bat_get dg_X6_step_7_91 1 rfl rfl) rfl
theorem dX6_step_67 : decode cX6_step 67 = .ok (.aload_n 0, 1) := q_aload_n0 (bat_get dg_X6_step_7_91 2 rfl rfl)
theorem dX6_step_68 : decode cX6_step 68 = .ok (.getfield 33, 3) := q_getfield (bat_get dg_X6_step_7_91 3 rfl rfl) rfl
theorem dX6_step_71 : decode cX6_step 71 = .ok (.getfield 49, 3) := q_getfield (bat_get dg_X6_step_7_91 4 rfl rfl) rfl
theorem dX6_step_74 : decode cX6_step 74 = .ok (.aload_n 0, 1) := q_aload_n0 (bat_get dg_X6_step_7_91 5 rfl rfl)
theorem dX6_step_75 : decode cX6_step 75 = .ok (.getfield 9, 3) := q_getfield (bat_get dg_X6_step_7_91 6 rfl rfl) rfl
theorem dX6_step_78 : decode cX6_step 78 = .ok (.iaload, 1) := q_iaload (bat_get dg_X6_step_7_91 7 rfl rfl)
theorem dX6_step_79 : decode cX6_step 79 = .ok (.bipush 10, 2) := q_bipush (bat_get dg_X6_step_7_91 8 rfl rfl) rfl
theorem dX6_step_81 : decode cX6_step 81 = .ok (.if_icmp .ne 16, 3) := q_if_icmp_ne (bat_get dg_X6_step_7_91 9 rfl rfl) rfl
theorem dX6_step_8 : decode cX6_step 8 = .ok (.aload_n 0, 1) := q_aload_n0 (bat_get dg_X6_step_7_91 10 rfl rfl)
theorem dX6_step_9 : decode cX6_step 9 = .ok (.getfield 21, 3) := q_getfield (bat_get dg_X6_step_7_91 11 rfl rfl) rfl
theorem dX6_step_12 : decode cX6_step 12 = .ok (.bipush (-3), 2) := q_bipush (bat_get dg_X6_step_7_91 12 rfl rfl) rfl
theorem dX6_step_14 : decode cX6_step 14 = .ok (.if_icmp .eq 13, 3) := q_if_icmp_eq (bat_get dg_X6_step_7_91 13 rfl rfl) rfl
theorem dX6_step_27 : decode cX6_step 27 = .ok (.aload_n 0, 1) := q_aload_n0 (bat_get dg_X6_step_7_91 14 rfl rfl)
theorem dX6_step_28 : decode cX6_step 28 = .ok (.getfield 9, 3) := q_getfield (bat_get dg_X6_step_7_91 15 rfl rfl) rfl
theorem dX6_step_31 : decode cX6_step 31 = .ok (.goto 4, 3) := q_goto (bat_get dg_X6_step_7_91 16 rfl rfl) rfl
theorem dX6_step_17 : decode cX6_step 17 = .ok (.aload_n 0, 1) := q_aload_n0 (bat_get dg_X6_step_7_91 17 rfl rfl)
theorem dX6_step_18 : decode cX6_step 18 = .ok (.getfield 21, 3) := q_getfield (bat_get dg_X6_step_7_91 18 rfl rfl) rfl
theorem dX6_step_21 : decode cX6_step 21 = .ok (.sipush 256, 3) := q_sipush (bat_get dg_X6_step_7_91 19 rfl rfl) rfl
theorem dX6_step_24 : decode cX6_step 24 = .ok (.if_icmp .lt 10, 3) := q_if_icmp_lt (bat_get dg_X6_step_7_91 20 rfl rfl) rfl
theorem dX6_step_34 : decode cX6_step 34 = .ok (.iconst (-1), 1) := q_iconstm1 (bat_get dg_X6_step_7_91 21 rfl rfl)
theorem dX6_step_7 : decode cX6_step 7 = .ok (.return_, 1) := q_return_ (bat_get dg_X6_step_7_91 22 rfl rfl)
theorem w_3_42 : (Cond.methodLink RX6 56 yX6_readNumber) ∈ wsL_law := sk_mem (ck_3 _ (List.mem_of_getElem? (i := 42) rfl)) rfl
theorem w_3_44 : (Cond.instanceMethod yX6_readNumber) ∈ wsL_law := sk_mem (ck_3 _ (List.mem_of_getElem? (i := 44) rfl)) rfl
theorem w_0_3 : (Cond.selects RX6 yX6_readNumber yX6_readNumber) ∈ wsL_law := sk_mem (ck_0 _ (List.mem_of_getElem? (i := 3) rfl)) rfl
theorem w_2_229 : (Cond.methodLink RX6 53 yX6_readWord) ∈ wsL_law := sk_mem (ck_2 _ (List.mem_of_getElem? (i := 229) rfl)) rfl
theorem w_2_231 : (Cond.instanceMethod yX6_readWord) ∈ wsL_law := sk_mem (ck_2 _ (List.mem_of_getElem? (i := 231) rfl)) rfl
theorem w_0_2 : (Cond.selects RX6 yX6_readWord yX6_readWord) ∈ wsL_law := sk_mem (ck_0 _ (List.mem_of_getElem? (i := 2) rfl)) rfl
theorem w_2_228 : (Cond.code yX6_step cX6_step 3 none) ∈ wsL_law := sk_mem (ck_2 _ (List.mem_of_getElem? (i := 228) rfl)) rfl
theorem hd_X6_readNumber_0 : skD yX6_readNumber 0 := by decide +kernel
theorem hd_X6_readWord_0 : skD yX6_readWord 0 := by decide +kernel

