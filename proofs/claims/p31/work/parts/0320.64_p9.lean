theorem dg_X12_statementTold_0_0 : bqL cX12_statementTold 0 [(0, [42]), (1, [180, 0, 201]), (4, [60]), (5, [42]), (6, [180, 1, 19]), (9, [16, 60]), (11, [160, 0, 10]), (21, [42]), (22, [42]), (23, [180, 0, 27]), (26, [182, 0, 222]), (29, [153, 0, 11]), (40, [42]), (41, [42]), (42, [180, 0, 30]), (45, [182, 0, 222]), (48, [153, 0, 11]), (59, [42]), (60, [42]), (61, [180, 0, 33]), (64, [182, 0, 222]), (67, [153, 0, 10]), (77, [42]), (78, [42]), (79, [180, 0, 36]), (82, [182, 0, 222]), (85, [153, 0, 12]), (97, [42]), (98, [42]), (99, [180, 0, 39]), (102, [182, 0, 222]), (105, [153, 0, 12]), (117, [42]), (118, [42]), (119, [180, 0, 42]), (122, [182, 0, 222]), (125, [153, 0, 12]), (137, [42]), (138, [42]), (139, [180, 0, 45])] = true := by decide +kernel
theorem dX12_statementTold_0 : decode cX12_statementTold 0 = .ok (.aload_n 0, 1) := q_aload_n0 (bat_get dg_X12_statementTold_0_0 0 rfl rfl)
theorem dX12_statementTold_1 : decode cX12_statementTold 1 = .ok (.getfield 201, 3) := q_getfield (bat_get dg_X12_statementTold_0_0 1 rfl rfl) rfl
theorem dX12_statementTold_4 : decode cX12_statementTold 4 = .ok (.istore_n 1, 1) := q_istore_n1 (bat_get dg_X12_statementTold_0_0 2 rfl rfl)
theorem dX12_statementTold_5 : decode cX12_statementTold 5 = .ok (.aload_n 0, 1) := q_aload_n0 (bat_get dg_X12_statementTold_0_0 3 rfl rfl)
theorem dX12_statementTold_6 : decode cX12_statementTold 6 = .ok (.getfield 275, 3) := q_getfield (bat_get dg_X12_statementTold_0_0 4 rfl rfl) rfl
theorem dX12_statementTold_9 : decode cX12_statementTold 9 = .ok (.bipush 60, 2) := q_bipush (bat_get dg_X12_statementTold_0_0 5 rfl rfl) rfl
theorem dX12_statementTold_11 : decode cX12_statementTold 11 = .ok (.if_icmp .ne 10, 3) := q_if_icmp_ne (bat_get dg_X12_statementTold_0_0 6 rfl rfl) rfl
theorem dX12_statementTold_21 : decode cX12_statementTold 21 = .ok (.aload_n 0, 1) := q_aload_n0 (bat_get dg_X12_statementTold_0_0 7 rfl rfl)
theorem dX12_statementTold_22 : decode cX12_statementTold 22 = .ok (.aload_n 0, 1) := q_aload_n0 (bat_get dg_X12_statementTold_0_0 8 rfl rfl)
theorem dX12_statementTold_23 : decode cX12_statementTold 23 = .ok (.getfield 27, 3) := q_getfield (bat_get dg_X12_statementTold_0_0 9 rfl rfl) rfl
theorem dX12_statementTold_26 : decode cX12_statementTold 26 = .ok (.invokevirtual 222, 3) := q_invokevirtual (bat_get dg_X12_statementTold_0_0 10 rfl rfl) rfl
theorem dX12_statementTold_29 : decode cX12_statementTold 29 = .ok (.ifCond .eq 11, 3) := q_ifCond_eq (bat_get dg_X12_statementTold_0_0 11 rfl rfl) rfl
theorem dX12_statementTold_40 : decode cX12_statementTold 40 = .ok (.aload_n 0, 1) := q_aload_n0 (bat_get dg_X12_statementTold_0_0 12 rfl rfl)
theorem dX12_statementTold_41 : decode cX12_statementTold 41 = .ok (.aload_n 0, 1) := q_aload_n0 (bat_get dg_X12_statementTold_0_0 13 rfl rfl)
theorem dX12_statementTold_42 : decode cX12_statementTold 42 = .ok (.getfield 30, 3) := q_getfield (bat_get dg_X12_statementTold_0_0 14 rfl rfl) rfl
theorem dX12_statementTold_45 : decode cX12_statementTold 45 = .ok (.invokevirtual 222, 3) := q_invokevirtual (bat_get dg_X12_statementTold_0_0 15 rfl rfl) rfl
theorem dX12_statementTold_48 : decode cX12_statementTold 48 = .ok (.ifCond .eq 11, 3) := q_ifCond_eq (bat_get dg_X12_statementTold_0_0 16 rfl rfl) rfl
theorem dX12_statementTold_59 : decode cX12_statementTold 59 = .ok (.aload_n 0, 1) := q_aload_n0 (bat_get dg_X12_statementTold_0_0 17 rfl rfl)
theorem dX12_statementTold_60 : decode cX12_statementTold 60 = .ok (.aload_n 0, 1) := q_aload_n0 (bat_get dg_X12_statementTold_0_0 18 rfl rfl)
theorem dX12_statementTold_61 : decode cX12_statementTold 61 = .ok (.getfield 33, 3) := q_getfield (bat_get dg_X12_statementTold_0_0 19 rfl rfl) rfl
theorem dX12_statementTold_64 : decode cX12_statementTold 64 = .ok (.invokevirtual 222, 3) := q_invokevirtual (bat_get dg_X12_statementTold_0_0 20 rfl rfl) rfl
theorem dX12_statementTold_67 : decode cX12_statementTold 67 = .ok (.ifCond .eq 10, 3) := q_ifCond_eq (bat_get dg_X12_statementTold_0_0 21 rfl rfl) rfl
theorem dX12_statementTold_77 : decode cX12_statementTold 77 = .ok (.aload_n 0, 1) := q_aload_n0 (bat_get dg_X12_statementTold_0_0 22 rfl rfl)
theorem dX12_statementTold_78 : decode cX12_statementTold 78 = .ok (.aload_n 0, 1) := q_aload_n0 (bat_get dg_X12_statementTold_0_0 23 rfl rfl)
theorem dX12_statementTold_79 : decode cX12_statementTold 79 = .ok (.getfield 36, 3) := q_getfield (bat_get dg_X12_statementTold_0_0 24 rfl rfl) rfl
theorem dX12_statementTold_82 : decode cX12_statementTold 82 = .ok (.invokevirtual 222, 3) := q_invokevirtual (bat_get dg_X12_statementTold_0_0 25 rfl rfl) rfl
theorem dX12_statementTold_85 : decode cX12_statementTold 85 = .ok (.ifCond .eq 12, 3) := q_ifCond_eq (bat_get dg_X12_statementTold_0_0 26 rfl rfl) rfl
theorem dX12_statementTold_97 : decode cX12_statementTold 97 = .ok (.aload_n 0, 1) := q_aload_n0 (bat_get dg_X12_statementTold_0_0 27 rfl rfl)
theorem dX12_statementTold_98 : decode cX12_statementTold 98 = .ok (.aload_n 0, 1) := q_aload_n0 (bat_get dg_X12_statementTold_0_0 28 rfl rfl)
theorem dX12_statementTold_99 : decode cX12_statementTold 99 = .ok (.getfield 39, 3) := q_getfield (bat_get dg_X12_statementTold_0_0 29 rfl rfl) rfl
theorem dX12_statementTold_102 : decode cX12_statementTold 102 = .ok (.invokevirtual 222, 3) := q_invokevirtual (bat_get dg_X12_statementTold_0_0 30 rfl rfl) rfl
theorem dX12_statementTold_105 : decode cX12_statementTold 105 = .ok (.ifCond .eq 12, 3) := q_ifCond_eq (bat_get dg_X12_statementTold_0_0 31 rfl rfl) rfl
theorem dX12_statementTold_117 : decode cX12_statementTold 117 = .ok (.aload_n 0, 1) := q_aload_n0 (bat_get dg_X12_statementTold_0_0 32 rfl rfl)
theorem dX12_statementTold_118 : decode cX12_statementTold 118 = .ok (.aload_n 0, 1) := q_aload_n0 (bat_get dg_X12_statementTold_0_0 33 rfl rfl)
theorem dX12_statementTold_119 : decode cX12_statementTold 119 = .ok (.getfield 42, 3) := q_getfield (bat_get dg_X12_statementTold_0_0 34 rfl rfl) rfl
theorem dX12_statementTold_122 : decode cX12_statementTold 122 = .ok (.invokevirtual 222, 3) := q_invokevirtual (bat_get dg_X12_statementTold_0_0 35 rfl rfl) rfl
theorem dX12_statementTold_125 : decode cX12_statementTold 125 = .ok (.ifCond .eq 12, 3) := q_ifCond_eq (bat_get dg_X12_statementTold_0_0 36 rfl rfl) rfl
theorem dX12_statementTold_137 : decode cX12_statementTold 137 = .ok (.aload_n 0, 1) := q_aload_n0 (bat_get dg_X12_statementTold_0_0 37 rfl rfl)
theorem dX12_statementTold_138 : decode cX12_statementTold 138 = .ok (.aload_n 0, 1) := q_aload_n0 (bat_get dg_X12_statementTold_0_0 38 rfl rfl)
theorem dX12_statementTold_139 : decode cX12_statementTold 139 = .ok (.getfield 45, 3) := q_getfield (bat_get dg_X12_statementTold_0_0 39 rfl rfl) rfl
theorem dg_X12_statementTold_32_142 : bqL cX12_statementTold 32 [(110, [182, 0, 245]), (113, [42]), (114, [42]), (115, [3]), (116, [16, 100]), (118, [182, 0, 249]), (121, [181, 1, 31]), (124, [42]), (125, [16, 59]), (127, [182, 0, 253]), (130, [42]), (131, [89]), (132, [180, 1, 19]), (135, [4]), (136, [96]), (137, [181, 1, 19]), (140, [177]), (96, [42]), (97, [5]), (98, [27]), (99, [182, 1, 28]), (102, [167, 0, 22]), (76, [42]), (77, [4]), (78, [27]), (79, [182, 1, 28]), (82, [167, 0, 42]), (56, [42]), (57, [3]), (58, [27]), (59, [182, 1, 28]), (62, [167, 0, 62]), (38, [42]), (39, [182, 1, 25]), (42, [167, 0, 82]), (19, [42]), (20, [4]), (21, [182, 1, 22]), (24, [167, 0, 100]), (0, [42])] = true := by decide +kernel
theorem dX12_statementTold_142 : decode cX12_statementTold 142 = .ok (.invokevirtual 245, 3) := q_invokevirtual (bat_get dg_X12_statementTold_32_142 0 rfl rfl) rfl
theorem dX12_statementTold_145 : decode cX12_statementTold 145 = .ok (.aload_n 0, 1) := q_aload_n0 (bat_get dg_X12_statementTold_32_142 1 rfl rfl)
theorem dX12_statementTold_146 : decode cX12_statementTold 146 = .ok (.aload_n 0, 1) := q_aload_n0 (bat_get dg_X12_statementTold_32_142 2 rfl rfl)
theorem dX12_statementTold_147 : decode cX12_statementTold 147 = .ok (.iconst 0, 1) := q_iconst0 (bat_get dg_X12_statementTold_32_142 3 rfl rfl)
theorem dX12_statementTold_148 : decode cX12_statementTold 148 = .ok (.bipush 100, 2) := q_bipush (bat_get dg_X12_statementTold_32_142 4 rfl rfl) rfl
theorem dX12_statementTold_150 : decode cX12_statementTold 150 = .ok (.invokevirtual 249, 3) := q_invokevirtual (bat_get dg_X12_statementTold_32_142 5 rfl rfl) rfl
theorem dX12_statementTold_153 : decode cX12_statementTold 153 = .ok (.putfield 287, 3) := q_putfield (bat_get dg_X12_statementTold_32_142 6 rfl rfl) rfl
theorem dX12_statementTold_156 : decode cX12_statementTold 156 = .ok (.aload_n 0, 1) := q_aload_n0 (bat_get dg_X12_statementTold_32_142 7 rfl rfl)
theorem dX12_statementTold_157 : decode cX12_statementTold 157 = .ok (.bipush 59, 2) := q_bipush (bat_get dg_X12_statementTold_32_142 8 rfl rfl) rfl
theorem dX12_statementTold_159 : decode cX12_statementTold 159 = .ok (.invokevirtual 253, 3) := q_invokevirtual (bat_get dg_X12_statementTold_32_142 9 rfl rfl) rfl
theorem dX12_statementTold_162 : decode cX12_statementTold 162 = .ok (.aload_n 0, 1) := q_aload_n0 (bat_get dg_X12_statementTold_32_142 10 rfl rfl)
theorem dX12_statementTold_163 : decode cX12_statementTold 163 = .ok (.dup, 1) := q_dup (bat_get dg_X12_statementTold_32_142 11 rfl rfl)
theorem dX12_statementTold_164 : decode cX12_statementTold 164 = .ok (.getfield 275, 3) := q_getfield (bat_get dg_X12_statementTold_32_142 12 rfl rfl) rfl
theorem dX12_statementTold_167 : decode cX12_statementTold 167 = .ok (.iconst 1, 1) := q_iconst1 (bat_get dg_X12_statementTold_32_142 13 rfl rfl)
theorem dX12_statementTold_168 : decode cX12_statementTold 168 = .ok (.iadd, 1) := q_iadd (bat_get dg_X12_statementTold_32_142 14 rfl rfl)
theorem dX12_statementTold_169 : decode cX12_statementTold 169 = .ok (.putfield 275, 3) := q_putfield (bat_get dg_X12_statementTold_32_142 15 rfl rfl) rfl
theorem dX12_statementTold_172 : decode cX12_statementTold 172 = .ok (.return_, 1) := q_return_ (bat_get dg_X12_statementTold_32_142 16 rfl rfl)
theorem dX12_statementTold_128 : decode cX12_statementTold 128 = .ok (.aload_n 0, 1) := q_aload_n0 (bat_get dg_X12_statementTold_32_142 17 rfl rfl)
theorem dX12_statementTold_129 : decode cX12_statementTold 129 = .ok (.iconst 2, 1) := q_iconst2 (bat_get dg_X12_statementTold_32_142 18 rfl rfl)
theorem dX12_statementTold_130 : decode cX12_statementTold 130 = .ok (.iload_n 1, 1) := q_iload_n1 (bat_get dg_X12_statementTold_32_142 19 rfl rfl)
theorem dX12_statementTold_131 : decode cX12_statementTold 131 = .ok (.invokevirtual 284, 3) := q_invokevirtual (bat_get dg_X12_statementTold_32_142 20 rfl rfl) rfl
theorem dX12_statementTold_134 : decode cX12_statementTold 134 = .ok (.goto 22, 3) := q_goto (bat_get dg_X12_statementTold_32_142 21 rfl rfl) rfl
theorem dX12_statementTold_108 : decode cX12_statementTold 108 = .ok (.aload_n 0, 1) := q_aload_n0 (bat_get dg_X12_statementTold_32_142 22 rfl rfl)
theorem dX12_statementTold_109 : decode cX12_statementTold 109 = .ok (.iconst 1, 1) := q_iconst1 (bat_get dg_X12_statementTold_32_142 23 rfl rfl)
theorem dX12_statementTold_110 : decode cX12_statementTold 110 = .ok (.iload_n 1, 1) := q_iload_n1 (bat_get dg_X12_statementTold_32_142 24 rfl rfl)
theorem dX12_statementTold_111 : decode cX12_statementTold 111 = .ok (.invokevirtual 284, 3) := q_invokevirtual (bat_get dg_X12_statementTold_32_142 25 rfl rfl) rfl
theorem dX12_statementTold_114 : decode cX12_statementTold 114 = .ok (.goto 42, 3) := q_goto (bat_get dg_X12_statementTold_32_142 26 rfl rfl) rfl
theorem dX12_statementTold_88 : decode cX12_statementTold 88 = .ok (.aload_n 0, 1) := q_aload_n0 (bat_get dg_X12_statementTold_32_142 27 rfl rfl)
theorem dX12_statementTold_89 : decode cX12_statementTold 89 = .ok (.iconst 0, 1) := q_iconst0 (bat_get dg_X12_statementTold_32_142 28 rfl rfl)
theorem dX12_statementTold_90 : decode cX12_statementTold 90 = .ok (.iload_n 1, 1) := q_iload_n1 (bat_get dg_X12_statementTold_32_142 29 rfl rfl)
theorem dX12_statementTold_91 : decode cX12_statementTold 91 = .ok (.invokevirtual 284, 3) := q_invokevirtual (bat_get dg_X12_statementTold_32_142 30 rfl rfl) rfl
theorem dX12_statementTold_94 : decode cX12_statementTold 94 = .ok (.goto 62, 3) := q_goto (bat_get dg_X12_statementTold_32_142 31 rfl rfl) rfl
theorem dX12_statementTold_70 : decode cX12_statementTold 70 = .ok (.aload_n 0, 1) := q_aload_n0 (bat_get dg_X12_statementTold_32_142 32 rfl rfl)
theorem dX12_statementTold_71 : decode cX12_statementTold 71 = .ok (.invokevirtual 281, 3) := q_invokevirtual (bat_get dg_X12_statementTold_32_142 33 rfl rfl) rfl
theorem dX12_statementTold_74 : decode cX12_statementTold 74 = .ok (.goto 82, 3) := q_goto (bat_get dg_X12_statementTold_32_142 34 rfl rfl) rfl
theorem dX12_statementTold_51 : decode cX12_statementTold 51 = .ok (.aload_n 0, 1) := q_aload_n0 (bat_get dg_X12_statementTold_32_142 35 rfl rfl)
theorem dX12_statementTold_52 : decode cX12_statementTold 52 = .ok (.iconst 1, 1) := q_iconst1 (bat_get dg_X12_statementTold_32_142 36 rfl rfl)
theorem dX12_statementTold_53 : decode cX12_statementTold 53 = .ok (.invokevirtual 278, 3) := q_invokevirtual (bat_get dg_X12_statementTold_32_142 37 rfl rfl) rfl
theorem dX12_statementTold_56 : decode cX12_statementTold 56 = .ok (.goto 100, 3) := q_goto (bat_get dg_X12_statementTold_32_142 38 rfl rfl) rfl
theorem dX12_statementTold_32 : decode cX12_statementTold 32 = .ok (.aload_n 0, 1) := q_aload_n0 (bat_get dg_X12_statementTold_32_142 39 rfl rfl)
theorem dg_X12_statementTold_14_33 : bqL cX12_statementTold 14 [(19, [3]), (20, [182, 1, 22]), (23, [167, 0, 119]), (0, [42]), (1, [8]), (2, [27]), (3, [182, 0, 225]), (6, [177])] = true := by decide +kernel
theorem dX12_statementTold_33 : decode cX12_statementTold 33 = .ok (.iconst 0, 1) := q_iconst0 (bat_get dg_X12_statementTold_14_33 0 rfl rfl)
theorem dX12_statementTold_34 : decode cX12_statementTold 34 = .ok (.invokevirtual 278, 3) := q_invokevirtual (bat_get dg_X12_statementTold_14_33 1 rfl rfl) rfl
theorem dX12_statementTold_37 : decode cX12_statementTold 37 = .ok (.goto 119, 3) := q_goto (bat_get dg_X12_statementTold_14_33 2 rfl rfl) rfl
theorem dX12_statementTold_14 : decode cX12_statementTold 14 = .ok (.aload_n 0, 1) := q_aload_n0 (bat_get dg_X12_statementTold_14_33 3 rfl rfl)
theorem dX12_statementTold_15 : decode cX12_statementTold 15 = .ok (.iconst 5, 1) := q_iconst5 (bat_get dg_X12_statementTold_14_33 4 rfl rfl)
theorem dX12_statementTold_16 : decode cX12_statementTold 16 = .ok (.iload_n 1, 1) := q_iload_n1 (bat_get dg_X12_statementTold_14_33 5 rfl rfl)
theorem dX12_statementTold_17 : decode cX12_statementTold 17 = .ok (.invokevirtual 225, 3) := q_invokevirtual (bat_get dg_X12_statementTold_14_33 6 rfl rfl) rfl
theorem dX12_statementTold_20 : decode cX12_statementTold 20 = .ok (.return_, 1) := q_return_ (bat_get dg_X12_statementTold_14_33 7 rfl rfl)
theorem w_5_183 : (Cond.fieldLink RX12 275 "SameKeeperModel" "statements" "I") ∈ wsL_law := sk_mem (ck_5 _ (List.mem_of_getElem? (i := 183) rfl)) rfl
theorem w_5_168 : (Cond.fieldLink RX12 27 "SameKeeperModel" "bargeWord" "[C") ∈ wsL_law := sk_mem (ck_5 _ (List.mem_of_getElem? (i := 168) rfl)) rfl
theorem w_5_169 : (Cond.fieldLink RX12 30 "SameKeeperModel" "wetWord" "[C") ∈ wsL_law := sk_mem (ck_5 _ (List.mem_of_getElem? (i := 169) rfl)) rfl
theorem w_5_170 : (Cond.fieldLink RX12 33 "SameKeeperModel" "muteWord" "[C") ∈ wsL_law := sk_mem (ck_5 _ (List.mem_of_getElem? (i := 170) rfl)) rfl
theorem w_5_171 : (Cond.fieldLink RX12 36 "SameKeeperModel" "saysWord" "[C") ∈ wsL_law := sk_mem (ck_5 _ (List.mem_of_getElem? (i := 171) rfl)) rfl
theorem w_5_172 : (Cond.fieldLink RX12 39 "SameKeeperModel" "doesWord" "[C") ∈ wsL_law := sk_mem (ck_5 _ (List.mem_of_getElem? (i := 172) rfl)) rfl
theorem w_5_173 : (Cond.fieldLink RX12 42 "SameKeeperModel" "wageWord" "[C") ∈ wsL_law := sk_mem (ck_5 _ (List.mem_of_getElem? (i := 173) rfl)) rfl
theorem w_5_174 : (Cond.fieldLink RX12 45 "SameKeeperModel" "rainWord" "[C") ∈ wsL_law := sk_mem (ck_5 _ (List.mem_of_getElem? (i := 174) rfl)) rfl
theorem w_5_177 : (Cond.fieldLink RX12 287 "SameKeeperModel" "rainTold" "I") ∈ wsL_law := sk_mem (ck_5 _ (List.mem_of_getElem? (i := 177) rfl)) rfl
