theorem dX8_nameInLock_1 : decode cX8_nameInLock 1 = .ok (.tableswitch 115 258 269 #[67, 71, 115, 115, 115, 115, 115, 63, 75, 79, 83, 99], 63) := by decide +kernel
theorem dg_X8_nameInLock_0_0 : bqL cX8_nameInLock 0 [(0, [27]), (68, [17, 39, 17]), (71, [172]), (72, [17, 39, 18]), (75, [172]), (116, [2]), (117, [172]), (64, [17, 39, 16]), (67, [172]), (76, [17, 39, 19]), (79, [172]), (80, [17, 39, 20]), (83, [172]), (84, [42]), (85, [180, 0, 15]), (88, [4]), (89, [160, 0, 9]), (98, [2]), (99, [172]), (92, [17, 39, 21]), (95, [167, 0, 4]), (100, [42]), (101, [180, 0, 15]), (104, [4]), (105, [160, 0, 9]), (114, [2]), (115, [172]), (108, [17, 39, 22]), (111, [167, 0, 4])] = true := by decide +kernel
theorem dX8_nameInLock_0 : decode cX8_nameInLock 0 = .ok (.iload_n 1, 1) := q_iload_n1 (bat_get dg_X8_nameInLock_0_0 0 rfl rfl)
theorem dX8_nameInLock_68 : decode cX8_nameInLock 68 = .ok (.sipush 10001, 3) := q_sipush (bat_get dg_X8_nameInLock_0_0 1 rfl rfl) rfl
theorem dX8_nameInLock_71 : decode cX8_nameInLock 71 = .ok (.ireturn, 1) := q_ireturn (bat_get dg_X8_nameInLock_0_0 2 rfl rfl)
theorem dX8_nameInLock_72 : decode cX8_nameInLock 72 = .ok (.sipush 10002, 3) := q_sipush (bat_get dg_X8_nameInLock_0_0 3 rfl rfl) rfl
theorem dX8_nameInLock_75 : decode cX8_nameInLock 75 = .ok (.ireturn, 1) := q_ireturn (bat_get dg_X8_nameInLock_0_0 4 rfl rfl)
theorem dX8_nameInLock_116 : decode cX8_nameInLock 116 = .ok (.iconst (-1), 1) := q_iconstm1 (bat_get dg_X8_nameInLock_0_0 5 rfl rfl)
theorem dX8_nameInLock_117 : decode cX8_nameInLock 117 = .ok (.ireturn, 1) := q_ireturn (bat_get dg_X8_nameInLock_0_0 6 rfl rfl)
theorem dX8_nameInLock_64 : decode cX8_nameInLock 64 = .ok (.sipush 10000, 3) := q_sipush (bat_get dg_X8_nameInLock_0_0 7 rfl rfl) rfl
theorem dX8_nameInLock_67 : decode cX8_nameInLock 67 = .ok (.ireturn, 1) := q_ireturn (bat_get dg_X8_nameInLock_0_0 8 rfl rfl)
theorem dX8_nameInLock_76 : decode cX8_nameInLock 76 = .ok (.sipush 10003, 3) := q_sipush (bat_get dg_X8_nameInLock_0_0 9 rfl rfl) rfl
theorem dX8_nameInLock_79 : decode cX8_nameInLock 79 = .ok (.ireturn, 1) := q_ireturn (bat_get dg_X8_nameInLock_0_0 10 rfl rfl)
theorem dX8_nameInLock_80 : decode cX8_nameInLock 80 = .ok (.sipush 10004, 3) := q_sipush (bat_get dg_X8_nameInLock_0_0 11 rfl rfl) rfl
theorem dX8_nameInLock_83 : decode cX8_nameInLock 83 = .ok (.ireturn, 1) := q_ireturn (bat_get dg_X8_nameInLock_0_0 12 rfl rfl)
theorem dX8_nameInLock_84 : decode cX8_nameInLock 84 = .ok (.aload_n 0, 1) := q_aload_n0 (bat_get dg_X8_nameInLock_0_0 13 rfl rfl)
theorem dX8_nameInLock_85 : decode cX8_nameInLock 85 = .ok (.getfield 15, 3) := q_getfield (bat_get dg_X8_nameInLock_0_0 14 rfl rfl) rfl
theorem dX8_nameInLock_88 : decode cX8_nameInLock 88 = .ok (.iconst 1, 1) := q_iconst1 (bat_get dg_X8_nameInLock_0_0 15 rfl rfl)
theorem dX8_nameInLock_89 : decode cX8_nameInLock 89 = .ok (.if_icmp .ne 9, 3) := q_if_icmp_ne (bat_get dg_X8_nameInLock_0_0 16 rfl rfl) rfl
theorem dX8_nameInLock_98 : decode cX8_nameInLock 98 = .ok (.iconst (-1), 1) := q_iconstm1 (bat_get dg_X8_nameInLock_0_0 17 rfl rfl)
theorem dX8_nameInLock_99 : decode cX8_nameInLock 99 = .ok (.ireturn, 1) := q_ireturn (bat_get dg_X8_nameInLock_0_0 18 rfl rfl)
theorem dX8_nameInLock_92 : decode cX8_nameInLock 92 = .ok (.sipush 10005, 3) := q_sipush (bat_get dg_X8_nameInLock_0_0 19 rfl rfl) rfl
theorem dX8_nameInLock_95 : decode cX8_nameInLock 95 = .ok (.goto 4, 3) := q_goto (bat_get dg_X8_nameInLock_0_0 20 rfl rfl) rfl
theorem dX8_nameInLock_100 : decode cX8_nameInLock 100 = .ok (.aload_n 0, 1) := q_aload_n0 (bat_get dg_X8_nameInLock_0_0 21 rfl rfl)
theorem dX8_nameInLock_101 : decode cX8_nameInLock 101 = .ok (.getfield 15, 3) := q_getfield (bat_get dg_X8_nameInLock_0_0 22 rfl rfl) rfl
theorem dX8_nameInLock_104 : decode cX8_nameInLock 104 = .ok (.iconst 1, 1) := q_iconst1 (bat_get dg_X8_nameInLock_0_0 23 rfl rfl)
theorem dX8_nameInLock_105 : decode cX8_nameInLock 105 = .ok (.if_icmp .ne 9, 3) := q_if_icmp_ne (bat_get dg_X8_nameInLock_0_0 24 rfl rfl) rfl
theorem dX8_nameInLock_114 : decode cX8_nameInLock 114 = .ok (.iconst (-1), 1) := q_iconstm1 (bat_get dg_X8_nameInLock_0_0 25 rfl rfl)
theorem dX8_nameInLock_115 : decode cX8_nameInLock 115 = .ok (.ireturn, 1) := q_ireturn (bat_get dg_X8_nameInLock_0_0 26 rfl rfl)
theorem dX8_nameInLock_108 : decode cX8_nameInLock 108 = .ok (.sipush 10006, 3) := q_sipush (bat_get dg_X8_nameInLock_0_0 27 rfl rfl) rfl
theorem dX8_nameInLock_111 : decode cX8_nameInLock 111 = .ok (.goto 4, 3) := q_goto (bat_get dg_X8_nameInLock_0_0 28 rfl rfl) rfl
theorem w_1_101 : (Cond.fieldLink RX8 15 "SameKeeper$Sums" "kind" "I") ∈ wsL_law := sk_mem (ck_1 _ (List.mem_of_getElem? (i := 101) rfl)) rfl
theorem w_3_121 : (Cond.code yX8_nameInLock cX8_nameInLock 2 (some .int)) ∈ wsL_law := sk_mem (ck_3 _ (List.mem_of_getElem? (i := 121) rfl)) rfl
theorem dX8_nameInQuestion_1 : decode cX8_nameInQuestion 1 = .ok (.tableswitch 95 258 271 #[75, 79, 83, 95, 95, 95, 95, 95, 95, 91, 95, 95, 71, 87], 71) := by decide +kernel
theorem dg_X8_nameInQuestion_0_0 : bqL cX8_nameInQuestion 0 [(0, [26]), (76, [17, 39, 17]), (79, [172]), (80, [17, 39, 18]), (83, [172]), (84, [17, 39, 23]), (87, [172]), (96, [2]), (97, [172]), (92, [17, 39, 20]), (95, [172]), (72, [17, 39, 19]), (75, [172]), (88, [17, 39, 24]), (91, [172])] = true := by decide +kernel
theorem dX8_nameInQuestion_0 : decode cX8_nameInQuestion 0 = .ok (.iload_n 0, 1) := q_iload_n0 (bat_get dg_X8_nameInQuestion_0_0 0 rfl rfl)
theorem dX8_nameInQuestion_76 : decode cX8_nameInQuestion 76 = .ok (.sipush 10001, 3) := q_sipush (bat_get dg_X8_nameInQuestion_0_0 1 rfl rfl) rfl
theorem dX8_nameInQuestion_79 : decode cX8_nameInQuestion 79 = .ok (.ireturn, 1) := q_ireturn (bat_get dg_X8_nameInQuestion_0_0 2 rfl rfl)
theorem dX8_nameInQuestion_80 : decode cX8_nameInQuestion 80 = .ok (.sipush 10002, 3) := q_sipush (bat_get dg_X8_nameInQuestion_0_0 3 rfl rfl) rfl
theorem dX8_nameInQuestion_83 : decode cX8_nameInQuestion 83 = .ok (.ireturn, 1) := q_ireturn (bat_get dg_X8_nameInQuestion_0_0 4 rfl rfl)
theorem dX8_nameInQuestion_84 : decode cX8_nameInQuestion 84 = .ok (.sipush 10007, 3) := q_sipush (bat_get dg_X8_nameInQuestion_0_0 5 rfl rfl) rfl
theorem dX8_nameInQuestion_87 : decode cX8_nameInQuestion 87 = .ok (.ireturn, 1) := q_ireturn (bat_get dg_X8_nameInQuestion_0_0 6 rfl rfl)
theorem dX8_nameInQuestion_96 : decode cX8_nameInQuestion 96 = .ok (.iconst (-1), 1) := q_iconstm1 (bat_get dg_X8_nameInQuestion_0_0 7 rfl rfl)
theorem dX8_nameInQuestion_97 : decode cX8_nameInQuestion 97 = .ok (.ireturn, 1) := q_ireturn (bat_get dg_X8_nameInQuestion_0_0 8 rfl rfl)
theorem dX8_nameInQuestion_92 : decode cX8_nameInQuestion 92 = .ok (.sipush 10004, 3) := q_sipush (bat_get dg_X8_nameInQuestion_0_0 9 rfl rfl) rfl
theorem dX8_nameInQuestion_95 : decode cX8_nameInQuestion 95 = .ok (.ireturn, 1) := q_ireturn (bat_get dg_X8_nameInQuestion_0_0 10 rfl rfl)
theorem dX8_nameInQuestion_72 : decode cX8_nameInQuestion 72 = .ok (.sipush 10003, 3) := q_sipush (bat_get dg_X8_nameInQuestion_0_0 11 rfl rfl) rfl
theorem dX8_nameInQuestion_75 : decode cX8_nameInQuestion 75 = .ok (.ireturn, 1) := q_ireturn (bat_get dg_X8_nameInQuestion_0_0 12 rfl rfl)
theorem dX8_nameInQuestion_88 : decode cX8_nameInQuestion 88 = .ok (.sipush 10008, 3) := q_sipush (bat_get dg_X8_nameInQuestion_0_0 13 rfl rfl) rfl
theorem dX8_nameInQuestion_91 : decode cX8_nameInQuestion 91 = .ok (.ireturn, 1) := q_ireturn (bat_get dg_X8_nameInQuestion_0_0 14 rfl rfl)
theorem w_3_117 : (Cond.code yX8_nameInQuestion cX8_nameInQuestion 1 (some .int)) ∈ wsL_law := sk_mem (ck_3 _ (List.mem_of_getElem? (i := 117) rfl)) rfl
theorem dg_X8_readPair_0_0 : bqL cX8_readPair 0 [(0, [42]), (1, [180, 0, 9]), (4, [16, 40]), (6, [182, 0, 49]), (9, [153, 0, 43]), (52, [177]), (12, [42]), (13, [43]), (14, [182, 0, 19]), (17, [42]), (18, [180, 0, 9]), (21, [16, 44]), (23, [182, 0, 56]), (26, [42]), (27, [43]), (28, [182, 0, 19]), (31, [42]), (32, [180, 0, 9]), (35, [182, 0, 53]), (38, [42]), (39, [180, 0, 9]), (42, [16, 41]), (44, [182, 0, 56]), (47, [43]), (48, [28]), (49, [182, 0, 38])] = true := by decide +kernel
theorem dX8_readPair_0 : decode cX8_readPair 0 = .ok (.aload_n 0, 1) := q_aload_n0 (bat_get dg_X8_readPair_0_0 0 rfl rfl)
theorem dX8_readPair_1 : decode cX8_readPair 1 = .ok (.getfield 9, 3) := q_getfield (bat_get dg_X8_readPair_0_0 1 rfl rfl) rfl
theorem dX8_readPair_4 : decode cX8_readPair 4 = .ok (.bipush 40, 2) := q_bipush (bat_get dg_X8_readPair_0_0 2 rfl rfl) rfl
theorem dX8_readPair_6 : decode cX8_readPair 6 = .ok (.invokevirtual 49, 3) := q_invokevirtual (bat_get dg_X8_readPair_0_0 3 rfl rfl) rfl
theorem dX8_readPair_9 : decode cX8_readPair 9 = .ok (.ifCond .eq 43, 3) := q_ifCond_eq (bat_get dg_X8_readPair_0_0 4 rfl rfl) rfl
theorem dX8_readPair_52 : decode cX8_readPair 52 = .ok (.return_, 1) := q_return_ (bat_get dg_X8_readPair_0_0 5 rfl rfl)
theorem dX8_readPair_12 : decode cX8_readPair 12 = .ok (.aload_n 0, 1) := q_aload_n0 (bat_get dg_X8_readPair_0_0 6 rfl rfl)
theorem dX8_readPair_13 : decode cX8_readPair 13 = .ok (.aload_n 1, 1) := q_aload_n1 (bat_get dg_X8_readPair_0_0 7 rfl rfl)
theorem dX8_readPair_14 : decode cX8_readPair 14 = .ok (.invokevirtual 19, 3) := q_invokevirtual (bat_get dg_X8_readPair_0_0 8 rfl rfl) rfl
theorem dX8_readPair_17 : decode cX8_readPair 17 = .ok (.aload_n 0, 1) := q_aload_n0 (bat_get dg_X8_readPair_0_0 9 rfl rfl)
theorem dX8_readPair_18 : decode cX8_readPair 18 = .ok (.getfield 9, 3) := q_getfield (bat_get dg_X8_readPair_0_0 10 rfl rfl) rfl
theorem dX8_readPair_21 : decode cX8_readPair 21 = .ok (.bipush 44, 2) := q_bipush (bat_get dg_X8_readPair_0_0 11 rfl rfl) rfl
theorem dX8_readPair_23 : decode cX8_readPair 23 = .ok (.invokevirtual 56, 3) := q_invokevirtual (bat_get dg_X8_readPair_0_0 12 rfl rfl) rfl
theorem dX8_readPair_26 : decode cX8_readPair 26 = .ok (.aload_n 0, 1) := q_aload_n0 (bat_get dg_X8_readPair_0_0 13 rfl rfl)
theorem dX8_readPair_27 : decode cX8_readPair 27 = .ok (.aload_n 1, 1) := q_aload_n1 (bat_get dg_X8_readPair_0_0 14 rfl rfl)
theorem dX8_readPair_28 : decode cX8_readPair 28 = .ok (.invokevirtual 19, 3) := q_invokevirtual (bat_get dg_X8_readPair_0_0 15 rfl rfl) rfl
theorem dX8_readPair_31 : decode cX8_readPair 31 = .ok (.aload_n 0, 1) := q_aload_n0 (bat_get dg_X8_readPair_0_0 16 rfl rfl)
theorem dX8_readPair_32 : decode cX8_readPair 32 = .ok (.getfield 9, 3) := q_getfield (bat_get dg_X8_readPair_0_0 17 rfl rfl) rfl
theorem dX8_readPair_35 : decode cX8_readPair 35 = .ok (.invokevirtual 53, 3) := q_invokevirtual (bat_get dg_X8_readPair_0_0 18 rfl rfl) rfl
theorem dX8_readPair_38 : decode cX8_readPair 38 = .ok (.aload_n 0, 1) := q_aload_n0 (bat_get dg_X8_readPair_0_0 19 rfl rfl)
theorem dX8_readPair_39 : decode cX8_readPair 39 = .ok (.getfield 9, 3) := q_getfield (bat_get dg_X8_readPair_0_0 20 rfl rfl) rfl
theorem dX8_readPair_42 : decode cX8_readPair 42 = .ok (.bipush 41, 2) := q_bipush (bat_get dg_X8_readPair_0_0 21 rfl rfl) rfl
theorem dX8_readPair_44 : decode cX8_readPair 44 = .ok (.invokevirtual 56, 3) := q_invokevirtual (bat_get dg_X8_readPair_0_0 22 rfl rfl) rfl
theorem dX8_readPair_47 : decode cX8_readPair 47 = .ok (.aload_n 1, 1) := q_aload_n1 (bat_get dg_X8_readPair_0_0 23 rfl rfl)
theorem dX8_readPair_48 : decode cX8_readPair 48 = .ok (.iload_n 2, 1) := q_iload_n2 (bat_get dg_X8_readPair_0_0 24 rfl rfl)
theorem dX8_readPair_49 : decode cX8_readPair 49 = .ok (.invokevirtual 38, 3) := q_invokevirtual (bat_get dg_X8_readPair_0_0 25 rfl rfl) rfl
theorem w_1_100 : (Cond.fieldLink RX8 9 "SameKeeper$Sums" "reader" "LSameKeeper$Reader;") ∈ wsL_law := sk_mem (ck_1 _ (List.mem_of_getElem? (i := 100) rfl)) rfl
theorem w_3_101 : (Cond.methodLink RX8 49 yX6_opens) ∈ wsL_law := sk_mem (ck_3 _ (List.mem_of_getElem? (i := 101) rfl)) rfl
theorem w_3_102 : (Cond.instanceMethod yX6_opens) ∈ wsL_law := sk_mem (ck_3 _ (List.mem_of_getElem? (i := 102) rfl)) rfl
theorem w_3_103 : (Cond.selects RX6 yX6_opens yX6_opens) ∈ wsL_law := sk_mem (ck_3 _ (List.mem_of_getElem? (i := 103) rfl)) rfl
theorem w_3_84 : (Cond.methodLink RX8 19 yX8_readSum) ∈ wsL_law := sk_mem (ck_3 _ (List.mem_of_getElem? (i := 84) rfl)) rfl
theorem w_3_86 : (Cond.instanceMethod yX8_readSum) ∈ wsL_law := sk_mem (ck_3 _ (List.mem_of_getElem? (i := 86) rfl)) rfl
theorem w_0_6 : (Cond.selects RX8 yX8_readSum yX8_readSum) ∈ wsL_law := sk_mem (ck_0 _ (List.mem_of_getElem? (i := 6) rfl)) rfl
theorem w_1_6 : (Cond.initialized RX8) ∈ wsL_law := sk_mem (ck_1 _ (List.mem_of_getElem? (i := 6) rfl)) rfl
theorem w_3_87 : (Cond.code yX8_readSum cX8_readSum 4 none) ∈ wsL_law := sk_mem (ck_3 _ (List.mem_of_getElem? (i := 87) rfl)) rfl
theorem w_3_109 : (Cond.methodLink RX8 56 yX6_needs) ∈ wsL_law := sk_mem (ck_3 _ (List.mem_of_getElem? (i := 109) rfl)) rfl
theorem w_3_51 : (Cond.instanceMethod yX6_needs) ∈ wsL_law := sk_mem (ck_3 _ (List.mem_of_getElem? (i := 51) rfl)) rfl
theorem w_3_52 : (Cond.selects RX6 yX6_needs yX6_needs) ∈ wsL_law := sk_mem (ck_3 _ (List.mem_of_getElem? (i := 52) rfl)) rfl
theorem w_3_105 : (Cond.methodLink RX8 53 yX6_shuts) ∈ wsL_law := sk_mem (ck_3 _ (List.mem_of_getElem? (i := 105) rfl)) rfl
theorem w_3_106 : (Cond.instanceMethod yX6_shuts) ∈ wsL_law := sk_mem (ck_3 _ (List.mem_of_getElem? (i := 106) rfl)) rfl
theorem w_3_107 : (Cond.selects RX6 yX6_shuts yX6_shuts) ∈ wsL_law := sk_mem (ck_3 _ (List.mem_of_getElem? (i := 107) rfl)) rfl
theorem w_3_97 : (Cond.methodLink RX8 38 yX0_add) ∈ wsL_law := sk_mem (ck_3 _ (List.mem_of_getElem? (i := 97) rfl)) rfl
theorem w_3_98 : (Cond.instanceMethod yX0_add) ∈ wsL_law := sk_mem (ck_3 _ (List.mem_of_getElem? (i := 98) rfl)) rfl
theorem w_3_99 : (Cond.selects RX0 yX0_add yX0_add) ∈ wsL_law := sk_mem (ck_3 _ (List.mem_of_getElem? (i := 99) rfl)) rfl
theorem w_3_114 : (Cond.code yX8_readPair cX8_readPair 3 none) ∈ wsL_law := sk_mem (ck_3 _ (List.mem_of_getElem? (i := 114) rfl)) rfl
def om_6_1c : List Bool := false :: true :: true :: true :: false :: false :: []
def om_6_3f : List Bool := true :: true :: true :: true :: true :: true :: []
def om_6_10 : List Bool := false :: true :: false :: false :: false :: false :: []
def om_6_3 : List Bool := false :: false :: false :: false :: true :: true :: []
theorem hd_X6_opens_1 : skD yX6_opens 1 := by decide +kernel
theorem hd_X8_readSum_1 : skD yX8_readSum 1 := by decide +kernel
theorem hd_X6_needs_1 : skD yX6_needs 1 := by decide +kernel
theorem hd_X6_shuts_0 : skD yX6_shuts 0 := by decide +kernel
theorem hd_X0_add_1 : skD yX0_add 1 := by decide +kernel
theorem dg_X8_readPart_0_0 : bqL cX8_readPart 0 [(0, [42]), (1, [180, 0, 9]), (4, [180, 0, 28]), (7, [61]), (8, [28]), (9, [16, 253]), (11, [160, 0, 21]), (32, [28]), (33, [16, 40]), (35, [160, 0, 39]), (74, [28]), (75, [17, 1, 21]), (78, [159, 0, 10]), (88, [42]), (89, [180, 0, 9]), (92, [182, 0, 35]), (95, [42]), (96, [43]), (97, [28]), (98, [17, 1, 21]), (101, [160, 0, 9]), (110, [17, 117, 53]), (113, [182, 0, 59]), (116, [167, 0, 101]), (217, [177]), (104, [17, 117, 52]), (107, [167, 0, 6]), (81, [28]), (82, [17, 1, 22]), (85, [160, 0, 34]), (119, [28]), (120, [17, 1, 16]), (123, [160, 0, 46]), (169, [42]), (170, [180, 0, 15]), (173, [5]), (174, [160, 0, 10]), (184, [42]), (185, [28]), (186, [182, 0, 67])] = true := by decide +kernel
theorem dX8_readPart_0 : decode cX8_readPart 0 = .ok (.aload_n 0, 1) := q_aload_n0 (bat_get dg_X8_readPart_0_0 0 rfl rfl)
theorem dX8_readPart_1 : decode cX8_readPart 1 = .ok (.getfield 9, 3) := q_getfield (bat_get dg_X8_readPart_0_0 1 rfl rfl) rfl
theorem dX8_readPart_4 : decode cX8_readPart 4 = .ok (.getfield 28, 3) := q_getfield (bat_get dg_X8_readPart_0_0 2 rfl rfl) rfl
theorem dX8_readPart_7 : decode cX8_readPart 7 = .ok (.istore_n 2, 1) := q_istore_n2 (bat_get dg_X8_readPart_0_0 3 rfl rfl)
theorem dX8_readPart_8 : decode cX8_readPart 8 = .ok (.iload_n 2, 1) := q_iload_n2 (bat_get dg_X8_readPart_0_0 4 rfl rfl)
theorem dX8_readPart_9 : decode cX8_readPart 9 = .ok (.bipush (-3), 2) := q_bipush (bat_get dg_X8_readPart_0_0 5 rfl rfl) rfl
theorem dX8_readPart_11 : decode cX8_readPart 11 = .ok (.if_icmp .ne 21, 3) := q_if_icmp_ne (bat_get dg_X8_readPart_0_0 6 rfl rfl) rfl
