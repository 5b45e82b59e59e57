theorem dg_X6_fail_0_0 : bqL cX6_fail 0 [(0, [42]), (1, [180, 0, 27]), (4, [154, 0, 13]), (17, [42]), (18, [16, 254]), (20, [181, 0, 21]), (23, [177]), (7, [42]), (8, [27]), (9, [181, 0, 27]), (12, [42]), (13, [28]), (14, [181, 0, 30])] = true := by decide +kernel
theorem dX6_fail_0 : decode cX6_fail 0 = .ok (.aload_n 0, 1) := q_aload_n0 (bat_get dg_X6_fail_0_0 0 rfl rfl)
theorem dX6_fail_1 : decode cX6_fail 1 = .ok (.getfield 27, 3) := q_getfield (bat_get dg_X6_fail_0_0 1 rfl rfl) rfl
theorem dX6_fail_4 : decode cX6_fail 4 = .ok (.ifCond .ne 13, 3) := q_ifCond_ne (bat_get dg_X6_fail_0_0 2 rfl rfl) rfl
theorem dX6_fail_17 : decode cX6_fail 17 = .ok (.aload_n 0, 1) := q_aload_n0 (bat_get dg_X6_fail_0_0 3 rfl rfl)
theorem dX6_fail_18 : decode cX6_fail 18 = .ok (.bipush (-2), 2) := q_bipush (bat_get dg_X6_fail_0_0 4 rfl rfl) rfl
theorem dX6_fail_20 : decode cX6_fail 20 = .ok (.putfield 21, 3) := q_putfield (bat_get dg_X6_fail_0_0 5 rfl rfl) rfl
theorem dX6_fail_23 : decode cX6_fail 23 = .ok (.return_, 1) := q_return_ (bat_get dg_X6_fail_0_0 6 rfl rfl)
theorem dX6_fail_7 : decode cX6_fail 7 = .ok (.aload_n 0, 1) := q_aload_n0 (bat_get dg_X6_fail_0_0 7 rfl rfl)
theorem dX6_fail_8 : decode cX6_fail 8 = .ok (.iload_n 1, 1) := q_iload_n1 (bat_get dg_X6_fail_0_0 8 rfl rfl)
theorem dX6_fail_9 : decode cX6_fail 9 = .ok (.putfield 27, 3) := q_putfield (bat_get dg_X6_fail_0_0 9 rfl rfl) rfl
theorem dX6_fail_12 : decode cX6_fail 12 = .ok (.aload_n 0, 1) := q_aload_n0 (bat_get dg_X6_fail_0_0 10 rfl rfl)
theorem dX6_fail_13 : decode cX6_fail 13 = .ok (.iload_n 2, 1) := q_iload_n2 (bat_get dg_X6_fail_0_0 11 rfl rfl)
theorem dX6_fail_14 : decode cX6_fail 14 = .ok (.putfield 30, 3) := q_putfield (bat_get dg_X6_fail_0_0 12 rfl rfl) rfl
theorem w_1_66 : (Cond.fieldLink RX6 27 "SameKeeper$Reader" "fault" "I") ∈ wsL_law := sk_mem (ck_1 _ (List.mem_of_getElem? (i := 66) rfl)) rfl
theorem w_1_60 : (Cond.fieldLink RX6 21 "SameKeeper$Reader" "token" "I") ∈ wsL_law := sk_mem (ck_1 _ (List.mem_of_getElem? (i := 60) rfl)) rfl
theorem w_1_69 : (Cond.fieldLink RX6 30 "SameKeeper$Reader" "place" "I") ∈ wsL_law := sk_mem (ck_1 _ (List.mem_of_getElem? (i := 69) rfl)) rfl
theorem w_3_61 : (Cond.code yX6_fail cX6_fail 3 none) ∈ wsL_law := sk_mem (ck_3 _ (List.mem_of_getElem? (i := 61) rfl)) rfl
theorem dg_X6_failHere_0_0 : bqL cX6_failHere 0 [(0, [42]), (1, [4]), (2, [42]), (3, [180, 0, 24]), (6, [182, 0, 40]), (9, [177])] = true := by decide +kernel
theorem dX6_failHere_0 : decode cX6_failHere 0 = .ok (.aload_n 0, 1) := q_aload_n0 (bat_get dg_X6_failHere_0_0 0 rfl rfl)
theorem dX6_failHere_1 : decode cX6_failHere 1 = .ok (.iconst 1, 1) := q_iconst1 (bat_get dg_X6_failHere_0_0 1 rfl rfl)
theorem dX6_failHere_2 : decode cX6_failHere 2 = .ok (.aload_n 0, 1) := q_aload_n0 (bat_get dg_X6_failHere_0_0 2 rfl rfl)
theorem dX6_failHere_3 : decode cX6_failHere 3 = .ok (.getfield 24, 3) := q_getfield (bat_get dg_X6_failHere_0_0 3 rfl rfl) rfl
theorem dX6_failHere_6 : decode cX6_failHere 6 = .ok (.invokevirtual 40, 3) := q_invokevirtual (bat_get dg_X6_failHere_0_0 4 rfl rfl) rfl
theorem dX6_failHere_9 : decode cX6_failHere 9 = .ok (.return_, 1) := q_return_ (bat_get dg_X6_failHere_0_0 5 rfl rfl)
theorem w_1_64 : (Cond.fieldLink RX6 24 "SameKeeper$Reader" "start" "I") ∈ wsL_law := sk_mem (ck_1 _ (List.mem_of_getElem? (i := 64) rfl)) rfl
theorem w_3_58 : (Cond.methodLink RX6 40 yX6_fail) ∈ wsL_law := sk_mem (ck_3 _ (List.mem_of_getElem? (i := 58) rfl)) rfl
theorem w_3_59 : (Cond.instanceMethod yX6_fail) ∈ wsL_law := sk_mem (ck_3 _ (List.mem_of_getElem? (i := 59) rfl)) rfl
theorem w_3_60 : (Cond.selects RX6 yX6_fail yX6_fail) ∈ wsL_law := sk_mem (ck_3 _ (List.mem_of_getElem? (i := 60) rfl)) rfl
theorem w_1_4 : (Cond.initialized RX6) ∈ wsL_law := sk_mem (ck_1 _ (List.mem_of_getElem? (i := 4) rfl)) rfl
theorem w_3_57 : (Cond.code yX6_failHere cX6_failHere 1 none) ∈ wsL_law := sk_mem (ck_3 _ (List.mem_of_getElem? (i := 57) rfl)) rfl
def om_1_1 : List Bool := true :: []
theorem hd_X6_fail_2 : skD yX6_fail 2 := by decide +kernel
theorem dg_X6_readNumber_0_0 : bqL cX6_readNumber 0 [(0, [42]), (1, [3]), (2, [181, 0, 15]), (5, [42]), (6, [180, 0, 9]), (9, [42]), (10, [180, 0, 33]), (13, [180, 0, 44]), (16, [162, 0, 90]), (106, [42]), (107, [16, 253]), (109, [181, 0, 21]), (112, [177]), (19, [42]), (20, [180, 0, 33]), (23, [180, 0, 49]), (26, [42]), (27, [180, 0, 9]), (30, [46]), (31, [16, 48]), (33, [161, 0, 73]), (36, [42]), (37, [180, 0, 33]), (40, [180, 0, 49]), (43, [42]), (44, [180, 0, 9]), (47, [46]), (48, [16, 57]), (50, [163, 0, 56]), (53, [42]), (54, [180, 0, 9]), (57, [42]), (58, [180, 0, 24]), (61, [100]), (62, [7]), (63, [162, 0, 30]), (93, [42]), (94, [89]), (95, [180, 0, 9]), (98, [4])] = true := by decide +kernel
theorem dX6_readNumber_0 : decode cX6_readNumber 0 = .ok (.aload_n 0, 1) := q_aload_n0 (bat_get dg_X6_readNumber_0_0 0 rfl rfl)
theorem dX6_readNumber_1 : decode cX6_readNumber 1 = .ok (.iconst 0, 1) := q_iconst0 (bat_get dg_X6_readNumber_0_0 1 rfl rfl)
theorem dX6_readNumber_2 : decode cX6_readNumber 2 = .ok (.putfield 15, 3) := q_putfield (bat_get dg_X6_readNumber_0_0 2 rfl rfl) rfl
theorem dX6_readNumber_5 : decode cX6_readNumber 5 = .ok (.aload_n 0, 1) := q_aload_n0 (bat_get dg_X6_readNumber_0_0 3 rfl rfl)
theorem dX6_readNumber_6 : decode cX6_readNumber 6 = .ok (.getfield 9, 3) := q_getfield (bat_get dg_X6_readNumber_0_0 4 rfl rfl) rfl
theorem dX6_readNumber_9 : decode cX6_readNumber 9 = .ok (.aload_n 0, 1) := q_aload_n0 (bat_get dg_X6_readNumber_0_0 5 rfl rfl)
theorem dX6_readNumber_10 : decode cX6_readNumber 10 = .ok (.getfield 33, 3) := q_getfield (bat_get dg_X6_readNumber_0_0 6 rfl rfl) rfl
theorem dX6_readNumber_13 : decode cX6_readNumber 13 = .ok (.getfield 44, 3) := q_getfield (bat_get dg_X6_readNumber_0_0 7 rfl rfl) rfl
theorem dX6_readNumber_16 : decode cX6_readNumber 16 = .ok (.if_icmp .ge 90, 3) := q_if_icmp_ge (bat_get dg_X6_readNumber_0_0 8 rfl rfl) rfl
theorem dX6_readNumber_106 : decode cX6_readNumber 106 = .ok (.aload_n 0, 1) := q_aload_n0 (bat_get dg_X6_readNumber_0_0 9 rfl rfl)
theorem dX6_readNumber_107 : decode cX6_readNumber 107 = .ok (.bipush (-3), 2) := q_bipush (bat_get dg_X6_readNumber_0_0 10 rfl rfl) rfl
theorem dX6_readNumber_109 : decode cX6_readNumber 109 = .ok (.putfield 21, 3) := q_putfield (bat_get dg_X6_readNumber_0_0 11 rfl rfl) rfl
theorem dX6_readNumber_112 : decode cX6_readNumber 112 = .ok (.return_, 1) := q_return_ (bat_get dg_X6_readNumber_0_0 12 rfl rfl)
theorem dX6_readNumber_19 : decode cX6_readNumber 19 = .ok (.aload_n 0, 1) := q_aload_n0 (bat_get dg_X6_readNumber_0_0 13 rfl rfl)
theorem dX6_readNumber_20 : decode cX6_readNumber 20 = .ok (.getfield 33, 3) := q_getfield (bat_get dg_X6_readNumber_0_0 14 rfl rfl) rfl
theorem dX6_readNumber_23 : decode cX6_readNumber 23 = .ok (.getfield 49, 3) := q_getfield (bat_get dg_X6_readNumber_0_0 15 rfl rfl) rfl
theorem dX6_readNumber_26 : decode cX6_readNumber 26 = .ok (.aload_n 0, 1) := q_aload_n0 (bat_get dg_X6_readNumber_0_0 16 rfl rfl)
theorem dX6_readNumber_27 : decode cX6_readNumber 27 = .ok (.getfield 9, 3) := q_getfield (bat_get dg_X6_readNumber_0_0 17 rfl rfl) rfl
theorem dX6_readNumber_30 : decode cX6_readNumber 30 = .ok (.iaload, 1) := q_iaload (bat_get dg_X6_readNumber_0_0 18 rfl rfl)
theorem dX6_readNumber_31 : decode cX6_readNumber 31 = .ok (.bipush 48, 2) := q_bipush (bat_get dg_X6_readNumber_0_0 19 rfl rfl) rfl
theorem dX6_readNumber_33 : decode cX6_readNumber 33 = .ok (.if_icmp .lt 73, 3) := q_if_icmp_lt (bat_get dg_X6_readNumber_0_0 20 rfl rfl) rfl
theorem dX6_readNumber_36 : decode cX6_readNumber 36 = .ok (.aload_n 0, 1) := q_aload_n0 (bat_get dg_X6_readNumber_0_0 21 rfl rfl)
theorem dX6_readNumber_37 : decode cX6_readNumber 37 = .ok (.getfield 33, 3) := q_getfield (bat_get dg_X6_readNumber_0_0 22 rfl rfl) rfl
theorem dX6_readNumber_40 : decode cX6_readNumber 40 = .ok (.getfield 49, 3) := q_getfield (bat_get dg_X6_readNumber_0_0 23 rfl rfl) rfl
theorem dX6_readNumber_43 : decode cX6_readNumber 43 = .ok (.aload_n 0, 1) := q_aload_n0 (bat_get dg_X6_readNumber_0_0 24 rfl rfl)
theorem dX6_readNumber_44 : decode cX6_readNumber 44 = .ok (.getfield 9, 3) := q_getfield (bat_get dg_X6_readNumber_0_0 25 rfl rfl) rfl
theorem dX6_readNumber_47 : decode cX6_readNumber 47 = .ok (.iaload, 1) := q_iaload (bat_get dg_X6_readNumber_0_0 26 rfl rfl)
theorem dX6_readNumber_48 : decode cX6_readNumber 48 = .ok (.bipush 57, 2) := q_bipush (bat_get dg_X6_readNumber_0_0 27 rfl rfl) rfl
theorem dX6_readNumber_50 : decode cX6_readNumber 50 = .ok (.if_icmp .gt 56, 3) := q_if_icmp_gt (bat_get dg_X6_readNumber_0_0 28 rfl rfl) rfl
theorem dX6_readNumber_53 : decode cX6_readNumber 53 = .ok (.aload_n 0, 1) := q_aload_n0 (bat_get dg_X6_readNumber_0_0 29 rfl rfl)
theorem dX6_readNumber_54 : decode cX6_readNumber 54 = .ok (.getfield 9, 3) := q_getfield (bat_get dg_X6_readNumber_0_0 30 rfl rfl) rfl
theorem dX6_readNumber_57 : decode cX6_readNumber 57 = .ok (.aload_n 0, 1) := q_aload_n0 (bat_get dg_X6_readNumber_0_0 31 rfl rfl)
theorem dX6_readNumber_58 : decode cX6_readNumber 58 = .ok (.getfield 24, 3) := q_getfield (bat_get dg_X6_readNumber_0_0 32 rfl rfl) rfl
theorem dX6_readNumber_61 : decode cX6_readNumber 61 = .ok (.isub, 1) := q_isub (bat_get dg_X6_readNumber_0_0 33 rfl rfl)
theorem dX6_readNumber_62 : decode cX6_readNumber 62 = .ok (.iconst 4, 1) := q_iconst4 (bat_get dg_X6_readNumber_0_0 34 rfl rfl)
theorem dX6_readNumber_63 : decode cX6_readNumber 63 = .ok (.if_icmp .ge 30, 3) := q_if_icmp_ge (bat_get dg_X6_readNumber_0_0 35 rfl rfl) rfl
theorem dX6_readNumber_93 : decode cX6_readNumber 93 = .ok (.aload_n 0, 1) := q_aload_n0 (bat_get dg_X6_readNumber_0_0 36 rfl rfl)
theorem dX6_readNumber_94 : decode cX6_readNumber 94 = .ok (.dup, 1) := q_dup (bat_get dg_X6_readNumber_0_0 37 rfl rfl)
theorem dX6_readNumber_95 : decode cX6_readNumber 95 = .ok (.getfield 9, 3) := q_getfield (bat_get dg_X6_readNumber_0_0 38 rfl rfl) rfl
theorem dX6_readNumber_98 : decode cX6_readNumber 98 = .ok (.iconst 1, 1) := q_iconst1 (bat_get dg_X6_readNumber_0_0 39 rfl rfl)
theorem dg_X6_readNumber_66_99 : bqL cX6_readNumber 66 [(33, [96]), (34, [181, 0, 9]), (37, [167, 255, 158]), (0, [42]), (1, [42]), (2, [180, 0, 15]), (5, [16, 10]), (7, [104]), (8, [42]), (9, [180, 0, 33]), (12, [180, 0, 49]), (15, [42]), (16, [180, 0, 9]), (19, [46]), (20, [96]), (21, [16, 48]), (23, [100]), (24, [181, 0, 15])] = true := by decide +kernel
theorem dX6_readNumber_99 : decode cX6_readNumber 99 = .ok (.iadd, 1) := q_iadd (bat_get dg_X6_readNumber_66_99 0 rfl rfl)
theorem dX6_readNumber_100 : decode cX6_readNumber 100 = .ok (.putfield 9, 3) := q_putfield (bat_get dg_X6_readNumber_66_99 1 rfl rfl) rfl
theorem dX6_readNumber_103 : decode cX6_readNumber 103 = .ok (.goto (-98), 3) := q_goto (bat_get dg_X6_readNumber_66_99 2 rfl rfl) rfl
theorem dX6_readNumber_66 : decode cX6_readNumber 66 = .ok (.aload_n 0, 1) := q_aload_n0 (bat_get dg_X6_readNumber_66_99 3 rfl rfl)
theorem dX6_readNumber_67 : decode cX6_readNumber 67 = .ok (.aload_n 0, 1) := q_aload_n0 (bat_get dg_X6_readNumber_66_99 4 rfl rfl)
theorem dX6_readNumber_68 : decode cX6_readNumber 68 = .ok (.getfield 15, 3) := q_getfield (bat_get dg_X6_readNumber_66_99 5 rfl rfl) rfl
theorem dX6_readNumber_71 : decode cX6_readNumber 71 = .ok (.bipush 10, 2) := q_bipush (bat_get dg_X6_readNumber_66_99 6 rfl rfl) rfl
theorem dX6_readNumber_73 : decode cX6_readNumber 73 = .ok (.imul, 1) := q_imul (bat_get dg_X6_readNumber_66_99 7 rfl rfl)
theorem dX6_readNumber_74 : decode cX6_readNumber 74 = .ok (.aload_n 0, 1) := q_aload_n0 (bat_get dg_X6_readNumber_66_99 8 rfl rfl)
theorem dX6_readNumber_75 : decode cX6_readNumber 75 = .ok (.getfield 33, 3) := q_getfield (bat_get dg_X6_readNumber_66_99 9 rfl rfl) rfl
theorem dX6_readNumber_78 : decode cX6_readNumber 78 = .ok (.getfield 49, 3) := q_getfield (bat_get dg_X6_readNumber_66_99 10 rfl rfl) rfl
theorem dX6_readNumber_81 : decode cX6_readNumber 81 = .ok (.aload_n 0, 1) := q_aload_n0 (bat_get dg_X6_readNumber_66_99 11 rfl rfl)
theorem dX6_readNumber_82 : decode cX6_readNumber 82 = .ok (.getfield 9, 3) := q_getfield (bat_get dg_X6_readNumber_66_99 12 rfl rfl) rfl
theorem dX6_readNumber_85 : decode cX6_readNumber 85 = .ok (.iaload, 1) := q_iaload (bat_get dg_X6_readNumber_66_99 13 rfl rfl)
theorem dX6_readNumber_86 : decode cX6_readNumber 86 = .ok (.iadd, 1) := q_iadd (bat_get dg_X6_readNumber_66_99 14 rfl rfl)
theorem dX6_readNumber_87 : decode cX6_readNumber 87 = .ok (.bipush 48, 2) := q_bipush (bat_get dg_X6_readNumber_66_99 15 rfl rfl) rfl
theorem dX6_readNumber_89 : decode cX6_readNumber 89 = .ok (.isub, 1) := q_isub (bat_get dg_X6_readNumber_66_99 16 rfl rfl)
theorem dX6_readNumber_90 : decode cX6_readNumber 90 = .ok (.putfield 15, 3) := q_putfield (bat_get dg_X6_readNumber_66_99 17 rfl rfl) rfl
theorem w_1_58 : (Cond.fieldLink RX6 15 "SameKeeper$Reader" "value" "I") ∈ wsL_law := sk_mem (ck_1 _ (List.mem_of_getElem? (i := 58) rfl)) rfl
theorem w_1_57 : (Cond.fieldLink RX6 9 "SameKeeper$Reader" "at" "I") ∈ wsL_law := sk_mem (ck_1 _ (List.mem_of_getElem? (i := 57) rfl)) rfl
theorem w_1_56 : (Cond.fieldLink RX6 33 "SameKeeper$Reader" "tape" "LSameKeeper$Tape;") ∈ wsL_law := sk_mem (ck_1 _ (List.mem_of_getElem? (i := 56) rfl)) rfl
theorem w_1_43 : (Cond.fieldLink RX6 44 "SameKeeper$Tape" "length" "I") ∈ wsL_law := sk_mem (ck_1 _ (List.mem_of_getElem? (i := 43) rfl)) rfl
theorem w_1_40 : (Cond.fieldLink RX6 49 "SameKeeper$Tape" "bytes" "[I") ∈ wsL_law := sk_mem (ck_1 _ (List.mem_of_getElem? (i := 40) rfl)) rfl
theorem w_3_45 : (Cond.code yX6_readNumber cX6_readNumber 1 none) ∈ wsL_law := sk_mem (ck_3 _ (List.mem_of_getElem? (i := 45) rfl)) rfl
theorem dg_X6_readWord_0_0 : bqL cX6_readWord 0 [(0, [42]), (1, [180, 0, 9]), (4, [42]), (5, [180, 0, 33]), (8, [180, 0, 44]), (11, [162, 0, 50]), (61, [42]), (62, [16, 254]), (64, [181, 0, 21]), (67, [42]), (68, [180, 0, 9]), (71, [42]), (72, [180, 0, 24]), (75, [100]), (76, [16, 6]), (78, [164, 0, 4]), (82, [3]), (83, [60]), (84, [27]), (85, [16, 6]), (87, [96]), (88, [18, 59]), (90, [182, 0, 61]), (93, [163, 0, 99]), (192, [177]), (96, [4]), (97, [61]), (98, [3]), (99, [62]), (100, [29]), (101, [16, 6]), (103, [162, 0, 66]), (169, [28]), (170, [153, 0, 16]), (186, [132, 1, 6]), (189, [167, 255, 151]), (173, [42]), (174, [17, 1, 0]), (177, [27]), (178, [16, 6])] = true := by decide +kernel
theorem dX6_readWord_0 : decode cX6_readWord 0 = .ok (.aload_n 0, 1) := q_aload_n0 (bat_get dg_X6_readWord_0_0 0 rfl rfl)
theorem dX6_readWord_1 : decode cX6_readWord 1 = .ok (.getfield 9, 3) := q_getfield (bat_get dg_X6_readWord_0_0 1 rfl rfl) rfl
theorem dX6_readWord_4 : decode cX6_readWord 4 = .ok (.aload_n 0, 1) := q_aload_n0 (bat_get dg_X6_readWord_0_0 2 rfl rfl)
theorem dX6_readWord_5 : decode cX6_readWord 5 = .ok (.getfield 33, 3) := q_getfield (bat_get dg_X6_readWord_0_0 3 rfl rfl) rfl
theorem dX6_readWord_8 : decode cX6_readWord 8 = .ok (.getfield 44, 3) := q_getfield (bat_get dg_X6_readWord_0_0 4 rfl rfl) rfl
theorem dX6_readWord_11 : decode cX6_readWord 11 = .ok (.if_icmp .ge 50, 3) := q_if_icmp_ge (bat_get dg_X6_readWord_0_0 5 rfl rfl) rfl
theorem dX6_readWord_61 : decode cX6_readWord 61 = .ok (.aload_n 0, 1) := q_aload_n0 (bat_get dg_X6_readWord_0_0 6 rfl rfl)
theorem dX6_readWord_62 : decode cX6_readWord 62 = .ok (.bipush (-2), 2) := q_bipush (bat_get dg_X6_readWord_0_0 7 rfl rfl) rfl
theorem dX6_readWord_64 : decode cX6_readWord 64 = .ok (.putfield 21, 3) := q_putfield (bat_get dg_X6_readWord_0_0 8 rfl rfl) rfl
theorem dX6_readWord_67 : decode cX6_readWord 67 = .ok (.aload_n 0, 1) := q_aload_n0 (bat_get dg_X6_readWord_0_0 9 rfl rfl)
theorem dX6_readWord_68 : decode cX6_readWord 68 = .ok (.getfield 9, 3) := q_getfield (bat_get dg_X6_readWord_0_0 10 rfl rfl) rfl
theorem dX6_readWord_71 : decode cX6_readWord 71 = .ok (.aload_n 0, 1) := q_aload_n0 (bat_get dg_X6_readWord_0_0 11 rfl rfl)
theorem dX6_readWord_72 : decode cX6_readWord 72 = .ok (.getfield 24, 3) := q_getfield (bat_get dg_X6_readWord_0_0 12 rfl rfl) rfl
theorem dX6_readWord_75 : decode cX6_readWord 75 = .ok (.isub, 1) := q_isub (bat_get dg_X6_readWord_0_0 13 rfl rfl)
