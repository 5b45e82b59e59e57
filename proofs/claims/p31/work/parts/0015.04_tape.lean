theorem dg_X10_add_0_0 : bqL cX10_add 0 [(0, [42]), (1, [180, 0, 7]), (4, [42]), (5, [180, 0, 19]), (8, [190]), (9, [162, 0, 27]), (36, [177]), (12, [42]), (13, [180, 0, 19]), (16, [42]), (17, [180, 0, 7]), (20, [27]), (21, [17, 0, 255]), (24, [126]), (25, [79]), (26, [42]), (27, [89]), (28, [180, 0, 7]), (31, [4]), (32, [96]), (33, [181, 0, 7])] = true := by decide +kernel
theorem dX10_add_0 : decode cX10_add 0 = .ok (.aload_n 0, 1) := q_aload_n0 (bat_get dg_X10_add_0_0 0 rfl rfl)
theorem dX10_add_1 : decode cX10_add 1 = .ok (.getfield 7, 3) := q_getfield (bat_get dg_X10_add_0_0 1 rfl rfl) rfl
theorem dX10_add_4 : decode cX10_add 4 = .ok (.aload_n 0, 1) := q_aload_n0 (bat_get dg_X10_add_0_0 2 rfl rfl)
theorem dX10_add_5 : decode cX10_add 5 = .ok (.getfield 19, 3) := q_getfield (bat_get dg_X10_add_0_0 3 rfl rfl) rfl
theorem dX10_add_8 : decode cX10_add 8 = .ok (.arraylength, 1) := q_arraylength (bat_get dg_X10_add_0_0 4 rfl rfl)
theorem dX10_add_9 : decode cX10_add 9 = .ok (.if_icmp .ge 27, 3) := q_if_icmp_ge (bat_get dg_X10_add_0_0 5 rfl rfl) rfl
theorem dX10_add_36 : decode cX10_add 36 = .ok (.return_, 1) := q_return_ (bat_get dg_X10_add_0_0 6 rfl rfl)
theorem dX10_add_12 : decode cX10_add 12 = .ok (.aload_n 0, 1) := q_aload_n0 (bat_get dg_X10_add_0_0 7 rfl rfl)
theorem dX10_add_13 : decode cX10_add 13 = .ok (.getfield 19, 3) := q_getfield (bat_get dg_X10_add_0_0 8 rfl rfl) rfl
theorem dX10_add_16 : decode cX10_add 16 = .ok (.aload_n 0, 1) := q_aload_n0 (bat_get dg_X10_add_0_0 9 rfl rfl)
theorem dX10_add_17 : decode cX10_add 17 = .ok (.getfield 7, 3) := q_getfield (bat_get dg_X10_add_0_0 10 rfl rfl) rfl
theorem dX10_add_20 : decode cX10_add 20 = .ok (.iload_n 1, 1) := q_iload_n1 (bat_get dg_X10_add_0_0 11 rfl rfl)
theorem dX10_add_21 : decode cX10_add 21 = .ok (.sipush 255, 3) := q_sipush (bat_get dg_X10_add_0_0 12 rfl rfl) rfl
theorem dX10_add_24 : decode cX10_add 24 = .ok (.iand, 1) := q_iand (bat_get dg_X10_add_0_0 13 rfl rfl)
theorem dX10_add_25 : decode cX10_add 25 = .ok (.iastore, 1) := q_iastore (bat_get dg_X10_add_0_0 14 rfl rfl)
theorem dX10_add_26 : decode cX10_add 26 = .ok (.aload_n 0, 1) := q_aload_n0 (bat_get dg_X10_add_0_0 15 rfl rfl)
theorem dX10_add_27 : decode cX10_add 27 = .ok (.dup, 1) := q_dup (bat_get dg_X10_add_0_0 16 rfl rfl)
theorem dX10_add_28 : decode cX10_add 28 = .ok (.getfield 7, 3) := q_getfield (bat_get dg_X10_add_0_0 17 rfl rfl) rfl
theorem dX10_add_31 : decode cX10_add 31 = .ok (.iconst 1, 1) := q_iconst1 (bat_get dg_X10_add_0_0 18 rfl rfl)
theorem dX10_add_32 : decode cX10_add 32 = .ok (.iadd, 1) := q_iadd (bat_get dg_X10_add_0_0 19 rfl rfl)
theorem dX10_add_33 : decode cX10_add 33 = .ok (.putfield 7, 3) := q_putfield (bat_get dg_X10_add_0_0 20 rfl rfl) rfl
theorem w_1_41 : (Cond.fieldLink RX10 7 "SameKeeper$Tape" "length" "I") ∈ wsL_law := sk_mem (ck_1 _ (List.mem_of_getElem? (i := 41) rfl)) rfl
theorem w_1_39 : (Cond.fieldLink RX10 19 "SameKeeper$Tape" "bytes" "[I") ∈ wsL_law := sk_mem (ck_1 _ (List.mem_of_getElem? (i := 39) rfl)) rfl
theorem w_2_193 : (Cond.code yX10_add cX10_add 2 none) ∈ wsL_law := sk_mem (ck_2 _ (List.mem_of_getElem? (i := 193) rfl)) rfl
theorem dg_X10_left_0_0 : bqL cX10_left 0 [(0, [27]), (1, [155, 0, 21]), (22, [3]), (23, [172]), (4, [27]), (5, [42]), (6, [180, 0, 19]), (9, [190]), (10, [162, 0, 12]), (13, [42]), (14, [180, 0, 19]), (17, [27]), (18, [46]), (19, [167, 0, 4])] = true := by decide +kernel
theorem dX10_left_0 : decode cX10_left 0 = .ok (.iload_n 1, 1) := q_iload_n1 (bat_get dg_X10_left_0_0 0 rfl rfl)
theorem dX10_left_1 : decode cX10_left 1 = .ok (.ifCond .lt 21, 3) := q_ifCond_lt (bat_get dg_X10_left_0_0 1 rfl rfl) rfl
theorem dX10_left_23 : decode cX10_left 23 = .ok (.ireturn, 1) := q_ireturn (bat_get dg_X10_left_0_0 3 rfl rfl)
theorem dX10_left_4 : decode cX10_left 4 = .ok (.iload_n 1, 1) := q_iload_n1 (bat_get dg_X10_left_0_0 4 rfl rfl)
theorem dX10_left_5 : decode cX10_left 5 = .ok (.aload_n 0, 1) := q_aload_n0 (bat_get dg_X10_left_0_0 5 rfl rfl)
theorem dX10_left_6 : decode cX10_left 6 = .ok (.getfield 19, 3) := q_getfield (bat_get dg_X10_left_0_0 6 rfl rfl) rfl
theorem dX10_left_9 : decode cX10_left 9 = .ok (.arraylength, 1) := q_arraylength (bat_get dg_X10_left_0_0 7 rfl rfl)
theorem dX10_left_10 : decode cX10_left 10 = .ok (.if_icmp .ge 12, 3) := q_if_icmp_ge (bat_get dg_X10_left_0_0 8 rfl rfl) rfl
theorem dX10_left_13 : decode cX10_left 13 = .ok (.aload_n 0, 1) := q_aload_n0 (bat_get dg_X10_left_0_0 9 rfl rfl)
theorem dX10_left_14 : decode cX10_left 14 = .ok (.getfield 19, 3) := q_getfield (bat_get dg_X10_left_0_0 10 rfl rfl) rfl
theorem dX10_left_17 : decode cX10_left 17 = .ok (.iload_n 1, 1) := q_iload_n1 (bat_get dg_X10_left_0_0 11 rfl rfl)
theorem dX10_left_18 : decode cX10_left 18 = .ok (.iaload, 1) := q_iaload (bat_get dg_X10_left_0_0 12 rfl rfl)
theorem dX10_left_19 : decode cX10_left 19 = .ok (.goto 4, 3) := q_goto (bat_get dg_X10_left_0_0 13 rfl rfl) rfl
theorem w_4_217 : (Cond.code yX10_left cX10_left 2 (some .int)) ∈ wsL_law := sk_mem (ck_4 _ (List.mem_of_getElem? (i := 217) rfl)) rfl
theorem dg_X10_checkOf_0_0 : bqL cX10_checkOf 0 [(0, [17, 0, 139]), (3, [61]), (4, [3]), (5, [62]), (6, [29]), (7, [27]), (8, [162, 0, 23]), (31, [28]), (32, [172]), (11, [6]), (12, [28]), (13, [104]), (14, [42]), (15, [29]), (16, [182, 0, 27]), (19, [96]), (20, [17, 0, 251]), (23, [112]), (24, [61]), (25, [132, 3, 1]), (28, [167, 255, 234])] = true := by decide +kernel
theorem dX10_checkOf_0 : decode cX10_checkOf 0 = .ok (.sipush 139, 3) := q_sipush (bat_get dg_X10_checkOf_0_0 0 rfl rfl) rfl
theorem dX10_checkOf_3 : decode cX10_checkOf 3 = .ok (.istore_n 2, 1) := q_istore_n2 (bat_get dg_X10_checkOf_0_0 1 rfl rfl)
theorem dX10_checkOf_4 : decode cX10_checkOf 4 = .ok (.iconst 0, 1) := q_iconst0 (bat_get dg_X10_checkOf_0_0 2 rfl rfl)
theorem dX10_checkOf_5 : decode cX10_checkOf 5 = .ok (.istore_n 3, 1) := q_istore_n3 (bat_get dg_X10_checkOf_0_0 3 rfl rfl)
theorem dX10_checkOf_6 : decode cX10_checkOf 6 = .ok (.iload_n 3, 1) := q_iload_n3 (bat_get dg_X10_checkOf_0_0 4 rfl rfl)
theorem dX10_checkOf_7 : decode cX10_checkOf 7 = .ok (.iload_n 1, 1) := q_iload_n1 (bat_get dg_X10_checkOf_0_0 5 rfl rfl)
theorem dX10_checkOf_8 : decode cX10_checkOf 8 = .ok (.if_icmp .ge 23, 3) := q_if_icmp_ge (bat_get dg_X10_checkOf_0_0 6 rfl rfl) rfl
theorem dX10_checkOf_31 : decode cX10_checkOf 31 = .ok (.iload_n 2, 1) := q_iload_n2 (bat_get dg_X10_checkOf_0_0 7 rfl rfl)
theorem dX10_checkOf_32 : decode cX10_checkOf 32 = .ok (.ireturn, 1) := q_ireturn (bat_get dg_X10_checkOf_0_0 8 rfl rfl)
theorem dX10_checkOf_11 : decode cX10_checkOf 11 = .ok (.iconst 3, 1) := q_iconst3 (bat_get dg_X10_checkOf_0_0 9 rfl rfl)
theorem dX10_checkOf_12 : decode cX10_checkOf 12 = .ok (.iload_n 2, 1) := q_iload_n2 (bat_get dg_X10_checkOf_0_0 10 rfl rfl)
theorem dX10_checkOf_13 : decode cX10_checkOf 13 = .ok (.imul, 1) := q_imul (bat_get dg_X10_checkOf_0_0 11 rfl rfl)
theorem dX10_checkOf_14 : decode cX10_checkOf 14 = .ok (.aload_n 0, 1) := q_aload_n0 (bat_get dg_X10_checkOf_0_0 12 rfl rfl)
theorem dX10_checkOf_15 : decode cX10_checkOf 15 = .ok (.iload_n 3, 1) := q_iload_n3 (bat_get dg_X10_checkOf_0_0 13 rfl rfl)
theorem dX10_checkOf_16 : decode cX10_checkOf 16 = .ok (.invokevirtual 27, 3) := q_invokevirtual (bat_get dg_X10_checkOf_0_0 14 rfl rfl) rfl
theorem dX10_checkOf_19 : decode cX10_checkOf 19 = .ok (.iadd, 1) := q_iadd (bat_get dg_X10_checkOf_0_0 15 rfl rfl)
theorem dX10_checkOf_20 : decode cX10_checkOf 20 = .ok (.sipush 251, 3) := q_sipush (bat_get dg_X10_checkOf_0_0 16 rfl rfl) rfl
theorem dX10_checkOf_23 : decode cX10_checkOf 23 = .ok (.irem, 1) := q_irem (bat_get dg_X10_checkOf_0_0 17 rfl rfl)
theorem dX10_checkOf_24 : decode cX10_checkOf 24 = .ok (.istore_n 2, 1) := q_istore_n2 (bat_get dg_X10_checkOf_0_0 18 rfl rfl)
theorem dX10_checkOf_25 : decode cX10_checkOf 25 = .ok (.iinc 3 1, 3) := q_iinc (bat_get dg_X10_checkOf_0_0 19 rfl rfl) rfl
theorem dX10_checkOf_28 : decode cX10_checkOf 28 = .ok (.goto (-22), 3) := q_goto (bat_get dg_X10_checkOf_0_0 20 rfl rfl) rfl
theorem w_5_132 : (Cond.methodLink RX10 27 yX10_left) ∈ wsL_law := sk_mem (ck_5 _ (List.mem_of_getElem? (i := 132) rfl)) rfl
theorem w_4_215 : (Cond.instanceMethod yX10_left) ∈ wsL_law := sk_mem (ck_4 _ (List.mem_of_getElem? (i := 215) rfl)) rfl
theorem w_4_216 : (Cond.selects RX10 yX10_left yX10_left) ∈ wsL_law := sk_mem (ck_4 _ (List.mem_of_getElem? (i := 216) rfl)) rfl
theorem w_1_2 : (Cond.initialized RX10) ∈ wsL_law := sk_mem (ck_1 _ (List.mem_of_getElem? (i := 2) rfl)) rfl
theorem w_5_131 : (Cond.code yX10_checkOf cX10_checkOf 4 (some .int)) ∈ wsL_law := sk_mem (ck_5 _ (List.mem_of_getElem? (i := 131) rfl)) rfl
def om_2_3 : List Bool := true :: true :: []
theorem hd_X10_left_1 : skD yX10_left 1 := by decide +kernel
theorem dg_X10_addNumber_0_0 : bqL cX10_addNumber 0 [(0, [42]), (1, [27]), (2, [16, 24]), (4, [124]), (5, [182, 0, 23]), (8, [42]), (9, [27]), (10, [16, 16]), (12, [124]), (13, [182, 0, 23]), (16, [42]), (17, [27]), (18, [16, 8]), (20, [124]), (21, [182, 0, 23]), (24, [42]), (25, [27]), (26, [182, 0, 23]), (29, [177])] = true := by decide +kernel
theorem dX10_addNumber_0 : decode cX10_addNumber 0 = .ok (.aload_n 0, 1) := q_aload_n0 (bat_get dg_X10_addNumber_0_0 0 rfl rfl)
theorem dX10_addNumber_1 : decode cX10_addNumber 1 = .ok (.iload_n 1, 1) := q_iload_n1 (bat_get dg_X10_addNumber_0_0 1 rfl rfl)
theorem dX10_addNumber_2 : decode cX10_addNumber 2 = .ok (.bipush 24, 2) := q_bipush (bat_get dg_X10_addNumber_0_0 2 rfl rfl) rfl
theorem dX10_addNumber_4 : decode cX10_addNumber 4 = .ok (.iushr, 1) := q_iushr (bat_get dg_X10_addNumber_0_0 3 rfl rfl)
theorem dX10_addNumber_5 : decode cX10_addNumber 5 = .ok (.invokevirtual 23, 3) := q_invokevirtual (bat_get dg_X10_addNumber_0_0 4 rfl rfl) rfl
theorem dX10_addNumber_8 : decode cX10_addNumber 8 = .ok (.aload_n 0, 1) := q_aload_n0 (bat_get dg_X10_addNumber_0_0 5 rfl rfl)
theorem dX10_addNumber_9 : decode cX10_addNumber 9 = .ok (.iload_n 1, 1) := q_iload_n1 (bat_get dg_X10_addNumber_0_0 6 rfl rfl)
theorem dX10_addNumber_10 : decode cX10_addNumber 10 = .ok (.bipush 16, 2) := q_bipush (bat_get dg_X10_addNumber_0_0 7 rfl rfl) rfl
theorem dX10_addNumber_12 : decode cX10_addNumber 12 = .ok (.iushr, 1) := q_iushr (bat_get dg_X10_addNumber_0_0 8 rfl rfl)
theorem dX10_addNumber_13 : decode cX10_addNumber 13 = .ok (.invokevirtual 23, 3) := q_invokevirtual (bat_get dg_X10_addNumber_0_0 9 rfl rfl) rfl
theorem dX10_addNumber_16 : decode cX10_addNumber 16 = .ok (.aload_n 0, 1) := q_aload_n0 (bat_get dg_X10_addNumber_0_0 10 rfl rfl)
theorem dX10_addNumber_17 : decode cX10_addNumber 17 = .ok (.iload_n 1, 1) := q_iload_n1 (bat_get dg_X10_addNumber_0_0 11 rfl rfl)
theorem dX10_addNumber_18 : decode cX10_addNumber 18 = .ok (.bipush 8, 2) := q_bipush (bat_get dg_X10_addNumber_0_0 12 rfl rfl) rfl
theorem dX10_addNumber_20 : decode cX10_addNumber 20 = .ok (.iushr, 1) := q_iushr (bat_get dg_X10_addNumber_0_0 13 rfl rfl)
theorem dX10_addNumber_21 : decode cX10_addNumber 21 = .ok (.invokevirtual 23, 3) := q_invokevirtual (bat_get dg_X10_addNumber_0_0 14 rfl rfl) rfl
theorem dX10_addNumber_24 : decode cX10_addNumber 24 = .ok (.aload_n 0, 1) := q_aload_n0 (bat_get dg_X10_addNumber_0_0 15 rfl rfl)
theorem dX10_addNumber_25 : decode cX10_addNumber 25 = .ok (.iload_n 1, 1) := q_iload_n1 (bat_get dg_X10_addNumber_0_0 16 rfl rfl)
theorem dX10_addNumber_26 : decode cX10_addNumber 26 = .ok (.invokevirtual 23, 3) := q_invokevirtual (bat_get dg_X10_addNumber_0_0 17 rfl rfl) rfl
theorem dX10_addNumber_29 : decode cX10_addNumber 29 = .ok (.return_, 1) := q_return_ (bat_get dg_X10_addNumber_0_0 18 rfl rfl)
theorem w_2_190 : (Cond.methodLink RX10 23 yX10_add) ∈ wsL_law := sk_mem (ck_2 _ (List.mem_of_getElem? (i := 190) rfl)) rfl
theorem w_2_191 : (Cond.instanceMethod yX10_add) ∈ wsL_law := sk_mem (ck_2 _ (List.mem_of_getElem? (i := 191) rfl)) rfl
theorem w_2_192 : (Cond.selects RX10 yX10_add yX10_add) ∈ wsL_law := sk_mem (ck_2 _ (List.mem_of_getElem? (i := 192) rfl)) rfl
theorem w_2_189 : (Cond.code yX10_addNumber cX10_addNumber 2 none) ∈ wsL_law := sk_mem (ck_2 _ (List.mem_of_getElem? (i := 189) rfl)) rfl
theorem hd_X10_add_1 : skD yX10_add 1 := by decide +kernel

