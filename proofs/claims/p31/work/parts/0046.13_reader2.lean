theorem dg_X6_begin_0_0 : bqL cX6_begin 0 [(0, [42]), (1, [3]), (2, [181, 0, 9]), (5, [42]), (6, [3]), (7, [181, 0, 18]), (10, [42]), (11, [3]), (12, [181, 0, 27]), (15, [42]), (16, [2]), (17, [181, 0, 30]), (20, [42]), (21, [2]), (22, [181, 0, 21]), (25, [42]), (26, [182, 0, 37]), (29, [177])] = true := by decide +kernel
theorem dX6_begin_0 : decode cX6_begin 0 = .ok (.aload_n 0, 1) := q_aload_n0 (bat_get dg_X6_begin_0_0 0 rfl rfl)
theorem dX6_begin_1 : decode cX6_begin 1 = .ok (.iconst 0, 1) := q_iconst0 (bat_get dg_X6_begin_0_0 1 rfl rfl)
theorem dX6_begin_2 : decode cX6_begin 2 = .ok (.putfield 9, 3) := q_putfield (bat_get dg_X6_begin_0_0 2 rfl rfl) rfl
theorem dX6_begin_5 : decode cX6_begin 5 = .ok (.aload_n 0, 1) := q_aload_n0 (bat_get dg_X6_begin_0_0 3 rfl rfl)
theorem dX6_begin_6 : decode cX6_begin 6 = .ok (.iconst 0, 1) := q_iconst0 (bat_get dg_X6_begin_0_0 4 rfl rfl)
theorem dX6_begin_7 : decode cX6_begin 7 = .ok (.putfield 18, 3) := q_putfield (bat_get dg_X6_begin_0_0 5 rfl rfl) rfl
theorem dX6_begin_10 : decode cX6_begin 10 = .ok (.aload_n 0, 1) := q_aload_n0 (bat_get dg_X6_begin_0_0 6 rfl rfl)
theorem dX6_begin_11 : decode cX6_begin 11 = .ok (.iconst 0, 1) := q_iconst0 (bat_get dg_X6_begin_0_0 7 rfl rfl)
theorem dX6_begin_12 : decode cX6_begin 12 = .ok (.putfield 27, 3) := q_putfield (bat_get dg_X6_begin_0_0 8 rfl rfl) rfl
theorem dX6_begin_15 : decode cX6_begin 15 = .ok (.aload_n 0, 1) := q_aload_n0 (bat_get dg_X6_begin_0_0 9 rfl rfl)
theorem dX6_begin_16 : decode cX6_begin 16 = .ok (.iconst (-1), 1) := q_iconstm1 (bat_get dg_X6_begin_0_0 10 rfl rfl)
theorem dX6_begin_17 : decode cX6_begin 17 = .ok (.putfield 30, 3) := q_putfield (bat_get dg_X6_begin_0_0 11 rfl rfl) rfl
theorem dX6_begin_20 : decode cX6_begin 20 = .ok (.aload_n 0, 1) := q_aload_n0 (bat_get dg_X6_begin_0_0 12 rfl rfl)
theorem dX6_begin_21 : decode cX6_begin 21 = .ok (.iconst (-1), 1) := q_iconstm1 (bat_get dg_X6_begin_0_0 13 rfl rfl)
theorem dX6_begin_22 : decode cX6_begin 22 = .ok (.putfield 21, 3) := q_putfield (bat_get dg_X6_begin_0_0 14 rfl rfl) rfl
theorem dX6_begin_25 : decode cX6_begin 25 = .ok (.aload_n 0, 1) := q_aload_n0 (bat_get dg_X6_begin_0_0 15 rfl rfl)
theorem dX6_begin_26 : decode cX6_begin 26 = .ok (.invokevirtual 37, 3) := q_invokevirtual (bat_get dg_X6_begin_0_0 16 rfl rfl) rfl
theorem dX6_begin_29 : decode cX6_begin 29 = .ok (.return_, 1) := q_return_ (bat_get dg_X6_begin_0_0 17 rfl rfl)
theorem w_1_59 : (Cond.fieldLink RX6 18 "SameKeeper$Reader" "open" "I") ∈ wsL_law := sk_mem (ck_1 _ (List.mem_of_getElem? (i := 59) rfl)) rfl
theorem w_2_225 : (Cond.methodLink RX6 37 yX6_step) ∈ wsL_law := sk_mem (ck_2 _ (List.mem_of_getElem? (i := 225) rfl)) rfl
theorem w_2_226 : (Cond.instanceMethod yX6_step) ∈ wsL_law := sk_mem (ck_2 _ (List.mem_of_getElem? (i := 226) rfl)) rfl
theorem w_2_227 : (Cond.selects RX6 yX6_step yX6_step) ∈ wsL_law := sk_mem (ck_2 _ (List.mem_of_getElem? (i := 227) rfl)) rfl
theorem w_2_224 : (Cond.code yX6_begin cX6_begin 1 none) ∈ wsL_law := sk_mem (ck_2 _ (List.mem_of_getElem? (i := 224) rfl)) rfl
theorem hd_X6_step_0 : skD yX6_step 0 := by decide +kernel
theorem dg_X6_needs_0_0 : bqL cX6_needs 0 [(0, [42]), (1, [180, 0, 21]), (4, [27]), (5, [160, 0, 10]), (15, [42]), (16, [182, 0, 70]), (19, [177]), (8, [42]), (9, [182, 0, 37]), (12, [167, 0, 7])] = true := by decide +kernel
theorem dX6_needs_0 : decode cX6_needs 0 = .ok (.aload_n 0, 1) := q_aload_n0 (bat_get dg_X6_needs_0_0 0 rfl rfl)
theorem dX6_needs_1 : decode cX6_needs 1 = .ok (.getfield 21, 3) := q_getfield (bat_get dg_X6_needs_0_0 1 rfl rfl) rfl
theorem dX6_needs_4 : decode cX6_needs 4 = .ok (.iload_n 1, 1) := q_iload_n1 (bat_get dg_X6_needs_0_0 2 rfl rfl)
theorem dX6_needs_5 : decode cX6_needs 5 = .ok (.if_icmp .ne 10, 3) := q_if_icmp_ne (bat_get dg_X6_needs_0_0 3 rfl rfl) rfl
theorem dX6_needs_15 : decode cX6_needs 15 = .ok (.aload_n 0, 1) := q_aload_n0 (bat_get dg_X6_needs_0_0 4 rfl rfl)
theorem dX6_needs_16 : decode cX6_needs 16 = .ok (.invokevirtual 70, 3) := q_invokevirtual (bat_get dg_X6_needs_0_0 5 rfl rfl) rfl
theorem dX6_needs_19 : decode cX6_needs 19 = .ok (.return_, 1) := q_return_ (bat_get dg_X6_needs_0_0 6 rfl rfl)
theorem dX6_needs_8 : decode cX6_needs 8 = .ok (.aload_n 0, 1) := q_aload_n0 (bat_get dg_X6_needs_0_0 7 rfl rfl)
theorem dX6_needs_9 : decode cX6_needs 9 = .ok (.invokevirtual 37, 3) := q_invokevirtual (bat_get dg_X6_needs_0_0 8 rfl rfl) rfl
theorem dX6_needs_12 : decode cX6_needs 12 = .ok (.goto 7, 3) := q_goto (bat_get dg_X6_needs_0_0 9 rfl rfl) rfl
theorem w_3_54 : (Cond.methodLink RX6 70 yX6_failHere) ∈ wsL_law := sk_mem (ck_3 _ (List.mem_of_getElem? (i := 54) rfl)) rfl
theorem w_3_55 : (Cond.instanceMethod yX6_failHere) ∈ wsL_law := sk_mem (ck_3 _ (List.mem_of_getElem? (i := 55) rfl)) rfl
theorem w_3_56 : (Cond.selects RX6 yX6_failHere yX6_failHere) ∈ wsL_law := sk_mem (ck_3 _ (List.mem_of_getElem? (i := 56) rfl)) rfl
theorem w_3_53 : (Cond.code yX6_needs cX6_needs 2 none) ∈ wsL_law := sk_mem (ck_3 _ (List.mem_of_getElem? (i := 53) rfl)) rfl
def om_3_4 : List Bool := true :: false :: false :: []
theorem hd_X6_failHere_0 : skD yX6_failHere 0 := by decide +kernel
theorem dg_X6_takes_0_0 : bqL cX6_takes 0 [(0, [42]), (1, [180, 0, 21]), (4, [27]), (5, [159, 0, 5]), (10, [42]), (11, [182, 0, 37]), (14, [4]), (15, [172]), (8, [3]), (9, [172])] = true := by decide +kernel
theorem dX6_takes_0 : decode cX6_takes 0 = .ok (.aload_n 0, 1) := q_aload_n0 (bat_get dg_X6_takes_0_0 0 rfl rfl)
theorem dX6_takes_1 : decode cX6_takes 1 = .ok (.getfield 21, 3) := q_getfield (bat_get dg_X6_takes_0_0 1 rfl rfl) rfl
theorem dX6_takes_4 : decode cX6_takes 4 = .ok (.iload_n 1, 1) := q_iload_n1 (bat_get dg_X6_takes_0_0 2 rfl rfl)
theorem dX6_takes_5 : decode cX6_takes 5 = .ok (.if_icmp .eq 5, 3) := q_if_icmp_eq (bat_get dg_X6_takes_0_0 3 rfl rfl) rfl
theorem dX6_takes_10 : decode cX6_takes 10 = .ok (.aload_n 0, 1) := q_aload_n0 (bat_get dg_X6_takes_0_0 4 rfl rfl)
theorem dX6_takes_11 : decode cX6_takes 11 = .ok (.invokevirtual 37, 3) := q_invokevirtual (bat_get dg_X6_takes_0_0 5 rfl rfl) rfl
theorem dX6_takes_14 : decode cX6_takes 14 = .ok (.iconst 1, 1) := q_iconst1 (bat_get dg_X6_takes_0_0 6 rfl rfl)
theorem dX6_takes_15 : decode cX6_takes 15 = .ok (.ireturn, 1) := q_ireturn (bat_get dg_X6_takes_0_0 7 rfl rfl)
theorem dX6_takes_8 : decode cX6_takes 8 = .ok (.iconst 0, 1) := q_iconst0 (bat_get dg_X6_takes_0_0 8 rfl rfl)
theorem dX6_takes_9 : decode cX6_takes 9 = .ok (.ireturn, 1) := q_ireturn (bat_get dg_X6_takes_0_0 9 rfl rfl)
theorem w_5_89 : (Cond.code yX6_takes cX6_takes 2 (some .boolean)) ∈ wsL_law := sk_mem (ck_5 _ (List.mem_of_getElem? (i := 89) rfl)) rfl
theorem dg_X6_takeNumber_0_0 : bqL cX6_takeNumber 0 [(0, [42]), (1, [180, 0, 15]), (4, [62]), (5, [42]), (6, [180, 0, 21]), (9, [16, 253]), (11, [159, 0, 9]), (20, [42]), (21, [180, 0, 9]), (24, [42]), (25, [180, 0, 24]), (28, [100]), (29, [7]), (30, [164, 0, 16]), (46, [29]), (47, [27]), (48, [161, 0, 8]), (56, [42]), (57, [5]), (58, [42]), (59, [180, 0, 24]), (62, [182, 0, 40]), (65, [27]), (66, [172]), (51, [29]), (52, [28]), (53, [164, 0, 14]), (67, [42]), (68, [182, 0, 37]), (71, [29]), (72, [172]), (33, [42]), (34, [4]), (35, [42]), (36, [180, 0, 24]), (39, [7]), (40, [96]), (41, [182, 0, 40]), (44, [27]), (45, [172])] = true := by decide +kernel
theorem dX6_takeNumber_0 : decode cX6_takeNumber 0 = .ok (.aload_n 0, 1) := q_aload_n0 (bat_get dg_X6_takeNumber_0_0 0 rfl rfl)
theorem dX6_takeNumber_1 : decode cX6_takeNumber 1 = .ok (.getfield 15, 3) := q_getfield (bat_get dg_X6_takeNumber_0_0 1 rfl rfl) rfl
theorem dX6_takeNumber_4 : decode cX6_takeNumber 4 = .ok (.istore_n 3, 1) := q_istore_n3 (bat_get dg_X6_takeNumber_0_0 2 rfl rfl)
theorem dX6_takeNumber_5 : decode cX6_takeNumber 5 = .ok (.aload_n 0, 1) := q_aload_n0 (bat_get dg_X6_takeNumber_0_0 3 rfl rfl)
theorem dX6_takeNumber_6 : decode cX6_takeNumber 6 = .ok (.getfield 21, 3) := q_getfield (bat_get dg_X6_takeNumber_0_0 4 rfl rfl) rfl
theorem dX6_takeNumber_9 : decode cX6_takeNumber 9 = .ok (.bipush (-3), 2) := q_bipush (bat_get dg_X6_takeNumber_0_0 5 rfl rfl) rfl
theorem dX6_takeNumber_11 : decode cX6_takeNumber 11 = .ok (.if_icmp .eq 9, 3) := q_if_icmp_eq (bat_get dg_X6_takeNumber_0_0 6 rfl rfl) rfl
theorem dX6_takeNumber_20 : decode cX6_takeNumber 20 = .ok (.aload_n 0, 1) := q_aload_n0 (bat_get dg_X6_takeNumber_0_0 7 rfl rfl)
theorem dX6_takeNumber_21 : decode cX6_takeNumber 21 = .ok (.getfield 9, 3) := q_getfield (bat_get dg_X6_takeNumber_0_0 8 rfl rfl) rfl
theorem dX6_takeNumber_24 : decode cX6_takeNumber 24 = .ok (.aload_n 0, 1) := q_aload_n0 (bat_get dg_X6_takeNumber_0_0 9 rfl rfl)
theorem dX6_takeNumber_25 : decode cX6_takeNumber 25 = .ok (.getfield 24, 3) := q_getfield (bat_get dg_X6_takeNumber_0_0 10 rfl rfl) rfl
theorem dX6_takeNumber_28 : decode cX6_takeNumber 28 = .ok (.isub, 1) := q_isub (bat_get dg_X6_takeNumber_0_0 11 rfl rfl)
theorem dX6_takeNumber_29 : decode cX6_takeNumber 29 = .ok (.iconst 4, 1) := q_iconst4 (bat_get dg_X6_takeNumber_0_0 12 rfl rfl)
theorem dX6_takeNumber_30 : decode cX6_takeNumber 30 = .ok (.if_icmp .le 16, 3) := q_if_icmp_le (bat_get dg_X6_takeNumber_0_0 13 rfl rfl) rfl
theorem dX6_takeNumber_46 : decode cX6_takeNumber 46 = .ok (.iload_n 3, 1) := q_iload_n3 (bat_get dg_X6_takeNumber_0_0 14 rfl rfl)
theorem dX6_takeNumber_47 : decode cX6_takeNumber 47 = .ok (.iload_n 1, 1) := q_iload_n1 (bat_get dg_X6_takeNumber_0_0 15 rfl rfl)
theorem dX6_takeNumber_48 : decode cX6_takeNumber 48 = .ok (.if_icmp .lt 8, 3) := q_if_icmp_lt (bat_get dg_X6_takeNumber_0_0 16 rfl rfl) rfl
theorem dX6_takeNumber_56 : decode cX6_takeNumber 56 = .ok (.aload_n 0, 1) := q_aload_n0 (bat_get dg_X6_takeNumber_0_0 17 rfl rfl)
theorem dX6_takeNumber_57 : decode cX6_takeNumber 57 = .ok (.iconst 2, 1) := q_iconst2 (bat_get dg_X6_takeNumber_0_0 18 rfl rfl)
theorem dX6_takeNumber_58 : decode cX6_takeNumber 58 = .ok (.aload_n 0, 1) := q_aload_n0 (bat_get dg_X6_takeNumber_0_0 19 rfl rfl)
theorem dX6_takeNumber_59 : decode cX6_takeNumber 59 = .ok (.getfield 24, 3) := q_getfield (bat_get dg_X6_takeNumber_0_0 20 rfl rfl) rfl
theorem dX6_takeNumber_62 : decode cX6_takeNumber 62 = .ok (.invokevirtual 40, 3) := q_invokevirtual (bat_get dg_X6_takeNumber_0_0 21 rfl rfl) rfl
theorem dX6_takeNumber_65 : decode cX6_takeNumber 65 = .ok (.iload_n 1, 1) := q_iload_n1 (bat_get dg_X6_takeNumber_0_0 22 rfl rfl)
theorem dX6_takeNumber_66 : decode cX6_takeNumber 66 = .ok (.ireturn, 1) := q_ireturn (bat_get dg_X6_takeNumber_0_0 23 rfl rfl)
theorem dX6_takeNumber_51 : decode cX6_takeNumber 51 = .ok (.iload_n 3, 1) := q_iload_n3 (bat_get dg_X6_takeNumber_0_0 24 rfl rfl)
theorem dX6_takeNumber_52 : decode cX6_takeNumber 52 = .ok (.iload_n 2, 1) := q_iload_n2 (bat_get dg_X6_takeNumber_0_0 25 rfl rfl)
theorem dX6_takeNumber_53 : decode cX6_takeNumber 53 = .ok (.if_icmp .le 14, 3) := q_if_icmp_le (bat_get dg_X6_takeNumber_0_0 26 rfl rfl) rfl
theorem dX6_takeNumber_67 : decode cX6_takeNumber 67 = .ok (.aload_n 0, 1) := q_aload_n0 (bat_get dg_X6_takeNumber_0_0 27 rfl rfl)
theorem dX6_takeNumber_68 : decode cX6_takeNumber 68 = .ok (.invokevirtual 37, 3) := q_invokevirtual (bat_get dg_X6_takeNumber_0_0 28 rfl rfl) rfl
theorem dX6_takeNumber_71 : decode cX6_takeNumber 71 = .ok (.iload_n 3, 1) := q_iload_n3 (bat_get dg_X6_takeNumber_0_0 29 rfl rfl)
theorem dX6_takeNumber_72 : decode cX6_takeNumber 72 = .ok (.ireturn, 1) := q_ireturn (bat_get dg_X6_takeNumber_0_0 30 rfl rfl)
theorem dX6_takeNumber_33 : decode cX6_takeNumber 33 = .ok (.aload_n 0, 1) := q_aload_n0 (bat_get dg_X6_takeNumber_0_0 31 rfl rfl)
theorem dX6_takeNumber_34 : decode cX6_takeNumber 34 = .ok (.iconst 1, 1) := q_iconst1 (bat_get dg_X6_takeNumber_0_0 32 rfl rfl)
theorem dX6_takeNumber_35 : decode cX6_takeNumber 35 = .ok (.aload_n 0, 1) := q_aload_n0 (bat_get dg_X6_takeNumber_0_0 33 rfl rfl)
theorem dX6_takeNumber_36 : decode cX6_takeNumber 36 = .ok (.getfield 24, 3) := q_getfield (bat_get dg_X6_takeNumber_0_0 34 rfl rfl) rfl
theorem dX6_takeNumber_39 : decode cX6_takeNumber 39 = .ok (.iconst 4, 1) := q_iconst4 (bat_get dg_X6_takeNumber_0_0 35 rfl rfl)
theorem dX6_takeNumber_40 : decode cX6_takeNumber 40 = .ok (.iadd, 1) := q_iadd (bat_get dg_X6_takeNumber_0_0 36 rfl rfl)
theorem dX6_takeNumber_41 : decode cX6_takeNumber 41 = .ok (.invokevirtual 40, 3) := q_invokevirtual (bat_get dg_X6_takeNumber_0_0 37 rfl rfl) rfl
theorem dX6_takeNumber_44 : decode cX6_takeNumber 44 = .ok (.iload_n 1, 1) := q_iload_n1 (bat_get dg_X6_takeNumber_0_0 38 rfl rfl)
theorem dX6_takeNumber_45 : decode cX6_takeNumber 45 = .ok (.ireturn, 1) := q_ireturn (bat_get dg_X6_takeNumber_0_0 39 rfl rfl)
theorem dg_X6_takeNumber_14_14 : bqL cX6_takeNumber 14 [(0, [42]), (1, [182, 0, 70]), (4, [27]), (5, [172])] = true := by decide +kernel
theorem dX6_takeNumber_14 : decode cX6_takeNumber 14 = .ok (.aload_n 0, 1) := q_aload_n0 (bat_get dg_X6_takeNumber_14_14 0 rfl rfl)
theorem dX6_takeNumber_15 : decode cX6_takeNumber 15 = .ok (.invokevirtual 70, 3) := q_invokevirtual (bat_get dg_X6_takeNumber_14_14 1 rfl rfl) rfl
theorem dX6_takeNumber_18 : decode cX6_takeNumber 18 = .ok (.iload_n 1, 1) := q_iload_n1 (bat_get dg_X6_takeNumber_14_14 2 rfl rfl)
theorem dX6_takeNumber_19 : decode cX6_takeNumber 19 = .ok (.ireturn, 1) := q_ireturn (bat_get dg_X6_takeNumber_14_14 3 rfl rfl)
theorem w_3_65 : (Cond.code yX6_takeNumber cX6_takeNumber 4 (some .int)) ∈ wsL_law := sk_mem (ck_3 _ (List.mem_of_getElem? (i := 65) rfl)) rfl
theorem dg_X6_opens_0_0 : bqL cX6_opens 0 [(0, [42]), (1, [180, 0, 21]), (4, [27]), (5, [159, 0, 9]), (14, [42]), (15, [180, 0, 18]), (18, [16, 6]), (20, [161, 0, 14]), (34, [42]), (35, [89]), (36, [180, 0, 18]), (39, [4]), (40, [96]), (41, [181, 0, 18]), (44, [42]), (45, [182, 0, 37]), (48, [4]), (49, [172]), (23, [42]), (24, [7]), (25, [42]), (26, [180, 0, 24]), (29, [182, 0, 40]), (32, [3]), (33, [172]), (8, [42]), (9, [182, 0, 70]), (12, [3]), (13, [172])] = true := by decide +kernel
theorem dX6_opens_0 : decode cX6_opens 0 = .ok (.aload_n 0, 1) := q_aload_n0 (bat_get dg_X6_opens_0_0 0 rfl rfl)
theorem dX6_opens_1 : decode cX6_opens 1 = .ok (.getfield 21, 3) := q_getfield (bat_get dg_X6_opens_0_0 1 rfl rfl) rfl
theorem dX6_opens_4 : decode cX6_opens 4 = .ok (.iload_n 1, 1) := q_iload_n1 (bat_get dg_X6_opens_0_0 2 rfl rfl)
theorem dX6_opens_5 : decode cX6_opens 5 = .ok (.if_icmp .eq 9, 3) := q_if_icmp_eq (bat_get dg_X6_opens_0_0 3 rfl rfl) rfl
theorem dX6_opens_14 : decode cX6_opens 14 = .ok (.aload_n 0, 1) := q_aload_n0 (bat_get dg_X6_opens_0_0 4 rfl rfl)
theorem dX6_opens_15 : decode cX6_opens 15 = .ok (.getfield 18, 3) := q_getfield (bat_get dg_X6_opens_0_0 5 rfl rfl) rfl
theorem dX6_opens_18 : decode cX6_opens 18 = .ok (.bipush 6, 2) := q_bipush (bat_get dg_X6_opens_0_0 6 rfl rfl) rfl
theorem dX6_opens_20 : decode cX6_opens 20 = .ok (.if_icmp .lt 14, 3) := q_if_icmp_lt (bat_get dg_X6_opens_0_0 7 rfl rfl) rfl
theorem dX6_opens_34 : decode cX6_opens 34 = .ok (.aload_n 0, 1) := q_aload_n0 (bat_get dg_X6_opens_0_0 8 rfl rfl)
theorem dX6_opens_35 : decode cX6_opens 35 = .ok (.dup, 1) := q_dup (bat_get dg_X6_opens_0_0 9 rfl rfl)
theorem dX6_opens_36 : decode cX6_opens 36 = .ok (.getfield 18, 3) := q_getfield (bat_get dg_X6_opens_0_0 10 rfl rfl) rfl
theorem dX6_opens_39 : decode cX6_opens 39 = .ok (.iconst 1, 1) := q_iconst1 (bat_get dg_X6_opens_0_0 11 rfl rfl)
theorem dX6_opens_40 : decode cX6_opens 40 = .ok (.iadd, 1) := q_iadd (bat_get dg_X6_opens_0_0 12 rfl rfl)
theorem dX6_opens_41 : decode cX6_opens 41 = .ok (.putfield 18, 3) := q_putfield (bat_get dg_X6_opens_0_0 13 rfl rfl) rfl
theorem dX6_opens_44 : decode cX6_opens 44 = .ok (.aload_n 0, 1) := q_aload_n0 (bat_get dg_X6_opens_0_0 14 rfl rfl)
theorem dX6_opens_45 : decode cX6_opens 45 = .ok (.invokevirtual 37, 3) := q_invokevirtual (bat_get dg_X6_opens_0_0 15 rfl rfl) rfl
theorem dX6_opens_48 : decode cX6_opens 48 = .ok (.iconst 1, 1) := q_iconst1 (bat_get dg_X6_opens_0_0 16 rfl rfl)
theorem dX6_opens_49 : decode cX6_opens 49 = .ok (.ireturn, 1) := q_ireturn (bat_get dg_X6_opens_0_0 17 rfl rfl)
theorem dX6_opens_23 : decode cX6_opens 23 = .ok (.aload_n 0, 1) := q_aload_n0 (bat_get dg_X6_opens_0_0 18 rfl rfl)
