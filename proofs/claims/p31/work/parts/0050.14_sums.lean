theorem hd_X8_readPart_1 : skD yX8_readPart 1 := by decide +kernel
theorem hd_X6_takeNumber_2 : skD yX6_takeNumber 2 := by decide +kernel
theorem dg_X8_readProduct_0_0 : bqL cX8_readProduct 0 [(0, [42]), (1, [43]), (2, [182, 0, 42]), (5, [3]), (6, [61]), (7, [28]), (8, [17, 6, 64]), (11, [162, 0, 72]), (83, [177]), (14, [42]), (15, [180, 0, 9]), (18, [180, 0, 28]), (21, [16, 42]), (23, [159, 0, 15]), (59, [62]), (60, [42]), (61, [180, 0, 9]), (64, [182, 0, 35]), (67, [42]), (68, [43]), (69, [182, 0, 42]), (72, [43]), (73, [29]), (74, [182, 0, 38]), (77, [132, 2, 1]), (80, [167, 255, 183]), (38, [42]), (39, [180, 0, 9]), (42, [180, 0, 28]), (45, [16, 42]), (47, [160, 0, 9]), (56, [17, 117, 51]), (50, [17, 117, 50]), (53, [167, 0, 6]), (26, [42]), (27, [180, 0, 9]), (30, [180, 0, 28]), (33, [16, 47]), (35, [160, 0, 48])] = true := by decide +kernel
theorem dX8_readProduct_0 : decode cX8_readProduct 0 = .ok (.aload_n 0, 1) := q_aload_n0 (bat_get dg_X8_readProduct_0_0 0 rfl rfl)
theorem dX8_readProduct_1 : decode cX8_readProduct 1 = .ok (.aload_n 1, 1) := q_aload_n1 (bat_get dg_X8_readProduct_0_0 1 rfl rfl)
theorem dX8_readProduct_2 : decode cX8_readProduct 2 = .ok (.invokevirtual 42, 3) := q_invokevirtual (bat_get dg_X8_readProduct_0_0 2 rfl rfl) rfl
theorem dX8_readProduct_5 : decode cX8_readProduct 5 = .ok (.iconst 0, 1) := q_iconst0 (bat_get dg_X8_readProduct_0_0 3 rfl rfl)
theorem dX8_readProduct_6 : decode cX8_readProduct 6 = .ok (.istore_n 2, 1) := q_istore_n2 (bat_get dg_X8_readProduct_0_0 4 rfl rfl)
theorem dX8_readProduct_7 : decode cX8_readProduct 7 = .ok (.iload_n 2, 1) := q_iload_n2 (bat_get dg_X8_readProduct_0_0 5 rfl rfl)
theorem dX8_readProduct_8 : decode cX8_readProduct 8 = .ok (.sipush 1600, 3) := q_sipush (bat_get dg_X8_readProduct_0_0 6 rfl rfl) rfl
theorem dX8_readProduct_11 : decode cX8_readProduct 11 = .ok (.if_icmp .ge 72, 3) := q_if_icmp_ge (bat_get dg_X8_readProduct_0_0 7 rfl rfl) rfl
theorem dX8_readProduct_83 : decode cX8_readProduct 83 = .ok (.return_, 1) := q_return_ (bat_get dg_X8_readProduct_0_0 8 rfl rfl)
theorem dX8_readProduct_14 : decode cX8_readProduct 14 = .ok (.aload_n 0, 1) := q_aload_n0 (bat_get dg_X8_readProduct_0_0 9 rfl rfl)
theorem dX8_readProduct_15 : decode cX8_readProduct 15 = .ok (.getfield 9, 3) := q_getfield (bat_get dg_X8_readProduct_0_0 10 rfl rfl) rfl
theorem dX8_readProduct_18 : decode cX8_readProduct 18 = .ok (.getfield 28, 3) := q_getfield (bat_get dg_X8_readProduct_0_0 11 rfl rfl) rfl
theorem dX8_readProduct_21 : decode cX8_readProduct 21 = .ok (.bipush 42, 2) := q_bipush (bat_get dg_X8_readProduct_0_0 12 rfl rfl) rfl
theorem dX8_readProduct_23 : decode cX8_readProduct 23 = .ok (.if_icmp .eq 15, 3) := q_if_icmp_eq (bat_get dg_X8_readProduct_0_0 13 rfl rfl) rfl
theorem dX8_readProduct_59 : decode cX8_readProduct 59 = .ok (.istore_n 3, 1) := q_istore_n3 (bat_get dg_X8_readProduct_0_0 14 rfl rfl)
theorem dX8_readProduct_60 : decode cX8_readProduct 60 = .ok (.aload_n 0, 1) := q_aload_n0 (bat_get dg_X8_readProduct_0_0 15 rfl rfl)
theorem dX8_readProduct_61 : decode cX8_readProduct 61 = .ok (.getfield 9, 3) := q_getfield (bat_get dg_X8_readProduct_0_0 16 rfl rfl) rfl
theorem dX8_readProduct_64 : decode cX8_readProduct 64 = .ok (.invokevirtual 35, 3) := q_invokevirtual (bat_get dg_X8_readProduct_0_0 17 rfl rfl) rfl
theorem dX8_readProduct_67 : decode cX8_readProduct 67 = .ok (.aload_n 0, 1) := q_aload_n0 (bat_get dg_X8_readProduct_0_0 18 rfl rfl)
theorem dX8_readProduct_68 : decode cX8_readProduct 68 = .ok (.aload_n 1, 1) := q_aload_n1 (bat_get dg_X8_readProduct_0_0 19 rfl rfl)
theorem dX8_readProduct_69 : decode cX8_readProduct 69 = .ok (.invokevirtual 42, 3) := q_invokevirtual (bat_get dg_X8_readProduct_0_0 20 rfl rfl) rfl
theorem dX8_readProduct_72 : decode cX8_readProduct 72 = .ok (.aload_n 1, 1) := q_aload_n1 (bat_get dg_X8_readProduct_0_0 21 rfl rfl)
theorem dX8_readProduct_73 : decode cX8_readProduct 73 = .ok (.iload_n 3, 1) := q_iload_n3 (bat_get dg_X8_readProduct_0_0 22 rfl rfl)
theorem dX8_readProduct_74 : decode cX8_readProduct 74 = .ok (.invokevirtual 38, 3) := q_invokevirtual (bat_get dg_X8_readProduct_0_0 23 rfl rfl) rfl
theorem dX8_readProduct_77 : decode cX8_readProduct 77 = .ok (.iinc 2 1, 3) := q_iinc (bat_get dg_X8_readProduct_0_0 24 rfl rfl) rfl
theorem dX8_readProduct_80 : decode cX8_readProduct 80 = .ok (.goto (-73), 3) := q_goto (bat_get dg_X8_readProduct_0_0 25 rfl rfl) rfl
theorem dX8_readProduct_38 : decode cX8_readProduct 38 = .ok (.aload_n 0, 1) := q_aload_n0 (bat_get dg_X8_readProduct_0_0 26 rfl rfl)
theorem dX8_readProduct_39 : decode cX8_readProduct 39 = .ok (.getfield 9, 3) := q_getfield (bat_get dg_X8_readProduct_0_0 27 rfl rfl) rfl
theorem dX8_readProduct_42 : decode cX8_readProduct 42 = .ok (.getfield 28, 3) := q_getfield (bat_get dg_X8_readProduct_0_0 28 rfl rfl) rfl
theorem dX8_readProduct_45 : decode cX8_readProduct 45 = .ok (.bipush 42, 2) := q_bipush (bat_get dg_X8_readProduct_0_0 29 rfl rfl) rfl
theorem dX8_readProduct_47 : decode cX8_readProduct 47 = .ok (.if_icmp .ne 9, 3) := q_if_icmp_ne (bat_get dg_X8_readProduct_0_0 30 rfl rfl) rfl
theorem dX8_readProduct_56 : decode cX8_readProduct 56 = .ok (.sipush 30003, 3) := q_sipush (bat_get dg_X8_readProduct_0_0 31 rfl rfl) rfl
theorem dX8_readProduct_50 : decode cX8_readProduct 50 = .ok (.sipush 30002, 3) := q_sipush (bat_get dg_X8_readProduct_0_0 32 rfl rfl) rfl
theorem dX8_readProduct_53 : decode cX8_readProduct 53 = .ok (.goto 6, 3) := q_goto (bat_get dg_X8_readProduct_0_0 33 rfl rfl) rfl
theorem dX8_readProduct_26 : decode cX8_readProduct 26 = .ok (.aload_n 0, 1) := q_aload_n0 (bat_get dg_X8_readProduct_0_0 34 rfl rfl)
theorem dX8_readProduct_27 : decode cX8_readProduct 27 = .ok (.getfield 9, 3) := q_getfield (bat_get dg_X8_readProduct_0_0 35 rfl rfl) rfl
theorem dX8_readProduct_30 : decode cX8_readProduct 30 = .ok (.getfield 28, 3) := q_getfield (bat_get dg_X8_readProduct_0_0 36 rfl rfl) rfl
theorem dX8_readProduct_33 : decode cX8_readProduct 33 = .ok (.bipush 47, 2) := q_bipush (bat_get dg_X8_readProduct_0_0 37 rfl rfl) rfl
theorem dX8_readProduct_35 : decode cX8_readProduct 35 = .ok (.if_icmp .ne 48, 3) := q_if_icmp_ne (bat_get dg_X8_readProduct_0_0 38 rfl rfl) rfl
theorem w_3_91 : (Cond.code yX8_readProduct cX8_readProduct 4 none) ∈ wsL_law := sk_mem (ck_3 _ (List.mem_of_getElem? (i := 91) rfl)) rfl
theorem dg_X8_readSum_0_0 : bqL cX8_readSum 0 [(0, [42]), (1, [43]), (2, [182, 0, 23]), (5, [3]), (6, [61]), (7, [28]), (8, [17, 6, 64]), (11, [162, 0, 72]), (83, [177]), (14, [42]), (15, [180, 0, 9]), (18, [180, 0, 28]), (21, [16, 43]), (23, [159, 0, 15]), (59, [62]), (60, [42]), (61, [180, 0, 9]), (64, [182, 0, 35]), (67, [42]), (68, [43]), (69, [182, 0, 23]), (72, [43]), (73, [29]), (74, [182, 0, 38]), (77, [132, 2, 1]), (80, [167, 255, 183]), (38, [42]), (39, [180, 0, 9]), (42, [180, 0, 28]), (45, [16, 43]), (47, [160, 0, 9]), (56, [17, 117, 49]), (50, [17, 117, 48]), (53, [167, 0, 6]), (26, [42]), (27, [180, 0, 9]), (30, [180, 0, 28]), (33, [16, 45]), (35, [160, 0, 48])] = true := by decide +kernel
theorem dX8_readSum_0 : decode cX8_readSum 0 = .ok (.aload_n 0, 1) := q_aload_n0 (bat_get dg_X8_readSum_0_0 0 rfl rfl)
theorem dX8_readSum_1 : decode cX8_readSum 1 = .ok (.aload_n 1, 1) := q_aload_n1 (bat_get dg_X8_readSum_0_0 1 rfl rfl)
theorem dX8_readSum_2 : decode cX8_readSum 2 = .ok (.invokevirtual 23, 3) := q_invokevirtual (bat_get dg_X8_readSum_0_0 2 rfl rfl) rfl
theorem dX8_readSum_5 : decode cX8_readSum 5 = .ok (.iconst 0, 1) := q_iconst0 (bat_get dg_X8_readSum_0_0 3 rfl rfl)
theorem dX8_readSum_6 : decode cX8_readSum 6 = .ok (.istore_n 2, 1) := q_istore_n2 (bat_get dg_X8_readSum_0_0 4 rfl rfl)
theorem dX8_readSum_7 : decode cX8_readSum 7 = .ok (.iload_n 2, 1) := q_iload_n2 (bat_get dg_X8_readSum_0_0 5 rfl rfl)
theorem dX8_readSum_8 : decode cX8_readSum 8 = .ok (.sipush 1600, 3) := q_sipush (bat_get dg_X8_readSum_0_0 6 rfl rfl) rfl
theorem dX8_readSum_11 : decode cX8_readSum 11 = .ok (.if_icmp .ge 72, 3) := q_if_icmp_ge (bat_get dg_X8_readSum_0_0 7 rfl rfl) rfl
theorem dX8_readSum_83 : decode cX8_readSum 83 = .ok (.return_, 1) := q_return_ (bat_get dg_X8_readSum_0_0 8 rfl rfl)
theorem dX8_readSum_14 : decode cX8_readSum 14 = .ok (.aload_n 0, 1) := q_aload_n0 (bat_get dg_X8_readSum_0_0 9 rfl rfl)
theorem dX8_readSum_15 : decode cX8_readSum 15 = .ok (.getfield 9, 3) := q_getfield (bat_get dg_X8_readSum_0_0 10 rfl rfl) rfl
theorem dX8_readSum_18 : decode cX8_readSum 18 = .ok (.getfield 28, 3) := q_getfield (bat_get dg_X8_readSum_0_0 11 rfl rfl) rfl
theorem dX8_readSum_21 : decode cX8_readSum 21 = .ok (.bipush 43, 2) := q_bipush (bat_get dg_X8_readSum_0_0 12 rfl rfl) rfl
theorem dX8_readSum_23 : decode cX8_readSum 23 = .ok (.if_icmp .eq 15, 3) := q_if_icmp_eq (bat_get dg_X8_readSum_0_0 13 rfl rfl) rfl
theorem dX8_readSum_59 : decode cX8_readSum 59 = .ok (.istore_n 3, 1) := q_istore_n3 (bat_get dg_X8_readSum_0_0 14 rfl rfl)
theorem dX8_readSum_60 : decode cX8_readSum 60 = .ok (.aload_n 0, 1) := q_aload_n0 (bat_get dg_X8_readSum_0_0 15 rfl rfl)
theorem dX8_readSum_61 : decode cX8_readSum 61 = .ok (.getfield 9, 3) := q_getfield (bat_get dg_X8_readSum_0_0 16 rfl rfl) rfl
theorem dX8_readSum_64 : decode cX8_readSum 64 = .ok (.invokevirtual 35, 3) := q_invokevirtual (bat_get dg_X8_readSum_0_0 17 rfl rfl) rfl
theorem dX8_readSum_67 : decode cX8_readSum 67 = .ok (.aload_n 0, 1) := q_aload_n0 (bat_get dg_X8_readSum_0_0 18 rfl rfl)
theorem dX8_readSum_68 : decode cX8_readSum 68 = .ok (.aload_n 1, 1) := q_aload_n1 (bat_get dg_X8_readSum_0_0 19 rfl rfl)
theorem dX8_readSum_69 : decode cX8_readSum 69 = .ok (.invokevirtual 23, 3) := q_invokevirtual (bat_get dg_X8_readSum_0_0 20 rfl rfl) rfl
theorem dX8_readSum_72 : decode cX8_readSum 72 = .ok (.aload_n 1, 1) := q_aload_n1 (bat_get dg_X8_readSum_0_0 21 rfl rfl)
theorem dX8_readSum_73 : decode cX8_readSum 73 = .ok (.iload_n 3, 1) := q_iload_n3 (bat_get dg_X8_readSum_0_0 22 rfl rfl)
theorem dX8_readSum_74 : decode cX8_readSum 74 = .ok (.invokevirtual 38, 3) := q_invokevirtual (bat_get dg_X8_readSum_0_0 23 rfl rfl) rfl
theorem dX8_readSum_77 : decode cX8_readSum 77 = .ok (.iinc 2 1, 3) := q_iinc (bat_get dg_X8_readSum_0_0 24 rfl rfl) rfl
theorem dX8_readSum_80 : decode cX8_readSum 80 = .ok (.goto (-73), 3) := q_goto (bat_get dg_X8_readSum_0_0 25 rfl rfl) rfl
theorem dX8_readSum_38 : decode cX8_readSum 38 = .ok (.aload_n 0, 1) := q_aload_n0 (bat_get dg_X8_readSum_0_0 26 rfl rfl)
theorem dX8_readSum_39 : decode cX8_readSum 39 = .ok (.getfield 9, 3) := q_getfield (bat_get dg_X8_readSum_0_0 27 rfl rfl) rfl
theorem dX8_readSum_42 : decode cX8_readSum 42 = .ok (.getfield 28, 3) := q_getfield (bat_get dg_X8_readSum_0_0 28 rfl rfl) rfl
theorem dX8_readSum_45 : decode cX8_readSum 45 = .ok (.bipush 43, 2) := q_bipush (bat_get dg_X8_readSum_0_0 29 rfl rfl) rfl
theorem dX8_readSum_47 : decode cX8_readSum 47 = .ok (.if_icmp .ne 9, 3) := q_if_icmp_ne (bat_get dg_X8_readSum_0_0 30 rfl rfl) rfl
theorem dX8_readSum_56 : decode cX8_readSum 56 = .ok (.sipush 30001, 3) := q_sipush (bat_get dg_X8_readSum_0_0 31 rfl rfl) rfl
theorem dX8_readSum_50 : decode cX8_readSum 50 = .ok (.sipush 30000, 3) := q_sipush (bat_get dg_X8_readSum_0_0 32 rfl rfl) rfl
theorem dX8_readSum_53 : decode cX8_readSum 53 = .ok (.goto 6, 3) := q_goto (bat_get dg_X8_readSum_0_0 33 rfl rfl) rfl
theorem dX8_readSum_26 : decode cX8_readSum 26 = .ok (.aload_n 0, 1) := q_aload_n0 (bat_get dg_X8_readSum_0_0 34 rfl rfl)
theorem dX8_readSum_27 : decode cX8_readSum 27 = .ok (.getfield 9, 3) := q_getfield (bat_get dg_X8_readSum_0_0 35 rfl rfl) rfl
theorem dX8_readSum_30 : decode cX8_readSum 30 = .ok (.getfield 28, 3) := q_getfield (bat_get dg_X8_readSum_0_0 36 rfl rfl) rfl
theorem dX8_readSum_33 : decode cX8_readSum 33 = .ok (.bipush 45, 2) := q_bipush (bat_get dg_X8_readSum_0_0 37 rfl rfl) rfl
theorem dX8_readSum_35 : decode cX8_readSum 35 = .ok (.if_icmp .ne 48, 3) := q_if_icmp_ne (bat_get dg_X8_readSum_0_0 38 rfl rfl) rfl
theorem w_3_88 : (Cond.methodLink RX8 23 yX8_readProduct) ∈ wsL_law := sk_mem (ck_3 _ (List.mem_of_getElem? (i := 88) rfl)) rfl
theorem w_3_90 : (Cond.instanceMethod yX8_readProduct) ∈ wsL_law := sk_mem (ck_3 _ (List.mem_of_getElem? (i := 90) rfl)) rfl
theorem w_0_7 : (Cond.selects RX8 yX8_readProduct yX8_readProduct) ∈ wsL_law := sk_mem (ck_0 _ (List.mem_of_getElem? (i := 7) rfl)) rfl
theorem hd_X8_readProduct_1 : skD yX8_readProduct 1 := by decide +kernel

