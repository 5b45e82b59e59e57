theorem dg_X12_fail_0_0 : bqL cX12_fail 0 [(0, [42]), (1, [180, 0, 195]), (4, [153, 0, 4]), (8, [42]), (9, [27]), (10, [181, 0, 195]), (13, [42]), (14, [28]), (15, [181, 0, 198]), (18, [177]), (7, [177])] = true := by decide +kernel
theorem dX12_fail_0 : decode cX12_fail 0 = .ok (.aload_n 0, 1) := q_aload_n0 (bat_get dg_X12_fail_0_0 0 rfl rfl)
theorem dX12_fail_1 : decode cX12_fail 1 = .ok (.getfield 195, 3) := q_getfield (bat_get dg_X12_fail_0_0 1 rfl rfl) rfl
theorem dX12_fail_4 : decode cX12_fail 4 = .ok (.ifCond .eq 4, 3) := q_ifCond_eq (bat_get dg_X12_fail_0_0 2 rfl rfl) rfl
theorem dX12_fail_8 : decode cX12_fail 8 = .ok (.aload_n 0, 1) := q_aload_n0 (bat_get dg_X12_fail_0_0 3 rfl rfl)
theorem dX12_fail_9 : decode cX12_fail 9 = .ok (.iload_n 1, 1) := q_iload_n1 (bat_get dg_X12_fail_0_0 4 rfl rfl)
theorem dX12_fail_10 : decode cX12_fail 10 = .ok (.putfield 195, 3) := q_putfield (bat_get dg_X12_fail_0_0 5 rfl rfl) rfl
theorem dX12_fail_13 : decode cX12_fail 13 = .ok (.aload_n 0, 1) := q_aload_n0 (bat_get dg_X12_fail_0_0 6 rfl rfl)
theorem dX12_fail_14 : decode cX12_fail 14 = .ok (.iload_n 2, 1) := q_iload_n2 (bat_get dg_X12_fail_0_0 7 rfl rfl)
theorem dX12_fail_15 : decode cX12_fail 15 = .ok (.putfield 198, 3) := q_putfield (bat_get dg_X12_fail_0_0 8 rfl rfl) rfl
theorem dX12_fail_18 : decode cX12_fail 18 = .ok (.return_, 1) := q_return_ (bat_get dg_X12_fail_0_0 9 rfl rfl)
theorem dX12_fail_7 : decode cX12_fail 7 = .ok (.return_, 1) := q_return_ (bat_get dg_X12_fail_0_0 10 rfl rfl)
theorem w_5_160 : (Cond.fieldLink RX12 195 "SameKeeperModel" "bad" "I") ∈ wsL_law := sk_mem (ck_5 _ (List.mem_of_getElem? (i := 160) rfl)) rfl
theorem w_5_161 : (Cond.fieldLink RX12 198 "SameKeeperModel" "badPlace" "I") ∈ wsL_law := sk_mem (ck_5 _ (List.mem_of_getElem? (i := 161) rfl)) rfl
theorem w_6_232 : (Cond.code yX12_fail cX12_fail 3 none) ∈ wsL_law := sk_mem (ck_6 _ (List.mem_of_getElem? (i := 232) rfl)) rfl
theorem dg_X12_look_0_0 : bqL cX12_look 0 [(0, [42]), (1, [180, 0, 201]), (4, [42]), (5, [180, 0, 204]), (8, [162, 0, 44]), (52, [42]), (53, [180, 0, 201]), (56, [42]), (57, [180, 0, 204]), (60, [162, 0, 15]), (75, [2]), (76, [172]), (63, [42]), (64, [180, 0, 7]), (67, [42]), (68, [180, 0, 201]), (71, [46]), (72, [167, 0, 4]), (11, [42]), (12, [180, 0, 7]), (15, [42]), (16, [180, 0, 201]), (19, [46]), (20, [16, 10]), (22, [159, 0, 17]), (39, [42]), (40, [89]), (41, [180, 0, 201]), (44, [4]), (45, [96]), (46, [181, 0, 201]), (49, [167, 255, 207]), (25, [42]), (26, [180, 0, 7]), (29, [42]), (30, [180, 0, 201]), (33, [46]), (34, [16, 32]), (36, [160, 0, 16])] = true := by decide +kernel
theorem dX12_look_0 : decode cX12_look 0 = .ok (.aload_n 0, 1) := q_aload_n0 (bat_get dg_X12_look_0_0 0 rfl rfl)
theorem dX12_look_1 : decode cX12_look 1 = .ok (.getfield 201, 3) := q_getfield (bat_get dg_X12_look_0_0 1 rfl rfl) rfl
theorem dX12_look_4 : decode cX12_look 4 = .ok (.aload_n 0, 1) := q_aload_n0 (bat_get dg_X12_look_0_0 2 rfl rfl)
theorem dX12_look_5 : decode cX12_look 5 = .ok (.getfield 204, 3) := q_getfield (bat_get dg_X12_look_0_0 3 rfl rfl) rfl
theorem dX12_look_8 : decode cX12_look 8 = .ok (.if_icmp .ge 44, 3) := q_if_icmp_ge (bat_get dg_X12_look_0_0 4 rfl rfl) rfl
theorem dX12_look_52 : decode cX12_look 52 = .ok (.aload_n 0, 1) := q_aload_n0 (bat_get dg_X12_look_0_0 5 rfl rfl)
theorem dX12_look_53 : decode cX12_look 53 = .ok (.getfield 201, 3) := q_getfield (bat_get dg_X12_look_0_0 6 rfl rfl) rfl
theorem dX12_look_56 : decode cX12_look 56 = .ok (.aload_n 0, 1) := q_aload_n0 (bat_get dg_X12_look_0_0 7 rfl rfl)
theorem dX12_look_57 : decode cX12_look 57 = .ok (.getfield 204, 3) := q_getfield (bat_get dg_X12_look_0_0 8 rfl rfl) rfl
theorem dX12_look_60 : decode cX12_look 60 = .ok (.if_icmp .ge 15, 3) := q_if_icmp_ge (bat_get dg_X12_look_0_0 9 rfl rfl) rfl
theorem dX12_look_75 : decode cX12_look 75 = .ok (.iconst (-1), 1) := q_iconstm1 (bat_get dg_X12_look_0_0 10 rfl rfl)
theorem dX12_look_76 : decode cX12_look 76 = .ok (.ireturn, 1) := q_ireturn (bat_get dg_X12_look_0_0 11 rfl rfl)
theorem dX12_look_63 : decode cX12_look 63 = .ok (.aload_n 0, 1) := q_aload_n0 (bat_get dg_X12_look_0_0 12 rfl rfl)
theorem dX12_look_64 : decode cX12_look 64 = .ok (.getfield 7, 3) := q_getfield (bat_get dg_X12_look_0_0 13 rfl rfl) rfl
theorem dX12_look_67 : decode cX12_look 67 = .ok (.aload_n 0, 1) := q_aload_n0 (bat_get dg_X12_look_0_0 14 rfl rfl)
theorem dX12_look_68 : decode cX12_look 68 = .ok (.getfield 201, 3) := q_getfield (bat_get dg_X12_look_0_0 15 rfl rfl) rfl
theorem dX12_look_71 : decode cX12_look 71 = .ok (.iaload, 1) := q_iaload (bat_get dg_X12_look_0_0 16 rfl rfl)
theorem dX12_look_72 : decode cX12_look 72 = .ok (.goto 4, 3) := q_goto (bat_get dg_X12_look_0_0 17 rfl rfl) rfl
theorem dX12_look_11 : decode cX12_look 11 = .ok (.aload_n 0, 1) := q_aload_n0 (bat_get dg_X12_look_0_0 18 rfl rfl)
theorem dX12_look_12 : decode cX12_look 12 = .ok (.getfield 7, 3) := q_getfield (bat_get dg_X12_look_0_0 19 rfl rfl) rfl
theorem dX12_look_15 : decode cX12_look 15 = .ok (.aload_n 0, 1) := q_aload_n0 (bat_get dg_X12_look_0_0 20 rfl rfl)
theorem dX12_look_16 : decode cX12_look 16 = .ok (.getfield 201, 3) := q_getfield (bat_get dg_X12_look_0_0 21 rfl rfl) rfl
theorem dX12_look_19 : decode cX12_look 19 = .ok (.iaload, 1) := q_iaload (bat_get dg_X12_look_0_0 22 rfl rfl)
theorem dX12_look_20 : decode cX12_look 20 = .ok (.bipush 10, 2) := q_bipush (bat_get dg_X12_look_0_0 23 rfl rfl) rfl
theorem dX12_look_22 : decode cX12_look 22 = .ok (.if_icmp .eq 17, 3) := q_if_icmp_eq (bat_get dg_X12_look_0_0 24 rfl rfl) rfl
theorem dX12_look_39 : decode cX12_look 39 = .ok (.aload_n 0, 1) := q_aload_n0 (bat_get dg_X12_look_0_0 25 rfl rfl)
theorem dX12_look_40 : decode cX12_look 40 = .ok (.dup, 1) := q_dup (bat_get dg_X12_look_0_0 26 rfl rfl)
theorem dX12_look_41 : decode cX12_look 41 = .ok (.getfield 201, 3) := q_getfield (bat_get dg_X12_look_0_0 27 rfl rfl) rfl
theorem dX12_look_44 : decode cX12_look 44 = .ok (.iconst 1, 1) := q_iconst1 (bat_get dg_X12_look_0_0 28 rfl rfl)
theorem dX12_look_45 : decode cX12_look 45 = .ok (.iadd, 1) := q_iadd (bat_get dg_X12_look_0_0 29 rfl rfl)
theorem dX12_look_46 : decode cX12_look 46 = .ok (.putfield 201, 3) := q_putfield (bat_get dg_X12_look_0_0 30 rfl rfl) rfl
theorem dX12_look_49 : decode cX12_look 49 = .ok (.goto (-49), 3) := q_goto (bat_get dg_X12_look_0_0 31 rfl rfl) rfl
theorem dX12_look_25 : decode cX12_look 25 = .ok (.aload_n 0, 1) := q_aload_n0 (bat_get dg_X12_look_0_0 32 rfl rfl)
theorem dX12_look_26 : decode cX12_look 26 = .ok (.getfield 7, 3) := q_getfield (bat_get dg_X12_look_0_0 33 rfl rfl) rfl
theorem dX12_look_29 : decode cX12_look 29 = .ok (.aload_n 0, 1) := q_aload_n0 (bat_get dg_X12_look_0_0 34 rfl rfl)
theorem dX12_look_30 : decode cX12_look 30 = .ok (.getfield 201, 3) := q_getfield (bat_get dg_X12_look_0_0 35 rfl rfl) rfl
theorem dX12_look_33 : decode cX12_look 33 = .ok (.iaload, 1) := q_iaload (bat_get dg_X12_look_0_0 36 rfl rfl)
theorem dX12_look_34 : decode cX12_look 34 = .ok (.bipush 32, 2) := q_bipush (bat_get dg_X12_look_0_0 37 rfl rfl) rfl
theorem dX12_look_36 : decode cX12_look 36 = .ok (.if_icmp .ne 16, 3) := q_if_icmp_ne (bat_get dg_X12_look_0_0 38 rfl rfl) rfl
theorem w_5_157 : (Cond.fieldLink RX12 201 "SameKeeperModel" "at" "I") ∈ wsL_law := sk_mem (ck_5 _ (List.mem_of_getElem? (i := 157) rfl)) rfl
theorem w_5_158 : (Cond.fieldLink RX12 204 "SameKeeperModel" "end" "I") ∈ wsL_law := sk_mem (ck_5 _ (List.mem_of_getElem? (i := 158) rfl)) rfl
theorem w_6_225 : (Cond.code yX12_look cX12_look 1 (some .int)) ∈ wsL_law := sk_mem (ck_6 _ (List.mem_of_getElem? (i := 225) rfl)) rfl
theorem dg_X12_isHere_0_0 : bqL cX12_isHere 0 [(0, [42]), (1, [180, 0, 195]), (4, [154, 0, 24]), (28, [3]), (29, [172]), (7, [42]), (8, [182, 0, 207]), (11, [184, 0, 211]), (14, [153, 0, 14]), (17, [42]), (18, [180, 0, 201]), (21, [42]), (22, [180, 0, 215]), (25, [160, 0, 5]), (30, [42]), (31, [180, 0, 201]), (34, [61]), (35, [28]), (36, [42]), (37, [180, 0, 204]), (40, [162, 0, 21]), (61, [28]), (62, [42]), (63, [180, 0, 201]), (66, [100]), (67, [43]), (68, [190]), (69, [159, 0, 5]), (74, [3]), (75, [62]), (76, [29]), (77, [43]), (78, [190]), (79, [162, 0, 28]), (107, [4]), (108, [172]), (82, [42]), (83, [180, 0, 7]), (86, [42]), (87, [180, 0, 201])] = true := by decide +kernel
theorem dX12_isHere_0 : decode cX12_isHere 0 = .ok (.aload_n 0, 1) := q_aload_n0 (bat_get dg_X12_isHere_0_0 0 rfl rfl)
theorem dX12_isHere_1 : decode cX12_isHere 1 = .ok (.getfield 195, 3) := q_getfield (bat_get dg_X12_isHere_0_0 1 rfl rfl) rfl
theorem dX12_isHere_4 : decode cX12_isHere 4 = .ok (.ifCond .ne 24, 3) := q_ifCond_ne (bat_get dg_X12_isHere_0_0 2 rfl rfl) rfl
theorem dX12_isHere_28 : decode cX12_isHere 28 = .ok (.iconst 0, 1) := q_iconst0 (bat_get dg_X12_isHere_0_0 3 rfl rfl)
theorem dX12_isHere_29 : decode cX12_isHere 29 = .ok (.ireturn, 1) := q_ireturn (bat_get dg_X12_isHere_0_0 4 rfl rfl)
theorem dX12_isHere_7 : decode cX12_isHere 7 = .ok (.aload_n 0, 1) := q_aload_n0 (bat_get dg_X12_isHere_0_0 5 rfl rfl)
theorem dX12_isHere_8 : decode cX12_isHere 8 = .ok (.invokevirtual 207, 3) := q_invokevirtual (bat_get dg_X12_isHere_0_0 6 rfl rfl) rfl
theorem dX12_isHere_11 : decode cX12_isHere 11 = .ok (.invokestatic 211, 3) := q_invokestatic (bat_get dg_X12_isHere_0_0 7 rfl rfl) rfl
theorem dX12_isHere_14 : decode cX12_isHere 14 = .ok (.ifCond .eq 14, 3) := q_ifCond_eq (bat_get dg_X12_isHere_0_0 8 rfl rfl) rfl
theorem dX12_isHere_17 : decode cX12_isHere 17 = .ok (.aload_n 0, 1) := q_aload_n0 (bat_get dg_X12_isHere_0_0 9 rfl rfl)
theorem dX12_isHere_18 : decode cX12_isHere 18 = .ok (.getfield 201, 3) := q_getfield (bat_get dg_X12_isHere_0_0 10 rfl rfl) rfl
theorem dX12_isHere_21 : decode cX12_isHere 21 = .ok (.aload_n 0, 1) := q_aload_n0 (bat_get dg_X12_isHere_0_0 11 rfl rfl)
theorem dX12_isHere_22 : decode cX12_isHere 22 = .ok (.getfield 215, 3) := q_getfield (bat_get dg_X12_isHere_0_0 12 rfl rfl) rfl
theorem dX12_isHere_25 : decode cX12_isHere 25 = .ok (.if_icmp .ne 5, 3) := q_if_icmp_ne (bat_get dg_X12_isHere_0_0 13 rfl rfl) rfl
theorem dX12_isHere_30 : decode cX12_isHere 30 = .ok (.aload_n 0, 1) := q_aload_n0 (bat_get dg_X12_isHere_0_0 14 rfl rfl)
theorem dX12_isHere_31 : decode cX12_isHere 31 = .ok (.getfield 201, 3) := q_getfield (bat_get dg_X12_isHere_0_0 15 rfl rfl) rfl
theorem dX12_isHere_34 : decode cX12_isHere 34 = .ok (.istore_n 2, 1) := q_istore_n2 (bat_get dg_X12_isHere_0_0 16 rfl rfl)
theorem dX12_isHere_35 : decode cX12_isHere 35 = .ok (.iload_n 2, 1) := q_iload_n2 (bat_get dg_X12_isHere_0_0 17 rfl rfl)
theorem dX12_isHere_36 : decode cX12_isHere 36 = .ok (.aload_n 0, 1) := q_aload_n0 (bat_get dg_X12_isHere_0_0 18 rfl rfl)
theorem dX12_isHere_37 : decode cX12_isHere 37 = .ok (.getfield 204, 3) := q_getfield (bat_get dg_X12_isHere_0_0 19 rfl rfl) rfl
theorem dX12_isHere_40 : decode cX12_isHere 40 = .ok (.if_icmp .ge 21, 3) := q_if_icmp_ge (bat_get dg_X12_isHere_0_0 20 rfl rfl) rfl
theorem dX12_isHere_61 : decode cX12_isHere 61 = .ok (.iload_n 2, 1) := q_iload_n2 (bat_get dg_X12_isHere_0_0 21 rfl rfl)
theorem dX12_isHere_62 : decode cX12_isHere 62 = .ok (.aload_n 0, 1) := q_aload_n0 (bat_get dg_X12_isHere_0_0 22 rfl rfl)
theorem dX12_isHere_63 : decode cX12_isHere 63 = .ok (.getfield 201, 3) := q_getfield (bat_get dg_X12_isHere_0_0 23 rfl rfl) rfl
theorem dX12_isHere_66 : decode cX12_isHere 66 = .ok (.isub, 1) := q_isub (bat_get dg_X12_isHere_0_0 24 rfl rfl)
theorem dX12_isHere_67 : decode cX12_isHere 67 = .ok (.aload_n 1, 1) := q_aload_n1 (bat_get dg_X12_isHere_0_0 25 rfl rfl)
theorem dX12_isHere_68 : decode cX12_isHere 68 = .ok (.arraylength, 1) := q_arraylength (bat_get dg_X12_isHere_0_0 26 rfl rfl)
theorem dX12_isHere_69 : decode cX12_isHere 69 = .ok (.if_icmp .eq 5, 3) := q_if_icmp_eq (bat_get dg_X12_isHere_0_0 27 rfl rfl) rfl
theorem dX12_isHere_74 : decode cX12_isHere 74 = .ok (.iconst 0, 1) := q_iconst0 (bat_get dg_X12_isHere_0_0 28 rfl rfl)
theorem dX12_isHere_75 : decode cX12_isHere 75 = .ok (.istore_n 3, 1) := q_istore_n3 (bat_get dg_X12_isHere_0_0 29 rfl rfl)
theorem dX12_isHere_76 : decode cX12_isHere 76 = .ok (.iload_n 3, 1) := q_iload_n3 (bat_get dg_X12_isHere_0_0 30 rfl rfl)
theorem dX12_isHere_77 : decode cX12_isHere 77 = .ok (.aload_n 1, 1) := q_aload_n1 (bat_get dg_X12_isHere_0_0 31 rfl rfl)
theorem dX12_isHere_78 : decode cX12_isHere 78 = .ok (.arraylength, 1) := q_arraylength (bat_get dg_X12_isHere_0_0 32 rfl rfl)
theorem dX12_isHere_79 : decode cX12_isHere 79 = .ok (.if_icmp .ge 28, 3) := q_if_icmp_ge (bat_get dg_X12_isHere_0_0 33 rfl rfl) rfl
theorem dX12_isHere_107 : decode cX12_isHere 107 = .ok (.iconst 1, 1) := q_iconst1 (bat_get dg_X12_isHere_0_0 34 rfl rfl)
theorem dX12_isHere_108 : decode cX12_isHere 108 = .ok (.ireturn, 1) := q_ireturn (bat_get dg_X12_isHere_0_0 35 rfl rfl)
theorem dX12_isHere_82 : decode cX12_isHere 82 = .ok (.aload_n 0, 1) := q_aload_n0 (bat_get dg_X12_isHere_0_0 36 rfl rfl)
theorem dX12_isHere_83 : decode cX12_isHere 83 = .ok (.getfield 7, 3) := q_getfield (bat_get dg_X12_isHere_0_0 37 rfl rfl) rfl
theorem dX12_isHere_86 : decode cX12_isHere 86 = .ok (.aload_n 0, 1) := q_aload_n0 (bat_get dg_X12_isHere_0_0 38 rfl rfl)
theorem dX12_isHere_87 : decode cX12_isHere 87 = .ok (.getfield 201, 3) := q_getfield (bat_get dg_X12_isHere_0_0 39 rfl rfl) rfl
theorem dg_X12_isHere_43_90 : bqL cX12_isHere 43 [(47, [29]), (48, [96]), (49, [46]), (50, [43]), (51, [29]), (52, [52]), (53, [159, 0, 5]), (58, [132, 3, 1]), (61, [167, 255, 228]), (56, [3]), (57, [172]), (29, [3]), (30, [172]), (0, [42]), (1, [180, 0, 7]), (4, [28]), (5, [46]), (6, [184, 0, 211]), (9, [153, 0, 9]), (12, [132, 2, 1]), (15, [167, 255, 233])] = true := by decide +kernel
theorem dX12_isHere_90 : decode cX12_isHere 90 = .ok (.iload_n 3, 1) := q_iload_n3 (bat_get dg_X12_isHere_43_90 0 rfl rfl)
theorem dX12_isHere_91 : decode cX12_isHere 91 = .ok (.iadd, 1) := q_iadd (bat_get dg_X12_isHere_43_90 1 rfl rfl)
theorem dX12_isHere_92 : decode cX12_isHere 92 = .ok (.iaload, 1) := q_iaload (bat_get dg_X12_isHere_43_90 2 rfl rfl)
theorem dX12_isHere_93 : decode cX12_isHere 93 = .ok (.aload_n 1, 1) := q_aload_n1 (bat_get dg_X12_isHere_43_90 3 rfl rfl)
theorem dX12_isHere_94 : decode cX12_isHere 94 = .ok (.iload_n 3, 1) := q_iload_n3 (bat_get dg_X12_isHere_43_90 4 rfl rfl)
theorem dX12_isHere_95 : decode cX12_isHere 95 = .ok (.caload, 1) := q_caload (bat_get dg_X12_isHere_43_90 5 rfl rfl)
theorem dX12_isHere_96 : decode cX12_isHere 96 = .ok (.if_icmp .eq 5, 3) := q_if_icmp_eq (bat_get dg_X12_isHere_43_90 6 rfl rfl) rfl
theorem dX12_isHere_101 : decode cX12_isHere 101 = .ok (.iinc 3 1, 3) := q_iinc (bat_get dg_X12_isHere_43_90 7 rfl rfl) rfl
theorem dX12_isHere_104 : decode cX12_isHere 104 = .ok (.goto (-28), 3) := q_goto (bat_get dg_X12_isHere_43_90 8 rfl rfl) rfl
theorem dX12_isHere_99 : decode cX12_isHere 99 = .ok (.iconst 0, 1) := q_iconst0 (bat_get dg_X12_isHere_43_90 9 rfl rfl)
theorem dX12_isHere_100 : decode cX12_isHere 100 = .ok (.ireturn, 1) := q_ireturn (bat_get dg_X12_isHere_43_90 10 rfl rfl)
theorem dX12_isHere_72 : decode cX12_isHere 72 = .ok (.iconst 0, 1) := q_iconst0 (bat_get dg_X12_isHere_43_90 11 rfl rfl)
theorem dX12_isHere_73 : decode cX12_isHere 73 = .ok (.ireturn, 1) := q_ireturn (bat_get dg_X12_isHere_43_90 12 rfl rfl)
theorem dX12_isHere_43 : decode cX12_isHere 43 = .ok (.aload_n 0, 1) := q_aload_n0 (bat_get dg_X12_isHere_43_90 13 rfl rfl)
theorem dX12_isHere_44 : decode cX12_isHere 44 = .ok (.getfield 7, 3) := q_getfield (bat_get dg_X12_isHere_43_90 14 rfl rfl) rfl
theorem dX12_isHere_47 : decode cX12_isHere 47 = .ok (.iload_n 2, 1) := q_iload_n2 (bat_get dg_X12_isHere_43_90 15 rfl rfl)
theorem dX12_isHere_48 : decode cX12_isHere 48 = .ok (.iaload, 1) := q_iaload (bat_get dg_X12_isHere_43_90 16 rfl rfl)
theorem dX12_isHere_49 : decode cX12_isHere 49 = .ok (.invokestatic 211, 3) := q_invokestatic (bat_get dg_X12_isHere_43_90 17 rfl rfl) rfl
theorem dX12_isHere_52 : decode cX12_isHere 52 = .ok (.ifCond .eq 9, 3) := q_ifCond_eq (bat_get dg_X12_isHere_43_90 18 rfl rfl) rfl
theorem dX12_isHere_55 : decode cX12_isHere 55 = .ok (.iinc 2 1, 3) := q_iinc (bat_get dg_X12_isHere_43_90 19 rfl rfl) rfl
