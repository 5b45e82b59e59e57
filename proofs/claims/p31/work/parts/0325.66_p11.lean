theorem dg_X12_qKind_0_0 : bqL cX12_qKind 0 [(0, [42]), (1, [42]), (2, [180, 0, 114]), (5, [182, 0, 222]), (8, [153, 0, 7]), (15, [42]), (16, [42]), (17, [180, 0, 117]), (20, [182, 0, 222]), (23, [153, 0, 7]), (30, [42]), (31, [42]), (32, [180, 0, 120]), (35, [182, 0, 222]), (38, [153, 0, 7]), (45, [42]), (46, [42]), (47, [180, 0, 123]), (50, [182, 0, 222]), (53, [153, 0, 7]), (60, [42]), (61, [42]), (62, [180, 0, 126]), (65, [182, 0, 222]), (68, [153, 0, 7]), (75, [8]), (76, [60]), (77, [27]), (78, [8]), (79, [160, 0, 11]), (82, [42]), (83, [42]), (84, [180, 0, 129]), (87, [182, 0, 245]), (90, [27]), (91, [172]), (71, [7]), (72, [167, 0, 4]), (56, [6]), (57, [167, 0, 19])] = true := by decide +kernel
theorem dX12_qKind_0 : decode cX12_qKind 0 = .ok (.aload_n 0, 1) := q_aload_n0 (bat_get dg_X12_qKind_0_0 0 rfl rfl)
theorem dX12_qKind_1 : decode cX12_qKind 1 = .ok (.aload_n 0, 1) := q_aload_n0 (bat_get dg_X12_qKind_0_0 1 rfl rfl)
theorem dX12_qKind_2 : decode cX12_qKind 2 = .ok (.getfield 114, 3) := q_getfield (bat_get dg_X12_qKind_0_0 2 rfl rfl) rfl
theorem dX12_qKind_5 : decode cX12_qKind 5 = .ok (.invokevirtual 222, 3) := q_invokevirtual (bat_get dg_X12_qKind_0_0 3 rfl rfl) rfl
theorem dX12_qKind_8 : decode cX12_qKind 8 = .ok (.ifCond .eq 7, 3) := q_ifCond_eq (bat_get dg_X12_qKind_0_0 4 rfl rfl) rfl
theorem dX12_qKind_15 : decode cX12_qKind 15 = .ok (.aload_n 0, 1) := q_aload_n0 (bat_get dg_X12_qKind_0_0 5 rfl rfl)
theorem dX12_qKind_16 : decode cX12_qKind 16 = .ok (.aload_n 0, 1) := q_aload_n0 (bat_get dg_X12_qKind_0_0 6 rfl rfl)
theorem dX12_qKind_17 : decode cX12_qKind 17 = .ok (.getfield 117, 3) := q_getfield (bat_get dg_X12_qKind_0_0 7 rfl rfl) rfl
theorem dX12_qKind_20 : decode cX12_qKind 20 = .ok (.invokevirtual 222, 3) := q_invokevirtual (bat_get dg_X12_qKind_0_0 8 rfl rfl) rfl
theorem dX12_qKind_23 : decode cX12_qKind 23 = .ok (.ifCond .eq 7, 3) := q_ifCond_eq (bat_get dg_X12_qKind_0_0 9 rfl rfl) rfl
theorem dX12_qKind_30 : decode cX12_qKind 30 = .ok (.aload_n 0, 1) := q_aload_n0 (bat_get dg_X12_qKind_0_0 10 rfl rfl)
theorem dX12_qKind_31 : decode cX12_qKind 31 = .ok (.aload_n 0, 1) := q_aload_n0 (bat_get dg_X12_qKind_0_0 11 rfl rfl)
theorem dX12_qKind_32 : decode cX12_qKind 32 = .ok (.getfield 120, 3) := q_getfield (bat_get dg_X12_qKind_0_0 12 rfl rfl) rfl
theorem dX12_qKind_35 : decode cX12_qKind 35 = .ok (.invokevirtual 222, 3) := q_invokevirtual (bat_get dg_X12_qKind_0_0 13 rfl rfl) rfl
theorem dX12_qKind_38 : decode cX12_qKind 38 = .ok (.ifCond .eq 7, 3) := q_ifCond_eq (bat_get dg_X12_qKind_0_0 14 rfl rfl) rfl
theorem dX12_qKind_45 : decode cX12_qKind 45 = .ok (.aload_n 0, 1) := q_aload_n0 (bat_get dg_X12_qKind_0_0 15 rfl rfl)
theorem dX12_qKind_46 : decode cX12_qKind 46 = .ok (.aload_n 0, 1) := q_aload_n0 (bat_get dg_X12_qKind_0_0 16 rfl rfl)
theorem dX12_qKind_47 : decode cX12_qKind 47 = .ok (.getfield 123, 3) := q_getfield (bat_get dg_X12_qKind_0_0 17 rfl rfl) rfl
theorem dX12_qKind_50 : decode cX12_qKind 50 = .ok (.invokevirtual 222, 3) := q_invokevirtual (bat_get dg_X12_qKind_0_0 18 rfl rfl) rfl
theorem dX12_qKind_53 : decode cX12_qKind 53 = .ok (.ifCond .eq 7, 3) := q_ifCond_eq (bat_get dg_X12_qKind_0_0 19 rfl rfl) rfl
theorem dX12_qKind_60 : decode cX12_qKind 60 = .ok (.aload_n 0, 1) := q_aload_n0 (bat_get dg_X12_qKind_0_0 20 rfl rfl)
theorem dX12_qKind_61 : decode cX12_qKind 61 = .ok (.aload_n 0, 1) := q_aload_n0 (bat_get dg_X12_qKind_0_0 21 rfl rfl)
theorem dX12_qKind_62 : decode cX12_qKind 62 = .ok (.getfield 126, 3) := q_getfield (bat_get dg_X12_qKind_0_0 22 rfl rfl) rfl
theorem dX12_qKind_65 : decode cX12_qKind 65 = .ok (.invokevirtual 222, 3) := q_invokevirtual (bat_get dg_X12_qKind_0_0 23 rfl rfl) rfl
theorem dX12_qKind_68 : decode cX12_qKind 68 = .ok (.ifCond .eq 7, 3) := q_ifCond_eq (bat_get dg_X12_qKind_0_0 24 rfl rfl) rfl
theorem dX12_qKind_75 : decode cX12_qKind 75 = .ok (.iconst 5, 1) := q_iconst5 (bat_get dg_X12_qKind_0_0 25 rfl rfl)
theorem dX12_qKind_76 : decode cX12_qKind 76 = .ok (.istore_n 1, 1) := q_istore_n1 (bat_get dg_X12_qKind_0_0 26 rfl rfl)
theorem dX12_qKind_77 : decode cX12_qKind 77 = .ok (.iload_n 1, 1) := q_iload_n1 (bat_get dg_X12_qKind_0_0 27 rfl rfl)
theorem dX12_qKind_78 : decode cX12_qKind 78 = .ok (.iconst 5, 1) := q_iconst5 (bat_get dg_X12_qKind_0_0 28 rfl rfl)
theorem dX12_qKind_79 : decode cX12_qKind 79 = .ok (.if_icmp .ne 11, 3) := q_if_icmp_ne (bat_get dg_X12_qKind_0_0 29 rfl rfl) rfl
theorem dX12_qKind_82 : decode cX12_qKind 82 = .ok (.aload_n 0, 1) := q_aload_n0 (bat_get dg_X12_qKind_0_0 30 rfl rfl)
theorem dX12_qKind_83 : decode cX12_qKind 83 = .ok (.aload_n 0, 1) := q_aload_n0 (bat_get dg_X12_qKind_0_0 31 rfl rfl)
theorem dX12_qKind_84 : decode cX12_qKind 84 = .ok (.getfield 129, 3) := q_getfield (bat_get dg_X12_qKind_0_0 32 rfl rfl) rfl
theorem dX12_qKind_87 : decode cX12_qKind 87 = .ok (.invokevirtual 245, 3) := q_invokevirtual (bat_get dg_X12_qKind_0_0 33 rfl rfl) rfl
theorem dX12_qKind_90 : decode cX12_qKind 90 = .ok (.iload_n 1, 1) := q_iload_n1 (bat_get dg_X12_qKind_0_0 34 rfl rfl)
theorem dX12_qKind_91 : decode cX12_qKind 91 = .ok (.ireturn, 1) := q_ireturn (bat_get dg_X12_qKind_0_0 35 rfl rfl)
theorem dX12_qKind_71 : decode cX12_qKind 71 = .ok (.iconst 4, 1) := q_iconst4 (bat_get dg_X12_qKind_0_0 36 rfl rfl)
theorem dX12_qKind_72 : decode cX12_qKind 72 = .ok (.goto 4, 3) := q_goto (bat_get dg_X12_qKind_0_0 37 rfl rfl) rfl
theorem dX12_qKind_56 : decode cX12_qKind 56 = .ok (.iconst 3, 1) := q_iconst3 (bat_get dg_X12_qKind_0_0 38 rfl rfl)
theorem dX12_qKind_57 : decode cX12_qKind 57 = .ok (.goto 19, 3) := q_goto (bat_get dg_X12_qKind_0_0 39 rfl rfl) rfl
theorem dg_X12_qKind_11_41 : bqL cX12_qKind 11 [(30, [5]), (31, [167, 0, 34]), (15, [4]), (16, [167, 0, 49]), (0, [3]), (1, [167, 0, 64])] = true := by decide +kernel
theorem dX12_qKind_41 : decode cX12_qKind 41 = .ok (.iconst 2, 1) := q_iconst2 (bat_get dg_X12_qKind_11_41 0 rfl rfl)
theorem dX12_qKind_42 : decode cX12_qKind 42 = .ok (.goto 34, 3) := q_goto (bat_get dg_X12_qKind_11_41 1 rfl rfl) rfl
theorem dX12_qKind_26 : decode cX12_qKind 26 = .ok (.iconst 1, 1) := q_iconst1 (bat_get dg_X12_qKind_11_41 2 rfl rfl)
theorem dX12_qKind_27 : decode cX12_qKind 27 = .ok (.goto 49, 3) := q_goto (bat_get dg_X12_qKind_11_41 3 rfl rfl) rfl
theorem dX12_qKind_11 : decode cX12_qKind 11 = .ok (.iconst 0, 1) := q_iconst0 (bat_get dg_X12_qKind_11_41 4 rfl rfl)
theorem dX12_qKind_12 : decode cX12_qKind 12 = .ok (.goto 64, 3) := q_goto (bat_get dg_X12_qKind_11_41 5 rfl rfl) rfl
theorem w_5_214 : (Cond.fieldLink RX12 117 "SameKeeperModel" "lastAsked" "[C") ∈ wsL_law := sk_mem (ck_5 _ (List.mem_of_getElem? (i := 214) rfl)) rfl
theorem w_5_215 : (Cond.fieldLink RX12 120 "SameKeeperModel" "oftenAsked" "[C") ∈ wsL_law := sk_mem (ck_5 _ (List.mem_of_getElem? (i := 215) rfl)) rfl
theorem w_5_216 : (Cond.fieldLink RX12 123 "SameKeeperModel" "totalAsked" "[C") ∈ wsL_law := sk_mem (ck_5 _ (List.mem_of_getElem? (i := 216) rfl)) rfl
theorem w_5_217 : (Cond.fieldLink RX12 126 "SameKeeperModel" "mostAsked" "[C") ∈ wsL_law := sk_mem (ck_5 _ (List.mem_of_getElem? (i := 217) rfl)) rfl
theorem w_5_218 : (Cond.fieldLink RX12 129 "SameKeeperModel" "leastAsked" "[C") ∈ wsL_law := sk_mem (ck_5 _ (List.mem_of_getElem? (i := 218) rfl)) rfl
theorem w_8_170 : (Cond.code yX12_qKind cX12_qKind 2 (some .int)) ∈ wsL_law := sk_mem (ck_8 _ (List.mem_of_getElem? (i := 170) rfl)) rfl
def om_8_e0 : List Bool := true :: true :: true :: false :: false :: false :: false :: false :: []
def om_8_d0 : List Bool := true :: true :: false :: true :: false :: false :: false :: false :: []
def om_8_c8 : List Bool := true :: true :: false :: false :: true :: false :: false :: false :: []
def om_8_c4 : List Bool := true :: true :: false :: false :: false :: true :: false :: false :: []
def om_8_c2 : List Bool := true :: true :: false :: false :: false :: false :: true :: false :: []
def om_8_c1 : List Bool := true :: true :: false :: false :: false :: false :: false :: true :: []
theorem dg_X12_ask_0_0 : bqL cX12_ask 0 [(0, [42]), (1, [180, 1, 46]), (4, [154, 0, 12]), (16, [42]), (17, [42]), (18, [180, 0, 192]), (21, [181, 0, 204]), (24, [42]), (25, [3]), (26, [181, 0, 192]), (29, [42]), (30, [3]), (31, [181, 0, 201]), (34, [42]), (35, [2]), (36, [181, 0, 215]), (39, [42]), (40, [3]), (41, [181, 0, 195]), (44, [42]), (45, [2]), (46, [181, 0, 198]), (49, [42]), (50, [5]), (51, [181, 0, 242]), (54, [42]), (55, [3]), (56, [181, 1, 1]), (59, [42]), (60, [3]), (61, [181, 1, 4]), (64, [42]), (65, [3]), (66, [181, 1, 7]), (69, [42]), (70, [3]), (71, [181, 1, 10]), (74, [42]), (75, [182, 2, 69]), (78, [60])] = true := by decide +kernel
theorem dX12_ask_0 : decode cX12_ask 0 = .ok (.aload_n 0, 1) := q_aload_n0 (bat_get dg_X12_ask_0_0 0 rfl rfl)
theorem dX12_ask_1 : decode cX12_ask 1 = .ok (.getfield 302, 3) := q_getfield (bat_get dg_X12_ask_0_0 1 rfl rfl) rfl
theorem dX12_ask_4 : decode cX12_ask 4 = .ok (.ifCond .ne 12, 3) := q_ifCond_ne (bat_get dg_X12_ask_0_0 2 rfl rfl) rfl
theorem dX12_ask_16 : decode cX12_ask 16 = .ok (.aload_n 0, 1) := q_aload_n0 (bat_get dg_X12_ask_0_0 3 rfl rfl)
theorem dX12_ask_17 : decode cX12_ask 17 = .ok (.aload_n 0, 1) := q_aload_n0 (bat_get dg_X12_ask_0_0 4 rfl rfl)
theorem dX12_ask_18 : decode cX12_ask 18 = .ok (.getfield 192, 3) := q_getfield (bat_get dg_X12_ask_0_0 5 rfl rfl) rfl
theorem dX12_ask_21 : decode cX12_ask 21 = .ok (.putfield 204, 3) := q_putfield (bat_get dg_X12_ask_0_0 6 rfl rfl) rfl
theorem dX12_ask_24 : decode cX12_ask 24 = .ok (.aload_n 0, 1) := q_aload_n0 (bat_get dg_X12_ask_0_0 7 rfl rfl)
theorem dX12_ask_25 : decode cX12_ask 25 = .ok (.iconst 0, 1) := q_iconst0 (bat_get dg_X12_ask_0_0 8 rfl rfl)
theorem dX12_ask_26 : decode cX12_ask 26 = .ok (.putfield 192, 3) := q_putfield (bat_get dg_X12_ask_0_0 9 rfl rfl) rfl
theorem dX12_ask_29 : decode cX12_ask 29 = .ok (.aload_n 0, 1) := q_aload_n0 (bat_get dg_X12_ask_0_0 10 rfl rfl)
theorem dX12_ask_30 : decode cX12_ask 30 = .ok (.iconst 0, 1) := q_iconst0 (bat_get dg_X12_ask_0_0 11 rfl rfl)
theorem dX12_ask_31 : decode cX12_ask 31 = .ok (.putfield 201, 3) := q_putfield (bat_get dg_X12_ask_0_0 12 rfl rfl) rfl
theorem dX12_ask_34 : decode cX12_ask 34 = .ok (.aload_n 0, 1) := q_aload_n0 (bat_get dg_X12_ask_0_0 13 rfl rfl)
theorem dX12_ask_35 : decode cX12_ask 35 = .ok (.iconst (-1), 1) := q_iconstm1 (bat_get dg_X12_ask_0_0 14 rfl rfl)
theorem dX12_ask_36 : decode cX12_ask 36 = .ok (.putfield 215, 3) := q_putfield (bat_get dg_X12_ask_0_0 15 rfl rfl) rfl
theorem dX12_ask_39 : decode cX12_ask 39 = .ok (.aload_n 0, 1) := q_aload_n0 (bat_get dg_X12_ask_0_0 16 rfl rfl)
theorem dX12_ask_40 : decode cX12_ask 40 = .ok (.iconst 0, 1) := q_iconst0 (bat_get dg_X12_ask_0_0 17 rfl rfl)
theorem dX12_ask_41 : decode cX12_ask 41 = .ok (.putfield 195, 3) := q_putfield (bat_get dg_X12_ask_0_0 18 rfl rfl) rfl
theorem dX12_ask_44 : decode cX12_ask 44 = .ok (.aload_n 0, 1) := q_aload_n0 (bat_get dg_X12_ask_0_0 19 rfl rfl)
theorem dX12_ask_45 : decode cX12_ask 45 = .ok (.iconst (-1), 1) := q_iconstm1 (bat_get dg_X12_ask_0_0 20 rfl rfl)
theorem dX12_ask_46 : decode cX12_ask 46 = .ok (.putfield 198, 3) := q_putfield (bat_get dg_X12_ask_0_0 21 rfl rfl) rfl
theorem dX12_ask_49 : decode cX12_ask 49 = .ok (.aload_n 0, 1) := q_aload_n0 (bat_get dg_X12_ask_0_0 22 rfl rfl)
theorem dX12_ask_50 : decode cX12_ask 50 = .ok (.iconst 2, 1) := q_iconst2 (bat_get dg_X12_ask_0_0 23 rfl rfl)
theorem dX12_ask_51 : decode cX12_ask 51 = .ok (.putfield 242, 3) := q_putfield (bat_get dg_X12_ask_0_0 24 rfl rfl) rfl
theorem dX12_ask_54 : decode cX12_ask 54 = .ok (.aload_n 0, 1) := q_aload_n0 (bat_get dg_X12_ask_0_0 25 rfl rfl)
theorem dX12_ask_55 : decode cX12_ask 55 = .ok (.iconst 0, 1) := q_iconst0 (bat_get dg_X12_ask_0_0 26 rfl rfl)
theorem dX12_ask_56 : decode cX12_ask 56 = .ok (.putfield 257, 3) := q_putfield (bat_get dg_X12_ask_0_0 27 rfl rfl) rfl
theorem dX12_ask_59 : decode cX12_ask 59 = .ok (.aload_n 0, 1) := q_aload_n0 (bat_get dg_X12_ask_0_0 28 rfl rfl)
theorem dX12_ask_60 : decode cX12_ask 60 = .ok (.iconst 0, 1) := q_iconst0 (bat_get dg_X12_ask_0_0 29 rfl rfl)
theorem dX12_ask_61 : decode cX12_ask 61 = .ok (.putfield 260, 3) := q_putfield (bat_get dg_X12_ask_0_0 30 rfl rfl) rfl
theorem dX12_ask_64 : decode cX12_ask 64 = .ok (.aload_n 0, 1) := q_aload_n0 (bat_get dg_X12_ask_0_0 31 rfl rfl)
theorem dX12_ask_65 : decode cX12_ask 65 = .ok (.iconst 0, 1) := q_iconst0 (bat_get dg_X12_ask_0_0 32 rfl rfl)
theorem dX12_ask_66 : decode cX12_ask 66 = .ok (.putfield 263, 3) := q_putfield (bat_get dg_X12_ask_0_0 33 rfl rfl) rfl
theorem dX12_ask_69 : decode cX12_ask 69 = .ok (.aload_n 0, 1) := q_aload_n0 (bat_get dg_X12_ask_0_0 34 rfl rfl)
theorem dX12_ask_70 : decode cX12_ask 70 = .ok (.iconst 0, 1) := q_iconst0 (bat_get dg_X12_ask_0_0 35 rfl rfl)
theorem dX12_ask_71 : decode cX12_ask 71 = .ok (.putfield 266, 3) := q_putfield (bat_get dg_X12_ask_0_0 36 rfl rfl) rfl
theorem dX12_ask_74 : decode cX12_ask 74 = .ok (.aload_n 0, 1) := q_aload_n0 (bat_get dg_X12_ask_0_0 37 rfl rfl)
theorem dX12_ask_75 : decode cX12_ask 75 = .ok (.invokevirtual 581, 3) := q_invokevirtual (bat_get dg_X12_ask_0_0 38 rfl rfl) rfl
theorem dX12_ask_78 : decode cX12_ask 78 = .ok (.istore_n 1, 1) := q_istore_n1 (bat_get dg_X12_ask_0_0 39 rfl rfl)
theorem dg_X12_ask_109_109 : bqL cX12_ask 109 [(0, [42]), (1, [180, 0, 195]), (4, [154, 0, 20]), (24, [42]), (25, [42]), (26, [180, 0, 195]), (29, [181, 1, 40]), (32, [42]), (33, [42]), (34, [180, 0, 198]), (37, [181, 0, 13]), (40, [42]), (41, [180, 0, 195]), (44, [153, 0, 7]), (47, [20, 1, 165]), (50, [173]), (7, [42]), (8, [182, 0, 207]), (11, [2]), (12, [159, 0, 12]), (51, [42]), (52, [27]), (53, [5]), (54, [162, 0, 9]), (63, [9]), (64, [181, 2, 63]), (67, [42]), (68, [4]), (69, [181, 2, 66]), (72, [42]), (73, [182, 1, 144]), (76, [42]), (77, [180, 1, 126]), (80, [9]), (81, [148]), (82, [158, 0, 8]), (90, [42]), (91, [5]), (92, [181, 0, 242]), (95, [3])] = true := by decide +kernel
theorem dX12_ask_109 : decode cX12_ask 109 = .ok (.aload_n 0, 1) := q_aload_n0 (bat_get dg_X12_ask_109_109 0 rfl rfl)
theorem dX12_ask_110 : decode cX12_ask 110 = .ok (.getfield 195, 3) := q_getfield (bat_get dg_X12_ask_109_109 1 rfl rfl) rfl
theorem dX12_ask_113 : decode cX12_ask 113 = .ok (.ifCond .ne 20, 3) := q_ifCond_ne (bat_get dg_X12_ask_109_109 2 rfl rfl) rfl
theorem dX12_ask_133 : decode cX12_ask 133 = .ok (.aload_n 0, 1) := q_aload_n0 (bat_get dg_X12_ask_109_109 3 rfl rfl)
theorem dX12_ask_134 : decode cX12_ask 134 = .ok (.aload_n 0, 1) := q_aload_n0 (bat_get dg_X12_ask_109_109 4 rfl rfl)
theorem dX12_ask_135 : decode cX12_ask 135 = .ok (.getfield 195, 3) := q_getfield (bat_get dg_X12_ask_109_109 5 rfl rfl) rfl
theorem dX12_ask_138 : decode cX12_ask 138 = .ok (.putfield 296, 3) := q_putfield (bat_get dg_X12_ask_109_109 6 rfl rfl) rfl
theorem dX12_ask_141 : decode cX12_ask 141 = .ok (.aload_n 0, 1) := q_aload_n0 (bat_get dg_X12_ask_109_109 7 rfl rfl)
theorem dX12_ask_142 : decode cX12_ask 142 = .ok (.aload_n 0, 1) := q_aload_n0 (bat_get dg_X12_ask_109_109 8 rfl rfl)
theorem dX12_ask_143 : decode cX12_ask 143 = .ok (.getfield 198, 3) := q_getfield (bat_get dg_X12_ask_109_109 9 rfl rfl) rfl
theorem dX12_ask_146 : decode cX12_ask 146 = .ok (.putfield 13, 3) := q_putfield (bat_get dg_X12_ask_109_109 10 rfl rfl) rfl
theorem dX12_ask_149 : decode cX12_ask 149 = .ok (.aload_n 0, 1) := q_aload_n0 (bat_get dg_X12_ask_109_109 11 rfl rfl)
theorem dX12_ask_150 : decode cX12_ask 150 = .ok (.getfield 195, 3) := q_getfield (bat_get dg_X12_ask_109_109 12 rfl rfl) rfl
theorem dX12_ask_153 : decode cX12_ask 153 = .ok (.ifCond .eq 7, 3) := q_ifCond_eq (bat_get dg_X12_ask_109_109 13 rfl rfl) rfl
theorem dX12_ask_156 : decode cX12_ask 156 = .ok (.ldc2_w 421, 3) := q_ldc2_w (bat_get dg_X12_ask_109_109 14 rfl rfl) rfl
theorem dX12_ask_159 : decode cX12_ask 159 = .ok (.lreturn, 1) := q_lreturn (bat_get dg_X12_ask_109_109 15 rfl rfl)
theorem dX12_ask_116 : decode cX12_ask 116 = .ok (.aload_n 0, 1) := q_aload_n0 (bat_get dg_X12_ask_109_109 16 rfl rfl)
theorem dX12_ask_117 : decode cX12_ask 117 = .ok (.invokevirtual 207, 3) := q_invokevirtual (bat_get dg_X12_ask_109_109 17 rfl rfl) rfl
