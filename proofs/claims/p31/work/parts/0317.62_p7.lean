theorem dg_X12_qTest_0_0 : bqL cX12_qTest 0 [(0, [4]), (1, [60]), (2, [27]), (3, [153, 0, 107]), (110, [42]), (111, [180, 0, 195]), (114, [154, 0, 17]), (131, [177]), (117, [42]), (118, [180, 1, 4]), (121, [158, 0, 10]), (124, [42]), (125, [182, 1, 248]), (128, [167, 255, 238]), (6, [42]), (7, [180, 0, 195]), (10, [154, 0, 100]), (13, [42]), (14, [182, 0, 207]), (17, [61]), (18, [28]), (19, [16, 91]), (21, [160, 0, 26]), (47, [42]), (48, [42]), (49, [180, 0, 132]), (52, [182, 0, 218]), (55, [153, 0, 24]), (79, [42]), (80, [182, 2, 28]), (83, [42]), (84, [182, 2, 31]), (87, [42]), (88, [180, 0, 195]), (91, [154, 0, 14]), (105, [3]), (106, [60]), (107, [167, 255, 151]), (94, [42]), (95, [182, 2, 34])] = true := by decide +kernel
theorem dX12_qTest_0 : decode cX12_qTest 0 = .ok (.iconst 1, 1) := q_iconst1 (bat_get dg_X12_qTest_0_0 0 rfl rfl)
theorem dX12_qTest_1 : decode cX12_qTest 1 = .ok (.istore_n 1, 1) := q_istore_n1 (bat_get dg_X12_qTest_0_0 1 rfl rfl)
theorem dX12_qTest_2 : decode cX12_qTest 2 = .ok (.iload_n 1, 1) := q_iload_n1 (bat_get dg_X12_qTest_0_0 2 rfl rfl)
theorem dX12_qTest_3 : decode cX12_qTest 3 = .ok (.ifCond .eq 107, 3) := q_ifCond_eq (bat_get dg_X12_qTest_0_0 3 rfl rfl) rfl
theorem dX12_qTest_110 : decode cX12_qTest 110 = .ok (.aload_n 0, 1) := q_aload_n0 (bat_get dg_X12_qTest_0_0 4 rfl rfl)
theorem dX12_qTest_111 : decode cX12_qTest 111 = .ok (.getfield 195, 3) := q_getfield (bat_get dg_X12_qTest_0_0 5 rfl rfl) rfl
theorem dX12_qTest_114 : decode cX12_qTest 114 = .ok (.ifCond .ne 17, 3) := q_ifCond_ne (bat_get dg_X12_qTest_0_0 6 rfl rfl) rfl
theorem dX12_qTest_131 : decode cX12_qTest 131 = .ok (.return_, 1) := q_return_ (bat_get dg_X12_qTest_0_0 7 rfl rfl)
theorem dX12_qTest_117 : decode cX12_qTest 117 = .ok (.aload_n 0, 1) := q_aload_n0 (bat_get dg_X12_qTest_0_0 8 rfl rfl)
theorem dX12_qTest_118 : decode cX12_qTest 118 = .ok (.getfield 260, 3) := q_getfield (bat_get dg_X12_qTest_0_0 9 rfl rfl) rfl
theorem dX12_qTest_121 : decode cX12_qTest 121 = .ok (.ifCond .le 10, 3) := q_ifCond_le (bat_get dg_X12_qTest_0_0 10 rfl rfl) rfl
theorem dX12_qTest_124 : decode cX12_qTest 124 = .ok (.aload_n 0, 1) := q_aload_n0 (bat_get dg_X12_qTest_0_0 11 rfl rfl)
theorem dX12_qTest_125 : decode cX12_qTest 125 = .ok (.invokevirtual 504, 3) := q_invokevirtual (bat_get dg_X12_qTest_0_0 12 rfl rfl) rfl
theorem dX12_qTest_128 : decode cX12_qTest 128 = .ok (.goto (-18), 3) := q_goto (bat_get dg_X12_qTest_0_0 13 rfl rfl) rfl
theorem dX12_qTest_6 : decode cX12_qTest 6 = .ok (.aload_n 0, 1) := q_aload_n0 (bat_get dg_X12_qTest_0_0 14 rfl rfl)
theorem dX12_qTest_7 : decode cX12_qTest 7 = .ok (.getfield 195, 3) := q_getfield (bat_get dg_X12_qTest_0_0 15 rfl rfl) rfl
theorem dX12_qTest_10 : decode cX12_qTest 10 = .ok (.ifCond .ne 100, 3) := q_ifCond_ne (bat_get dg_X12_qTest_0_0 16 rfl rfl) rfl
theorem dX12_qTest_13 : decode cX12_qTest 13 = .ok (.aload_n 0, 1) := q_aload_n0 (bat_get dg_X12_qTest_0_0 17 rfl rfl)
theorem dX12_qTest_14 : decode cX12_qTest 14 = .ok (.invokevirtual 207, 3) := q_invokevirtual (bat_get dg_X12_qTest_0_0 18 rfl rfl) rfl
theorem dX12_qTest_17 : decode cX12_qTest 17 = .ok (.istore_n 2, 1) := q_istore_n2 (bat_get dg_X12_qTest_0_0 19 rfl rfl)
theorem dX12_qTest_18 : decode cX12_qTest 18 = .ok (.iload_n 2, 1) := q_iload_n2 (bat_get dg_X12_qTest_0_0 20 rfl rfl)
theorem dX12_qTest_19 : decode cX12_qTest 19 = .ok (.bipush 91, 2) := q_bipush (bat_get dg_X12_qTest_0_0 21 rfl rfl) rfl
theorem dX12_qTest_21 : decode cX12_qTest 21 = .ok (.if_icmp .ne 26, 3) := q_if_icmp_ne (bat_get dg_X12_qTest_0_0 22 rfl rfl) rfl
theorem dX12_qTest_47 : decode cX12_qTest 47 = .ok (.aload_n 0, 1) := q_aload_n0 (bat_get dg_X12_qTest_0_0 23 rfl rfl)
theorem dX12_qTest_48 : decode cX12_qTest 48 = .ok (.aload_n 0, 1) := q_aload_n0 (bat_get dg_X12_qTest_0_0 24 rfl rfl)
theorem dX12_qTest_49 : decode cX12_qTest 49 = .ok (.getfield 132, 3) := q_getfield (bat_get dg_X12_qTest_0_0 25 rfl rfl) rfl
theorem dX12_qTest_52 : decode cX12_qTest 52 = .ok (.invokevirtual 218, 3) := q_invokevirtual (bat_get dg_X12_qTest_0_0 26 rfl rfl) rfl
theorem dX12_qTest_55 : decode cX12_qTest 55 = .ok (.ifCond .eq 24, 3) := q_ifCond_eq (bat_get dg_X12_qTest_0_0 27 rfl rfl) rfl
theorem dX12_qTest_79 : decode cX12_qTest 79 = .ok (.aload_n 0, 1) := q_aload_n0 (bat_get dg_X12_qTest_0_0 28 rfl rfl)
theorem dX12_qTest_80 : decode cX12_qTest 80 = .ok (.invokevirtual 540, 3) := q_invokevirtual (bat_get dg_X12_qTest_0_0 29 rfl rfl) rfl
theorem dX12_qTest_83 : decode cX12_qTest 83 = .ok (.aload_n 0, 1) := q_aload_n0 (bat_get dg_X12_qTest_0_0 30 rfl rfl)
theorem dX12_qTest_84 : decode cX12_qTest 84 = .ok (.invokevirtual 543, 3) := q_invokevirtual (bat_get dg_X12_qTest_0_0 31 rfl rfl) rfl
theorem dX12_qTest_87 : decode cX12_qTest 87 = .ok (.aload_n 0, 1) := q_aload_n0 (bat_get dg_X12_qTest_0_0 32 rfl rfl)
theorem dX12_qTest_88 : decode cX12_qTest 88 = .ok (.getfield 195, 3) := q_getfield (bat_get dg_X12_qTest_0_0 33 rfl rfl) rfl
theorem dX12_qTest_91 : decode cX12_qTest 91 = .ok (.ifCond .ne 14, 3) := q_ifCond_ne (bat_get dg_X12_qTest_0_0 34 rfl rfl) rfl
theorem dX12_qTest_105 : decode cX12_qTest 105 = .ok (.iconst 0, 1) := q_iconst0 (bat_get dg_X12_qTest_0_0 35 rfl rfl)
theorem dX12_qTest_106 : decode cX12_qTest 106 = .ok (.istore_n 1, 1) := q_istore_n1 (bat_get dg_X12_qTest_0_0 36 rfl rfl)
theorem dX12_qTest_107 : decode cX12_qTest 107 = .ok (.goto (-105), 3) := q_goto (bat_get dg_X12_qTest_0_0 37 rfl rfl) rfl
theorem dX12_qTest_94 : decode cX12_qTest 94 = .ok (.aload_n 0, 1) := q_aload_n0 (bat_get dg_X12_qTest_0_0 38 rfl rfl)
theorem dX12_qTest_95 : decode cX12_qTest 95 = .ok (.invokevirtual 546, 3) := q_invokevirtual (bat_get dg_X12_qTest_0_0 39 rfl rfl) rfl
theorem dg_X12_qTest_24_98 : bqL cX12_qTest 24 [(74, [153, 0, 7]), (77, [4]), (78, [167, 0, 4]), (34, [42]), (35, [16, 12]), (37, [42]), (38, [180, 0, 201]), (41, [182, 2, 4]), (44, [42]), (45, [42]), (46, [180, 0, 132]), (49, [182, 0, 245]), (52, [167, 255, 182]), (0, [42]), (1, [16, 25]), (3, [42]), (4, [180, 0, 201]), (7, [182, 2, 4]), (10, [42]), (11, [89]), (12, [180, 0, 201]), (15, [4]), (16, [96]), (17, [181, 0, 201]), (20, [167, 255, 214])] = true := by decide +kernel
theorem dX12_qTest_98 : decode cX12_qTest 98 = .ok (.ifCond .eq 7, 3) := q_ifCond_eq (bat_get dg_X12_qTest_24_98 0 rfl rfl) rfl
theorem dX12_qTest_101 : decode cX12_qTest 101 = .ok (.iconst 1, 1) := q_iconst1 (bat_get dg_X12_qTest_24_98 1 rfl rfl)
theorem dX12_qTest_102 : decode cX12_qTest 102 = .ok (.goto 4, 3) := q_goto (bat_get dg_X12_qTest_24_98 2 rfl rfl) rfl
theorem dX12_qTest_58 : decode cX12_qTest 58 = .ok (.aload_n 0, 1) := q_aload_n0 (bat_get dg_X12_qTest_24_98 3 rfl rfl)
theorem dX12_qTest_59 : decode cX12_qTest 59 = .ok (.bipush 12, 2) := q_bipush (bat_get dg_X12_qTest_24_98 4 rfl rfl) rfl
theorem dX12_qTest_61 : decode cX12_qTest 61 = .ok (.aload_n 0, 1) := q_aload_n0 (bat_get dg_X12_qTest_24_98 5 rfl rfl)
theorem dX12_qTest_62 : decode cX12_qTest 62 = .ok (.getfield 201, 3) := q_getfield (bat_get dg_X12_qTest_24_98 6 rfl rfl) rfl
theorem dX12_qTest_65 : decode cX12_qTest 65 = .ok (.invokevirtual 516, 3) := q_invokevirtual (bat_get dg_X12_qTest_24_98 7 rfl rfl) rfl
theorem dX12_qTest_68 : decode cX12_qTest 68 = .ok (.aload_n 0, 1) := q_aload_n0 (bat_get dg_X12_qTest_24_98 8 rfl rfl)
theorem dX12_qTest_69 : decode cX12_qTest 69 = .ok (.aload_n 0, 1) := q_aload_n0 (bat_get dg_X12_qTest_24_98 9 rfl rfl)
theorem dX12_qTest_70 : decode cX12_qTest 70 = .ok (.getfield 132, 3) := q_getfield (bat_get dg_X12_qTest_24_98 10 rfl rfl) rfl
theorem dX12_qTest_73 : decode cX12_qTest 73 = .ok (.invokevirtual 245, 3) := q_invokevirtual (bat_get dg_X12_qTest_24_98 11 rfl rfl) rfl
theorem dX12_qTest_76 : decode cX12_qTest 76 = .ok (.goto (-74), 3) := q_goto (bat_get dg_X12_qTest_24_98 12 rfl rfl) rfl
theorem dX12_qTest_24 : decode cX12_qTest 24 = .ok (.aload_n 0, 1) := q_aload_n0 (bat_get dg_X12_qTest_24_98 13 rfl rfl)
theorem dX12_qTest_25 : decode cX12_qTest 25 = .ok (.bipush 25, 2) := q_bipush (bat_get dg_X12_qTest_24_98 14 rfl rfl) rfl
theorem dX12_qTest_27 : decode cX12_qTest 27 = .ok (.aload_n 0, 1) := q_aload_n0 (bat_get dg_X12_qTest_24_98 15 rfl rfl)
theorem dX12_qTest_28 : decode cX12_qTest 28 = .ok (.getfield 201, 3) := q_getfield (bat_get dg_X12_qTest_24_98 16 rfl rfl) rfl
theorem dX12_qTest_31 : decode cX12_qTest 31 = .ok (.invokevirtual 516, 3) := q_invokevirtual (bat_get dg_X12_qTest_24_98 17 rfl rfl) rfl
theorem dX12_qTest_34 : decode cX12_qTest 34 = .ok (.aload_n 0, 1) := q_aload_n0 (bat_get dg_X12_qTest_24_98 18 rfl rfl)
theorem dX12_qTest_35 : decode cX12_qTest 35 = .ok (.dup, 1) := q_dup (bat_get dg_X12_qTest_24_98 19 rfl rfl)
theorem dX12_qTest_36 : decode cX12_qTest 36 = .ok (.getfield 201, 3) := q_getfield (bat_get dg_X12_qTest_24_98 20 rfl rfl) rfl
theorem dX12_qTest_39 : decode cX12_qTest 39 = .ok (.iconst 1, 1) := q_iconst1 (bat_get dg_X12_qTest_24_98 21 rfl rfl)
theorem dX12_qTest_40 : decode cX12_qTest 40 = .ok (.iadd, 1) := q_iadd (bat_get dg_X12_qTest_24_98 22 rfl rfl)
theorem dX12_qTest_41 : decode cX12_qTest 41 = .ok (.putfield 201, 3) := q_putfield (bat_get dg_X12_qTest_24_98 23 rfl rfl) rfl
theorem dX12_qTest_44 : decode cX12_qTest 44 = .ok (.goto (-42), 3) := q_goto (bat_get dg_X12_qTest_24_98 24 rfl rfl) rfl
theorem w_5_219 : (Cond.fieldLink RX12 132 "SameKeeperModel" "notAsked" "[C") ∈ wsL_law := sk_mem (ck_5 _ (List.mem_of_getElem? (i := 219) rfl)) rfl
theorem w_8_175 : (Cond.methodLink RX12 540 yX12_qFact) ∈ wsL_law := sk_mem (ck_8 _ (List.mem_of_getElem? (i := 175) rfl)) rfl
theorem w_8_177 : (Cond.instanceMethod yX12_qFact) ∈ wsL_law := sk_mem (ck_8 _ (List.mem_of_getElem? (i := 177) rfl)) rfl
theorem w_0_112 : (Cond.selects RX12 yX12_qFact yX12_qFact) ∈ wsL_law := sk_mem (ck_0 _ (List.mem_of_getElem? (i := 112) rfl)) rfl
theorem w_8_183 : (Cond.methodLink RX12 546 yX12_qGoesOnTest) ∈ wsL_law := sk_mem (ck_8 _ (List.mem_of_getElem? (i := 183) rfl)) rfl
theorem w_8_185 : (Cond.instanceMethod yX12_qGoesOnTest) ∈ wsL_law := sk_mem (ck_8 _ (List.mem_of_getElem? (i := 185) rfl)) rfl
theorem w_0_114 : (Cond.selects RX12 yX12_qGoesOnTest yX12_qGoesOnTest) ∈ wsL_law := sk_mem (ck_0 _ (List.mem_of_getElem? (i := 114) rfl)) rfl
theorem w_8_174 : (Cond.code yX12_qTest cX12_qTest 3 none) ∈ wsL_law := sk_mem (ck_8 _ (List.mem_of_getElem? (i := 174) rfl)) rfl
def om_21_160000 : List Bool := true :: false :: true :: true :: false :: false :: false :: false :: false :: false :: false :: false :: false :: false :: false :: false :: false :: false :: false :: false :: false :: []
def om_21_180000 : List Bool := true :: true :: false :: false :: false :: false :: false :: false :: false :: false :: false :: false :: false :: false :: false :: false :: false :: false :: false :: false :: false :: []
def om_21_180004 : List Bool := true :: true :: false :: false :: false :: false :: false :: false :: false :: false :: false :: false :: false :: false :: false :: false :: false :: false :: true :: false :: false :: []
def om_21_1ffff8 : List Bool := true :: true :: true :: true :: true :: true :: true :: true :: true :: true :: true :: true :: true :: true :: true :: true :: true :: true :: false :: false :: false :: []
def om_21_1e0003 : List Bool := true :: true :: true :: true :: false :: false :: false :: false :: false :: false :: false :: false :: false :: false :: false :: false :: false :: false :: false :: true :: true :: []
def om_21_120000 : List Bool := true :: false :: false :: true :: false :: false :: false :: false :: false :: false :: false :: false :: false :: false :: false :: false :: false :: false :: false :: false :: false :: []
theorem hd_X12_qFact_0 : skD yX12_qFact 0 := by decide +kernel
theorem hd_X12_qGoesOnTest_0 : skD yX12_qGoesOnTest 0 := by decide +kernel

