theorem dX12_muteTold_48 : decode cX12_muteTold 48 = .ok (.ifCond .ne 14, 3) := q_ifCond_ne (bat_get dg_X12_muteTold_0_0 15 rfl rfl) rfl
theorem dX12_muteTold_62 : decode cX12_muteTold 62 = .ok (.return_, 1) := q_return_ (bat_get dg_X12_muteTold_0_0 16 rfl rfl)
theorem dX12_muteTold_51 : decode cX12_muteTold 51 = .ok (.aload_n 0, 1) := q_aload_n0 (bat_get dg_X12_muteTold_0_0 17 rfl rfl)
theorem dX12_muteTold_52 : decode cX12_muteTold 52 = .ok (.getfield 51, 3) := q_getfield (bat_get dg_X12_muteTold_0_0 18 rfl rfl) rfl
theorem dX12_muteTold_55 : decode cX12_muteTold 55 = .ok (.iconst 3, 1) := q_iconst3 (bat_get dg_X12_muteTold_0_0 19 rfl rfl)
theorem dX12_muteTold_56 : decode cX12_muteTold 56 = .ok (.iload_n 1, 1) := q_iload_n1 (bat_get dg_X12_muteTold_0_0 20 rfl rfl)
theorem dX12_muteTold_57 : decode cX12_muteTold 57 = .ok (.imul, 1) := q_imul (bat_get dg_X12_muteTold_0_0 21 rfl rfl)
theorem dX12_muteTold_58 : decode cX12_muteTold 58 = .ok (.iconst 2, 1) := q_iconst2 (bat_get dg_X12_muteTold_0_0 22 rfl rfl)
theorem dX12_muteTold_59 : decode cX12_muteTold 59 = .ok (.iadd, 1) := q_iadd (bat_get dg_X12_muteTold_0_0 23 rfl rfl)
theorem dX12_muteTold_60 : decode cX12_muteTold 60 = .ok (.iconst 1, 1) := q_iconst1 (bat_get dg_X12_muteTold_0_0 24 rfl rfl)
theorem dX12_muteTold_61 : decode cX12_muteTold 61 = .ok (.iastore, 1) := q_iastore (bat_get dg_X12_muteTold_0_0 25 rfl rfl)
theorem dX12_muteTold_21 : decode cX12_muteTold 21 = .ok (.aload_n 0, 1) := q_aload_n0 (bat_get dg_X12_muteTold_0_0 26 rfl rfl)
theorem dX12_muteTold_22 : decode cX12_muteTold 22 = .ok (.getfield 51, 3) := q_getfield (bat_get dg_X12_muteTold_0_0 27 rfl rfl) rfl
theorem dX12_muteTold_25 : decode cX12_muteTold 25 = .ok (.iconst 3, 1) := q_iconst3 (bat_get dg_X12_muteTold_0_0 28 rfl rfl)
theorem dX12_muteTold_26 : decode cX12_muteTold 26 = .ok (.iload_n 1, 1) := q_iload_n1 (bat_get dg_X12_muteTold_0_0 29 rfl rfl)
theorem dX12_muteTold_27 : decode cX12_muteTold 27 = .ok (.imul, 1) := q_imul (bat_get dg_X12_muteTold_0_0 30 rfl rfl)
theorem dX12_muteTold_28 : decode cX12_muteTold 28 = .ok (.iconst 2, 1) := q_iconst2 (bat_get dg_X12_muteTold_0_0 31 rfl rfl)
theorem dX12_muteTold_29 : decode cX12_muteTold 29 = .ok (.iadd, 1) := q_iadd (bat_get dg_X12_muteTold_0_0 32 rfl rfl)
theorem dX12_muteTold_30 : decode cX12_muteTold 30 = .ok (.iaload, 1) := q_iaload (bat_get dg_X12_muteTold_0_0 33 rfl rfl)
theorem dX12_muteTold_31 : decode cX12_muteTold 31 = .ok (.iconst 1, 1) := q_iconst1 (bat_get dg_X12_muteTold_0_0 34 rfl rfl)
theorem dX12_muteTold_32 : decode cX12_muteTold 32 = .ok (.if_icmp .ne 12, 3) := q_if_icmp_ne (bat_get dg_X12_muteTold_0_0 35 rfl rfl) rfl
theorem dX12_muteTold_35 : decode cX12_muteTold 35 = .ok (.aload_n 0, 1) := q_aload_n0 (bat_get dg_X12_muteTold_0_0 36 rfl rfl)
theorem dX12_muteTold_36 : decode cX12_muteTold 36 = .ok (.iconst 2, 1) := q_iconst2 (bat_get dg_X12_muteTold_0_0 37 rfl rfl)
theorem dX12_muteTold_37 : decode cX12_muteTold 37 = .ok (.aload_n 0, 1) := q_aload_n0 (bat_get dg_X12_muteTold_0_0 38 rfl rfl)
theorem dX12_muteTold_38 : decode cX12_muteTold 38 = .ok (.getfield 235, 3) := q_getfield (bat_get dg_X12_muteTold_0_0 39 rfl rfl) rfl
theorem dg_X12_muteTold_41_41 : bqL cX12_muteTold 41 [(0, [182, 0, 225])] = true := by decide +kernel
theorem dX12_muteTold_41 : decode cX12_muteTold 41 = .ok (.invokevirtual 225, 3) := q_invokevirtual (bat_get dg_X12_muteTold_41_41 0 rfl rfl) rfl
theorem w_7_22 : (Cond.code yX12_muteTold cX12_muteTold 2 none) ∈ wsL_law := sk_mem (ck_7 _ (List.mem_of_getElem? (i := 22) rfl)) rfl
theorem dg_X12_codesTold_0_0 : bqL cX12_codesTold 0 [(0, [42]), (1, [180, 0, 195]), (4, [154, 0, 19]), (23, [42]), (24, [180, 0, 195]), (27, [153, 0, 4]), (31, [42]), (32, [27]), (33, [4]), (34, [160, 0, 7]), (41, [3]), (42, [181, 0, 242]), (45, [42]), (46, [3]), (47, [181, 1, 1]), (50, [42]), (51, [3]), (52, [181, 1, 4]), (55, [42]), (56, [3]), (57, [181, 1, 7]), (60, [42]), (61, [3]), (62, [181, 1, 10]), (65, [42]), (66, [182, 1, 13]), (69, [42]), (70, [180, 0, 195]), (73, [153, 0, 4]), (77, [42]), (78, [180, 0, 54]), (81, [27]), (82, [42]), (83, [180, 1, 16]), (86, [79]), (87, [3]), (88, [62]), (89, [29]), (90, [42]), (91, [180, 1, 1])] = true := by decide +kernel
theorem dX12_codesTold_0 : decode cX12_codesTold 0 = .ok (.aload_n 0, 1) := q_aload_n0 (bat_get dg_X12_codesTold_0_0 0 rfl rfl)
theorem dX12_codesTold_1 : decode cX12_codesTold 1 = .ok (.getfield 195, 3) := q_getfield (bat_get dg_X12_codesTold_0_0 1 rfl rfl) rfl
theorem dX12_codesTold_4 : decode cX12_codesTold 4 = .ok (.ifCond .ne 19, 3) := q_ifCond_ne (bat_get dg_X12_codesTold_0_0 2 rfl rfl) rfl
theorem dX12_codesTold_23 : decode cX12_codesTold 23 = .ok (.aload_n 0, 1) := q_aload_n0 (bat_get dg_X12_codesTold_0_0 3 rfl rfl)
theorem dX12_codesTold_24 : decode cX12_codesTold 24 = .ok (.getfield 195, 3) := q_getfield (bat_get dg_X12_codesTold_0_0 4 rfl rfl) rfl
theorem dX12_codesTold_27 : decode cX12_codesTold 27 = .ok (.ifCond .eq 4, 3) := q_ifCond_eq (bat_get dg_X12_codesTold_0_0 5 rfl rfl) rfl
theorem dX12_codesTold_31 : decode cX12_codesTold 31 = .ok (.aload_n 0, 1) := q_aload_n0 (bat_get dg_X12_codesTold_0_0 6 rfl rfl)
theorem dX12_codesTold_32 : decode cX12_codesTold 32 = .ok (.iload_n 1, 1) := q_iload_n1 (bat_get dg_X12_codesTold_0_0 7 rfl rfl)
theorem dX12_codesTold_33 : decode cX12_codesTold 33 = .ok (.iconst 1, 1) := q_iconst1 (bat_get dg_X12_codesTold_0_0 8 rfl rfl)
theorem dX12_codesTold_34 : decode cX12_codesTold 34 = .ok (.if_icmp .ne 7, 3) := q_if_icmp_ne (bat_get dg_X12_codesTold_0_0 9 rfl rfl) rfl
theorem dX12_codesTold_41 : decode cX12_codesTold 41 = .ok (.iconst 0, 1) := q_iconst0 (bat_get dg_X12_codesTold_0_0 10 rfl rfl)
theorem dX12_codesTold_42 : decode cX12_codesTold 42 = .ok (.putfield 242, 3) := q_putfield (bat_get dg_X12_codesTold_0_0 11 rfl rfl) rfl
theorem dX12_codesTold_45 : decode cX12_codesTold 45 = .ok (.aload_n 0, 1) := q_aload_n0 (bat_get dg_X12_codesTold_0_0 12 rfl rfl)
theorem dX12_codesTold_46 : decode cX12_codesTold 46 = .ok (.iconst 0, 1) := q_iconst0 (bat_get dg_X12_codesTold_0_0 13 rfl rfl)
theorem dX12_codesTold_47 : decode cX12_codesTold 47 = .ok (.putfield 257, 3) := q_putfield (bat_get dg_X12_codesTold_0_0 14 rfl rfl) rfl
theorem dX12_codesTold_50 : decode cX12_codesTold 50 = .ok (.aload_n 0, 1) := q_aload_n0 (bat_get dg_X12_codesTold_0_0 15 rfl rfl)
theorem dX12_codesTold_51 : decode cX12_codesTold 51 = .ok (.iconst 0, 1) := q_iconst0 (bat_get dg_X12_codesTold_0_0 16 rfl rfl)
theorem dX12_codesTold_52 : decode cX12_codesTold 52 = .ok (.putfield 260, 3) := q_putfield (bat_get dg_X12_codesTold_0_0 17 rfl rfl) rfl
theorem dX12_codesTold_55 : decode cX12_codesTold 55 = .ok (.aload_n 0, 1) := q_aload_n0 (bat_get dg_X12_codesTold_0_0 18 rfl rfl)
theorem dX12_codesTold_56 : decode cX12_codesTold 56 = .ok (.iconst 0, 1) := q_iconst0 (bat_get dg_X12_codesTold_0_0 19 rfl rfl)
theorem dX12_codesTold_57 : decode cX12_codesTold 57 = .ok (.putfield 263, 3) := q_putfield (bat_get dg_X12_codesTold_0_0 20 rfl rfl) rfl
theorem dX12_codesTold_60 : decode cX12_codesTold 60 = .ok (.aload_n 0, 1) := q_aload_n0 (bat_get dg_X12_codesTold_0_0 21 rfl rfl)
theorem dX12_codesTold_61 : decode cX12_codesTold 61 = .ok (.iconst 0, 1) := q_iconst0 (bat_get dg_X12_codesTold_0_0 22 rfl rfl)
theorem dX12_codesTold_62 : decode cX12_codesTold 62 = .ok (.putfield 266, 3) := q_putfield (bat_get dg_X12_codesTold_0_0 23 rfl rfl) rfl
theorem dX12_codesTold_65 : decode cX12_codesTold 65 = .ok (.aload_n 0, 1) := q_aload_n0 (bat_get dg_X12_codesTold_0_0 24 rfl rfl)
theorem dX12_codesTold_66 : decode cX12_codesTold 66 = .ok (.invokevirtual 269, 3) := q_invokevirtual (bat_get dg_X12_codesTold_0_0 25 rfl rfl) rfl
theorem dX12_codesTold_69 : decode cX12_codesTold 69 = .ok (.aload_n 0, 1) := q_aload_n0 (bat_get dg_X12_codesTold_0_0 26 rfl rfl)
theorem dX12_codesTold_70 : decode cX12_codesTold 70 = .ok (.getfield 195, 3) := q_getfield (bat_get dg_X12_codesTold_0_0 27 rfl rfl) rfl
theorem dX12_codesTold_73 : decode cX12_codesTold 73 = .ok (.ifCond .eq 4, 3) := q_ifCond_eq (bat_get dg_X12_codesTold_0_0 28 rfl rfl) rfl
theorem dX12_codesTold_77 : decode cX12_codesTold 77 = .ok (.aload_n 0, 1) := q_aload_n0 (bat_get dg_X12_codesTold_0_0 29 rfl rfl)
theorem dX12_codesTold_78 : decode cX12_codesTold 78 = .ok (.getfield 54, 3) := q_getfield (bat_get dg_X12_codesTold_0_0 30 rfl rfl) rfl
theorem dX12_codesTold_81 : decode cX12_codesTold 81 = .ok (.iload_n 1, 1) := q_iload_n1 (bat_get dg_X12_codesTold_0_0 31 rfl rfl)
theorem dX12_codesTold_82 : decode cX12_codesTold 82 = .ok (.aload_n 0, 1) := q_aload_n0 (bat_get dg_X12_codesTold_0_0 32 rfl rfl)
theorem dX12_codesTold_83 : decode cX12_codesTold 83 = .ok (.getfield 272, 3) := q_getfield (bat_get dg_X12_codesTold_0_0 33 rfl rfl) rfl
theorem dX12_codesTold_86 : decode cX12_codesTold 86 = .ok (.iastore, 1) := q_iastore (bat_get dg_X12_codesTold_0_0 34 rfl rfl)
theorem dX12_codesTold_87 : decode cX12_codesTold 87 = .ok (.iconst 0, 1) := q_iconst0 (bat_get dg_X12_codesTold_0_0 35 rfl rfl)
theorem dX12_codesTold_88 : decode cX12_codesTold 88 = .ok (.istore_n 3, 1) := q_istore_n3 (bat_get dg_X12_codesTold_0_0 36 rfl rfl)
theorem dX12_codesTold_89 : decode cX12_codesTold 89 = .ok (.iload_n 3, 1) := q_iload_n3 (bat_get dg_X12_codesTold_0_0 37 rfl rfl)
theorem dX12_codesTold_90 : decode cX12_codesTold 90 = .ok (.aload_n 0, 1) := q_aload_n0 (bat_get dg_X12_codesTold_0_0 38 rfl rfl)
theorem dX12_codesTold_91 : decode cX12_codesTold 91 = .ok (.getfield 257, 3) := q_getfield (bat_get dg_X12_codesTold_0_0 39 rfl rfl) rfl
theorem dg_X12_codesTold_7_94 : bqL cX12_codesTold 7 [(87, [162, 0, 34]), (121, [42]), (122, [180, 0, 57]), (125, [27]), (126, [42]), (127, [180, 1, 16]), (130, [79]), (131, [177]), (90, [42]), (91, [180, 0, 60]), (94, [42]), (95, [180, 1, 16]), (98, [42]), (99, [180, 0, 180]), (102, [29]), (103, [46]), (104, [79]), (105, [42]), (106, [89]), (107, [180, 1, 16]), (110, [4]), (111, [96]), (112, [181, 1, 16]), (115, [132, 3, 1]), (118, [167, 255, 220]), (69, [177]), (23, [177]), (0, [42]), (1, [180, 0, 54]), (4, [27]), (5, [46]), (6, [2]), (7, [159, 0, 9]), (10, [42]), (11, [8]), (12, [28]), (13, [182, 0, 225])] = true := by decide +kernel
theorem dX12_codesTold_94 : decode cX12_codesTold 94 = .ok (.if_icmp .ge 34, 3) := q_if_icmp_ge (bat_get dg_X12_codesTold_7_94 0 rfl rfl) rfl
theorem dX12_codesTold_128 : decode cX12_codesTold 128 = .ok (.aload_n 0, 1) := q_aload_n0 (bat_get dg_X12_codesTold_7_94 1 rfl rfl)
theorem dX12_codesTold_129 : decode cX12_codesTold 129 = .ok (.getfield 57, 3) := q_getfield (bat_get dg_X12_codesTold_7_94 2 rfl rfl) rfl
theorem dX12_codesTold_132 : decode cX12_codesTold 132 = .ok (.iload_n 1, 1) := q_iload_n1 (bat_get dg_X12_codesTold_7_94 3 rfl rfl)
theorem dX12_codesTold_133 : decode cX12_codesTold 133 = .ok (.aload_n 0, 1) := q_aload_n0 (bat_get dg_X12_codesTold_7_94 4 rfl rfl)
theorem dX12_codesTold_134 : decode cX12_codesTold 134 = .ok (.getfield 272, 3) := q_getfield (bat_get dg_X12_codesTold_7_94 5 rfl rfl) rfl
theorem dX12_codesTold_137 : decode cX12_codesTold 137 = .ok (.iastore, 1) := q_iastore (bat_get dg_X12_codesTold_7_94 6 rfl rfl)
theorem dX12_codesTold_138 : decode cX12_codesTold 138 = .ok (.return_, 1) := q_return_ (bat_get dg_X12_codesTold_7_94 7 rfl rfl)
theorem dX12_codesTold_97 : decode cX12_codesTold 97 = .ok (.aload_n 0, 1) := q_aload_n0 (bat_get dg_X12_codesTold_7_94 8 rfl rfl)
theorem dX12_codesTold_98 : decode cX12_codesTold 98 = .ok (.getfield 60, 3) := q_getfield (bat_get dg_X12_codesTold_7_94 9 rfl rfl) rfl
theorem dX12_codesTold_101 : decode cX12_codesTold 101 = .ok (.aload_n 0, 1) := q_aload_n0 (bat_get dg_X12_codesTold_7_94 10 rfl rfl)
theorem dX12_codesTold_102 : decode cX12_codesTold 102 = .ok (.getfield 272, 3) := q_getfield (bat_get dg_X12_codesTold_7_94 11 rfl rfl) rfl
theorem dX12_codesTold_105 : decode cX12_codesTold 105 = .ok (.aload_n 0, 1) := q_aload_n0 (bat_get dg_X12_codesTold_7_94 12 rfl rfl)
theorem dX12_codesTold_106 : decode cX12_codesTold 106 = .ok (.getfield 180, 3) := q_getfield (bat_get dg_X12_codesTold_7_94 13 rfl rfl) rfl
theorem dX12_codesTold_109 : decode cX12_codesTold 109 = .ok (.iload_n 3, 1) := q_iload_n3 (bat_get dg_X12_codesTold_7_94 14 rfl rfl)
theorem dX12_codesTold_110 : decode cX12_codesTold 110 = .ok (.iaload, 1) := q_iaload (bat_get dg_X12_codesTold_7_94 15 rfl rfl)
theorem dX12_codesTold_111 : decode cX12_codesTold 111 = .ok (.iastore, 1) := q_iastore (bat_get dg_X12_codesTold_7_94 16 rfl rfl)
theorem dX12_codesTold_112 : decode cX12_codesTold 112 = .ok (.aload_n 0, 1) := q_aload_n0 (bat_get dg_X12_codesTold_7_94 17 rfl rfl)
theorem dX12_codesTold_113 : decode cX12_codesTold 113 = .ok (.dup, 1) := q_dup (bat_get dg_X12_codesTold_7_94 18 rfl rfl)
theorem dX12_codesTold_114 : decode cX12_codesTold 114 = .ok (.getfield 272, 3) := q_getfield (bat_get dg_X12_codesTold_7_94 19 rfl rfl) rfl
theorem dX12_codesTold_117 : decode cX12_codesTold 117 = .ok (.iconst 1, 1) := q_iconst1 (bat_get dg_X12_codesTold_7_94 20 rfl rfl)
theorem dX12_codesTold_118 : decode cX12_codesTold 118 = .ok (.iadd, 1) := q_iadd (bat_get dg_X12_codesTold_7_94 21 rfl rfl)
theorem dX12_codesTold_119 : decode cX12_codesTold 119 = .ok (.putfield 272, 3) := q_putfield (bat_get dg_X12_codesTold_7_94 22 rfl rfl) rfl
theorem dX12_codesTold_122 : decode cX12_codesTold 122 = .ok (.iinc 3 1, 3) := q_iinc (bat_get dg_X12_codesTold_7_94 23 rfl rfl) rfl
theorem dX12_codesTold_125 : decode cX12_codesTold 125 = .ok (.goto (-36), 3) := q_goto (bat_get dg_X12_codesTold_7_94 24 rfl rfl) rfl
theorem dX12_codesTold_76 : decode cX12_codesTold 76 = .ok (.return_, 1) := q_return_ (bat_get dg_X12_codesTold_7_94 25 rfl rfl)
theorem dX12_codesTold_30 : decode cX12_codesTold 30 = .ok (.return_, 1) := q_return_ (bat_get dg_X12_codesTold_7_94 26 rfl rfl)
theorem dX12_codesTold_7 : decode cX12_codesTold 7 = .ok (.aload_n 0, 1) := q_aload_n0 (bat_get dg_X12_codesTold_7_94 27 rfl rfl)
theorem dX12_codesTold_8 : decode cX12_codesTold 8 = .ok (.getfield 54, 3) := q_getfield (bat_get dg_X12_codesTold_7_94 28 rfl rfl) rfl
theorem dX12_codesTold_11 : decode cX12_codesTold 11 = .ok (.iload_n 1, 1) := q_iload_n1 (bat_get dg_X12_codesTold_7_94 29 rfl rfl)
theorem dX12_codesTold_12 : decode cX12_codesTold 12 = .ok (.iaload, 1) := q_iaload (bat_get dg_X12_codesTold_7_94 30 rfl rfl)
theorem dX12_codesTold_13 : decode cX12_codesTold 13 = .ok (.iconst (-1), 1) := q_iconstm1 (bat_get dg_X12_codesTold_7_94 31 rfl rfl)
theorem dX12_codesTold_14 : decode cX12_codesTold 14 = .ok (.if_icmp .eq 9, 3) := q_if_icmp_eq (bat_get dg_X12_codesTold_7_94 32 rfl rfl) rfl
theorem dX12_codesTold_17 : decode cX12_codesTold 17 = .ok (.aload_n 0, 1) := q_aload_n0 (bat_get dg_X12_codesTold_7_94 33 rfl rfl)
theorem dX12_codesTold_18 : decode cX12_codesTold 18 = .ok (.iconst 5, 1) := q_iconst5 (bat_get dg_X12_codesTold_7_94 34 rfl rfl)
theorem dX12_codesTold_19 : decode cX12_codesTold 19 = .ok (.iload_n 2, 1) := q_iload_n2 (bat_get dg_X12_codesTold_7_94 35 rfl rfl)
theorem dX12_codesTold_20 : decode cX12_codesTold 20 = .ok (.invokevirtual 225, 3) := q_invokevirtual (bat_get dg_X12_codesTold_7_94 36 rfl rfl) rfl
theorem w_5_182 : (Cond.fieldLink RX12 272 "SameKeeperModel" "coded" "I") ∈ wsL_law := sk_mem (ck_5 _ (List.mem_of_getElem? (i := 182) rfl)) rfl
theorem w_7_26 : (Cond.code yX12_codesTold cX12_codesTold 4 none) ∈ wsL_law := sk_mem (ck_7 _ (List.mem_of_getElem? (i := 26) rfl)) rfl
def om_20_ffff8 : List Bool := true :: true :: true :: true :: true :: true :: true :: true :: true :: true :: true :: true :: true :: true :: true :: true :: true :: false :: false :: false :: []
def om_20_80000 : List Bool := true :: false :: false :: false :: false :: false :: false :: false :: false :: false :: false :: false :: false :: false :: false :: false :: false :: false :: false :: false :: []
theorem dg_X12_codesTold_37_37 : bqL cX12_codesTold 37 [(0, [4]), (1, [167, 0, 4])] = true := by decide +kernel
theorem dX12_codesTold_37 : decode cX12_codesTold 37 = .ok (.iconst 1, 1) := q_iconst1 (bat_get dg_X12_codesTold_37_37 0 rfl rfl)
theorem dX12_codesTold_38 : decode cX12_codesTold 38 = .ok (.goto 4, 3) := q_goto (bat_get dg_X12_codesTold_37_37 1 rfl rfl) rfl

