theorem hd_X0_name_2 : skD yX0_name 2 := by decide +kernel
theorem dg_X9_fillWords_0_0 : bqL cX9_fillWords 0 [(0, [43]), (1, [180, 0, 37]), (4, [78]), (5, [3]), (6, [54, 4]), (8, [21, 4]), (10, [16, 10]), (12, [162, 0, 79]), (91, [177]), (15, [28]), (16, [16, 10]), (18, [104]), (19, [21, 4]), (21, [96]), (22, [54, 5]), (24, [45]), (25, [17, 39, 16]), (28, [21, 4]), (30, [133]), (31, [182, 0, 75]), (34, [42]), (35, [180, 0, 9]), (38, [21, 5]), (40, [45]), (41, [43]), (42, [180, 0, 79]), (45, [3]), (46, [46]), (47, [43]), (48, [180, 0, 82]), (51, [3]), (52, [46]), (53, [182, 0, 85]), (56, [16, 10]), (58, [184, 0, 89]), (61, [79]), (62, [42]), (63, [180, 0, 24]), (66, [21, 5]), (68, [45])] = true := by decide +kernel
theorem dX9_fillWords_0 : decode cX9_fillWords 0 = .ok (.aload_n 1, 1) := q_aload_n1 (bat_get dg_X9_fillWords_0_0 0 rfl rfl)
theorem dX9_fillWords_1 : decode cX9_fillWords 1 = .ok (.getfield 37, 3) := q_getfield (bat_get dg_X9_fillWords_0_0 1 rfl rfl) rfl
theorem dX9_fillWords_4 : decode cX9_fillWords 4 = .ok (.astore_n 3, 1) := q_astore_n3 (bat_get dg_X9_fillWords_0_0 2 rfl rfl)
theorem dX9_fillWords_5 : decode cX9_fillWords 5 = .ok (.iconst 0, 1) := q_iconst0 (bat_get dg_X9_fillWords_0_0 3 rfl rfl)
theorem dX9_fillWords_6 : decode cX9_fillWords 6 = .ok (.istore 4, 2) := q_istore (bat_get dg_X9_fillWords_0_0 4 rfl rfl)
theorem dX9_fillWords_8 : decode cX9_fillWords 8 = .ok (.iload 4, 2) := q_iload (bat_get dg_X9_fillWords_0_0 5 rfl rfl)
theorem dX9_fillWords_10 : decode cX9_fillWords 10 = .ok (.bipush 10, 2) := q_bipush (bat_get dg_X9_fillWords_0_0 6 rfl rfl) rfl
theorem dX9_fillWords_12 : decode cX9_fillWords 12 = .ok (.if_icmp .ge 79, 3) := q_if_icmp_ge (bat_get dg_X9_fillWords_0_0 7 rfl rfl) rfl
theorem dX9_fillWords_91 : decode cX9_fillWords 91 = .ok (.return_, 1) := q_return_ (bat_get dg_X9_fillWords_0_0 8 rfl rfl)
theorem dX9_fillWords_15 : decode cX9_fillWords 15 = .ok (.iload_n 2, 1) := q_iload_n2 (bat_get dg_X9_fillWords_0_0 9 rfl rfl)
theorem dX9_fillWords_16 : decode cX9_fillWords 16 = .ok (.bipush 10, 2) := q_bipush (bat_get dg_X9_fillWords_0_0 10 rfl rfl) rfl
theorem dX9_fillWords_18 : decode cX9_fillWords 18 = .ok (.imul, 1) := q_imul (bat_get dg_X9_fillWords_0_0 11 rfl rfl)
theorem dX9_fillWords_19 : decode cX9_fillWords 19 = .ok (.iload 4, 2) := q_iload (bat_get dg_X9_fillWords_0_0 12 rfl rfl)
theorem dX9_fillWords_21 : decode cX9_fillWords 21 = .ok (.iadd, 1) := q_iadd (bat_get dg_X9_fillWords_0_0 13 rfl rfl)
theorem dX9_fillWords_22 : decode cX9_fillWords 22 = .ok (.istore 5, 2) := q_istore (bat_get dg_X9_fillWords_0_0 14 rfl rfl)
theorem dX9_fillWords_24 : decode cX9_fillWords 24 = .ok (.aload_n 3, 1) := q_aload_n3 (bat_get dg_X9_fillWords_0_0 15 rfl rfl)
theorem dX9_fillWords_25 : decode cX9_fillWords 25 = .ok (.sipush 10000, 3) := q_sipush (bat_get dg_X9_fillWords_0_0 16 rfl rfl) rfl
theorem dX9_fillWords_28 : decode cX9_fillWords 28 = .ok (.iload 4, 2) := q_iload (bat_get dg_X9_fillWords_0_0 17 rfl rfl)
theorem dX9_fillWords_30 : decode cX9_fillWords 30 = .ok (.i2l, 1) := q_i2l (bat_get dg_X9_fillWords_0_0 18 rfl rfl)
theorem dX9_fillWords_31 : decode cX9_fillWords 31 = .ok (.invokevirtual 75, 3) := q_invokevirtual (bat_get dg_X9_fillWords_0_0 19 rfl rfl) rfl
theorem dX9_fillWords_34 : decode cX9_fillWords 34 = .ok (.aload_n 0, 1) := q_aload_n0 (bat_get dg_X9_fillWords_0_0 20 rfl rfl)
theorem dX9_fillWords_35 : decode cX9_fillWords 35 = .ok (.getfield 9, 3) := q_getfield (bat_get dg_X9_fillWords_0_0 21 rfl rfl) rfl
theorem dX9_fillWords_38 : decode cX9_fillWords 38 = .ok (.iload 5, 2) := q_iload (bat_get dg_X9_fillWords_0_0 22 rfl rfl)
theorem dX9_fillWords_40 : decode cX9_fillWords 40 = .ok (.aload_n 3, 1) := q_aload_n3 (bat_get dg_X9_fillWords_0_0 23 rfl rfl)
theorem dX9_fillWords_41 : decode cX9_fillWords 41 = .ok (.aload_n 1, 1) := q_aload_n1 (bat_get dg_X9_fillWords_0_0 24 rfl rfl)
theorem dX9_fillWords_42 : decode cX9_fillWords 42 = .ok (.getfield 79, 3) := q_getfield (bat_get dg_X9_fillWords_0_0 25 rfl rfl) rfl
theorem dX9_fillWords_45 : decode cX9_fillWords 45 = .ok (.iconst 0, 1) := q_iconst0 (bat_get dg_X9_fillWords_0_0 26 rfl rfl)
theorem dX9_fillWords_46 : decode cX9_fillWords 46 = .ok (.iaload, 1) := q_iaload (bat_get dg_X9_fillWords_0_0 27 rfl rfl)
theorem dX9_fillWords_47 : decode cX9_fillWords 47 = .ok (.aload_n 1, 1) := q_aload_n1 (bat_get dg_X9_fillWords_0_0 28 rfl rfl)
theorem dX9_fillWords_48 : decode cX9_fillWords 48 = .ok (.getfield 82, 3) := q_getfield (bat_get dg_X9_fillWords_0_0 29 rfl rfl) rfl
theorem dX9_fillWords_51 : decode cX9_fillWords 51 = .ok (.iconst 0, 1) := q_iconst0 (bat_get dg_X9_fillWords_0_0 30 rfl rfl)
theorem dX9_fillWords_52 : decode cX9_fillWords 52 = .ok (.iaload, 1) := q_iaload (bat_get dg_X9_fillWords_0_0 31 rfl rfl)
theorem dX9_fillWords_53 : decode cX9_fillWords 53 = .ok (.invokevirtual 85, 3) := q_invokevirtual (bat_get dg_X9_fillWords_0_0 32 rfl rfl) rfl
theorem dX9_fillWords_56 : decode cX9_fillWords 56 = .ok (.bipush 10, 2) := q_bipush (bat_get dg_X9_fillWords_0_0 33 rfl rfl) rfl
theorem dX9_fillWords_58 : decode cX9_fillWords 58 = .ok (.invokestatic 89, 3) := q_invokestatic (bat_get dg_X9_fillWords_0_0 34 rfl rfl) rfl
theorem dX9_fillWords_61 : decode cX9_fillWords 61 = .ok (.iastore, 1) := q_iastore (bat_get dg_X9_fillWords_0_0 35 rfl rfl)
theorem dX9_fillWords_62 : decode cX9_fillWords 62 = .ok (.aload_n 0, 1) := q_aload_n0 (bat_get dg_X9_fillWords_0_0 36 rfl rfl)
theorem dX9_fillWords_63 : decode cX9_fillWords 63 = .ok (.getfield 24, 3) := q_getfield (bat_get dg_X9_fillWords_0_0 37 rfl rfl) rfl
theorem dX9_fillWords_66 : decode cX9_fillWords 66 = .ok (.iload 5, 2) := q_iload (bat_get dg_X9_fillWords_0_0 38 rfl rfl)
theorem dX9_fillWords_68 : decode cX9_fillWords 68 = .ok (.aload_n 3, 1) := q_aload_n3 (bat_get dg_X9_fillWords_0_0 39 rfl rfl)
theorem dg_X9_fillWords_69_69 : bqL cX9_fillWords 69 [(0, [43]), (1, [180, 0, 79]), (4, [5]), (5, [46]), (6, [43]), (7, [180, 0, 82]), (10, [5]), (11, [46]), (12, [182, 0, 85]), (15, [80]), (16, [132, 4, 1]), (19, [167, 255, 176])] = true := by decide +kernel
theorem dX9_fillWords_69 : decode cX9_fillWords 69 = .ok (.aload_n 1, 1) := q_aload_n1 (bat_get dg_X9_fillWords_69_69 0 rfl rfl)
theorem dX9_fillWords_70 : decode cX9_fillWords 70 = .ok (.getfield 79, 3) := q_getfield (bat_get dg_X9_fillWords_69_69 1 rfl rfl) rfl
theorem dX9_fillWords_73 : decode cX9_fillWords 73 = .ok (.iconst 2, 1) := q_iconst2 (bat_get dg_X9_fillWords_69_69 2 rfl rfl)
theorem dX9_fillWords_74 : decode cX9_fillWords 74 = .ok (.iaload, 1) := q_iaload (bat_get dg_X9_fillWords_69_69 3 rfl rfl)
theorem dX9_fillWords_75 : decode cX9_fillWords 75 = .ok (.aload_n 1, 1) := q_aload_n1 (bat_get dg_X9_fillWords_69_69 4 rfl rfl)
theorem dX9_fillWords_76 : decode cX9_fillWords 76 = .ok (.getfield 82, 3) := q_getfield (bat_get dg_X9_fillWords_69_69 5 rfl rfl) rfl
theorem dX9_fillWords_79 : decode cX9_fillWords 79 = .ok (.iconst 2, 1) := q_iconst2 (bat_get dg_X9_fillWords_69_69 6 rfl rfl)
theorem dX9_fillWords_80 : decode cX9_fillWords 80 = .ok (.iaload, 1) := q_iaload (bat_get dg_X9_fillWords_69_69 7 rfl rfl)
theorem dX9_fillWords_81 : decode cX9_fillWords 81 = .ok (.invokevirtual 85, 3) := q_invokevirtual (bat_get dg_X9_fillWords_69_69 8 rfl rfl) rfl
theorem dX9_fillWords_84 : decode cX9_fillWords 84 = .ok (.lastore, 1) := q_lastore (bat_get dg_X9_fillWords_69_69 9 rfl rfl)
theorem dX9_fillWords_85 : decode cX9_fillWords 85 = .ok (.iinc 4 1, 3) := q_iinc (bat_get dg_X9_fillWords_69_69 10 rfl rfl) rfl
theorem dX9_fillWords_88 : decode cX9_fillWords 88 = .ok (.goto (-80), 3) := q_goto (bat_get dg_X9_fillWords_69_69 11 rfl rfl) rfl
theorem w_1_176 : (Cond.fieldLink RX9 37 "SameKeeper$Lock" "code" "LSameKeeper$Code;") ∈ wsL_law := sk_mem (ck_1 _ (List.mem_of_getElem? (i := 176) rfl)) rfl
theorem w_1_185 : (Cond.fieldLink RX9 79 "SameKeeper$Lock" "from" "[I") ∈ wsL_law := sk_mem (ck_1 _ (List.mem_of_getElem? (i := 185) rfl)) rfl
theorem w_1_187 : (Cond.fieldLink RX9 82 "SameKeeper$Lock" "to" "[I") ∈ wsL_law := sk_mem (ck_1 _ (List.mem_of_getElem? (i := 187) rfl)) rfl
theorem w_3_220 : (Cond.methodLink RX9 85 yX0_run) ∈ wsL_law := sk_mem (ck_3 _ (List.mem_of_getElem? (i := 220) rfl)) rfl
theorem w_3_221 : (Cond.instanceMethod yX0_run) ∈ wsL_law := sk_mem (ck_3 _ (List.mem_of_getElem? (i := 221) rfl)) rfl
theorem w_3_222 : (Cond.selects RX0 yX0_run yX0_run) ∈ wsL_law := sk_mem (ck_3 _ (List.mem_of_getElem? (i := 222) rfl)) rfl
theorem w_4_7 : (Cond.methodLink RX9 89 yJ9_floorMod_1978a) ∈ wsL_law := sk_mem (ck_4 _ (List.mem_of_getElem? (i := 7) rfl)) rfl
theorem w_4_8 : (Cond.static yJ9_floorMod_1978a) ∈ wsL_law := sk_mem (ck_4 _ (List.mem_of_getElem? (i := 8) rfl)) rfl
theorem w_2_72 : (Cond.fieldLink RX9 24 "SameKeeper$Table" "wages" "[J") ∈ wsL_law := sk_mem (ck_2 _ (List.mem_of_getElem? (i := 72) rfl)) rfl
theorem w_3_219 : (Cond.code yX9_fillWords cX9_fillWords 6 none) ∈ wsL_law := sk_mem (ck_3 _ (List.mem_of_getElem? (i := 219) rfl)) rfl
def om_11_48 : List Bool := false :: false :: false :: false :: true :: false :: false :: true :: false :: false :: false :: []
def om_11_7c : List Bool := false :: false :: false :: false :: true :: true :: true :: true :: true :: false :: false :: []
theorem hd_X0_run_2 : skD yX0_run 2 := by decide +kernel
theorem hd_J9_floorMod_1978a_2 : skD yJ9_floorMod_1978a 2 := by decide +kernel
theorem dg_X9_fillDeeds_0_0 : bqL cX9_fillDeeds 0 [(0, [43]), (1, [180, 0, 37]), (4, [78]), (5, [43]), (6, [180, 0, 79]), (9, [4]), (10, [46]), (11, [54, 4]), (13, [43]), (14, [180, 0, 82]), (17, [4]), (18, [46]), (19, [54, 5]), (21, [3]), (22, [54, 6]), (24, [21, 6]), (26, [16, 10]), (28, [162, 0, 139]), (167, [177]), (31, [28]), (32, [16, 10]), (34, [104]), (35, [21, 6]), (37, [96]), (38, [54, 7]), (40, [45]), (41, [17, 39, 16]), (44, [21, 6]), (46, [133]), (47, [182, 0, 75]), (50, [45]), (51, [17, 39, 22]), (54, [10]), (55, [182, 0, 75]), (58, [45]), (59, [17, 39, 21]), (62, [9]), (63, [182, 0, 75]), (66, [42]), (67, [180, 0, 18])] = true := by decide +kernel
theorem dX9_fillDeeds_0 : decode cX9_fillDeeds 0 = .ok (.aload_n 1, 1) := q_aload_n1 (bat_get dg_X9_fillDeeds_0_0 0 rfl rfl)
theorem dX9_fillDeeds_1 : decode cX9_fillDeeds 1 = .ok (.getfield 37, 3) := q_getfield (bat_get dg_X9_fillDeeds_0_0 1 rfl rfl) rfl
theorem dX9_fillDeeds_4 : decode cX9_fillDeeds 4 = .ok (.astore_n 3, 1) := q_astore_n3 (bat_get dg_X9_fillDeeds_0_0 2 rfl rfl)
theorem dX9_fillDeeds_5 : decode cX9_fillDeeds 5 = .ok (.aload_n 1, 1) := q_aload_n1 (bat_get dg_X9_fillDeeds_0_0 3 rfl rfl)
theorem dX9_fillDeeds_6 : decode cX9_fillDeeds 6 = .ok (.getfield 79, 3) := q_getfield (bat_get dg_X9_fillDeeds_0_0 4 rfl rfl) rfl
theorem dX9_fillDeeds_9 : decode cX9_fillDeeds 9 = .ok (.iconst 1, 1) := q_iconst1 (bat_get dg_X9_fillDeeds_0_0 5 rfl rfl)
theorem dX9_fillDeeds_10 : decode cX9_fillDeeds 10 = .ok (.iaload, 1) := q_iaload (bat_get dg_X9_fillDeeds_0_0 6 rfl rfl)
theorem dX9_fillDeeds_11 : decode cX9_fillDeeds 11 = .ok (.istore 4, 2) := q_istore (bat_get dg_X9_fillDeeds_0_0 7 rfl rfl)
theorem dX9_fillDeeds_13 : decode cX9_fillDeeds 13 = .ok (.aload_n 1, 1) := q_aload_n1 (bat_get dg_X9_fillDeeds_0_0 8 rfl rfl)
theorem dX9_fillDeeds_14 : decode cX9_fillDeeds 14 = .ok (.getfield 82, 3) := q_getfield (bat_get dg_X9_fillDeeds_0_0 9 rfl rfl) rfl
theorem dX9_fillDeeds_17 : decode cX9_fillDeeds 17 = .ok (.iconst 1, 1) := q_iconst1 (bat_get dg_X9_fillDeeds_0_0 10 rfl rfl)
theorem dX9_fillDeeds_18 : decode cX9_fillDeeds 18 = .ok (.iaload, 1) := q_iaload (bat_get dg_X9_fillDeeds_0_0 11 rfl rfl)
theorem dX9_fillDeeds_19 : decode cX9_fillDeeds 19 = .ok (.istore 5, 2) := q_istore (bat_get dg_X9_fillDeeds_0_0 12 rfl rfl)
theorem dX9_fillDeeds_21 : decode cX9_fillDeeds 21 = .ok (.iconst 0, 1) := q_iconst0 (bat_get dg_X9_fillDeeds_0_0 13 rfl rfl)
theorem dX9_fillDeeds_22 : decode cX9_fillDeeds 22 = .ok (.istore 6, 2) := q_istore (bat_get dg_X9_fillDeeds_0_0 14 rfl rfl)
theorem dX9_fillDeeds_24 : decode cX9_fillDeeds 24 = .ok (.iload 6, 2) := q_iload (bat_get dg_X9_fillDeeds_0_0 15 rfl rfl)
theorem dX9_fillDeeds_26 : decode cX9_fillDeeds 26 = .ok (.bipush 10, 2) := q_bipush (bat_get dg_X9_fillDeeds_0_0 16 rfl rfl) rfl
theorem dX9_fillDeeds_28 : decode cX9_fillDeeds 28 = .ok (.if_icmp .ge 139, 3) := q_if_icmp_ge (bat_get dg_X9_fillDeeds_0_0 17 rfl rfl) rfl
theorem dX9_fillDeeds_167 : decode cX9_fillDeeds 167 = .ok (.return_, 1) := q_return_ (bat_get dg_X9_fillDeeds_0_0 18 rfl rfl)
theorem dX9_fillDeeds_31 : decode cX9_fillDeeds 31 = .ok (.iload_n 2, 1) := q_iload_n2 (bat_get dg_X9_fillDeeds_0_0 19 rfl rfl)
theorem dX9_fillDeeds_32 : decode cX9_fillDeeds 32 = .ok (.bipush 10, 2) := q_bipush (bat_get dg_X9_fillDeeds_0_0 20 rfl rfl) rfl
theorem dX9_fillDeeds_34 : decode cX9_fillDeeds 34 = .ok (.imul, 1) := q_imul (bat_get dg_X9_fillDeeds_0_0 21 rfl rfl)
theorem dX9_fillDeeds_35 : decode cX9_fillDeeds 35 = .ok (.iload 6, 2) := q_iload (bat_get dg_X9_fillDeeds_0_0 22 rfl rfl)
theorem dX9_fillDeeds_37 : decode cX9_fillDeeds 37 = .ok (.iadd, 1) := q_iadd (bat_get dg_X9_fillDeeds_0_0 23 rfl rfl)
theorem dX9_fillDeeds_38 : decode cX9_fillDeeds 38 = .ok (.istore 7, 2) := q_istore (bat_get dg_X9_fillDeeds_0_0 24 rfl rfl)
theorem dX9_fillDeeds_40 : decode cX9_fillDeeds 40 = .ok (.aload_n 3, 1) := q_aload_n3 (bat_get dg_X9_fillDeeds_0_0 25 rfl rfl)
theorem dX9_fillDeeds_41 : decode cX9_fillDeeds 41 = .ok (.sipush 10000, 3) := q_sipush (bat_get dg_X9_fillDeeds_0_0 26 rfl rfl) rfl
theorem dX9_fillDeeds_44 : decode cX9_fillDeeds 44 = .ok (.iload 6, 2) := q_iload (bat_get dg_X9_fillDeeds_0_0 27 rfl rfl)
theorem dX9_fillDeeds_46 : decode cX9_fillDeeds 46 = .ok (.i2l, 1) := q_i2l (bat_get dg_X9_fillDeeds_0_0 28 rfl rfl)
theorem dX9_fillDeeds_47 : decode cX9_fillDeeds 47 = .ok (.invokevirtual 75, 3) := q_invokevirtual (bat_get dg_X9_fillDeeds_0_0 29 rfl rfl) rfl
theorem dX9_fillDeeds_50 : decode cX9_fillDeeds 50 = .ok (.aload_n 3, 1) := q_aload_n3 (bat_get dg_X9_fillDeeds_0_0 30 rfl rfl)
theorem dX9_fillDeeds_51 : decode cX9_fillDeeds 51 = .ok (.sipush 10006, 3) := q_sipush (bat_get dg_X9_fillDeeds_0_0 31 rfl rfl) rfl
theorem dX9_fillDeeds_54 : decode cX9_fillDeeds 54 = .ok (.lconst 1, 1) := q_lconst1 (bat_get dg_X9_fillDeeds_0_0 32 rfl rfl)
theorem dX9_fillDeeds_55 : decode cX9_fillDeeds 55 = .ok (.invokevirtual 75, 3) := q_invokevirtual (bat_get dg_X9_fillDeeds_0_0 33 rfl rfl) rfl
theorem dX9_fillDeeds_58 : decode cX9_fillDeeds 58 = .ok (.aload_n 3, 1) := q_aload_n3 (bat_get dg_X9_fillDeeds_0_0 34 rfl rfl)
theorem dX9_fillDeeds_59 : decode cX9_fillDeeds 59 = .ok (.sipush 10005, 3) := q_sipush (bat_get dg_X9_fillDeeds_0_0 35 rfl rfl) rfl
theorem dX9_fillDeeds_62 : decode cX9_fillDeeds 62 = .ok (.lconst 0, 1) := q_lconst0 (bat_get dg_X9_fillDeeds_0_0 36 rfl rfl)
theorem dX9_fillDeeds_63 : decode cX9_fillDeeds 63 = .ok (.invokevirtual 75, 3) := q_invokevirtual (bat_get dg_X9_fillDeeds_0_0 37 rfl rfl) rfl
theorem dX9_fillDeeds_66 : decode cX9_fillDeeds 66 = .ok (.aload_n 0, 1) := q_aload_n0 (bat_get dg_X9_fillDeeds_0_0 38 rfl rfl)
theorem dX9_fillDeeds_67 : decode cX9_fillDeeds 67 = .ok (.getfield 18, 3) := q_getfield (bat_get dg_X9_fillDeeds_0_0 39 rfl rfl) rfl
theorem dg_X9_fillDeeds_70_70 : bqL cX9_fillDeeds 70 [(0, [21, 7]), (2, [45]), (3, [21, 4]), (5, [21, 5]), (7, [182, 0, 85]), (10, [16, 10]), (12, [184, 0, 89]), (15, [79]), (16, [45]), (17, [17, 39, 22]), (20, [9]), (21, [182, 0, 75]), (24, [3]), (25, [54, 8]), (27, [21, 8]), (29, [16, 10]), (31, [162, 0, 45]), (76, [42]), (77, [180, 0, 21]), (80, [21, 7]), (82, [42]), (83, [28]), (84, [21, 6]), (86, [3]), (87, [182, 0, 95]), (90, [79]), (91, [132, 6, 1]), (94, [167, 255, 116]), (34, [45]), (35, [17, 39, 21]), (38, [21, 8]), (40, [133]), (41, [182, 0, 75]), (44, [42]), (45, [180, 0, 15]), (48, [21, 7]), (50, [16, 10]), (52, [104]), (53, [21, 8]), (55, [96])] = true := by decide +kernel
theorem dX9_fillDeeds_70 : decode cX9_fillDeeds 70 = .ok (.iload 7, 2) := q_iload (bat_get dg_X9_fillDeeds_70_70 0 rfl rfl)
theorem dX9_fillDeeds_72 : decode cX9_fillDeeds 72 = .ok (.aload_n 3, 1) := q_aload_n3 (bat_get dg_X9_fillDeeds_70_70 1 rfl rfl)
