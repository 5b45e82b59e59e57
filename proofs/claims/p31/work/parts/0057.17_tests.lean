theorem w_5_84 : (Cond.methodLink RX5 78 yX6_shuts) ∈ wsL_law := sk_mem (ck_5 _ (List.mem_of_getElem? (i := 84) rfl)) rfl
theorem w_5_85 : (Cond.methodLink RX5 81 yX6_needs) ∈ wsL_law := sk_mem (ck_5 _ (List.mem_of_getElem? (i := 85) rfl)) rfl
theorem w_5_78 : (Cond.methodLink RX5 72 yX5_readFact) ∈ wsL_law := sk_mem (ck_5 _ (List.mem_of_getElem? (i := 78) rfl)) rfl
theorem w_5_80 : (Cond.instanceMethod yX5_readFact) ∈ wsL_law := sk_mem (ck_5 _ (List.mem_of_getElem? (i := 80) rfl)) rfl
theorem w_0_36 : (Cond.selects RX5 yX5_readFact yX5_readFact) ∈ wsL_law := sk_mem (ck_0 _ (List.mem_of_getElem? (i := 36) rfl)) rfl
theorem w_5_81 : (Cond.code yX5_readFact cX5_readFact 2 none) ∈ wsL_law := sk_mem (ck_5 _ (List.mem_of_getElem? (i := 81) rfl)) rfl
def om_7_1c : List Bool := false :: false :: true :: true :: true :: false :: false :: []
def om_7_3f : List Bool := false :: true :: true :: true :: true :: true :: true :: []
def om_7_3 : List Bool := false :: false :: false :: false :: false :: true :: true :: []
def om_7_10 : List Bool := false :: false :: true :: false :: false :: false :: false :: []
def om_7_7f : List Bool := true :: true :: true :: true :: true :: true :: true :: []
theorem hd_X6_takes_1 : skD yX6_takes 1 := by decide +kernel
theorem hd_X5_stepOf_1 : skD yX5_stepOf 1 := by decide +kernel
theorem hd_X5_readTest_0 : skD yX5_readTest 0 := by decide +kernel
theorem hd_X5_readFact_0 : skD yX5_readFact 0 := by decide +kernel
theorem dg_X5_readBoth_0_0 : bqL cX5_readBoth 0 [(0, [42]), (1, [182, 0, 72]), (4, [3]), (5, [60]), (6, [27]), (7, [17, 6, 64]), (10, [162, 0, 36]), (46, [177]), (13, [42]), (14, [180, 0, 24]), (17, [17, 1, 18]), (20, [182, 0, 64]), (23, [153, 0, 23]), (26, [42]), (27, [182, 0, 72]), (30, [42]), (31, [180, 0, 12]), (34, [17, 117, 57]), (37, [182, 0, 68]), (40, [132, 1, 1]), (43, [167, 255, 219])] = true := by decide +kernel
theorem dX5_readBoth_0 : decode cX5_readBoth 0 = .ok (.aload_n 0, 1) := q_aload_n0 (bat_get dg_X5_readBoth_0_0 0 rfl rfl)
theorem dX5_readBoth_1 : decode cX5_readBoth 1 = .ok (.invokevirtual 72, 3) := q_invokevirtual (bat_get dg_X5_readBoth_0_0 1 rfl rfl) rfl
theorem dX5_readBoth_4 : decode cX5_readBoth 4 = .ok (.iconst 0, 1) := q_iconst0 (bat_get dg_X5_readBoth_0_0 2 rfl rfl)
theorem dX5_readBoth_5 : decode cX5_readBoth 5 = .ok (.istore_n 1, 1) := q_istore_n1 (bat_get dg_X5_readBoth_0_0 3 rfl rfl)
theorem dX5_readBoth_6 : decode cX5_readBoth 6 = .ok (.iload_n 1, 1) := q_iload_n1 (bat_get dg_X5_readBoth_0_0 4 rfl rfl)
theorem dX5_readBoth_7 : decode cX5_readBoth 7 = .ok (.sipush 1600, 3) := q_sipush (bat_get dg_X5_readBoth_0_0 5 rfl rfl) rfl
theorem dX5_readBoth_10 : decode cX5_readBoth 10 = .ok (.if_icmp .ge 36, 3) := q_if_icmp_ge (bat_get dg_X5_readBoth_0_0 6 rfl rfl) rfl
theorem dX5_readBoth_46 : decode cX5_readBoth 46 = .ok (.return_, 1) := q_return_ (bat_get dg_X5_readBoth_0_0 7 rfl rfl)
theorem dX5_readBoth_13 : decode cX5_readBoth 13 = .ok (.aload_n 0, 1) := q_aload_n0 (bat_get dg_X5_readBoth_0_0 8 rfl rfl)
theorem dX5_readBoth_14 : decode cX5_readBoth 14 = .ok (.getfield 24, 3) := q_getfield (bat_get dg_X5_readBoth_0_0 9 rfl rfl) rfl
theorem dX5_readBoth_17 : decode cX5_readBoth 17 = .ok (.sipush 274, 3) := q_sipush (bat_get dg_X5_readBoth_0_0 10 rfl rfl) rfl
theorem dX5_readBoth_20 : decode cX5_readBoth 20 = .ok (.invokevirtual 64, 3) := q_invokevirtual (bat_get dg_X5_readBoth_0_0 11 rfl rfl) rfl
theorem dX5_readBoth_23 : decode cX5_readBoth 23 = .ok (.ifCond .eq 23, 3) := q_ifCond_eq (bat_get dg_X5_readBoth_0_0 12 rfl rfl) rfl
theorem dX5_readBoth_26 : decode cX5_readBoth 26 = .ok (.aload_n 0, 1) := q_aload_n0 (bat_get dg_X5_readBoth_0_0 13 rfl rfl)
theorem dX5_readBoth_27 : decode cX5_readBoth 27 = .ok (.invokevirtual 72, 3) := q_invokevirtual (bat_get dg_X5_readBoth_0_0 14 rfl rfl) rfl
theorem dX5_readBoth_30 : decode cX5_readBoth 30 = .ok (.aload_n 0, 1) := q_aload_n0 (bat_get dg_X5_readBoth_0_0 15 rfl rfl)
theorem dX5_readBoth_31 : decode cX5_readBoth 31 = .ok (.getfield 12, 3) := q_getfield (bat_get dg_X5_readBoth_0_0 16 rfl rfl) rfl
theorem dX5_readBoth_34 : decode cX5_readBoth 34 = .ok (.sipush 30009, 3) := q_sipush (bat_get dg_X5_readBoth_0_0 17 rfl rfl) rfl
theorem dX5_readBoth_37 : decode cX5_readBoth 37 = .ok (.invokevirtual 68, 3) := q_invokevirtual (bat_get dg_X5_readBoth_0_0 18 rfl rfl) rfl
theorem dX5_readBoth_40 : decode cX5_readBoth 40 = .ok (.iinc 1 1, 3) := q_iinc (bat_get dg_X5_readBoth_0_0 19 rfl rfl) rfl
theorem dX5_readBoth_43 : decode cX5_readBoth 43 = .ok (.goto (-37), 3) := q_goto (bat_get dg_X5_readBoth_0_0 20 rfl rfl) rfl
theorem w_5_77 : (Cond.code yX5_readBoth cX5_readBoth 2 none) ∈ wsL_law := sk_mem (ck_5 _ (List.mem_of_getElem? (i := 77) rfl)) rfl
theorem dg_X5_readTest_0_0 : bqL cX5_readTest 0 [(0, [42]), (1, [182, 0, 59]), (4, [3]), (5, [60]), (6, [27]), (7, [17, 6, 64]), (10, [162, 0, 36]), (46, [177]), (13, [42]), (14, [180, 0, 24]), (17, [17, 1, 17]), (20, [182, 0, 64]), (23, [153, 0, 23]), (26, [42]), (27, [182, 0, 59]), (30, [42]), (31, [180, 0, 12]), (34, [17, 117, 58]), (37, [182, 0, 68]), (40, [132, 1, 1]), (43, [167, 255, 219])] = true := by decide +kernel
theorem dX5_readTest_0 : decode cX5_readTest 0 = .ok (.aload_n 0, 1) := q_aload_n0 (bat_get dg_X5_readTest_0_0 0 rfl rfl)
theorem dX5_readTest_1 : decode cX5_readTest 1 = .ok (.invokevirtual 59, 3) := q_invokevirtual (bat_get dg_X5_readTest_0_0 1 rfl rfl) rfl
theorem dX5_readTest_4 : decode cX5_readTest 4 = .ok (.iconst 0, 1) := q_iconst0 (bat_get dg_X5_readTest_0_0 2 rfl rfl)
theorem dX5_readTest_5 : decode cX5_readTest 5 = .ok (.istore_n 1, 1) := q_istore_n1 (bat_get dg_X5_readTest_0_0 3 rfl rfl)
theorem dX5_readTest_6 : decode cX5_readTest 6 = .ok (.iload_n 1, 1) := q_iload_n1 (bat_get dg_X5_readTest_0_0 4 rfl rfl)
theorem dX5_readTest_7 : decode cX5_readTest 7 = .ok (.sipush 1600, 3) := q_sipush (bat_get dg_X5_readTest_0_0 5 rfl rfl) rfl
theorem dX5_readTest_10 : decode cX5_readTest 10 = .ok (.if_icmp .ge 36, 3) := q_if_icmp_ge (bat_get dg_X5_readTest_0_0 6 rfl rfl) rfl
theorem dX5_readTest_46 : decode cX5_readTest 46 = .ok (.return_, 1) := q_return_ (bat_get dg_X5_readTest_0_0 7 rfl rfl)
theorem dX5_readTest_13 : decode cX5_readTest 13 = .ok (.aload_n 0, 1) := q_aload_n0 (bat_get dg_X5_readTest_0_0 8 rfl rfl)
theorem dX5_readTest_14 : decode cX5_readTest 14 = .ok (.getfield 24, 3) := q_getfield (bat_get dg_X5_readTest_0_0 9 rfl rfl) rfl
theorem dX5_readTest_17 : decode cX5_readTest 17 = .ok (.sipush 273, 3) := q_sipush (bat_get dg_X5_readTest_0_0 10 rfl rfl) rfl
theorem dX5_readTest_20 : decode cX5_readTest 20 = .ok (.invokevirtual 64, 3) := q_invokevirtual (bat_get dg_X5_readTest_0_0 11 rfl rfl) rfl
theorem dX5_readTest_23 : decode cX5_readTest 23 = .ok (.ifCond .eq 23, 3) := q_ifCond_eq (bat_get dg_X5_readTest_0_0 12 rfl rfl) rfl
theorem dX5_readTest_26 : decode cX5_readTest 26 = .ok (.aload_n 0, 1) := q_aload_n0 (bat_get dg_X5_readTest_0_0 13 rfl rfl)
theorem dX5_readTest_27 : decode cX5_readTest 27 = .ok (.invokevirtual 59, 3) := q_invokevirtual (bat_get dg_X5_readTest_0_0 14 rfl rfl) rfl
theorem dX5_readTest_30 : decode cX5_readTest 30 = .ok (.aload_n 0, 1) := q_aload_n0 (bat_get dg_X5_readTest_0_0 15 rfl rfl)
theorem dX5_readTest_31 : decode cX5_readTest 31 = .ok (.getfield 12, 3) := q_getfield (bat_get dg_X5_readTest_0_0 16 rfl rfl) rfl
theorem dX5_readTest_34 : decode cX5_readTest 34 = .ok (.sipush 30010, 3) := q_sipush (bat_get dg_X5_readTest_0_0 17 rfl rfl) rfl
theorem dX5_readTest_37 : decode cX5_readTest 37 = .ok (.invokevirtual 68, 3) := q_invokevirtual (bat_get dg_X5_readTest_0_0 18 rfl rfl) rfl
theorem dX5_readTest_40 : decode cX5_readTest 40 = .ok (.iinc 1 1, 3) := q_iinc (bat_get dg_X5_readTest_0_0 19 rfl rfl) rfl
theorem dX5_readTest_43 : decode cX5_readTest 43 = .ok (.goto (-37), 3) := q_goto (bat_get dg_X5_readTest_0_0 20 rfl rfl) rfl
theorem w_5_74 : (Cond.methodLink RX5 59 yX5_readBoth) ∈ wsL_law := sk_mem (ck_5 _ (List.mem_of_getElem? (i := 74) rfl)) rfl
theorem w_5_76 : (Cond.instanceMethod yX5_readBoth) ∈ wsL_law := sk_mem (ck_5 _ (List.mem_of_getElem? (i := 76) rfl)) rfl
theorem w_0_35 : (Cond.selects RX5 yX5_readBoth yX5_readBoth) ∈ wsL_law := sk_mem (ck_0 _ (List.mem_of_getElem? (i := 35) rfl)) rfl
theorem hd_X5_readBoth_0 : skD yX5_readBoth 0 := by decide +kernel

