theorem dg_X12_qSums_0_0 : bqL cX12_qSums 0 [(0, [42]), (1, [180, 1, 10]), (4, [60]), (5, [42]), (6, [42]), (7, [180, 1, 4]), (10, [181, 1, 10]), (13, [4]), (14, [61]), (15, [28]), (16, [153, 0, 37]), (53, [42]), (54, [180, 0, 195]), (57, [154, 0, 21]), (78, [42]), (79, [27]), (80, [181, 1, 10]), (83, [177]), (60, [42]), (61, [180, 1, 4]), (64, [42]), (65, [180, 1, 10]), (68, [164, 0, 10]), (71, [42]), (72, [182, 1, 248]), (75, [167, 255, 234]), (19, [42]), (20, [180, 0, 195]), (23, [154, 0, 30]), (26, [42]), (27, [182, 2, 22]), (30, [42]), (31, [180, 0, 195]), (34, [154, 0, 14]), (48, [3]), (49, [61]), (50, [167, 255, 221]), (37, [42]), (38, [182, 2, 25]), (41, [153, 0, 7])] = true := by decide +kernel
theorem dX12_qSums_0 : decode cX12_qSums 0 = .ok (.aload_n 0, 1) := q_aload_n0 (bat_get dg_X12_qSums_0_0 0 rfl rfl)
theorem dX12_qSums_1 : decode cX12_qSums 1 = .ok (.getfield 266, 3) := q_getfield (bat_get dg_X12_qSums_0_0 1 rfl rfl) rfl
theorem dX12_qSums_4 : decode cX12_qSums 4 = .ok (.istore_n 1, 1) := q_istore_n1 (bat_get dg_X12_qSums_0_0 2 rfl rfl)
theorem dX12_qSums_5 : decode cX12_qSums 5 = .ok (.aload_n 0, 1) := q_aload_n0 (bat_get dg_X12_qSums_0_0 3 rfl rfl)
theorem dX12_qSums_6 : decode cX12_qSums 6 = .ok (.aload_n 0, 1) := q_aload_n0 (bat_get dg_X12_qSums_0_0 4 rfl rfl)
theorem dX12_qSums_7 : decode cX12_qSums 7 = .ok (.getfield 260, 3) := q_getfield (bat_get dg_X12_qSums_0_0 5 rfl rfl) rfl
theorem dX12_qSums_10 : decode cX12_qSums 10 = .ok (.putfield 266, 3) := q_putfield (bat_get dg_X12_qSums_0_0 6 rfl rfl) rfl
theorem dX12_qSums_13 : decode cX12_qSums 13 = .ok (.iconst 1, 1) := q_iconst1 (bat_get dg_X12_qSums_0_0 7 rfl rfl)
theorem dX12_qSums_14 : decode cX12_qSums 14 = .ok (.istore_n 2, 1) := q_istore_n2 (bat_get dg_X12_qSums_0_0 8 rfl rfl)
theorem dX12_qSums_15 : decode cX12_qSums 15 = .ok (.iload_n 2, 1) := q_iload_n2 (bat_get dg_X12_qSums_0_0 9 rfl rfl)
theorem dX12_qSums_16 : decode cX12_qSums 16 = .ok (.ifCond .eq 37, 3) := q_ifCond_eq (bat_get dg_X12_qSums_0_0 10 rfl rfl) rfl
theorem dX12_qSums_53 : decode cX12_qSums 53 = .ok (.aload_n 0, 1) := q_aload_n0 (bat_get dg_X12_qSums_0_0 11 rfl rfl)
theorem dX12_qSums_54 : decode cX12_qSums 54 = .ok (.getfield 195, 3) := q_getfield (bat_get dg_X12_qSums_0_0 12 rfl rfl) rfl
theorem dX12_qSums_57 : decode cX12_qSums 57 = .ok (.ifCond .ne 21, 3) := q_ifCond_ne (bat_get dg_X12_qSums_0_0 13 rfl rfl) rfl
theorem dX12_qSums_78 : decode cX12_qSums 78 = .ok (.aload_n 0, 1) := q_aload_n0 (bat_get dg_X12_qSums_0_0 14 rfl rfl)
theorem dX12_qSums_79 : decode cX12_qSums 79 = .ok (.iload_n 1, 1) := q_iload_n1 (bat_get dg_X12_qSums_0_0 15 rfl rfl)
theorem dX12_qSums_80 : decode cX12_qSums 80 = .ok (.putfield 266, 3) := q_putfield (bat_get dg_X12_qSums_0_0 16 rfl rfl) rfl
theorem dX12_qSums_83 : decode cX12_qSums 83 = .ok (.return_, 1) := q_return_ (bat_get dg_X12_qSums_0_0 17 rfl rfl)
theorem dX12_qSums_60 : decode cX12_qSums 60 = .ok (.aload_n 0, 1) := q_aload_n0 (bat_get dg_X12_qSums_0_0 18 rfl rfl)
theorem dX12_qSums_61 : decode cX12_qSums 61 = .ok (.getfield 260, 3) := q_getfield (bat_get dg_X12_qSums_0_0 19 rfl rfl) rfl
theorem dX12_qSums_64 : decode cX12_qSums 64 = .ok (.aload_n 0, 1) := q_aload_n0 (bat_get dg_X12_qSums_0_0 20 rfl rfl)
theorem dX12_qSums_65 : decode cX12_qSums 65 = .ok (.getfield 266, 3) := q_getfield (bat_get dg_X12_qSums_0_0 21 rfl rfl) rfl
theorem dX12_qSums_68 : decode cX12_qSums 68 = .ok (.if_icmp .le 10, 3) := q_if_icmp_le (bat_get dg_X12_qSums_0_0 22 rfl rfl) rfl
theorem dX12_qSums_71 : decode cX12_qSums 71 = .ok (.aload_n 0, 1) := q_aload_n0 (bat_get dg_X12_qSums_0_0 23 rfl rfl)
theorem dX12_qSums_72 : decode cX12_qSums 72 = .ok (.invokevirtual 504, 3) := q_invokevirtual (bat_get dg_X12_qSums_0_0 24 rfl rfl) rfl
theorem dX12_qSums_75 : decode cX12_qSums 75 = .ok (.goto (-22), 3) := q_goto (bat_get dg_X12_qSums_0_0 25 rfl rfl) rfl
theorem dX12_qSums_19 : decode cX12_qSums 19 = .ok (.aload_n 0, 1) := q_aload_n0 (bat_get dg_X12_qSums_0_0 26 rfl rfl)
theorem dX12_qSums_20 : decode cX12_qSums 20 = .ok (.getfield 195, 3) := q_getfield (bat_get dg_X12_qSums_0_0 27 rfl rfl) rfl
theorem dX12_qSums_23 : decode cX12_qSums 23 = .ok (.ifCond .ne 30, 3) := q_ifCond_ne (bat_get dg_X12_qSums_0_0 28 rfl rfl) rfl
theorem dX12_qSums_26 : decode cX12_qSums 26 = .ok (.aload_n 0, 1) := q_aload_n0 (bat_get dg_X12_qSums_0_0 29 rfl rfl)
theorem dX12_qSums_27 : decode cX12_qSums 27 = .ok (.invokevirtual 534, 3) := q_invokevirtual (bat_get dg_X12_qSums_0_0 30 rfl rfl) rfl
theorem dX12_qSums_30 : decode cX12_qSums 30 = .ok (.aload_n 0, 1) := q_aload_n0 (bat_get dg_X12_qSums_0_0 31 rfl rfl)
theorem dX12_qSums_31 : decode cX12_qSums 31 = .ok (.getfield 195, 3) := q_getfield (bat_get dg_X12_qSums_0_0 32 rfl rfl) rfl
theorem dX12_qSums_34 : decode cX12_qSums 34 = .ok (.ifCond .ne 14, 3) := q_ifCond_ne (bat_get dg_X12_qSums_0_0 33 rfl rfl) rfl
theorem dX12_qSums_48 : decode cX12_qSums 48 = .ok (.iconst 0, 1) := q_iconst0 (bat_get dg_X12_qSums_0_0 34 rfl rfl)
theorem dX12_qSums_49 : decode cX12_qSums 49 = .ok (.istore_n 2, 1) := q_istore_n2 (bat_get dg_X12_qSums_0_0 35 rfl rfl)
theorem dX12_qSums_50 : decode cX12_qSums 50 = .ok (.goto (-35), 3) := q_goto (bat_get dg_X12_qSums_0_0 36 rfl rfl) rfl
theorem dX12_qSums_37 : decode cX12_qSums 37 = .ok (.aload_n 0, 1) := q_aload_n0 (bat_get dg_X12_qSums_0_0 37 rfl rfl)
theorem dX12_qSums_38 : decode cX12_qSums 38 = .ok (.invokevirtual 537, 3) := q_invokevirtual (bat_get dg_X12_qSums_0_0 38 rfl rfl) rfl
theorem dX12_qSums_41 : decode cX12_qSums 41 = .ok (.ifCond .eq 7, 3) := q_ifCond_eq (bat_get dg_X12_qSums_0_0 39 rfl rfl) rfl
theorem dg_X12_qSums_44_44 : bqL cX12_qSums 44 [(0, [4]), (1, [167, 0, 4])] = true := by decide +kernel
theorem dX12_qSums_44 : decode cX12_qSums 44 = .ok (.iconst 1, 1) := q_iconst1 (bat_get dg_X12_qSums_44_44 0 rfl rfl)
theorem dX12_qSums_45 : decode cX12_qSums 45 = .ok (.goto 4, 3) := q_goto (bat_get dg_X12_qSums_44_44 1 rfl rfl) rfl
theorem w_7_31 : (Cond.methodLink RX12 534 yX12_qPartTold) ∈ wsL_law := sk_mem (ck_7 _ (List.mem_of_getElem? (i := 31) rfl)) rfl
theorem w_7_33 : (Cond.instanceMethod yX12_qPartTold) ∈ wsL_law := sk_mem (ck_7 _ (List.mem_of_getElem? (i := 33) rfl)) rfl
theorem w_0_55 : (Cond.selects RX12 yX12_qPartTold yX12_qPartTold) ∈ wsL_law := sk_mem (ck_0 _ (List.mem_of_getElem? (i := 55) rfl)) rfl
theorem w_7_67 : (Cond.methodLink RX12 537 yX12_qGoesOn) ∈ wsL_law := sk_mem (ck_7 _ (List.mem_of_getElem? (i := 67) rfl)) rfl
theorem w_7_69 : (Cond.instanceMethod yX12_qGoesOn) ∈ wsL_law := sk_mem (ck_7 _ (List.mem_of_getElem? (i := 69) rfl)) rfl
theorem w_0_64 : (Cond.selects RX12 yX12_qGoesOn yX12_qGoesOn) ∈ wsL_law := sk_mem (ck_0 _ (List.mem_of_getElem? (i := 64) rfl)) rfl
theorem w_7_30 : (Cond.code yX12_qSums cX12_qSums 3 none) ∈ wsL_law := sk_mem (ck_7 _ (List.mem_of_getElem? (i := 30) rfl)) rfl
def om_17_1e000 : List Bool := true :: true :: true :: true :: false :: false :: false :: false :: false :: false :: false :: false :: false :: false :: false :: false :: false :: []
theorem hd_X12_qPartTold_0 : skD yX12_qPartTold 0 := by decide +kernel
theorem hd_X12_qGoesOn_0 : skD yX12_qGoesOn 0 := by decide +kernel

