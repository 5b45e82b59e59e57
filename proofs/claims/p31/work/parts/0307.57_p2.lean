theorem dX12_qBracket_0 : decode cX12_qBracket 0 = .ok (.aload_n 0, 1) := q_aload_n0 (bat_get dg_X12_qBracket_0_0 0 rfl rfl)
theorem dX12_qBracket_1 : decode cX12_qBracket 1 = .ok (.getfield 260, 3) := q_getfield (bat_get dg_X12_qBracket_0_0 1 rfl rfl) rfl
theorem dX12_qBracket_4 : decode cX12_qBracket 4 = .ok (.iconst 1, 1) := q_iconst1 (bat_get dg_X12_qBracket_0_0 2 rfl rfl)
theorem dX12_qBracket_5 : decode cX12_qBracket 5 = .ok (.isub, 1) := q_isub (bat_get dg_X12_qBracket_0_0 3 rfl rfl)
theorem dX12_qBracket_6 : decode cX12_qBracket 6 = .ok (.istore_n 1, 1) := q_istore_n1 (bat_get dg_X12_qBracket_0_0 4 rfl rfl)
theorem dX12_qBracket_7 : decode cX12_qBracket 7 = .ok (.iload_n 1, 1) := q_iload_n1 (bat_get dg_X12_qBracket_0_0 5 rfl rfl)
theorem dX12_qBracket_8 : decode cX12_qBracket 8 = .ok (.aload_n 0, 1) := q_aload_n0 (bat_get dg_X12_qBracket_0_0 6 rfl rfl)
theorem dX12_qBracket_9 : decode cX12_qBracket 9 = .ok (.getfield 266, 3) := q_getfield (bat_get dg_X12_qBracket_0_0 7 rfl rfl) rfl
theorem dX12_qBracket_12 : decode cX12_qBracket 12 = .ok (.if_icmp .lt 21, 3) := q_if_icmp_lt (bat_get dg_X12_qBracket_0_0 8 rfl rfl) rfl
theorem dX12_qBracket_33 : decode cX12_qBracket 33 = .ok (.iload_n 1, 1) := q_iload_n1 (bat_get dg_X12_qBracket_0_0 9 rfl rfl)
theorem dX12_qBracket_34 : decode cX12_qBracket 34 = .ok (.aload_n 0, 1) := q_aload_n0 (bat_get dg_X12_qBracket_0_0 10 rfl rfl)
theorem dX12_qBracket_35 : decode cX12_qBracket 35 = .ok (.getfield 266, 3) := q_getfield (bat_get dg_X12_qBracket_0_0 11 rfl rfl) rfl
theorem dX12_qBracket_38 : decode cX12_qBracket 38 = .ok (.if_icmp .lt 12, 3) := q_if_icmp_lt (bat_get dg_X12_qBracket_0_0 12 rfl rfl) rfl
theorem dX12_qBracket_50 : decode cX12_qBracket 50 = .ok (.iconst (-1), 1) := q_iconstm1 (bat_get dg_X12_qBracket_0_0 13 rfl rfl)
theorem dX12_qBracket_51 : decode cX12_qBracket 51 = .ok (.ireturn, 1) := q_ireturn (bat_get dg_X12_qBracket_0_0 14 rfl rfl)
theorem dX12_qBracket_15 : decode cX12_qBracket 15 = .ok (.aload_n 0, 1) := q_aload_n0 (bat_get dg_X12_qBracket_0_0 15 rfl rfl)
theorem dX12_qBracket_16 : decode cX12_qBracket 16 = .ok (.getfield 183, 3) := q_getfield (bat_get dg_X12_qBracket_0_0 16 rfl rfl) rfl
theorem dX12_qBracket_19 : decode cX12_qBracket 19 = .ok (.iload_n 1, 1) := q_iload_n1 (bat_get dg_X12_qBracket_0_0 17 rfl rfl)
theorem dX12_qBracket_20 : decode cX12_qBracket 20 = .ok (.iaload, 1) := q_iaload (bat_get dg_X12_qBracket_0_0 18 rfl rfl)
theorem dX12_qBracket_21 : decode cX12_qBracket 21 = .ok (.invokestatic 501, 3) := q_invokestatic (bat_get dg_X12_qBracket_0_0 19 rfl rfl) rfl
theorem dX12_qBracket_24 : decode cX12_qBracket 24 = .ok (.ifCond .ne 9, 3) := q_ifCond_ne (bat_get dg_X12_qBracket_0_0 20 rfl rfl) rfl
theorem dX12_qBracket_41 : decode cX12_qBracket 41 = .ok (.aload_n 0, 1) := q_aload_n0 (bat_get dg_X12_qBracket_0_0 21 rfl rfl)
theorem dX12_qBracket_42 : decode cX12_qBracket 42 = .ok (.getfield 183, 3) := q_getfield (bat_get dg_X12_qBracket_0_0 22 rfl rfl) rfl
theorem dX12_qBracket_45 : decode cX12_qBracket 45 = .ok (.iload_n 1, 1) := q_iload_n1 (bat_get dg_X12_qBracket_0_0 23 rfl rfl)
theorem dX12_qBracket_46 : decode cX12_qBracket 46 = .ok (.iaload, 1) := q_iaload (bat_get dg_X12_qBracket_0_0 24 rfl rfl)
theorem dX12_qBracket_47 : decode cX12_qBracket 47 = .ok (.goto 4, 3) := q_goto (bat_get dg_X12_qBracket_0_0 25 rfl rfl) rfl
theorem dX12_qBracket_27 : decode cX12_qBracket 27 = .ok (.iinc 1 (-1), 3) := q_iinc (bat_get dg_X12_qBracket_0_0 26 rfl rfl) rfl
theorem dX12_qBracket_30 : decode cX12_qBracket 30 = .ok (.goto (-23), 3) := q_goto (bat_get dg_X12_qBracket_0_0 27 rfl rfl) rfl
theorem w_6_0 : (Cond.fieldLink RX12 266 "SameKeeperModel" "qBase" "I") ∈ wsL_law := sk_mem (ck_6 _ (List.mem_of_getElem? (i := 0) rfl)) rfl
theorem w_7_75 : (Cond.methodLink RX12 501 yX12_qIsBracket) ∈ wsL_law := sk_mem (ck_7 _ (List.mem_of_getElem? (i := 75) rfl)) rfl
theorem w_7_76 : (Cond.static yX12_qIsBracket) ∈ wsL_law := sk_mem (ck_7 _ (List.mem_of_getElem? (i := 76) rfl)) rfl
theorem w_7_74 : (Cond.code yX12_qBracket cX12_qBracket 2 (some .int)) ∈ wsL_law := sk_mem (ck_7 _ (List.mem_of_getElem? (i := 74) rfl)) rfl
theorem hd_X12_qIsBracket_1 : skD yX12_qIsBracket 1 := by decide +kernel
theorem dg_X12_qDropsToBracket_0_0 : bqL cX12_qDropsToBracket 0 [(0, [42]), (1, [180, 1, 4]), (4, [42]), (5, [180, 1, 10]), (8, [164, 0, 27]), (35, [177]), (11, [42]), (12, [180, 0, 183]), (15, [42]), (16, [180, 1, 4]), (19, [4]), (20, [100]), (21, [46]), (22, [184, 1, 245]), (25, [154, 0, 10]), (28, [42]), (29, [182, 1, 248]), (32, [167, 255, 224])] = true := by decide +kernel
theorem dX12_qDropsToBracket_0 : decode cX12_qDropsToBracket 0 = .ok (.aload_n 0, 1) := q_aload_n0 (bat_get dg_X12_qDropsToBracket_0_0 0 rfl rfl)
theorem dX12_qDropsToBracket_1 : decode cX12_qDropsToBracket 1 = .ok (.getfield 260, 3) := q_getfield (bat_get dg_X12_qDropsToBracket_0_0 1 rfl rfl) rfl
theorem dX12_qDropsToBracket_4 : decode cX12_qDropsToBracket 4 = .ok (.aload_n 0, 1) := q_aload_n0 (bat_get dg_X12_qDropsToBracket_0_0 2 rfl rfl)
theorem dX12_qDropsToBracket_5 : decode cX12_qDropsToBracket 5 = .ok (.getfield 266, 3) := q_getfield (bat_get dg_X12_qDropsToBracket_0_0 3 rfl rfl) rfl
theorem dX12_qDropsToBracket_8 : decode cX12_qDropsToBracket 8 = .ok (.if_icmp .le 27, 3) := q_if_icmp_le (bat_get dg_X12_qDropsToBracket_0_0 4 rfl rfl) rfl
theorem dX12_qDropsToBracket_35 : decode cX12_qDropsToBracket 35 = .ok (.return_, 1) := q_return_ (bat_get dg_X12_qDropsToBracket_0_0 5 rfl rfl)
theorem dX12_qDropsToBracket_11 : decode cX12_qDropsToBracket 11 = .ok (.aload_n 0, 1) := q_aload_n0 (bat_get dg_X12_qDropsToBracket_0_0 6 rfl rfl)
theorem dX12_qDropsToBracket_12 : decode cX12_qDropsToBracket 12 = .ok (.getfield 183, 3) := q_getfield (bat_get dg_X12_qDropsToBracket_0_0 7 rfl rfl) rfl
theorem dX12_qDropsToBracket_15 : decode cX12_qDropsToBracket 15 = .ok (.aload_n 0, 1) := q_aload_n0 (bat_get dg_X12_qDropsToBracket_0_0 8 rfl rfl)
theorem dX12_qDropsToBracket_16 : decode cX12_qDropsToBracket 16 = .ok (.getfield 260, 3) := q_getfield (bat_get dg_X12_qDropsToBracket_0_0 9 rfl rfl) rfl
theorem dX12_qDropsToBracket_19 : decode cX12_qDropsToBracket 19 = .ok (.iconst 1, 1) := q_iconst1 (bat_get dg_X12_qDropsToBracket_0_0 10 rfl rfl)
theorem dX12_qDropsToBracket_20 : decode cX12_qDropsToBracket 20 = .ok (.isub, 1) := q_isub (bat_get dg_X12_qDropsToBracket_0_0 11 rfl rfl)
theorem dX12_qDropsToBracket_21 : decode cX12_qDropsToBracket 21 = .ok (.iaload, 1) := q_iaload (bat_get dg_X12_qDropsToBracket_0_0 12 rfl rfl)
theorem dX12_qDropsToBracket_22 : decode cX12_qDropsToBracket 22 = .ok (.invokestatic 501, 3) := q_invokestatic (bat_get dg_X12_qDropsToBracket_0_0 13 rfl rfl) rfl
theorem dX12_qDropsToBracket_25 : decode cX12_qDropsToBracket 25 = .ok (.ifCond .ne 10, 3) := q_ifCond_ne (bat_get dg_X12_qDropsToBracket_0_0 14 rfl rfl) rfl
theorem dX12_qDropsToBracket_28 : decode cX12_qDropsToBracket 28 = .ok (.aload_n 0, 1) := q_aload_n0 (bat_get dg_X12_qDropsToBracket_0_0 15 rfl rfl)
theorem dX12_qDropsToBracket_29 : decode cX12_qDropsToBracket 29 = .ok (.invokevirtual 504, 3) := q_invokevirtual (bat_get dg_X12_qDropsToBracket_0_0 16 rfl rfl) rfl
theorem dX12_qDropsToBracket_32 : decode cX12_qDropsToBracket 32 = .ok (.goto (-32), 3) := q_goto (bat_get dg_X12_qDropsToBracket_0_0 17 rfl rfl) rfl
theorem w_7_63 : (Cond.methodLink RX12 504 yX12_qDrops) ∈ wsL_law := sk_mem (ck_7 _ (List.mem_of_getElem? (i := 63) rfl)) rfl
theorem w_7_65 : (Cond.instanceMethod yX12_qDrops) ∈ wsL_law := sk_mem (ck_7 _ (List.mem_of_getElem? (i := 65) rfl)) rfl
theorem w_0_63 : (Cond.selects RX12 yX12_qDrops yX12_qDrops) ∈ wsL_law := sk_mem (ck_0 _ (List.mem_of_getElem? (i := 63) rfl)) rfl
theorem w_7_81 : (Cond.code yX12_qDropsToBracket cX12_qDropsToBracket 1 none) ∈ wsL_law := sk_mem (ck_7 _ (List.mem_of_getElem? (i := 81) rfl)) rfl
theorem hd_X12_qDrops_0 : skD yX12_qDrops 0 := by decide +kernel
theorem dg_X12_qEndsPart_0_0 : bqL cX12_qEndsPart 0 [(0, [42]), (1, [180, 0, 195]), (4, [154, 0, 47]), (51, [177]), (7, [42]), (8, [180, 1, 4]), (11, [42]), (12, [180, 1, 10]), (15, [164, 0, 36]), (18, [42]), (19, [180, 0, 183]), (22, [42]), (23, [180, 1, 4]), (26, [4]), (27, [100]), (28, [46]), (29, [16, 60]), (31, [161, 0, 20]), (34, [42]), (35, [89]), (36, [180, 1, 7]), (39, [4]), (40, [100]), (41, [181, 1, 7]), (44, [42]), (45, [182, 1, 248]), (48, [167, 255, 208])] = true := by decide +kernel
theorem dX12_qEndsPart_0 : decode cX12_qEndsPart 0 = .ok (.aload_n 0, 1) := q_aload_n0 (bat_get dg_X12_qEndsPart_0_0 0 rfl rfl)
theorem dX12_qEndsPart_1 : decode cX12_qEndsPart 1 = .ok (.getfield 195, 3) := q_getfield (bat_get dg_X12_qEndsPart_0_0 1 rfl rfl) rfl
theorem dX12_qEndsPart_4 : decode cX12_qEndsPart 4 = .ok (.ifCond .ne 47, 3) := q_ifCond_ne (bat_get dg_X12_qEndsPart_0_0 2 rfl rfl) rfl
theorem dX12_qEndsPart_51 : decode cX12_qEndsPart 51 = .ok (.return_, 1) := q_return_ (bat_get dg_X12_qEndsPart_0_0 3 rfl rfl)
theorem dX12_qEndsPart_7 : decode cX12_qEndsPart 7 = .ok (.aload_n 0, 1) := q_aload_n0 (bat_get dg_X12_qEndsPart_0_0 4 rfl rfl)
theorem dX12_qEndsPart_8 : decode cX12_qEndsPart 8 = .ok (.getfield 260, 3) := q_getfield (bat_get dg_X12_qEndsPart_0_0 5 rfl rfl) rfl
theorem dX12_qEndsPart_11 : decode cX12_qEndsPart 11 = .ok (.aload_n 0, 1) := q_aload_n0 (bat_get dg_X12_qEndsPart_0_0 6 rfl rfl)
theorem dX12_qEndsPart_12 : decode cX12_qEndsPart 12 = .ok (.getfield 266, 3) := q_getfield (bat_get dg_X12_qEndsPart_0_0 7 rfl rfl) rfl
theorem dX12_qEndsPart_15 : decode cX12_qEndsPart 15 = .ok (.if_icmp .le 36, 3) := q_if_icmp_le (bat_get dg_X12_qEndsPart_0_0 8 rfl rfl) rfl
theorem dX12_qEndsPart_18 : decode cX12_qEndsPart 18 = .ok (.aload_n 0, 1) := q_aload_n0 (bat_get dg_X12_qEndsPart_0_0 9 rfl rfl)
theorem dX12_qEndsPart_19 : decode cX12_qEndsPart 19 = .ok (.getfield 183, 3) := q_getfield (bat_get dg_X12_qEndsPart_0_0 10 rfl rfl) rfl
theorem dX12_qEndsPart_22 : decode cX12_qEndsPart 22 = .ok (.aload_n 0, 1) := q_aload_n0 (bat_get dg_X12_qEndsPart_0_0 11 rfl rfl)
theorem dX12_qEndsPart_23 : decode cX12_qEndsPart 23 = .ok (.getfield 260, 3) := q_getfield (bat_get dg_X12_qEndsPart_0_0 12 rfl rfl) rfl
theorem dX12_qEndsPart_26 : decode cX12_qEndsPart 26 = .ok (.iconst 1, 1) := q_iconst1 (bat_get dg_X12_qEndsPart_0_0 13 rfl rfl)
theorem dX12_qEndsPart_27 : decode cX12_qEndsPart 27 = .ok (.isub, 1) := q_isub (bat_get dg_X12_qEndsPart_0_0 14 rfl rfl)
theorem dX12_qEndsPart_28 : decode cX12_qEndsPart 28 = .ok (.iaload, 1) := q_iaload (bat_get dg_X12_qEndsPart_0_0 15 rfl rfl)
theorem dX12_qEndsPart_29 : decode cX12_qEndsPart 29 = .ok (.bipush 60, 2) := q_bipush (bat_get dg_X12_qEndsPart_0_0 16 rfl rfl) rfl
theorem dX12_qEndsPart_31 : decode cX12_qEndsPart 31 = .ok (.if_icmp .lt 20, 3) := q_if_icmp_lt (bat_get dg_X12_qEndsPart_0_0 17 rfl rfl) rfl
theorem dX12_qEndsPart_34 : decode cX12_qEndsPart 34 = .ok (.aload_n 0, 1) := q_aload_n0 (bat_get dg_X12_qEndsPart_0_0 18 rfl rfl)
theorem dX12_qEndsPart_35 : decode cX12_qEndsPart 35 = .ok (.dup, 1) := q_dup (bat_get dg_X12_qEndsPart_0_0 19 rfl rfl)
theorem dX12_qEndsPart_36 : decode cX12_qEndsPart 36 = .ok (.getfield 263, 3) := q_getfield (bat_get dg_X12_qEndsPart_0_0 20 rfl rfl) rfl
theorem dX12_qEndsPart_39 : decode cX12_qEndsPart 39 = .ok (.iconst 1, 1) := q_iconst1 (bat_get dg_X12_qEndsPart_0_0 21 rfl rfl)
theorem dX12_qEndsPart_40 : decode cX12_qEndsPart 40 = .ok (.isub, 1) := q_isub (bat_get dg_X12_qEndsPart_0_0 22 rfl rfl)
theorem dX12_qEndsPart_41 : decode cX12_qEndsPart 41 = .ok (.putfield 263, 3) := q_putfield (bat_get dg_X12_qEndsPart_0_0 23 rfl rfl) rfl
theorem dX12_qEndsPart_44 : decode cX12_qEndsPart 44 = .ok (.aload_n 0, 1) := q_aload_n0 (bat_get dg_X12_qEndsPart_0_0 24 rfl rfl)
theorem dX12_qEndsPart_45 : decode cX12_qEndsPart 45 = .ok (.invokevirtual 504, 3) := q_invokevirtual (bat_get dg_X12_qEndsPart_0_0 25 rfl rfl) rfl
theorem dX12_qEndsPart_48 : decode cX12_qEndsPart 48 = .ok (.goto (-48), 3) := q_goto (bat_get dg_X12_qEndsPart_0_0 26 rfl rfl) rfl
theorem w_7_62 : (Cond.code yX12_qEndsPart cX12_qEndsPart 1 none) ∈ wsL_law := sk_mem (ck_7 _ (List.mem_of_getElem? (i := 62) rfl)) rfl

