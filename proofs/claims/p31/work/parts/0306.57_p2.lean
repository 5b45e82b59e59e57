theorem dX12_qAsksWord_155 : decode cX12_qAsksWord 155 = .ok (.aload_n 0, 1) := q_aload_n0 (bat_get dg_X12_qAsksWord_138_138 7 rfl rfl)
theorem dX12_qAsksWord_156 : decode cX12_qAsksWord 156 = .ok (.aload_n 0, 1) := q_aload_n0 (bat_get dg_X12_qAsksWord_138_138 8 rfl rfl)
theorem dX12_qAsksWord_157 : decode cX12_qAsksWord 157 = .ok (.getfield 114, 3) := q_getfield (bat_get dg_X12_qAsksWord_138_138 9 rfl rfl) rfl
theorem dX12_qAsksWord_160 : decode cX12_qAsksWord 160 = .ok (.invokevirtual 245, 3) := q_invokevirtual (bat_get dg_X12_qAsksWord_138_138 10 rfl rfl) rfl
theorem dX12_qAsksWord_163 : decode cX12_qAsksWord 163 = .ok (.goto 11, 3) := q_goto (bat_get dg_X12_qAsksWord_138_138 11 rfl rfl) rfl
theorem dX12_qAsksWord_166 : decode cX12_qAsksWord 166 = .ok (.aload_n 0, 1) := q_aload_n0 (bat_get dg_X12_qAsksWord_138_138 12 rfl rfl)
theorem dX12_qAsksWord_167 : decode cX12_qAsksWord 167 = .ok (.aload_n 0, 1) := q_aload_n0 (bat_get dg_X12_qAsksWord_138_138 13 rfl rfl)
theorem dX12_qAsksWord_168 : decode cX12_qAsksWord 168 = .ok (.getfield 177, 3) := q_getfield (bat_get dg_X12_qAsksWord_138_138 14 rfl rfl) rfl
theorem dX12_qAsksWord_171 : decode cX12_qAsksWord 171 = .ok (.invokevirtual 245, 3) := q_invokevirtual (bat_get dg_X12_qAsksWord_138_138 15 rfl rfl) rfl
theorem w_6_210 : (Cond.methodLink RX12 245 yX12_asks) ∈ wsL_law := sk_mem (ck_6 _ (List.mem_of_getElem? (i := 210) rfl)) rfl
theorem w_6_212 : (Cond.instanceMethod yX12_asks) ∈ wsL_law := sk_mem (ck_6 _ (List.mem_of_getElem? (i := 212) rfl)) rfl
theorem w_0_42 : (Cond.selects RX12 yX12_asks yX12_asks) ∈ wsL_law := sk_mem (ck_0 _ (List.mem_of_getElem? (i := 42) rfl)) rfl
theorem w_7_54 : (Cond.code yX12_qAsksWord cX12_qAsksWord 2 none) ∈ wsL_law := sk_mem (ck_7 _ (List.mem_of_getElem? (i := 54) rfl)) rfl
theorem hd_X12_asks_1 : skD yX12_asks 1 := by decide +kernel
theorem dg_X12_qCode_0_0 : bqL cX12_qCode 0 [(0, [42]), (1, [180, 0, 180]), (4, [42]), (5, [180, 1, 1]), (8, [27]), (9, [79]), (10, [42]), (11, [89]), (12, [180, 1, 1]), (15, [4]), (16, [96]), (17, [181, 1, 1]), (20, [177])] = true := by decide +kernel
theorem dX12_qCode_0 : decode cX12_qCode 0 = .ok (.aload_n 0, 1) := q_aload_n0 (bat_get dg_X12_qCode_0_0 0 rfl rfl)
theorem dX12_qCode_1 : decode cX12_qCode 1 = .ok (.getfield 180, 3) := q_getfield (bat_get dg_X12_qCode_0_0 1 rfl rfl) rfl
theorem dX12_qCode_4 : decode cX12_qCode 4 = .ok (.aload_n 0, 1) := q_aload_n0 (bat_get dg_X12_qCode_0_0 2 rfl rfl)
theorem dX12_qCode_5 : decode cX12_qCode 5 = .ok (.getfield 257, 3) := q_getfield (bat_get dg_X12_qCode_0_0 3 rfl rfl) rfl
theorem dX12_qCode_8 : decode cX12_qCode 8 = .ok (.iload_n 1, 1) := q_iload_n1 (bat_get dg_X12_qCode_0_0 4 rfl rfl)
theorem dX12_qCode_9 : decode cX12_qCode 9 = .ok (.iastore, 1) := q_iastore (bat_get dg_X12_qCode_0_0 5 rfl rfl)
theorem dX12_qCode_10 : decode cX12_qCode 10 = .ok (.aload_n 0, 1) := q_aload_n0 (bat_get dg_X12_qCode_0_0 6 rfl rfl)
theorem dX12_qCode_11 : decode cX12_qCode 11 = .ok (.dup, 1) := q_dup (bat_get dg_X12_qCode_0_0 7 rfl rfl)
theorem dX12_qCode_12 : decode cX12_qCode 12 = .ok (.getfield 257, 3) := q_getfield (bat_get dg_X12_qCode_0_0 8 rfl rfl) rfl
theorem dX12_qCode_15 : decode cX12_qCode 15 = .ok (.iconst 1, 1) := q_iconst1 (bat_get dg_X12_qCode_0_0 9 rfl rfl)
theorem dX12_qCode_16 : decode cX12_qCode 16 = .ok (.iadd, 1) := q_iadd (bat_get dg_X12_qCode_0_0 10 rfl rfl)
theorem dX12_qCode_17 : decode cX12_qCode 17 = .ok (.putfield 257, 3) := q_putfield (bat_get dg_X12_qCode_0_0 11 rfl rfl) rfl
theorem dX12_qCode_20 : decode cX12_qCode 20 = .ok (.return_, 1) := q_return_ (bat_get dg_X12_qCode_0_0 12 rfl rfl)
theorem w_5_235 : (Cond.fieldLink RX12 180 "SameKeeperModel" "qCodes" "[I") ∈ wsL_law := sk_mem (ck_5 _ (List.mem_of_getElem? (i := 235) rfl)) rfl
theorem w_5_236 : (Cond.fieldLink RX12 257 "SameKeeperModel" "qCoded" "I") ∈ wsL_law := sk_mem (ck_5 _ (List.mem_of_getElem? (i := 236) rfl)) rfl
theorem w_7_58 : (Cond.code yX12_qCode cX12_qCode 2 none) ∈ wsL_law := sk_mem (ck_7 _ (List.mem_of_getElem? (i := 58) rfl)) rfl
theorem dg_X12_qOpens_0_0 : bqL cX12_qOpens 0 [(0, [42]), (1, [180, 0, 195]), (4, [153, 0, 4]), (8, [42]), (9, [180, 1, 7]), (12, [16, 6]), (14, [160, 0, 10]), (24, [42]), (25, [89]), (26, [180, 1, 7]), (29, [4]), (30, [96]), (31, [181, 1, 7]), (34, [42]), (35, [180, 0, 183]), (38, [42]), (39, [180, 1, 4]), (42, [27]), (43, [79]), (44, [42]), (45, [89]), (46, [180, 1, 4]), (49, [4]), (50, [96]), (51, [181, 1, 4]), (54, [177]), (17, [42]), (18, [7]), (19, [28]), (20, [182, 0, 225]), (23, [177]), (7, [177])] = true := by decide +kernel
theorem dX12_qOpens_0 : decode cX12_qOpens 0 = .ok (.aload_n 0, 1) := q_aload_n0 (bat_get dg_X12_qOpens_0_0 0 rfl rfl)
theorem dX12_qOpens_1 : decode cX12_qOpens 1 = .ok (.getfield 195, 3) := q_getfield (bat_get dg_X12_qOpens_0_0 1 rfl rfl) rfl
theorem dX12_qOpens_4 : decode cX12_qOpens 4 = .ok (.ifCond .eq 4, 3) := q_ifCond_eq (bat_get dg_X12_qOpens_0_0 2 rfl rfl) rfl
theorem dX12_qOpens_8 : decode cX12_qOpens 8 = .ok (.aload_n 0, 1) := q_aload_n0 (bat_get dg_X12_qOpens_0_0 3 rfl rfl)
theorem dX12_qOpens_9 : decode cX12_qOpens 9 = .ok (.getfield 263, 3) := q_getfield (bat_get dg_X12_qOpens_0_0 4 rfl rfl) rfl
theorem dX12_qOpens_12 : decode cX12_qOpens 12 = .ok (.bipush 6, 2) := q_bipush (bat_get dg_X12_qOpens_0_0 5 rfl rfl) rfl
theorem dX12_qOpens_14 : decode cX12_qOpens 14 = .ok (.if_icmp .ne 10, 3) := q_if_icmp_ne (bat_get dg_X12_qOpens_0_0 6 rfl rfl) rfl
theorem dX12_qOpens_24 : decode cX12_qOpens 24 = .ok (.aload_n 0, 1) := q_aload_n0 (bat_get dg_X12_qOpens_0_0 7 rfl rfl)
theorem dX12_qOpens_25 : decode cX12_qOpens 25 = .ok (.dup, 1) := q_dup (bat_get dg_X12_qOpens_0_0 8 rfl rfl)
theorem dX12_qOpens_26 : decode cX12_qOpens 26 = .ok (.getfield 263, 3) := q_getfield (bat_get dg_X12_qOpens_0_0 9 rfl rfl) rfl
theorem dX12_qOpens_29 : decode cX12_qOpens 29 = .ok (.iconst 1, 1) := q_iconst1 (bat_get dg_X12_qOpens_0_0 10 rfl rfl)
theorem dX12_qOpens_30 : decode cX12_qOpens 30 = .ok (.iadd, 1) := q_iadd (bat_get dg_X12_qOpens_0_0 11 rfl rfl)
theorem dX12_qOpens_31 : decode cX12_qOpens 31 = .ok (.putfield 263, 3) := q_putfield (bat_get dg_X12_qOpens_0_0 12 rfl rfl) rfl
theorem dX12_qOpens_34 : decode cX12_qOpens 34 = .ok (.aload_n 0, 1) := q_aload_n0 (bat_get dg_X12_qOpens_0_0 13 rfl rfl)
theorem dX12_qOpens_35 : decode cX12_qOpens 35 = .ok (.getfield 183, 3) := q_getfield (bat_get dg_X12_qOpens_0_0 14 rfl rfl) rfl
theorem dX12_qOpens_38 : decode cX12_qOpens 38 = .ok (.aload_n 0, 1) := q_aload_n0 (bat_get dg_X12_qOpens_0_0 15 rfl rfl)
theorem dX12_qOpens_39 : decode cX12_qOpens 39 = .ok (.getfield 260, 3) := q_getfield (bat_get dg_X12_qOpens_0_0 16 rfl rfl) rfl
theorem dX12_qOpens_42 : decode cX12_qOpens 42 = .ok (.iload_n 1, 1) := q_iload_n1 (bat_get dg_X12_qOpens_0_0 17 rfl rfl)
theorem dX12_qOpens_43 : decode cX12_qOpens 43 = .ok (.iastore, 1) := q_iastore (bat_get dg_X12_qOpens_0_0 18 rfl rfl)
theorem dX12_qOpens_44 : decode cX12_qOpens 44 = .ok (.aload_n 0, 1) := q_aload_n0 (bat_get dg_X12_qOpens_0_0 19 rfl rfl)
theorem dX12_qOpens_45 : decode cX12_qOpens 45 = .ok (.dup, 1) := q_dup (bat_get dg_X12_qOpens_0_0 20 rfl rfl)
theorem dX12_qOpens_46 : decode cX12_qOpens 46 = .ok (.getfield 260, 3) := q_getfield (bat_get dg_X12_qOpens_0_0 21 rfl rfl) rfl
theorem dX12_qOpens_49 : decode cX12_qOpens 49 = .ok (.iconst 1, 1) := q_iconst1 (bat_get dg_X12_qOpens_0_0 22 rfl rfl)
theorem dX12_qOpens_50 : decode cX12_qOpens 50 = .ok (.iadd, 1) := q_iadd (bat_get dg_X12_qOpens_0_0 23 rfl rfl)
theorem dX12_qOpens_51 : decode cX12_qOpens 51 = .ok (.putfield 260, 3) := q_putfield (bat_get dg_X12_qOpens_0_0 24 rfl rfl) rfl
theorem dX12_qOpens_54 : decode cX12_qOpens 54 = .ok (.return_, 1) := q_return_ (bat_get dg_X12_qOpens_0_0 25 rfl rfl)
theorem dX12_qOpens_17 : decode cX12_qOpens 17 = .ok (.aload_n 0, 1) := q_aload_n0 (bat_get dg_X12_qOpens_0_0 26 rfl rfl)
theorem dX12_qOpens_18 : decode cX12_qOpens 18 = .ok (.iconst 4, 1) := q_iconst4 (bat_get dg_X12_qOpens_0_0 27 rfl rfl)
theorem dX12_qOpens_19 : decode cX12_qOpens 19 = .ok (.iload_n 2, 1) := q_iload_n2 (bat_get dg_X12_qOpens_0_0 28 rfl rfl)
theorem dX12_qOpens_20 : decode cX12_qOpens 20 = .ok (.invokevirtual 225, 3) := q_invokevirtual (bat_get dg_X12_qOpens_0_0 29 rfl rfl) rfl
theorem dX12_qOpens_23 : decode cX12_qOpens 23 = .ok (.return_, 1) := q_return_ (bat_get dg_X12_qOpens_0_0 30 rfl rfl)
theorem dX12_qOpens_7 : decode cX12_qOpens 7 = .ok (.return_, 1) := q_return_ (bat_get dg_X12_qOpens_0_0 31 rfl rfl)
theorem w_5_239 : (Cond.fieldLink RX12 263 "SameKeeperModel" "qOpened" "I") ∈ wsL_law := sk_mem (ck_5 _ (List.mem_of_getElem? (i := 239) rfl)) rfl
theorem w_5_237 : (Cond.fieldLink RX12 183 "SameKeeperModel" "qWait" "[I") ∈ wsL_law := sk_mem (ck_5 _ (List.mem_of_getElem? (i := 237) rfl)) rfl
theorem w_5_238 : (Cond.fieldLink RX12 260 "SameKeeperModel" "qWaits" "I") ∈ wsL_law := sk_mem (ck_5 _ (List.mem_of_getElem? (i := 238) rfl)) rfl
theorem w_7_50 : (Cond.code yX12_qOpens cX12_qOpens 3 none) ∈ wsL_law := sk_mem (ck_7 _ (List.mem_of_getElem? (i := 50) rfl)) rfl
theorem dg_X12_qIsOn_0_0 : bqL cX12_qIsOn 0 [(0, [42]), (1, [180, 1, 4]), (4, [158, 0, 22]), (26, [3]), (27, [172]), (7, [42]), (8, [180, 0, 183]), (11, [42]), (12, [180, 1, 4]), (15, [4]), (16, [100]), (17, [46]), (18, [27]), (19, [160, 0, 7]), (22, [4]), (23, [167, 0, 4])] = true := by decide +kernel
theorem dX12_qIsOn_0 : decode cX12_qIsOn 0 = .ok (.aload_n 0, 1) := q_aload_n0 (bat_get dg_X12_qIsOn_0_0 0 rfl rfl)
theorem dX12_qIsOn_1 : decode cX12_qIsOn 1 = .ok (.getfield 260, 3) := q_getfield (bat_get dg_X12_qIsOn_0_0 1 rfl rfl) rfl
theorem dX12_qIsOn_4 : decode cX12_qIsOn 4 = .ok (.ifCond .le 22, 3) := q_ifCond_le (bat_get dg_X12_qIsOn_0_0 2 rfl rfl) rfl
theorem dX12_qIsOn_26 : decode cX12_qIsOn 26 = .ok (.iconst 0, 1) := q_iconst0 (bat_get dg_X12_qIsOn_0_0 3 rfl rfl)
theorem dX12_qIsOn_27 : decode cX12_qIsOn 27 = .ok (.ireturn, 1) := q_ireturn (bat_get dg_X12_qIsOn_0_0 4 rfl rfl)
theorem dX12_qIsOn_7 : decode cX12_qIsOn 7 = .ok (.aload_n 0, 1) := q_aload_n0 (bat_get dg_X12_qIsOn_0_0 5 rfl rfl)
theorem dX12_qIsOn_8 : decode cX12_qIsOn 8 = .ok (.getfield 183, 3) := q_getfield (bat_get dg_X12_qIsOn_0_0 6 rfl rfl) rfl
theorem dX12_qIsOn_11 : decode cX12_qIsOn 11 = .ok (.aload_n 0, 1) := q_aload_n0 (bat_get dg_X12_qIsOn_0_0 7 rfl rfl)
theorem dX12_qIsOn_12 : decode cX12_qIsOn 12 = .ok (.getfield 260, 3) := q_getfield (bat_get dg_X12_qIsOn_0_0 8 rfl rfl) rfl
theorem dX12_qIsOn_15 : decode cX12_qIsOn 15 = .ok (.iconst 1, 1) := q_iconst1 (bat_get dg_X12_qIsOn_0_0 9 rfl rfl)
theorem dX12_qIsOn_16 : decode cX12_qIsOn 16 = .ok (.isub, 1) := q_isub (bat_get dg_X12_qIsOn_0_0 10 rfl rfl)
theorem dX12_qIsOn_17 : decode cX12_qIsOn 17 = .ok (.iaload, 1) := q_iaload (bat_get dg_X12_qIsOn_0_0 11 rfl rfl)
theorem dX12_qIsOn_18 : decode cX12_qIsOn 18 = .ok (.iload_n 1, 1) := q_iload_n1 (bat_get dg_X12_qIsOn_0_0 12 rfl rfl)
theorem dX12_qIsOn_19 : decode cX12_qIsOn 19 = .ok (.if_icmp .ne 7, 3) := q_if_icmp_ne (bat_get dg_X12_qIsOn_0_0 13 rfl rfl) rfl
theorem dX12_qIsOn_22 : decode cX12_qIsOn 22 = .ok (.iconst 1, 1) := q_iconst1 (bat_get dg_X12_qIsOn_0_0 14 rfl rfl)
theorem dX12_qIsOn_23 : decode cX12_qIsOn 23 = .ok (.goto 4, 3) := q_goto (bat_get dg_X12_qIsOn_0_0 15 rfl rfl) rfl
theorem w_7_85 : (Cond.code yX12_qIsOn cX12_qIsOn 2 (some .boolean)) ∈ wsL_law := sk_mem (ck_7 _ (List.mem_of_getElem? (i := 85) rfl)) rfl
theorem dg_X12_qDrops_0_0 : bqL cX12_qDrops 0 [(0, [42]), (1, [89]), (2, [180, 1, 4]), (5, [4]), (6, [100]), (7, [181, 1, 4]), (10, [42]), (11, [42]), (12, [180, 0, 183]), (15, [42]), (16, [180, 1, 4]), (19, [46]), (20, [182, 1, 242]), (23, [177])] = true := by decide +kernel
theorem dX12_qDrops_0 : decode cX12_qDrops 0 = .ok (.aload_n 0, 1) := q_aload_n0 (bat_get dg_X12_qDrops_0_0 0 rfl rfl)
theorem dX12_qDrops_1 : decode cX12_qDrops 1 = .ok (.dup, 1) := q_dup (bat_get dg_X12_qDrops_0_0 1 rfl rfl)
theorem dX12_qDrops_2 : decode cX12_qDrops 2 = .ok (.getfield 260, 3) := q_getfield (bat_get dg_X12_qDrops_0_0 2 rfl rfl) rfl
theorem dX12_qDrops_5 : decode cX12_qDrops 5 = .ok (.iconst 1, 1) := q_iconst1 (bat_get dg_X12_qDrops_0_0 3 rfl rfl)
theorem dX12_qDrops_6 : decode cX12_qDrops 6 = .ok (.isub, 1) := q_isub (bat_get dg_X12_qDrops_0_0 4 rfl rfl)
theorem dX12_qDrops_7 : decode cX12_qDrops 7 = .ok (.putfield 260, 3) := q_putfield (bat_get dg_X12_qDrops_0_0 5 rfl rfl) rfl
theorem dX12_qDrops_10 : decode cX12_qDrops 10 = .ok (.aload_n 0, 1) := q_aload_n0 (bat_get dg_X12_qDrops_0_0 6 rfl rfl)
theorem dX12_qDrops_11 : decode cX12_qDrops 11 = .ok (.aload_n 0, 1) := q_aload_n0 (bat_get dg_X12_qDrops_0_0 7 rfl rfl)
theorem dX12_qDrops_12 : decode cX12_qDrops 12 = .ok (.getfield 183, 3) := q_getfield (bat_get dg_X12_qDrops_0_0 8 rfl rfl) rfl
theorem dX12_qDrops_15 : decode cX12_qDrops 15 = .ok (.aload_n 0, 1) := q_aload_n0 (bat_get dg_X12_qDrops_0_0 9 rfl rfl)
theorem dX12_qDrops_16 : decode cX12_qDrops 16 = .ok (.getfield 260, 3) := q_getfield (bat_get dg_X12_qDrops_0_0 10 rfl rfl) rfl
theorem dX12_qDrops_19 : decode cX12_qDrops 19 = .ok (.iaload, 1) := q_iaload (bat_get dg_X12_qDrops_0_0 11 rfl rfl)
theorem dX12_qDrops_20 : decode cX12_qDrops 20 = .ok (.invokevirtual 498, 3) := q_invokevirtual (bat_get dg_X12_qDrops_0_0 12 rfl rfl) rfl
theorem dX12_qDrops_23 : decode cX12_qDrops 23 = .ok (.return_, 1) := q_return_ (bat_get dg_X12_qDrops_0_0 13 rfl rfl)
theorem w_7_55 : (Cond.methodLink RX12 498 yX12_qCode) ∈ wsL_law := sk_mem (ck_7 _ (List.mem_of_getElem? (i := 55) rfl)) rfl
theorem w_7_57 : (Cond.instanceMethod yX12_qCode) ∈ wsL_law := sk_mem (ck_7 _ (List.mem_of_getElem? (i := 57) rfl)) rfl
theorem w_0_61 : (Cond.selects RX12 yX12_qCode yX12_qCode) ∈ wsL_law := sk_mem (ck_0 _ (List.mem_of_getElem? (i := 61) rfl)) rfl
theorem w_7_66 : (Cond.code yX12_qDrops cX12_qDrops 1 none) ∈ wsL_law := sk_mem (ck_7 _ (List.mem_of_getElem? (i := 66) rfl)) rfl
theorem hd_X12_qCode_1 : skD yX12_qCode 1 := by decide +kernel
theorem dg_X12_qIsBracket_0_0 : bqL cX12_qIsBracket 0 [(0, [26]), (1, [16, 20]), (3, [161, 0, 13]), (16, [3]), (17, [172]), (6, [26]), (7, [16, 24]), (9, [163, 0, 7]), (12, [4]), (13, [167, 0, 4])] = true := by decide +kernel
theorem dX12_qIsBracket_0 : decode cX12_qIsBracket 0 = .ok (.iload_n 0, 1) := q_iload_n0 (bat_get dg_X12_qIsBracket_0_0 0 rfl rfl)
theorem dX12_qIsBracket_1 : decode cX12_qIsBracket 1 = .ok (.bipush 20, 2) := q_bipush (bat_get dg_X12_qIsBracket_0_0 1 rfl rfl) rfl
theorem dX12_qIsBracket_3 : decode cX12_qIsBracket 3 = .ok (.if_icmp .lt 13, 3) := q_if_icmp_lt (bat_get dg_X12_qIsBracket_0_0 2 rfl rfl) rfl
theorem dX12_qIsBracket_16 : decode cX12_qIsBracket 16 = .ok (.iconst 0, 1) := q_iconst0 (bat_get dg_X12_qIsBracket_0_0 3 rfl rfl)
theorem dX12_qIsBracket_17 : decode cX12_qIsBracket 17 = .ok (.ireturn, 1) := q_ireturn (bat_get dg_X12_qIsBracket_0_0 4 rfl rfl)
theorem dX12_qIsBracket_6 : decode cX12_qIsBracket 6 = .ok (.iload_n 0, 1) := q_iload_n0 (bat_get dg_X12_qIsBracket_0_0 5 rfl rfl)
theorem dX12_qIsBracket_7 : decode cX12_qIsBracket 7 = .ok (.bipush 24, 2) := q_bipush (bat_get dg_X12_qIsBracket_0_0 6 rfl rfl) rfl
theorem dX12_qIsBracket_9 : decode cX12_qIsBracket 9 = .ok (.if_icmp .gt 7, 3) := q_if_icmp_gt (bat_get dg_X12_qIsBracket_0_0 7 rfl rfl) rfl
theorem dX12_qIsBracket_12 : decode cX12_qIsBracket 12 = .ok (.iconst 1, 1) := q_iconst1 (bat_get dg_X12_qIsBracket_0_0 8 rfl rfl)
theorem dX12_qIsBracket_13 : decode cX12_qIsBracket 13 = .ok (.goto 4, 3) := q_goto (bat_get dg_X12_qIsBracket_0_0 9 rfl rfl) rfl
theorem w_7_77 : (Cond.code yX12_qIsBracket cX12_qIsBracket 1 (some .boolean)) ∈ wsL_law := sk_mem (ck_7 _ (List.mem_of_getElem? (i := 77) rfl)) rfl
theorem dg_X12_qBracket_0_0 : bqL cX12_qBracket 0 [(0, [42]), (1, [180, 1, 4]), (4, [4]), (5, [100]), (6, [60]), (7, [27]), (8, [42]), (9, [180, 1, 10]), (12, [161, 0, 21]), (33, [27]), (34, [42]), (35, [180, 1, 10]), (38, [161, 0, 12]), (50, [2]), (51, [172]), (15, [42]), (16, [180, 0, 183]), (19, [27]), (20, [46]), (21, [184, 1, 245]), (24, [154, 0, 9]), (41, [42]), (42, [180, 0, 183]), (45, [27]), (46, [46]), (47, [167, 0, 4]), (27, [132, 1, 255]), (30, [167, 255, 233])] = true := by decide +kernel
