theorem dg_X8_read_0_0 : bqL cX8_read 0 [(0, [42]), (1, [43]), (2, [182, 0, 19]), (5, [177])] = true := by decide +kernel
theorem dX8_read_0 : decode cX8_read 0 = .ok (.aload_n 0, 1) := q_aload_n0 (bat_get dg_X8_read_0_0 0 rfl rfl)
theorem dX8_read_1 : decode cX8_read 1 = .ok (.aload_n 1, 1) := q_aload_n1 (bat_get dg_X8_read_0_0 1 rfl rfl)
theorem dX8_read_2 : decode cX8_read 2 = .ok (.invokevirtual 19, 3) := q_invokevirtual (bat_get dg_X8_read_0_0 2 rfl rfl) rfl
theorem dX8_read_5 : decode cX8_read 5 = .ok (.return_, 1) := q_return_ (bat_get dg_X8_read_0_0 3 rfl rfl)
theorem w_3_83 : (Cond.code yX8_read cX8_read 2 none) ∈ wsL_law := sk_mem (ck_3 _ (List.mem_of_getElem? (i := 83) rfl)) rfl
theorem dg_X2_clear_0_0 : bqL cX2_clear 0 [(0, [42]), (1, [180, 0, 12]), (4, [182, 0, 47]), (7, [42]), (8, [180, 0, 18]), (11, [3]), (12, [184, 0, 50]), (15, [42]), (16, [180, 0, 22]), (19, [3]), (20, [184, 0, 50]), (23, [42]), (24, [180, 0, 25]), (27, [3]), (28, [184, 0, 50]), (31, [42]), (32, [180, 0, 28]), (35, [3]), (36, [184, 0, 50]), (39, [42]), (40, [3]), (41, [181, 0, 38]), (44, [42]), (45, [3]), (46, [181, 0, 41]), (49, [42]), (50, [3]), (51, [181, 0, 44]), (54, [177])] = true := by decide +kernel
theorem dX2_clear_0 : decode cX2_clear 0 = .ok (.aload_n 0, 1) := q_aload_n0 (bat_get dg_X2_clear_0_0 0 rfl rfl)
theorem dX2_clear_1 : decode cX2_clear 1 = .ok (.getfield 12, 3) := q_getfield (bat_get dg_X2_clear_0_0 1 rfl rfl) rfl
theorem dX2_clear_4 : decode cX2_clear 4 = .ok (.invokevirtual 47, 3) := q_invokevirtual (bat_get dg_X2_clear_0_0 2 rfl rfl) rfl
theorem dX2_clear_7 : decode cX2_clear 7 = .ok (.aload_n 0, 1) := q_aload_n0 (bat_get dg_X2_clear_0_0 3 rfl rfl)
theorem dX2_clear_8 : decode cX2_clear 8 = .ok (.getfield 18, 3) := q_getfield (bat_get dg_X2_clear_0_0 4 rfl rfl) rfl
theorem dX2_clear_11 : decode cX2_clear 11 = .ok (.iconst 0, 1) := q_iconst0 (bat_get dg_X2_clear_0_0 5 rfl rfl)
theorem dX2_clear_12 : decode cX2_clear 12 = .ok (.invokestatic 50, 3) := q_invokestatic (bat_get dg_X2_clear_0_0 6 rfl rfl) rfl
theorem dX2_clear_15 : decode cX2_clear 15 = .ok (.aload_n 0, 1) := q_aload_n0 (bat_get dg_X2_clear_0_0 7 rfl rfl)
theorem dX2_clear_16 : decode cX2_clear 16 = .ok (.getfield 22, 3) := q_getfield (bat_get dg_X2_clear_0_0 8 rfl rfl) rfl
theorem dX2_clear_19 : decode cX2_clear 19 = .ok (.iconst 0, 1) := q_iconst0 (bat_get dg_X2_clear_0_0 9 rfl rfl)
theorem dX2_clear_20 : decode cX2_clear 20 = .ok (.invokestatic 50, 3) := q_invokestatic (bat_get dg_X2_clear_0_0 10 rfl rfl) rfl
theorem dX2_clear_23 : decode cX2_clear 23 = .ok (.aload_n 0, 1) := q_aload_n0 (bat_get dg_X2_clear_0_0 11 rfl rfl)
theorem dX2_clear_24 : decode cX2_clear 24 = .ok (.getfield 25, 3) := q_getfield (bat_get dg_X2_clear_0_0 12 rfl rfl) rfl
theorem dX2_clear_27 : decode cX2_clear 27 = .ok (.iconst 0, 1) := q_iconst0 (bat_get dg_X2_clear_0_0 13 rfl rfl)
theorem dX2_clear_28 : decode cX2_clear 28 = .ok (.invokestatic 50, 3) := q_invokestatic (bat_get dg_X2_clear_0_0 14 rfl rfl) rfl
theorem dX2_clear_31 : decode cX2_clear 31 = .ok (.aload_n 0, 1) := q_aload_n0 (bat_get dg_X2_clear_0_0 15 rfl rfl)
theorem dX2_clear_32 : decode cX2_clear 32 = .ok (.getfield 28, 3) := q_getfield (bat_get dg_X2_clear_0_0 16 rfl rfl) rfl
theorem dX2_clear_35 : decode cX2_clear 35 = .ok (.iconst 0, 1) := q_iconst0 (bat_get dg_X2_clear_0_0 17 rfl rfl)
theorem dX2_clear_36 : decode cX2_clear 36 = .ok (.invokestatic 50, 3) := q_invokestatic (bat_get dg_X2_clear_0_0 18 rfl rfl) rfl
theorem dX2_clear_39 : decode cX2_clear 39 = .ok (.aload_n 0, 1) := q_aload_n0 (bat_get dg_X2_clear_0_0 19 rfl rfl)
theorem dX2_clear_40 : decode cX2_clear 40 = .ok (.iconst 0, 1) := q_iconst0 (bat_get dg_X2_clear_0_0 20 rfl rfl)
theorem dX2_clear_41 : decode cX2_clear 41 = .ok (.putfield 38, 3) := q_putfield (bat_get dg_X2_clear_0_0 21 rfl rfl) rfl
theorem dX2_clear_44 : decode cX2_clear 44 = .ok (.aload_n 0, 1) := q_aload_n0 (bat_get dg_X2_clear_0_0 22 rfl rfl)
theorem dX2_clear_45 : decode cX2_clear 45 = .ok (.iconst 0, 1) := q_iconst0 (bat_get dg_X2_clear_0_0 23 rfl rfl)
theorem dX2_clear_46 : decode cX2_clear 46 = .ok (.putfield 41, 3) := q_putfield (bat_get dg_X2_clear_0_0 24 rfl rfl) rfl
theorem dX2_clear_49 : decode cX2_clear 49 = .ok (.aload_n 0, 1) := q_aload_n0 (bat_get dg_X2_clear_0_0 25 rfl rfl)
theorem dX2_clear_50 : decode cX2_clear 50 = .ok (.iconst 0, 1) := q_iconst0 (bat_get dg_X2_clear_0_0 26 rfl rfl)
theorem dX2_clear_51 : decode cX2_clear 51 = .ok (.putfield 44, 3) := q_putfield (bat_get dg_X2_clear_0_0 27 rfl rfl) rfl
theorem dX2_clear_54 : decode cX2_clear 54 = .ok (.return_, 1) := q_return_ (bat_get dg_X2_clear_0_0 28 rfl rfl)
theorem w_1_175 : (Cond.fieldLink RX2 12 "SameKeeper$Lock" "code" "LSameKeeper$Code;") ∈ wsL_law := sk_mem (ck_1 _ (List.mem_of_getElem? (i := 175) rfl)) rfl
theorem w_2_214 : (Cond.methodLink RX2 47 yX0_clear) ∈ wsL_law := sk_mem (ck_2 _ (List.mem_of_getElem? (i := 214) rfl)) rfl
theorem w_2_215 : (Cond.instanceMethod yX0_clear) ∈ wsL_law := sk_mem (ck_2 _ (List.mem_of_getElem? (i := 215) rfl)) rfl
theorem w_2_216 : (Cond.selects RX0 yX0_clear yX0_clear) ∈ wsL_law := sk_mem (ck_2 _ (List.mem_of_getElem? (i := 216) rfl)) rfl
theorem w_1_178 : (Cond.fieldLink RX2 18 "SameKeeper$Lock" "barge" "[I") ∈ wsL_law := sk_mem (ck_1 _ (List.mem_of_getElem? (i := 178) rfl)) rfl
theorem w_2_218 : (Cond.methodLink RX2 50 yJ7_fill_53178) ∈ wsL_law := sk_mem (ck_2 _ (List.mem_of_getElem? (i := 218) rfl)) rfl
theorem w_1_181 : (Cond.fieldLink RX2 22 "SameKeeper$Lock" "wet" "[I") ∈ wsL_law := sk_mem (ck_1 _ (List.mem_of_getElem? (i := 181) rfl)) rfl
theorem w_1_184 : (Cond.fieldLink RX2 25 "SameKeeper$Lock" "from" "[I") ∈ wsL_law := sk_mem (ck_1 _ (List.mem_of_getElem? (i := 184) rfl)) rfl
theorem w_1_186 : (Cond.fieldLink RX2 28 "SameKeeper$Lock" "to" "[I") ∈ wsL_law := sk_mem (ck_1 _ (List.mem_of_getElem? (i := 186) rfl)) rfl
theorem w_1_194 : (Cond.fieldLink RX2 38 "SameKeeper$Lock" "mute" "I") ∈ wsL_law := sk_mem (ck_1 _ (List.mem_of_getElem? (i := 194) rfl)) rfl
theorem w_1_197 : (Cond.fieldLink RX2 41 "SameKeeper$Lock" "rain" "I") ∈ wsL_law := sk_mem (ck_1 _ (List.mem_of_getElem? (i := 197) rfl)) rfl
theorem w_1_200 : (Cond.fieldLink RX2 44 "SameKeeper$Lock" "statements" "I") ∈ wsL_law := sk_mem (ck_1 _ (List.mem_of_getElem? (i := 200) rfl)) rfl
theorem w_2_213 : (Cond.code yX2_clear cX2_clear 1 none) ∈ wsL_law := sk_mem (ck_2 _ (List.mem_of_getElem? (i := 213) rfl)) rfl
def om_6_2 : List Bool := false :: false :: false :: false :: true :: false :: []
def om_6_1 : List Bool := false :: false :: false :: false :: false :: true :: []
def om_6_8 : List Bool := false :: false :: true :: false :: false :: false :: []
def om_6_4 : List Bool := false :: false :: false :: true :: false :: false :: []
theorem hd_X0_clear_0 : skD yX0_clear 0 := by decide +kernel
theorem dg_X2_hasSum_0_0 : bqL cX2_hasSum 0 [(0, [42]), (1, [180, 0, 28]), (4, [27]), (5, [46]), (6, [42]), (7, [180, 0, 25]), (10, [27]), (11, [46]), (12, [164, 0, 7]), (19, [3]), (20, [172]), (15, [4]), (16, [167, 0, 4])] = true := by decide +kernel
theorem dX2_hasSum_0 : decode cX2_hasSum 0 = .ok (.aload_n 0, 1) := q_aload_n0 (bat_get dg_X2_hasSum_0_0 0 rfl rfl)
theorem dX2_hasSum_1 : decode cX2_hasSum 1 = .ok (.getfield 28, 3) := q_getfield (bat_get dg_X2_hasSum_0_0 1 rfl rfl) rfl
theorem dX2_hasSum_4 : decode cX2_hasSum 4 = .ok (.iload_n 1, 1) := q_iload_n1 (bat_get dg_X2_hasSum_0_0 2 rfl rfl)
theorem dX2_hasSum_5 : decode cX2_hasSum 5 = .ok (.iaload, 1) := q_iaload (bat_get dg_X2_hasSum_0_0 3 rfl rfl)
theorem dX2_hasSum_6 : decode cX2_hasSum 6 = .ok (.aload_n 0, 1) := q_aload_n0 (bat_get dg_X2_hasSum_0_0 4 rfl rfl)
theorem dX2_hasSum_7 : decode cX2_hasSum 7 = .ok (.getfield 25, 3) := q_getfield (bat_get dg_X2_hasSum_0_0 5 rfl rfl) rfl
theorem dX2_hasSum_10 : decode cX2_hasSum 10 = .ok (.iload_n 1, 1) := q_iload_n1 (bat_get dg_X2_hasSum_0_0 6 rfl rfl)
theorem dX2_hasSum_11 : decode cX2_hasSum 11 = .ok (.iaload, 1) := q_iaload (bat_get dg_X2_hasSum_0_0 7 rfl rfl)
theorem dX2_hasSum_12 : decode cX2_hasSum 12 = .ok (.if_icmp .le 7, 3) := q_if_icmp_le (bat_get dg_X2_hasSum_0_0 8 rfl rfl) rfl
theorem dX2_hasSum_19 : decode cX2_hasSum 19 = .ok (.iconst 0, 1) := q_iconst0 (bat_get dg_X2_hasSum_0_0 9 rfl rfl)
theorem dX2_hasSum_20 : decode cX2_hasSum 20 = .ok (.ireturn, 1) := q_ireturn (bat_get dg_X2_hasSum_0_0 10 rfl rfl)
theorem dX2_hasSum_15 : decode cX2_hasSum 15 = .ok (.iconst 1, 1) := q_iconst1 (bat_get dg_X2_hasSum_0_0 11 rfl rfl)
theorem dX2_hasSum_16 : decode cX2_hasSum 16 = .ok (.goto 4, 3) := q_goto (bat_get dg_X2_hasSum_0_0 12 rfl rfl) rfl
theorem w_3_73 : (Cond.code yX2_hasSum cX2_hasSum 2 (some .boolean)) ∈ wsL_law := sk_mem (ck_3 _ (List.mem_of_getElem? (i := 73) rfl)) rfl
theorem dg_X2_beginSum_0_0 : bqL cX2_beginSum 0 [(0, [42]), (1, [180, 0, 25]), (4, [27]), (5, [42]), (6, [180, 0, 12]), (9, [180, 0, 56]), (12, [79]), (13, [177])] = true := by decide +kernel
theorem dX2_beginSum_0 : decode cX2_beginSum 0 = .ok (.aload_n 0, 1) := q_aload_n0 (bat_get dg_X2_beginSum_0_0 0 rfl rfl)
theorem dX2_beginSum_1 : decode cX2_beginSum 1 = .ok (.getfield 25, 3) := q_getfield (bat_get dg_X2_beginSum_0_0 1 rfl rfl) rfl
theorem dX2_beginSum_4 : decode cX2_beginSum 4 = .ok (.iload_n 1, 1) := q_iload_n1 (bat_get dg_X2_beginSum_0_0 2 rfl rfl)
theorem dX2_beginSum_5 : decode cX2_beginSum 5 = .ok (.aload_n 0, 1) := q_aload_n0 (bat_get dg_X2_beginSum_0_0 3 rfl rfl)
theorem dX2_beginSum_6 : decode cX2_beginSum 6 = .ok (.getfield 12, 3) := q_getfield (bat_get dg_X2_beginSum_0_0 4 rfl rfl) rfl
theorem dX2_beginSum_9 : decode cX2_beginSum 9 = .ok (.getfield 56, 3) := q_getfield (bat_get dg_X2_beginSum_0_0 5 rfl rfl) rfl
theorem dX2_beginSum_12 : decode cX2_beginSum 12 = .ok (.iastore, 1) := q_iastore (bat_get dg_X2_beginSum_0_0 6 rfl rfl)
theorem dX2_beginSum_13 : decode cX2_beginSum 13 = .ok (.return_, 1) := q_return_ (bat_get dg_X2_beginSum_0_0 7 rfl rfl)
theorem w_1_134 : (Cond.fieldLink RX2 56 "SameKeeper$Code" "length" "I") ∈ wsL_law := sk_mem (ck_1 _ (List.mem_of_getElem? (i := 134) rfl)) rfl
theorem w_3_79 : (Cond.code yX2_beginSum cX2_beginSum 2 none) ∈ wsL_law := sk_mem (ck_3 _ (List.mem_of_getElem? (i := 79) rfl)) rfl
theorem dg_X2_endSum_0_0 : bqL cX2_endSum 0 [(0, [42]), (1, [180, 0, 28]), (4, [27]), (5, [42]), (6, [180, 0, 12]), (9, [180, 0, 56]), (12, [79]), (13, [177])] = true := by decide +kernel
theorem dX2_endSum_0 : decode cX2_endSum 0 = .ok (.aload_n 0, 1) := q_aload_n0 (bat_get dg_X2_endSum_0_0 0 rfl rfl)
theorem dX2_endSum_1 : decode cX2_endSum 1 = .ok (.getfield 28, 3) := q_getfield (bat_get dg_X2_endSum_0_0 1 rfl rfl) rfl
theorem dX2_endSum_4 : decode cX2_endSum 4 = .ok (.iload_n 1, 1) := q_iload_n1 (bat_get dg_X2_endSum_0_0 2 rfl rfl)
theorem dX2_endSum_5 : decode cX2_endSum 5 = .ok (.aload_n 0, 1) := q_aload_n0 (bat_get dg_X2_endSum_0_0 3 rfl rfl)
theorem dX2_endSum_6 : decode cX2_endSum 6 = .ok (.getfield 12, 3) := q_getfield (bat_get dg_X2_endSum_0_0 4 rfl rfl) rfl
theorem dX2_endSum_9 : decode cX2_endSum 9 = .ok (.getfield 56, 3) := q_getfield (bat_get dg_X2_endSum_0_0 5 rfl rfl) rfl
theorem dX2_endSum_12 : decode cX2_endSum 12 = .ok (.iastore, 1) := q_iastore (bat_get dg_X2_endSum_0_0 6 rfl rfl)
theorem dX2_endSum_13 : decode cX2_endSum 13 = .ok (.return_, 1) := q_return_ (bat_get dg_X2_endSum_0_0 7 rfl rfl)
theorem w_3_126 : (Cond.code yX2_endSum cX2_endSum 2 none) ∈ wsL_law := sk_mem (ck_3 _ (List.mem_of_getElem? (i := 126) rfl)) rfl
theorem dg_X2_addUntold_0_0 : bqL cX2_addUntold 0 [(0, [3]), (1, [60]), (2, [27]), (3, [5]), (4, [163, 0, 48]), (52, [177]), (7, [42]), (8, [27]), (9, [182, 0, 59]), (12, [154, 0, 34]), (46, [132, 1, 1]), (49, [167, 255, 209]), (15, [42]), (16, [27]), (17, [182, 0, 63]), (38, [182, 0, 67]), (41, [42]), (42, [27]), (43, [182, 0, 70]), (20, [42]), (21, [180, 0, 12]), (24, [27]), (25, [4]), (26, [160, 0, 9]), (35, [17, 39, 16]), (29, [17, 39, 21]), (32, [167, 0, 6])] = true := by decide +kernel
theorem dX2_addUntold_0 : decode cX2_addUntold 0 = .ok (.iconst 0, 1) := q_iconst0 (bat_get dg_X2_addUntold_0_0 0 rfl rfl)
theorem dX2_addUntold_1 : decode cX2_addUntold 1 = .ok (.istore_n 1, 1) := q_istore_n1 (bat_get dg_X2_addUntold_0_0 1 rfl rfl)
theorem dX2_addUntold_2 : decode cX2_addUntold 2 = .ok (.iload_n 1, 1) := q_iload_n1 (bat_get dg_X2_addUntold_0_0 2 rfl rfl)
theorem dX2_addUntold_3 : decode cX2_addUntold 3 = .ok (.iconst 2, 1) := q_iconst2 (bat_get dg_X2_addUntold_0_0 3 rfl rfl)
theorem dX2_addUntold_4 : decode cX2_addUntold 4 = .ok (.if_icmp .gt 48, 3) := q_if_icmp_gt (bat_get dg_X2_addUntold_0_0 4 rfl rfl) rfl
theorem dX2_addUntold_52 : decode cX2_addUntold 52 = .ok (.return_, 1) := q_return_ (bat_get dg_X2_addUntold_0_0 5 rfl rfl)
theorem dX2_addUntold_7 : decode cX2_addUntold 7 = .ok (.aload_n 0, 1) := q_aload_n0 (bat_get dg_X2_addUntold_0_0 6 rfl rfl)
theorem dX2_addUntold_8 : decode cX2_addUntold 8 = .ok (.iload_n 1, 1) := q_iload_n1 (bat_get dg_X2_addUntold_0_0 7 rfl rfl)
theorem dX2_addUntold_9 : decode cX2_addUntold 9 = .ok (.invokevirtual 59, 3) := q_invokevirtual (bat_get dg_X2_addUntold_0_0 8 rfl rfl) rfl
theorem dX2_addUntold_12 : decode cX2_addUntold 12 = .ok (.ifCond .ne 34, 3) := q_ifCond_ne (bat_get dg_X2_addUntold_0_0 9 rfl rfl) rfl
theorem dX2_addUntold_46 : decode cX2_addUntold 46 = .ok (.iinc 1 1, 3) := q_iinc (bat_get dg_X2_addUntold_0_0 10 rfl rfl) rfl
theorem dX2_addUntold_49 : decode cX2_addUntold 49 = .ok (.goto (-47), 3) := q_goto (bat_get dg_X2_addUntold_0_0 11 rfl rfl) rfl
theorem dX2_addUntold_15 : decode cX2_addUntold 15 = .ok (.aload_n 0, 1) := q_aload_n0 (bat_get dg_X2_addUntold_0_0 12 rfl rfl)
theorem dX2_addUntold_16 : decode cX2_addUntold 16 = .ok (.iload_n 1, 1) := q_iload_n1 (bat_get dg_X2_addUntold_0_0 13 rfl rfl)
theorem dX2_addUntold_17 : decode cX2_addUntold 17 = .ok (.invokevirtual 63, 3) := q_invokevirtual (bat_get dg_X2_addUntold_0_0 14 rfl rfl) rfl
theorem dX2_addUntold_38 : decode cX2_addUntold 38 = .ok (.invokevirtual 67, 3) := q_invokevirtual (bat_get dg_X2_addUntold_0_0 15 rfl rfl) rfl
theorem dX2_addUntold_41 : decode cX2_addUntold 41 = .ok (.aload_n 0, 1) := q_aload_n0 (bat_get dg_X2_addUntold_0_0 16 rfl rfl)
theorem dX2_addUntold_42 : decode cX2_addUntold 42 = .ok (.iload_n 1, 1) := q_iload_n1 (bat_get dg_X2_addUntold_0_0 17 rfl rfl)
theorem dX2_addUntold_43 : decode cX2_addUntold 43 = .ok (.invokevirtual 70, 3) := q_invokevirtual (bat_get dg_X2_addUntold_0_0 18 rfl rfl) rfl
theorem dX2_addUntold_20 : decode cX2_addUntold 20 = .ok (.aload_n 0, 1) := q_aload_n0 (bat_get dg_X2_addUntold_0_0 19 rfl rfl)
theorem dX2_addUntold_21 : decode cX2_addUntold 21 = .ok (.getfield 12, 3) := q_getfield (bat_get dg_X2_addUntold_0_0 20 rfl rfl) rfl
theorem dX2_addUntold_24 : decode cX2_addUntold 24 = .ok (.iload_n 1, 1) := q_iload_n1 (bat_get dg_X2_addUntold_0_0 21 rfl rfl)
theorem dX2_addUntold_25 : decode cX2_addUntold 25 = .ok (.iconst 1, 1) := q_iconst1 (bat_get dg_X2_addUntold_0_0 22 rfl rfl)
theorem dX2_addUntold_26 : decode cX2_addUntold 26 = .ok (.if_icmp .ne 9, 3) := q_if_icmp_ne (bat_get dg_X2_addUntold_0_0 23 rfl rfl) rfl
theorem dX2_addUntold_35 : decode cX2_addUntold 35 = .ok (.sipush 10000, 3) := q_sipush (bat_get dg_X2_addUntold_0_0 24 rfl rfl) rfl
theorem dX2_addUntold_29 : decode cX2_addUntold 29 = .ok (.sipush 10005, 3) := q_sipush (bat_get dg_X2_addUntold_0_0 25 rfl rfl) rfl
theorem dX2_addUntold_32 : decode cX2_addUntold 32 = .ok (.goto 6, 3) := q_goto (bat_get dg_X2_addUntold_0_0 26 rfl rfl) rfl
theorem w_3_144 : (Cond.methodLink RX2 59 yX2_hasSum) ∈ wsL_law := sk_mem (ck_3 _ (List.mem_of_getElem? (i := 144) rfl)) rfl
theorem w_3_71 : (Cond.instanceMethod yX2_hasSum) ∈ wsL_law := sk_mem (ck_3 _ (List.mem_of_getElem? (i := 71) rfl)) rfl
theorem w_3_72 : (Cond.selects RX2 yX2_hasSum yX2_hasSum) ∈ wsL_law := sk_mem (ck_3 _ (List.mem_of_getElem? (i := 72) rfl)) rfl
theorem w_1_9 : (Cond.initialized RX2) ∈ wsL_law := sk_mem (ck_1 _ (List.mem_of_getElem? (i := 9) rfl)) rfl
theorem w_3_145 : (Cond.methodLink RX2 63 yX2_beginSum) ∈ wsL_law := sk_mem (ck_3 _ (List.mem_of_getElem? (i := 145) rfl)) rfl
theorem w_3_77 : (Cond.instanceMethod yX2_beginSum) ∈ wsL_law := sk_mem (ck_3 _ (List.mem_of_getElem? (i := 77) rfl)) rfl
