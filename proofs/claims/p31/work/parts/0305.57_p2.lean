theorem dX12_qWordHere_91 : decode cX12_qWordHere 91 = .ok (.ireturn, 1) := q_ireturn (bat_get dg_X12_qWordHere_11_106 26 rfl rfl)
theorem dX12_qWordHere_76 : decode cX12_qWordHere 76 = .ok (.iconst 5, 1) := q_iconst5 (bat_get dg_X12_qWordHere_11_106 27 rfl rfl)
theorem dX12_qWordHere_77 : decode cX12_qWordHere 77 = .ok (.ireturn, 1) := q_ireturn (bat_get dg_X12_qWordHere_11_106 28 rfl rfl)
theorem dX12_qWordHere_63 : decode cX12_qWordHere 63 = .ok (.iconst 4, 1) := q_iconst4 (bat_get dg_X12_qWordHere_11_106 29 rfl rfl)
theorem dX12_qWordHere_64 : decode cX12_qWordHere 64 = .ok (.ireturn, 1) := q_ireturn (bat_get dg_X12_qWordHere_11_106 30 rfl rfl)
theorem dX12_qWordHere_50 : decode cX12_qWordHere 50 = .ok (.iconst 3, 1) := q_iconst3 (bat_get dg_X12_qWordHere_11_106 31 rfl rfl)
theorem dX12_qWordHere_51 : decode cX12_qWordHere 51 = .ok (.ireturn, 1) := q_ireturn (bat_get dg_X12_qWordHere_11_106 32 rfl rfl)
theorem dX12_qWordHere_37 : decode cX12_qWordHere 37 = .ok (.iconst 2, 1) := q_iconst2 (bat_get dg_X12_qWordHere_11_106 33 rfl rfl)
theorem dX12_qWordHere_38 : decode cX12_qWordHere 38 = .ok (.ireturn, 1) := q_ireturn (bat_get dg_X12_qWordHere_11_106 34 rfl rfl)
theorem dX12_qWordHere_24 : decode cX12_qWordHere 24 = .ok (.iconst 1, 1) := q_iconst1 (bat_get dg_X12_qWordHere_11_106 35 rfl rfl)
theorem dX12_qWordHere_25 : decode cX12_qWordHere 25 = .ok (.ireturn, 1) := q_ireturn (bat_get dg_X12_qWordHere_11_106 36 rfl rfl)
theorem dX12_qWordHere_11 : decode cX12_qWordHere 11 = .ok (.iconst 0, 1) := q_iconst0 (bat_get dg_X12_qWordHere_11_106 37 rfl rfl)
theorem dX12_qWordHere_12 : decode cX12_qWordHere 12 = .ok (.ireturn, 1) := q_ireturn (bat_get dg_X12_qWordHere_11_106 38 rfl rfl)
theorem w_5_225 : (Cond.fieldLink RX12 150 "SameKeeperModel" "moodAsked" "[C") ∈ wsL_law := sk_mem (ck_5 _ (List.mem_of_getElem? (i := 225) rfl)) rfl
theorem w_5_226 : (Cond.fieldLink RX12 153 "SameKeeperModel" "bargeAsked" "[C") ∈ wsL_law := sk_mem (ck_5 _ (List.mem_of_getElem? (i := 226) rfl)) rfl
theorem w_5_227 : (Cond.fieldLink RX12 156 "SameKeeperModel" "wetAsked" "[C") ∈ wsL_law := sk_mem (ck_5 _ (List.mem_of_getElem? (i := 227) rfl)) rfl
theorem w_5_228 : (Cond.fieldLink RX12 159 "SameKeeperModel" "dayAsked" "[C") ∈ wsL_law := sk_mem (ck_5 _ (List.mem_of_getElem? (i := 228) rfl)) rfl
theorem w_5_229 : (Cond.fieldLink RX12 162 "SameKeeperModel" "weekAsked" "[C") ∈ wsL_law := sk_mem (ck_5 _ (List.mem_of_getElem? (i := 229) rfl)) rfl
theorem w_5_230 : (Cond.fieldLink RX12 165 "SameKeeperModel" "toldAsked" "[C") ∈ wsL_law := sk_mem (ck_5 _ (List.mem_of_getElem? (i := 230) rfl)) rfl
theorem w_5_231 : (Cond.fieldLink RX12 168 "SameKeeperModel" "aloneAsked" "[C") ∈ wsL_law := sk_mem (ck_5 _ (List.mem_of_getElem? (i := 231) rfl)) rfl
theorem w_5_232 : (Cond.fieldLink RX12 171 "SameKeeperModel" "numberAsked" "[C") ∈ wsL_law := sk_mem (ck_5 _ (List.mem_of_getElem? (i := 232) rfl)) rfl
theorem w_5_233 : (Cond.fieldLink RX12 174 "SameKeeperModel" "muteAsked" "[C") ∈ wsL_law := sk_mem (ck_5 _ (List.mem_of_getElem? (i := 233) rfl)) rfl
theorem w_5_213 : (Cond.fieldLink RX12 114 "SameKeeperModel" "firstAsked" "[C") ∈ wsL_law := sk_mem (ck_5 _ (List.mem_of_getElem? (i := 213) rfl)) rfl
theorem w_5_234 : (Cond.fieldLink RX12 177 "SameKeeperModel" "weeksAsked" "[C") ∈ wsL_law := sk_mem (ck_5 _ (List.mem_of_getElem? (i := 234) rfl)) rfl
theorem w_7_42 : (Cond.code yX12_qWordHere cX12_qWordHere 1 (some .int)) ∈ wsL_law := sk_mem (ck_7 _ (List.mem_of_getElem? (i := 42) rfl)) rfl
def om_13_1a00 : List Bool := true :: true :: false :: true :: false :: false :: false :: false :: false :: false :: false :: false :: false :: []
def om_13_1900 : List Bool := true :: true :: false :: false :: true :: false :: false :: false :: false :: false :: false :: false :: false :: []
def om_13_1880 : List Bool := true :: true :: false :: false :: false :: true :: false :: false :: false :: false :: false :: false :: false :: []
def om_13_1840 : List Bool := true :: true :: false :: false :: false :: false :: true :: false :: false :: false :: false :: false :: false :: []
def om_13_1820 : List Bool := true :: true :: false :: false :: false :: false :: false :: true :: false :: false :: false :: false :: false :: []
def om_13_1810 : List Bool := true :: true :: false :: false :: false :: false :: false :: false :: true :: false :: false :: false :: false :: []
def om_13_1808 : List Bool := true :: true :: false :: false :: false :: false :: false :: false :: false :: true :: false :: false :: false :: []
def om_13_1804 : List Bool := true :: true :: false :: false :: false :: false :: false :: false :: false :: false :: true :: false :: false :: []
def om_13_1802 : List Bool := true :: true :: false :: false :: false :: false :: false :: false :: false :: false :: false :: true :: false :: []
def om_13_1801 : List Bool := true :: true :: false :: false :: false :: false :: false :: false :: false :: false :: false :: false :: true :: []
theorem dg_X12_qWordOf_0_0 : bqL cX12_qWordOf 0 [(0, [42]), (1, [182, 1, 251]), (4, [62]), (5, [29]), (6, [27]), (7, [161, 0, 20]), (27, [2]), (28, [172]), (10, [29]), (11, [28]), (12, [162, 0, 15]), (15, [42]), (16, [29]), (17, [182, 1, 254]), (20, [153, 0, 7]), (23, [29]), (24, [167, 0, 4])] = true := by decide +kernel
theorem dX12_qWordOf_0 : decode cX12_qWordOf 0 = .ok (.aload_n 0, 1) := q_aload_n0 (bat_get dg_X12_qWordOf_0_0 0 rfl rfl)
theorem dX12_qWordOf_1 : decode cX12_qWordOf 1 = .ok (.invokevirtual 507, 3) := q_invokevirtual (bat_get dg_X12_qWordOf_0_0 1 rfl rfl) rfl
theorem dX12_qWordOf_4 : decode cX12_qWordOf 4 = .ok (.istore_n 3, 1) := q_istore_n3 (bat_get dg_X12_qWordOf_0_0 2 rfl rfl)
theorem dX12_qWordOf_5 : decode cX12_qWordOf 5 = .ok (.iload_n 3, 1) := q_iload_n3 (bat_get dg_X12_qWordOf_0_0 3 rfl rfl)
theorem dX12_qWordOf_6 : decode cX12_qWordOf 6 = .ok (.iload_n 1, 1) := q_iload_n1 (bat_get dg_X12_qWordOf_0_0 4 rfl rfl)
theorem dX12_qWordOf_7 : decode cX12_qWordOf 7 = .ok (.if_icmp .lt 20, 3) := q_if_icmp_lt (bat_get dg_X12_qWordOf_0_0 5 rfl rfl) rfl
theorem dX12_qWordOf_27 : decode cX12_qWordOf 27 = .ok (.iconst (-1), 1) := q_iconstm1 (bat_get dg_X12_qWordOf_0_0 6 rfl rfl)
theorem dX12_qWordOf_28 : decode cX12_qWordOf 28 = .ok (.ireturn, 1) := q_ireturn (bat_get dg_X12_qWordOf_0_0 7 rfl rfl)
theorem dX12_qWordOf_10 : decode cX12_qWordOf 10 = .ok (.iload_n 3, 1) := q_iload_n3 (bat_get dg_X12_qWordOf_0_0 8 rfl rfl)
theorem dX12_qWordOf_11 : decode cX12_qWordOf 11 = .ok (.iload_n 2, 1) := q_iload_n2 (bat_get dg_X12_qWordOf_0_0 9 rfl rfl)
theorem dX12_qWordOf_12 : decode cX12_qWordOf 12 = .ok (.if_icmp .ge 15, 3) := q_if_icmp_ge (bat_get dg_X12_qWordOf_0_0 10 rfl rfl) rfl
theorem dX12_qWordOf_15 : decode cX12_qWordOf 15 = .ok (.aload_n 0, 1) := q_aload_n0 (bat_get dg_X12_qWordOf_0_0 11 rfl rfl)
theorem dX12_qWordOf_16 : decode cX12_qWordOf 16 = .ok (.iload_n 3, 1) := q_iload_n3 (bat_get dg_X12_qWordOf_0_0 12 rfl rfl)
theorem dX12_qWordOf_17 : decode cX12_qWordOf 17 = .ok (.invokevirtual 510, 3) := q_invokevirtual (bat_get dg_X12_qWordOf_0_0 13 rfl rfl) rfl
theorem dX12_qWordOf_20 : decode cX12_qWordOf 20 = .ok (.ifCond .eq 7, 3) := q_ifCond_eq (bat_get dg_X12_qWordOf_0_0 14 rfl rfl) rfl
theorem dX12_qWordOf_23 : decode cX12_qWordOf 23 = .ok (.iload_n 3, 1) := q_iload_n3 (bat_get dg_X12_qWordOf_0_0 15 rfl rfl)
theorem dX12_qWordOf_24 : decode cX12_qWordOf 24 = .ok (.goto 4, 3) := q_goto (bat_get dg_X12_qWordOf_0_0 16 rfl rfl) rfl
theorem w_7_39 : (Cond.methodLink RX12 507 yX12_qWordHere) ∈ wsL_law := sk_mem (ck_7 _ (List.mem_of_getElem? (i := 39) rfl)) rfl
theorem w_7_41 : (Cond.instanceMethod yX12_qWordHere) ∈ wsL_law := sk_mem (ck_7 _ (List.mem_of_getElem? (i := 41) rfl)) rfl
theorem w_0_57 : (Cond.selects RX12 yX12_qWordHere yX12_qWordHere) ∈ wsL_law := sk_mem (ck_0 _ (List.mem_of_getElem? (i := 57) rfl)) rfl
theorem w_7_43 : (Cond.methodLink RX12 510 yX12_isAllowed) ∈ wsL_law := sk_mem (ck_7 _ (List.mem_of_getElem? (i := 43) rfl)) rfl
theorem w_7_45 : (Cond.instanceMethod yX12_isAllowed) ∈ wsL_law := sk_mem (ck_7 _ (List.mem_of_getElem? (i := 45) rfl)) rfl
theorem w_0_58 : (Cond.selects RX12 yX12_isAllowed yX12_isAllowed) ∈ wsL_law := sk_mem (ck_0 _ (List.mem_of_getElem? (i := 58) rfl)) rfl
theorem w_7_38 : (Cond.code yX12_qWordOf cX12_qWordOf 4 (some .int)) ∈ wsL_law := sk_mem (ck_7 _ (List.mem_of_getElem? (i := 38) rfl)) rfl
theorem hd_X12_qWordHere_0 : skD yX12_qWordHere 0 := by decide +kernel
theorem hd_X12_isAllowed_1 : skD yX12_isAllowed 1 := by decide +kernel
theorem dX12_qAsksWord_1 : decode cX12_qAsksWord 1 = .ok (.tableswitch 165 0 9 #[55, 66, 77, 88, 99, 110, 121, 132, 143, 154], 55) := by decide +kernel
theorem dg_X12_qAsksWord_0_0 : bqL cX12_qAsksWord 0 [(0, [27]), (56, [42]), (57, [42]), (58, [180, 0, 150]), (61, [182, 0, 245]), (64, [167, 0, 110]), (174, [177]), (67, [42]), (68, [42]), (69, [180, 0, 153]), (72, [182, 0, 245]), (75, [167, 0, 99]), (78, [42]), (79, [42]), (80, [180, 0, 156]), (83, [182, 0, 245]), (86, [167, 0, 88]), (89, [42]), (90, [42]), (91, [180, 0, 159]), (94, [182, 0, 245]), (97, [167, 0, 77]), (100, [42]), (101, [42]), (102, [180, 0, 162]), (105, [182, 0, 245]), (108, [167, 0, 66]), (111, [42]), (112, [42]), (113, [180, 0, 165]), (116, [182, 0, 245]), (119, [167, 0, 55]), (122, [42]), (123, [42]), (124, [180, 0, 168]), (127, [182, 0, 245]), (130, [167, 0, 44]), (133, [42]), (134, [42]), (135, [180, 0, 171])] = true := by decide +kernel
theorem dX12_qAsksWord_0 : decode cX12_qAsksWord 0 = .ok (.iload_n 1, 1) := q_iload_n1 (bat_get dg_X12_qAsksWord_0_0 0 rfl rfl)
theorem dX12_qAsksWord_56 : decode cX12_qAsksWord 56 = .ok (.aload_n 0, 1) := q_aload_n0 (bat_get dg_X12_qAsksWord_0_0 1 rfl rfl)
theorem dX12_qAsksWord_57 : decode cX12_qAsksWord 57 = .ok (.aload_n 0, 1) := q_aload_n0 (bat_get dg_X12_qAsksWord_0_0 2 rfl rfl)
theorem dX12_qAsksWord_58 : decode cX12_qAsksWord 58 = .ok (.getfield 150, 3) := q_getfield (bat_get dg_X12_qAsksWord_0_0 3 rfl rfl) rfl
theorem dX12_qAsksWord_61 : decode cX12_qAsksWord 61 = .ok (.invokevirtual 245, 3) := q_invokevirtual (bat_get dg_X12_qAsksWord_0_0 4 rfl rfl) rfl
theorem dX12_qAsksWord_64 : decode cX12_qAsksWord 64 = .ok (.goto 110, 3) := q_goto (bat_get dg_X12_qAsksWord_0_0 5 rfl rfl) rfl
theorem dX12_qAsksWord_174 : decode cX12_qAsksWord 174 = .ok (.return_, 1) := q_return_ (bat_get dg_X12_qAsksWord_0_0 6 rfl rfl)
theorem dX12_qAsksWord_67 : decode cX12_qAsksWord 67 = .ok (.aload_n 0, 1) := q_aload_n0 (bat_get dg_X12_qAsksWord_0_0 7 rfl rfl)
theorem dX12_qAsksWord_68 : decode cX12_qAsksWord 68 = .ok (.aload_n 0, 1) := q_aload_n0 (bat_get dg_X12_qAsksWord_0_0 8 rfl rfl)
theorem dX12_qAsksWord_69 : decode cX12_qAsksWord 69 = .ok (.getfield 153, 3) := q_getfield (bat_get dg_X12_qAsksWord_0_0 9 rfl rfl) rfl
theorem dX12_qAsksWord_72 : decode cX12_qAsksWord 72 = .ok (.invokevirtual 245, 3) := q_invokevirtual (bat_get dg_X12_qAsksWord_0_0 10 rfl rfl) rfl
theorem dX12_qAsksWord_75 : decode cX12_qAsksWord 75 = .ok (.goto 99, 3) := q_goto (bat_get dg_X12_qAsksWord_0_0 11 rfl rfl) rfl
theorem dX12_qAsksWord_78 : decode cX12_qAsksWord 78 = .ok (.aload_n 0, 1) := q_aload_n0 (bat_get dg_X12_qAsksWord_0_0 12 rfl rfl)
theorem dX12_qAsksWord_79 : decode cX12_qAsksWord 79 = .ok (.aload_n 0, 1) := q_aload_n0 (bat_get dg_X12_qAsksWord_0_0 13 rfl rfl)
theorem dX12_qAsksWord_80 : decode cX12_qAsksWord 80 = .ok (.getfield 156, 3) := q_getfield (bat_get dg_X12_qAsksWord_0_0 14 rfl rfl) rfl
theorem dX12_qAsksWord_83 : decode cX12_qAsksWord 83 = .ok (.invokevirtual 245, 3) := q_invokevirtual (bat_get dg_X12_qAsksWord_0_0 15 rfl rfl) rfl
theorem dX12_qAsksWord_86 : decode cX12_qAsksWord 86 = .ok (.goto 88, 3) := q_goto (bat_get dg_X12_qAsksWord_0_0 16 rfl rfl) rfl
theorem dX12_qAsksWord_89 : decode cX12_qAsksWord 89 = .ok (.aload_n 0, 1) := q_aload_n0 (bat_get dg_X12_qAsksWord_0_0 17 rfl rfl)
theorem dX12_qAsksWord_90 : decode cX12_qAsksWord 90 = .ok (.aload_n 0, 1) := q_aload_n0 (bat_get dg_X12_qAsksWord_0_0 18 rfl rfl)
theorem dX12_qAsksWord_91 : decode cX12_qAsksWord 91 = .ok (.getfield 159, 3) := q_getfield (bat_get dg_X12_qAsksWord_0_0 19 rfl rfl) rfl
theorem dX12_qAsksWord_94 : decode cX12_qAsksWord 94 = .ok (.invokevirtual 245, 3) := q_invokevirtual (bat_get dg_X12_qAsksWord_0_0 20 rfl rfl) rfl
theorem dX12_qAsksWord_97 : decode cX12_qAsksWord 97 = .ok (.goto 77, 3) := q_goto (bat_get dg_X12_qAsksWord_0_0 21 rfl rfl) rfl
theorem dX12_qAsksWord_100 : decode cX12_qAsksWord 100 = .ok (.aload_n 0, 1) := q_aload_n0 (bat_get dg_X12_qAsksWord_0_0 22 rfl rfl)
theorem dX12_qAsksWord_101 : decode cX12_qAsksWord 101 = .ok (.aload_n 0, 1) := q_aload_n0 (bat_get dg_X12_qAsksWord_0_0 23 rfl rfl)
theorem dX12_qAsksWord_102 : decode cX12_qAsksWord 102 = .ok (.getfield 162, 3) := q_getfield (bat_get dg_X12_qAsksWord_0_0 24 rfl rfl) rfl
theorem dX12_qAsksWord_105 : decode cX12_qAsksWord 105 = .ok (.invokevirtual 245, 3) := q_invokevirtual (bat_get dg_X12_qAsksWord_0_0 25 rfl rfl) rfl
theorem dX12_qAsksWord_108 : decode cX12_qAsksWord 108 = .ok (.goto 66, 3) := q_goto (bat_get dg_X12_qAsksWord_0_0 26 rfl rfl) rfl
theorem dX12_qAsksWord_111 : decode cX12_qAsksWord 111 = .ok (.aload_n 0, 1) := q_aload_n0 (bat_get dg_X12_qAsksWord_0_0 27 rfl rfl)
theorem dX12_qAsksWord_112 : decode cX12_qAsksWord 112 = .ok (.aload_n 0, 1) := q_aload_n0 (bat_get dg_X12_qAsksWord_0_0 28 rfl rfl)
theorem dX12_qAsksWord_113 : decode cX12_qAsksWord 113 = .ok (.getfield 165, 3) := q_getfield (bat_get dg_X12_qAsksWord_0_0 29 rfl rfl) rfl
theorem dX12_qAsksWord_116 : decode cX12_qAsksWord 116 = .ok (.invokevirtual 245, 3) := q_invokevirtual (bat_get dg_X12_qAsksWord_0_0 30 rfl rfl) rfl
theorem dX12_qAsksWord_119 : decode cX12_qAsksWord 119 = .ok (.goto 55, 3) := q_goto (bat_get dg_X12_qAsksWord_0_0 31 rfl rfl) rfl
theorem dX12_qAsksWord_122 : decode cX12_qAsksWord 122 = .ok (.aload_n 0, 1) := q_aload_n0 (bat_get dg_X12_qAsksWord_0_0 32 rfl rfl)
theorem dX12_qAsksWord_123 : decode cX12_qAsksWord 123 = .ok (.aload_n 0, 1) := q_aload_n0 (bat_get dg_X12_qAsksWord_0_0 33 rfl rfl)
theorem dX12_qAsksWord_124 : decode cX12_qAsksWord 124 = .ok (.getfield 168, 3) := q_getfield (bat_get dg_X12_qAsksWord_0_0 34 rfl rfl) rfl
theorem dX12_qAsksWord_127 : decode cX12_qAsksWord 127 = .ok (.invokevirtual 245, 3) := q_invokevirtual (bat_get dg_X12_qAsksWord_0_0 35 rfl rfl) rfl
theorem dX12_qAsksWord_130 : decode cX12_qAsksWord 130 = .ok (.goto 44, 3) := q_goto (bat_get dg_X12_qAsksWord_0_0 36 rfl rfl) rfl
theorem dX12_qAsksWord_133 : decode cX12_qAsksWord 133 = .ok (.aload_n 0, 1) := q_aload_n0 (bat_get dg_X12_qAsksWord_0_0 37 rfl rfl)
theorem dX12_qAsksWord_134 : decode cX12_qAsksWord 134 = .ok (.aload_n 0, 1) := q_aload_n0 (bat_get dg_X12_qAsksWord_0_0 38 rfl rfl)
theorem dX12_qAsksWord_135 : decode cX12_qAsksWord 135 = .ok (.getfield 171, 3) := q_getfield (bat_get dg_X12_qAsksWord_0_0 39 rfl rfl) rfl
theorem dg_X12_qAsksWord_138_138 : bqL cX12_qAsksWord 138 [(0, [182, 0, 245]), (3, [167, 0, 33]), (6, [42]), (7, [42]), (8, [180, 0, 174]), (11, [182, 0, 245]), (14, [167, 0, 22]), (17, [42]), (18, [42]), (19, [180, 0, 114]), (22, [182, 0, 245]), (25, [167, 0, 11]), (28, [42]), (29, [42]), (30, [180, 0, 177]), (33, [182, 0, 245])] = true := by decide +kernel
theorem dX12_qAsksWord_138 : decode cX12_qAsksWord 138 = .ok (.invokevirtual 245, 3) := q_invokevirtual (bat_get dg_X12_qAsksWord_138_138 0 rfl rfl) rfl
theorem dX12_qAsksWord_141 : decode cX12_qAsksWord 141 = .ok (.goto 33, 3) := q_goto (bat_get dg_X12_qAsksWord_138_138 1 rfl rfl) rfl
theorem dX12_qAsksWord_144 : decode cX12_qAsksWord 144 = .ok (.aload_n 0, 1) := q_aload_n0 (bat_get dg_X12_qAsksWord_138_138 2 rfl rfl)
theorem dX12_qAsksWord_145 : decode cX12_qAsksWord 145 = .ok (.aload_n 0, 1) := q_aload_n0 (bat_get dg_X12_qAsksWord_138_138 3 rfl rfl)
theorem dX12_qAsksWord_146 : decode cX12_qAsksWord 146 = .ok (.getfield 174, 3) := q_getfield (bat_get dg_X12_qAsksWord_138_138 4 rfl rfl) rfl
theorem dX12_qAsksWord_149 : decode cX12_qAsksWord 149 = .ok (.invokevirtual 245, 3) := q_invokevirtual (bat_get dg_X12_qAsksWord_138_138 5 rfl rfl) rfl
theorem dX12_qAsksWord_152 : decode cX12_qAsksWord 152 = .ok (.goto 22, 3) := q_goto (bat_get dg_X12_qAsksWord_138_138 6 rfl rfl) rfl
