theorem w_1_65 : (Cond.fieldLink RX3 62 "SameKeeper$Reader" "start" "I") ∈ wsL_law := sk_mem (ck_1 _ (List.mem_of_getElem? (i := 65) rfl)) rfl
theorem w_1_67 : (Cond.fieldLink RX3 45 "SameKeeper$Reader" "fault" "I") ∈ wsL_law := sk_mem (ck_1 _ (List.mem_of_getElem? (i := 67) rfl)) rfl
theorem w_1_196 : (Cond.fieldLink RX3 123 "SameKeeper$Lock" "mute" "I") ∈ wsL_law := sk_mem (ck_1 _ (List.mem_of_getElem? (i := 196) rfl)) rfl
theorem w_3_74 : (Cond.methodLink RX3 65 yX6_fail) ∈ wsL_law := sk_mem (ck_3 _ (List.mem_of_getElem? (i := 74) rfl)) rfl
theorem w_3_138 : (Cond.code yX3_readMute cX3_readMute 4 none) ∈ wsL_law := sk_mem (ck_3 _ (List.mem_of_getElem? (i := 138) rfl)) rfl
def om_5_8 : List Bool := false :: true :: false :: false :: false :: []
theorem dX3_readNumbers_7 : decode cX3_readNumbers 7 = .ok (.tableswitch 97 258 264 #[41, 53, 65, 97, 97, 97, 73], 41) := by decide +kernel
theorem dg_X3_readNumbers_0_0 : bqL cX3_readNumbers 0 [(0, [42]), (1, [180, 0, 9]), (4, [180, 0, 48]), (48, [42]), (49, [43]), (50, [43]), (51, [180, 0, 82]), (54, [182, 0, 86]), (57, [167, 0, 54]), (111, [177]), (60, [42]), (61, [43]), (62, [43]), (63, [180, 0, 90]), (66, [182, 0, 86]), (69, [167, 0, 42]), (72, [42]), (73, [43]), (74, [182, 0, 93]), (77, [167, 0, 34]), (104, [42]), (105, [180, 0, 9]), (108, [182, 0, 102]), (80, [42]), (81, [180, 0, 9]), (84, [182, 0, 96]), (87, [43]), (88, [42]), (89, [180, 0, 9]), (92, [3]), (93, [16, 100]), (95, [182, 0, 72]), (98, [181, 0, 99]), (101, [167, 0, 10])] = true := by decide +kernel
theorem dX3_readNumbers_0 : decode cX3_readNumbers 0 = .ok (.aload_n 0, 1) := q_aload_n0 (bat_get dg_X3_readNumbers_0_0 0 rfl rfl)
theorem dX3_readNumbers_1 : decode cX3_readNumbers 1 = .ok (.getfield 9, 3) := q_getfield (bat_get dg_X3_readNumbers_0_0 1 rfl rfl) rfl
theorem dX3_readNumbers_4 : decode cX3_readNumbers 4 = .ok (.getfield 48, 3) := q_getfield (bat_get dg_X3_readNumbers_0_0 2 rfl rfl) rfl
theorem dX3_readNumbers_48 : decode cX3_readNumbers 48 = .ok (.aload_n 0, 1) := q_aload_n0 (bat_get dg_X3_readNumbers_0_0 3 rfl rfl)
theorem dX3_readNumbers_49 : decode cX3_readNumbers 49 = .ok (.aload_n 1, 1) := q_aload_n1 (bat_get dg_X3_readNumbers_0_0 4 rfl rfl)
theorem dX3_readNumbers_50 : decode cX3_readNumbers 50 = .ok (.aload_n 1, 1) := q_aload_n1 (bat_get dg_X3_readNumbers_0_0 5 rfl rfl)
theorem dX3_readNumbers_51 : decode cX3_readNumbers 51 = .ok (.getfield 82, 3) := q_getfield (bat_get dg_X3_readNumbers_0_0 6 rfl rfl) rfl
theorem dX3_readNumbers_54 : decode cX3_readNumbers 54 = .ok (.invokevirtual 86, 3) := q_invokevirtual (bat_get dg_X3_readNumbers_0_0 7 rfl rfl) rfl
theorem dX3_readNumbers_57 : decode cX3_readNumbers 57 = .ok (.goto 54, 3) := q_goto (bat_get dg_X3_readNumbers_0_0 8 rfl rfl) rfl
theorem dX3_readNumbers_111 : decode cX3_readNumbers 111 = .ok (.return_, 1) := q_return_ (bat_get dg_X3_readNumbers_0_0 9 rfl rfl)
theorem dX3_readNumbers_60 : decode cX3_readNumbers 60 = .ok (.aload_n 0, 1) := q_aload_n0 (bat_get dg_X3_readNumbers_0_0 10 rfl rfl)
theorem dX3_readNumbers_61 : decode cX3_readNumbers 61 = .ok (.aload_n 1, 1) := q_aload_n1 (bat_get dg_X3_readNumbers_0_0 11 rfl rfl)
theorem dX3_readNumbers_62 : decode cX3_readNumbers 62 = .ok (.aload_n 1, 1) := q_aload_n1 (bat_get dg_X3_readNumbers_0_0 12 rfl rfl)
theorem dX3_readNumbers_63 : decode cX3_readNumbers 63 = .ok (.getfield 90, 3) := q_getfield (bat_get dg_X3_readNumbers_0_0 13 rfl rfl) rfl
theorem dX3_readNumbers_66 : decode cX3_readNumbers 66 = .ok (.invokevirtual 86, 3) := q_invokevirtual (bat_get dg_X3_readNumbers_0_0 14 rfl rfl) rfl
theorem dX3_readNumbers_69 : decode cX3_readNumbers 69 = .ok (.goto 42, 3) := q_goto (bat_get dg_X3_readNumbers_0_0 15 rfl rfl) rfl
theorem dX3_readNumbers_72 : decode cX3_readNumbers 72 = .ok (.aload_n 0, 1) := q_aload_n0 (bat_get dg_X3_readNumbers_0_0 16 rfl rfl)
theorem dX3_readNumbers_73 : decode cX3_readNumbers 73 = .ok (.aload_n 1, 1) := q_aload_n1 (bat_get dg_X3_readNumbers_0_0 17 rfl rfl)
theorem dX3_readNumbers_74 : decode cX3_readNumbers 74 = .ok (.invokevirtual 93, 3) := q_invokevirtual (bat_get dg_X3_readNumbers_0_0 18 rfl rfl) rfl
theorem dX3_readNumbers_77 : decode cX3_readNumbers 77 = .ok (.goto 34, 3) := q_goto (bat_get dg_X3_readNumbers_0_0 19 rfl rfl) rfl
theorem dX3_readNumbers_104 : decode cX3_readNumbers 104 = .ok (.aload_n 0, 1) := q_aload_n0 (bat_get dg_X3_readNumbers_0_0 20 rfl rfl)
theorem dX3_readNumbers_105 : decode cX3_readNumbers 105 = .ok (.getfield 9, 3) := q_getfield (bat_get dg_X3_readNumbers_0_0 21 rfl rfl) rfl
theorem dX3_readNumbers_108 : decode cX3_readNumbers 108 = .ok (.invokevirtual 102, 3) := q_invokevirtual (bat_get dg_X3_readNumbers_0_0 22 rfl rfl) rfl
theorem dX3_readNumbers_80 : decode cX3_readNumbers 80 = .ok (.aload_n 0, 1) := q_aload_n0 (bat_get dg_X3_readNumbers_0_0 23 rfl rfl)
theorem dX3_readNumbers_81 : decode cX3_readNumbers 81 = .ok (.getfield 9, 3) := q_getfield (bat_get dg_X3_readNumbers_0_0 24 rfl rfl) rfl
theorem dX3_readNumbers_84 : decode cX3_readNumbers 84 = .ok (.invokevirtual 96, 3) := q_invokevirtual (bat_get dg_X3_readNumbers_0_0 25 rfl rfl) rfl
theorem dX3_readNumbers_87 : decode cX3_readNumbers 87 = .ok (.aload_n 1, 1) := q_aload_n1 (bat_get dg_X3_readNumbers_0_0 26 rfl rfl)
theorem dX3_readNumbers_88 : decode cX3_readNumbers 88 = .ok (.aload_n 0, 1) := q_aload_n0 (bat_get dg_X3_readNumbers_0_0 27 rfl rfl)
theorem dX3_readNumbers_89 : decode cX3_readNumbers 89 = .ok (.getfield 9, 3) := q_getfield (bat_get dg_X3_readNumbers_0_0 28 rfl rfl) rfl
theorem dX3_readNumbers_92 : decode cX3_readNumbers 92 = .ok (.iconst 0, 1) := q_iconst0 (bat_get dg_X3_readNumbers_0_0 29 rfl rfl)
theorem dX3_readNumbers_93 : decode cX3_readNumbers 93 = .ok (.bipush 100, 2) := q_bipush (bat_get dg_X3_readNumbers_0_0 30 rfl rfl) rfl
theorem dX3_readNumbers_95 : decode cX3_readNumbers 95 = .ok (.invokevirtual 72, 3) := q_invokevirtual (bat_get dg_X3_readNumbers_0_0 31 rfl rfl) rfl
theorem dX3_readNumbers_98 : decode cX3_readNumbers 98 = .ok (.putfield 99, 3) := q_putfield (bat_get dg_X3_readNumbers_0_0 32 rfl rfl) rfl
theorem dX3_readNumbers_101 : decode cX3_readNumbers 101 = .ok (.goto 10, 3) := q_goto (bat_get dg_X3_readNumbers_0_0 33 rfl rfl) rfl
theorem w_1_62 : (Cond.fieldLink RX3 48 "SameKeeper$Reader" "token" "I") ∈ wsL_law := sk_mem (ck_1 _ (List.mem_of_getElem? (i := 62) rfl)) rfl
theorem w_1_180 : (Cond.fieldLink RX3 82 "SameKeeper$Lock" "barge" "[I") ∈ wsL_law := sk_mem (ck_1 _ (List.mem_of_getElem? (i := 180) rfl)) rfl
theorem w_3_131 : (Cond.methodLink RX3 86 yX3_readAmount) ∈ wsL_law := sk_mem (ck_3 _ (List.mem_of_getElem? (i := 131) rfl)) rfl
theorem w_3_133 : (Cond.instanceMethod yX3_readAmount) ∈ wsL_law := sk_mem (ck_3 _ (List.mem_of_getElem? (i := 133) rfl)) rfl
theorem w_0_12 : (Cond.selects RX3 yX3_readAmount yX3_readAmount) ∈ wsL_law := sk_mem (ck_0 _ (List.mem_of_getElem? (i := 12) rfl)) rfl
theorem w_1_5 : (Cond.initialized RX3) ∈ wsL_law := sk_mem (ck_1 _ (List.mem_of_getElem? (i := 5) rfl)) rfl
theorem w_1_183 : (Cond.fieldLink RX3 90 "SameKeeper$Lock" "wet" "[I") ∈ wsL_law := sk_mem (ck_1 _ (List.mem_of_getElem? (i := 183) rfl)) rfl
theorem w_3_135 : (Cond.methodLink RX3 93 yX3_readMute) ∈ wsL_law := sk_mem (ck_3 _ (List.mem_of_getElem? (i := 135) rfl)) rfl
theorem w_3_137 : (Cond.instanceMethod yX3_readMute) ∈ wsL_law := sk_mem (ck_3 _ (List.mem_of_getElem? (i := 137) rfl)) rfl
theorem w_0_13 : (Cond.selects RX3 yX3_readMute yX3_readMute) ∈ wsL_law := sk_mem (ck_0 _ (List.mem_of_getElem? (i := 13) rfl)) rfl
theorem w_3_139 : (Cond.methodLink RX3 102 yX6_failHere) ∈ wsL_law := sk_mem (ck_3 _ (List.mem_of_getElem? (i := 139) rfl)) rfl
theorem w_1_198 : (Cond.fieldLink RX3 99 "SameKeeper$Lock" "rain" "I") ∈ wsL_law := sk_mem (ck_1 _ (List.mem_of_getElem? (i := 198) rfl)) rfl
theorem w_3_130 : (Cond.code yX3_readNumbers cX3_readNumbers 2 none) ∈ wsL_law := sk_mem (ck_3 _ (List.mem_of_getElem? (i := 130) rfl)) rfl
def om_7_7e : List Bool := true :: true :: true :: true :: true :: true :: false :: []
def om_7_7d : List Bool := true :: true :: true :: true :: true :: false :: true :: []
def om_7_7c : List Bool := true :: true :: true :: true :: true :: false :: false :: []
def om_7_20 : List Bool := false :: true :: false :: false :: false :: false :: false :: []
def om_7_38 : List Bool := false :: true :: true :: true :: false :: false :: false :: []
theorem hd_X3_readAmount_2 : skD yX3_readAmount 2 := by decide +kernel
theorem hd_X3_readMute_1 : skD yX3_readMute 1 := by decide +kernel
theorem dg_X3_readSumOf_0_0 : bqL cX3_readSumOf 0 [(0, [43]), (1, [28]), (2, [182, 0, 105]), (5, [153, 0, 19]), (24, [42]), (25, [180, 0, 9]), (28, [182, 0, 96]), (31, [43]), (32, [28]), (33, [182, 0, 109]), (36, [45]), (37, [43]), (38, [180, 0, 112]), (41, [182, 0, 116]), (44, [43]), (45, [28]), (46, [182, 0, 120]), (49, [177]), (8, [42]), (9, [180, 0, 9]), (12, [8]), (13, [42]), (14, [180, 0, 9]), (17, [180, 0, 62]), (20, [182, 0, 65]), (23, [177])] = true := by decide +kernel
theorem dX3_readSumOf_0 : decode cX3_readSumOf 0 = .ok (.aload_n 1, 1) := q_aload_n1 (bat_get dg_X3_readSumOf_0_0 0 rfl rfl)
theorem dX3_readSumOf_1 : decode cX3_readSumOf 1 = .ok (.iload_n 2, 1) := q_iload_n2 (bat_get dg_X3_readSumOf_0_0 1 rfl rfl)
theorem dX3_readSumOf_2 : decode cX3_readSumOf 2 = .ok (.invokevirtual 105, 3) := q_invokevirtual (bat_get dg_X3_readSumOf_0_0 2 rfl rfl) rfl
theorem dX3_readSumOf_5 : decode cX3_readSumOf 5 = .ok (.ifCond .eq 19, 3) := q_ifCond_eq (bat_get dg_X3_readSumOf_0_0 3 rfl rfl) rfl
theorem dX3_readSumOf_24 : decode cX3_readSumOf 24 = .ok (.aload_n 0, 1) := q_aload_n0 (bat_get dg_X3_readSumOf_0_0 4 rfl rfl)
theorem dX3_readSumOf_25 : decode cX3_readSumOf 25 = .ok (.getfield 9, 3) := q_getfield (bat_get dg_X3_readSumOf_0_0 5 rfl rfl) rfl
theorem dX3_readSumOf_28 : decode cX3_readSumOf 28 = .ok (.invokevirtual 96, 3) := q_invokevirtual (bat_get dg_X3_readSumOf_0_0 6 rfl rfl) rfl
theorem dX3_readSumOf_31 : decode cX3_readSumOf 31 = .ok (.aload_n 1, 1) := q_aload_n1 (bat_get dg_X3_readSumOf_0_0 7 rfl rfl)
theorem dX3_readSumOf_32 : decode cX3_readSumOf 32 = .ok (.iload_n 2, 1) := q_iload_n2 (bat_get dg_X3_readSumOf_0_0 8 rfl rfl)
theorem dX3_readSumOf_33 : decode cX3_readSumOf 33 = .ok (.invokevirtual 109, 3) := q_invokevirtual (bat_get dg_X3_readSumOf_0_0 9 rfl rfl) rfl
theorem dX3_readSumOf_36 : decode cX3_readSumOf 36 = .ok (.aload_n 3, 1) := q_aload_n3 (bat_get dg_X3_readSumOf_0_0 10 rfl rfl)
theorem dX3_readSumOf_37 : decode cX3_readSumOf 37 = .ok (.aload_n 1, 1) := q_aload_n1 (bat_get dg_X3_readSumOf_0_0 11 rfl rfl)
theorem dX3_readSumOf_38 : decode cX3_readSumOf 38 = .ok (.getfield 112, 3) := q_getfield (bat_get dg_X3_readSumOf_0_0 12 rfl rfl) rfl
theorem dX3_readSumOf_41 : decode cX3_readSumOf 41 = .ok (.invokevirtual 116, 3) := q_invokevirtual (bat_get dg_X3_readSumOf_0_0 13 rfl rfl) rfl
theorem dX3_readSumOf_44 : decode cX3_readSumOf 44 = .ok (.aload_n 1, 1) := q_aload_n1 (bat_get dg_X3_readSumOf_0_0 14 rfl rfl)
theorem dX3_readSumOf_45 : decode cX3_readSumOf 45 = .ok (.iload_n 2, 1) := q_iload_n2 (bat_get dg_X3_readSumOf_0_0 15 rfl rfl)
theorem dX3_readSumOf_46 : decode cX3_readSumOf 46 = .ok (.invokevirtual 120, 3) := q_invokevirtual (bat_get dg_X3_readSumOf_0_0 16 rfl rfl) rfl
theorem dX3_readSumOf_49 : decode cX3_readSumOf 49 = .ok (.return_, 1) := q_return_ (bat_get dg_X3_readSumOf_0_0 17 rfl rfl)
theorem dX3_readSumOf_8 : decode cX3_readSumOf 8 = .ok (.aload_n 0, 1) := q_aload_n0 (bat_get dg_X3_readSumOf_0_0 18 rfl rfl)
theorem dX3_readSumOf_9 : decode cX3_readSumOf 9 = .ok (.getfield 9, 3) := q_getfield (bat_get dg_X3_readSumOf_0_0 19 rfl rfl) rfl
theorem dX3_readSumOf_12 : decode cX3_readSumOf 12 = .ok (.iconst 5, 1) := q_iconst5 (bat_get dg_X3_readSumOf_0_0 20 rfl rfl)
theorem dX3_readSumOf_13 : decode cX3_readSumOf 13 = .ok (.aload_n 0, 1) := q_aload_n0 (bat_get dg_X3_readSumOf_0_0 21 rfl rfl)
theorem dX3_readSumOf_14 : decode cX3_readSumOf 14 = .ok (.getfield 9, 3) := q_getfield (bat_get dg_X3_readSumOf_0_0 22 rfl rfl) rfl
theorem dX3_readSumOf_17 : decode cX3_readSumOf 17 = .ok (.getfield 62, 3) := q_getfield (bat_get dg_X3_readSumOf_0_0 23 rfl rfl) rfl
theorem dX3_readSumOf_20 : decode cX3_readSumOf 20 = .ok (.invokevirtual 65, 3) := q_invokevirtual (bat_get dg_X3_readSumOf_0_0 24 rfl rfl) rfl
theorem dX3_readSumOf_23 : decode cX3_readSumOf 23 = .ok (.return_, 1) := q_return_ (bat_get dg_X3_readSumOf_0_0 25 rfl rfl)
theorem w_3_70 : (Cond.methodLink RX3 105 yX2_hasSum) ∈ wsL_law := sk_mem (ck_3 _ (List.mem_of_getElem? (i := 70) rfl)) rfl
theorem w_3_76 : (Cond.methodLink RX3 109 yX2_beginSum) ∈ wsL_law := sk_mem (ck_3 _ (List.mem_of_getElem? (i := 76) rfl)) rfl
theorem w_1_177 : (Cond.fieldLink RX3 112 "SameKeeper$Lock" "code" "LSameKeeper$Code;") ∈ wsL_law := sk_mem (ck_1 _ (List.mem_of_getElem? (i := 177) rfl)) rfl
theorem w_3_80 : (Cond.methodLink RX3 116 yX8_read) ∈ wsL_law := sk_mem (ck_3 _ (List.mem_of_getElem? (i := 80) rfl)) rfl
theorem w_3_81 : (Cond.instanceMethod yX8_read) ∈ wsL_law := sk_mem (ck_3 _ (List.mem_of_getElem? (i := 81) rfl)) rfl
theorem w_3_82 : (Cond.selects RX8 yX8_read yX8_read) ∈ wsL_law := sk_mem (ck_3 _ (List.mem_of_getElem? (i := 82) rfl)) rfl
theorem w_3_123 : (Cond.methodLink RX3 120 yX2_endSum) ∈ wsL_law := sk_mem (ck_3 _ (List.mem_of_getElem? (i := 123) rfl)) rfl
theorem w_3_69 : (Cond.code yX3_readSumOf cX3_readSumOf 4 none) ∈ wsL_law := sk_mem (ck_3 _ (List.mem_of_getElem? (i := 69) rfl)) rfl
def om_10_13 : List Bool := false :: false :: false :: false :: false :: true :: false :: false :: true :: true :: []
def om_10_1c0 : List Bool := false :: true :: true :: true :: false :: false :: false :: false :: false :: false :: []
def om_10_1a : List Bool := false :: false :: false :: false :: false :: true :: true :: false :: true :: false :: []
def om_10_1ec : List Bool := false :: true :: true :: true :: true :: false :: true :: true :: false :: false :: []
def om_10_19 : List Bool := false :: false :: false :: false :: false :: true :: true :: false :: false :: true :: []
def om_10_100 : List Bool := false :: true :: false :: false :: false :: false :: false :: false :: false :: false :: []
theorem hd_X8_read_1 : skD yX8_read 1 := by decide +kernel
theorem dg_X3_read_0_0 : bqL cX3_read 0 [(0, [43]), (1, [182, 0, 27]), (4, [42]), (5, [180, 0, 9]), (8, [182, 0, 32]), (11, [42]), (12, [43]), (13, [182, 0, 37]), (16, [43]), (17, [180, 0, 41]), (20, [16, 60]), (22, [162, 0, 124]), (182, [43]), (183, [182, 0, 69]), (186, [177]), (146, [42]), (147, [180, 0, 9]), (150, [180, 0, 45]), (153, [154, 0, 29]), (156, [42]), (157, [180, 0, 9]), (160, [180, 0, 48]), (163, [2]), (164, [159, 0, 18]), (167, [42]), (168, [180, 0, 9]), (171, [8]), (172, [42]), (173, [180, 0, 9]), (176, [180, 0, 62]), (179, [182, 0, 65]), (25, [42]), (26, [180, 0, 9]), (29, [180, 0, 45]), (32, [154, 0, 114]), (35, [42]), (36, [180, 0, 9]), (39, [180, 0, 48]), (42, [2]), (43, [159, 0, 103])] = true := by decide +kernel
theorem dX3_read_0 : decode cX3_read 0 = .ok (.aload_n 1, 1) := q_aload_n1 (bat_get dg_X3_read_0_0 0 rfl rfl)
theorem dX3_read_1 : decode cX3_read 1 = .ok (.invokevirtual 27, 3) := q_invokevirtual (bat_get dg_X3_read_0_0 1 rfl rfl) rfl
theorem dX3_read_4 : decode cX3_read 4 = .ok (.aload_n 0, 1) := q_aload_n0 (bat_get dg_X3_read_0_0 2 rfl rfl)
theorem dX3_read_5 : decode cX3_read 5 = .ok (.getfield 9, 3) := q_getfield (bat_get dg_X3_read_0_0 3 rfl rfl) rfl
theorem dX3_read_8 : decode cX3_read 8 = .ok (.invokevirtual 32, 3) := q_invokevirtual (bat_get dg_X3_read_0_0 4 rfl rfl) rfl
theorem dX3_read_11 : decode cX3_read 11 = .ok (.aload_n 0, 1) := q_aload_n0 (bat_get dg_X3_read_0_0 5 rfl rfl)
theorem dX3_read_12 : decode cX3_read 12 = .ok (.aload_n 1, 1) := q_aload_n1 (bat_get dg_X3_read_0_0 6 rfl rfl)
theorem dX3_read_13 : decode cX3_read 13 = .ok (.invokevirtual 37, 3) := q_invokevirtual (bat_get dg_X3_read_0_0 7 rfl rfl) rfl
theorem dX3_read_16 : decode cX3_read 16 = .ok (.aload_n 1, 1) := q_aload_n1 (bat_get dg_X3_read_0_0 8 rfl rfl)
theorem dX3_read_17 : decode cX3_read 17 = .ok (.getfield 41, 3) := q_getfield (bat_get dg_X3_read_0_0 9 rfl rfl) rfl
