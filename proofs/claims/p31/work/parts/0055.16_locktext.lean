theorem dX3_read_20 : decode cX3_read 20 = .ok (.bipush 60, 2) := q_bipush (bat_get dg_X3_read_0_0 10 rfl rfl) rfl
theorem dX3_read_22 : decode cX3_read 22 = .ok (.if_icmp .ge 124, 3) := q_if_icmp_ge (bat_get dg_X3_read_0_0 11 rfl rfl) rfl
theorem dX3_read_182 : decode cX3_read 182 = .ok (.aload_n 1, 1) := q_aload_n1 (bat_get dg_X3_read_0_0 12 rfl rfl)
theorem dX3_read_183 : decode cX3_read 183 = .ok (.invokevirtual 69, 3) := q_invokevirtual (bat_get dg_X3_read_0_0 13 rfl rfl) rfl
theorem dX3_read_186 : decode cX3_read 186 = .ok (.return_, 1) := q_return_ (bat_get dg_X3_read_0_0 14 rfl rfl)
theorem dX3_read_146 : decode cX3_read 146 = .ok (.aload_n 0, 1) := q_aload_n0 (bat_get dg_X3_read_0_0 15 rfl rfl)
theorem dX3_read_147 : decode cX3_read 147 = .ok (.getfield 9, 3) := q_getfield (bat_get dg_X3_read_0_0 16 rfl rfl) rfl
theorem dX3_read_150 : decode cX3_read 150 = .ok (.getfield 45, 3) := q_getfield (bat_get dg_X3_read_0_0 17 rfl rfl) rfl
theorem dX3_read_153 : decode cX3_read 153 = .ok (.ifCond .ne 29, 3) := q_ifCond_ne (bat_get dg_X3_read_0_0 18 rfl rfl) rfl
theorem dX3_read_156 : decode cX3_read 156 = .ok (.aload_n 0, 1) := q_aload_n0 (bat_get dg_X3_read_0_0 19 rfl rfl)
theorem dX3_read_157 : decode cX3_read 157 = .ok (.getfield 9, 3) := q_getfield (bat_get dg_X3_read_0_0 20 rfl rfl) rfl
theorem dX3_read_160 : decode cX3_read 160 = .ok (.getfield 48, 3) := q_getfield (bat_get dg_X3_read_0_0 21 rfl rfl) rfl
theorem dX3_read_163 : decode cX3_read 163 = .ok (.iconst (-1), 1) := q_iconstm1 (bat_get dg_X3_read_0_0 22 rfl rfl)
theorem dX3_read_164 : decode cX3_read 164 = .ok (.if_icmp .eq 18, 3) := q_if_icmp_eq (bat_get dg_X3_read_0_0 23 rfl rfl) rfl
theorem dX3_read_167 : decode cX3_read 167 = .ok (.aload_n 0, 1) := q_aload_n0 (bat_get dg_X3_read_0_0 24 rfl rfl)
theorem dX3_read_168 : decode cX3_read 168 = .ok (.getfield 9, 3) := q_getfield (bat_get dg_X3_read_0_0 25 rfl rfl) rfl
theorem dX3_read_171 : decode cX3_read 171 = .ok (.iconst 5, 1) := q_iconst5 (bat_get dg_X3_read_0_0 26 rfl rfl)
theorem dX3_read_172 : decode cX3_read 172 = .ok (.aload_n 0, 1) := q_aload_n0 (bat_get dg_X3_read_0_0 27 rfl rfl)
theorem dX3_read_173 : decode cX3_read 173 = .ok (.getfield 9, 3) := q_getfield (bat_get dg_X3_read_0_0 28 rfl rfl) rfl
theorem dX3_read_176 : decode cX3_read 176 = .ok (.getfield 62, 3) := q_getfield (bat_get dg_X3_read_0_0 29 rfl rfl) rfl
theorem dX3_read_179 : decode cX3_read 179 = .ok (.invokevirtual 65, 3) := q_invokevirtual (bat_get dg_X3_read_0_0 30 rfl rfl) rfl
theorem dX3_read_25 : decode cX3_read 25 = .ok (.aload_n 0, 1) := q_aload_n0 (bat_get dg_X3_read_0_0 31 rfl rfl)
theorem dX3_read_26 : decode cX3_read 26 = .ok (.getfield 9, 3) := q_getfield (bat_get dg_X3_read_0_0 32 rfl rfl) rfl
theorem dX3_read_29 : decode cX3_read 29 = .ok (.getfield 45, 3) := q_getfield (bat_get dg_X3_read_0_0 33 rfl rfl) rfl
theorem dX3_read_32 : decode cX3_read 32 = .ok (.ifCond .ne 114, 3) := q_ifCond_ne (bat_get dg_X3_read_0_0 34 rfl rfl) rfl
theorem dX3_read_35 : decode cX3_read 35 = .ok (.aload_n 0, 1) := q_aload_n0 (bat_get dg_X3_read_0_0 35 rfl rfl)
theorem dX3_read_36 : decode cX3_read 36 = .ok (.getfield 9, 3) := q_getfield (bat_get dg_X3_read_0_0 36 rfl rfl) rfl
theorem dX3_read_39 : decode cX3_read 39 = .ok (.getfield 48, 3) := q_getfield (bat_get dg_X3_read_0_0 37 rfl rfl) rfl
theorem dX3_read_42 : decode cX3_read 42 = .ok (.iconst (-1), 1) := q_iconstm1 (bat_get dg_X3_read_0_0 38 rfl rfl)
theorem dX3_read_43 : decode cX3_read 43 = .ok (.if_icmp .eq 103, 3) := q_if_icmp_eq (bat_get dg_X3_read_0_0 39 rfl rfl) rfl
theorem dX3_read_53 : decode cX3_read 53 = .ok (.tableswitch 66 261 263 #[27, 40, 53], 27) := by decide +kernel
theorem dg_X3_read_46_124 : bqL cX3_read 46 [(78, [42]), (79, [180, 0, 9]), (82, [16, 59]), (84, [182, 0, 58]), (87, [43]), (88, [89]), (89, [180, 0, 41]), (92, [4]), (93, [96]), (94, [181, 0, 41]), (97, [167, 255, 129]), (0, [42]), (1, [180, 0, 9]), (4, [180, 0, 48]), (34, [42]), (35, [43]), (36, [3]), (37, [42]), (38, [180, 0, 20]), (41, [182, 0, 51]), (44, [167, 0, 34]), (47, [42]), (48, [43]), (49, [4]), (50, [42]), (51, [180, 0, 24]), (54, [182, 0, 51]), (57, [167, 0, 21]), (60, [42]), (61, [43]), (62, [5]), (63, [42]), (64, [180, 0, 20]), (67, [182, 0, 51]), (70, [167, 0, 8]), (73, [42]), (74, [43]), (75, [182, 0, 55])] = true := by decide +kernel
theorem dX3_read_124 : decode cX3_read 124 = .ok (.aload_n 0, 1) := q_aload_n0 (bat_get dg_X3_read_46_124 0 rfl rfl)
theorem dX3_read_125 : decode cX3_read 125 = .ok (.getfield 9, 3) := q_getfield (bat_get dg_X3_read_46_124 1 rfl rfl) rfl
theorem dX3_read_128 : decode cX3_read 128 = .ok (.bipush 59, 2) := q_bipush (bat_get dg_X3_read_46_124 2 rfl rfl) rfl
theorem dX3_read_130 : decode cX3_read 130 = .ok (.invokevirtual 58, 3) := q_invokevirtual (bat_get dg_X3_read_46_124 3 rfl rfl) rfl
theorem dX3_read_133 : decode cX3_read 133 = .ok (.aload_n 1, 1) := q_aload_n1 (bat_get dg_X3_read_46_124 4 rfl rfl)
theorem dX3_read_134 : decode cX3_read 134 = .ok (.dup, 1) := q_dup (bat_get dg_X3_read_46_124 5 rfl rfl)
theorem dX3_read_135 : decode cX3_read 135 = .ok (.getfield 41, 3) := q_getfield (bat_get dg_X3_read_46_124 6 rfl rfl) rfl
theorem dX3_read_138 : decode cX3_read 138 = .ok (.iconst 1, 1) := q_iconst1 (bat_get dg_X3_read_46_124 7 rfl rfl)
theorem dX3_read_139 : decode cX3_read 139 = .ok (.iadd, 1) := q_iadd (bat_get dg_X3_read_46_124 8 rfl rfl)
theorem dX3_read_140 : decode cX3_read 140 = .ok (.putfield 41, 3) := q_putfield (bat_get dg_X3_read_46_124 9 rfl rfl) rfl
theorem dX3_read_143 : decode cX3_read 143 = .ok (.goto (-127), 3) := q_goto (bat_get dg_X3_read_46_124 10 rfl rfl) rfl
theorem dX3_read_46 : decode cX3_read 46 = .ok (.aload_n 0, 1) := q_aload_n0 (bat_get dg_X3_read_46_124 11 rfl rfl)
theorem dX3_read_47 : decode cX3_read 47 = .ok (.getfield 9, 3) := q_getfield (bat_get dg_X3_read_46_124 12 rfl rfl) rfl
theorem dX3_read_50 : decode cX3_read 50 = .ok (.getfield 48, 3) := q_getfield (bat_get dg_X3_read_46_124 13 rfl rfl) rfl
theorem dX3_read_80 : decode cX3_read 80 = .ok (.aload_n 0, 1) := q_aload_n0 (bat_get dg_X3_read_46_124 14 rfl rfl)
theorem dX3_read_81 : decode cX3_read 81 = .ok (.aload_n 1, 1) := q_aload_n1 (bat_get dg_X3_read_46_124 15 rfl rfl)
theorem dX3_read_82 : decode cX3_read 82 = .ok (.iconst 0, 1) := q_iconst0 (bat_get dg_X3_read_46_124 16 rfl rfl)
theorem dX3_read_83 : decode cX3_read 83 = .ok (.aload_n 0, 1) := q_aload_n0 (bat_get dg_X3_read_46_124 17 rfl rfl)
theorem dX3_read_84 : decode cX3_read 84 = .ok (.getfield 20, 3) := q_getfield (bat_get dg_X3_read_46_124 18 rfl rfl) rfl
theorem dX3_read_87 : decode cX3_read 87 = .ok (.invokevirtual 51, 3) := q_invokevirtual (bat_get dg_X3_read_46_124 19 rfl rfl) rfl
theorem dX3_read_90 : decode cX3_read 90 = .ok (.goto 34, 3) := q_goto (bat_get dg_X3_read_46_124 20 rfl rfl) rfl
theorem dX3_read_93 : decode cX3_read 93 = .ok (.aload_n 0, 1) := q_aload_n0 (bat_get dg_X3_read_46_124 21 rfl rfl)
theorem dX3_read_94 : decode cX3_read 94 = .ok (.aload_n 1, 1) := q_aload_n1 (bat_get dg_X3_read_46_124 22 rfl rfl)
theorem dX3_read_95 : decode cX3_read 95 = .ok (.iconst 1, 1) := q_iconst1 (bat_get dg_X3_read_46_124 23 rfl rfl)
theorem dX3_read_96 : decode cX3_read 96 = .ok (.aload_n 0, 1) := q_aload_n0 (bat_get dg_X3_read_46_124 24 rfl rfl)
theorem dX3_read_97 : decode cX3_read 97 = .ok (.getfield 24, 3) := q_getfield (bat_get dg_X3_read_46_124 25 rfl rfl) rfl
theorem dX3_read_100 : decode cX3_read 100 = .ok (.invokevirtual 51, 3) := q_invokevirtual (bat_get dg_X3_read_46_124 26 rfl rfl) rfl
theorem dX3_read_103 : decode cX3_read 103 = .ok (.goto 21, 3) := q_goto (bat_get dg_X3_read_46_124 27 rfl rfl) rfl
theorem dX3_read_106 : decode cX3_read 106 = .ok (.aload_n 0, 1) := q_aload_n0 (bat_get dg_X3_read_46_124 28 rfl rfl)
theorem dX3_read_107 : decode cX3_read 107 = .ok (.aload_n 1, 1) := q_aload_n1 (bat_get dg_X3_read_46_124 29 rfl rfl)
theorem dX3_read_108 : decode cX3_read 108 = .ok (.iconst 2, 1) := q_iconst2 (bat_get dg_X3_read_46_124 30 rfl rfl)
theorem dX3_read_109 : decode cX3_read 109 = .ok (.aload_n 0, 1) := q_aload_n0 (bat_get dg_X3_read_46_124 31 rfl rfl)
theorem dX3_read_110 : decode cX3_read 110 = .ok (.getfield 20, 3) := q_getfield (bat_get dg_X3_read_46_124 32 rfl rfl) rfl
theorem dX3_read_113 : decode cX3_read 113 = .ok (.invokevirtual 51, 3) := q_invokevirtual (bat_get dg_X3_read_46_124 33 rfl rfl) rfl
theorem dX3_read_116 : decode cX3_read 116 = .ok (.goto 8, 3) := q_goto (bat_get dg_X3_read_46_124 34 rfl rfl) rfl
theorem dX3_read_119 : decode cX3_read 119 = .ok (.aload_n 0, 1) := q_aload_n0 (bat_get dg_X3_read_46_124 35 rfl rfl)
theorem dX3_read_120 : decode cX3_read 120 = .ok (.aload_n 1, 1) := q_aload_n1 (bat_get dg_X3_read_46_124 36 rfl rfl)
theorem dX3_read_121 : decode cX3_read 121 = .ok (.invokevirtual 55, 3) := q_invokevirtual (bat_get dg_X3_read_46_124 37 rfl rfl) rfl
theorem w_2_210 : (Cond.methodLink RX3 27 yX2_clear) ∈ wsL_law := sk_mem (ck_2 _ (List.mem_of_getElem? (i := 210) rfl)) rfl
theorem w_2_211 : (Cond.instanceMethod yX2_clear) ∈ wsL_law := sk_mem (ck_2 _ (List.mem_of_getElem? (i := 211) rfl)) rfl
theorem w_2_212 : (Cond.selects RX2 yX2_clear yX2_clear) ∈ wsL_law := sk_mem (ck_2 _ (List.mem_of_getElem? (i := 212) rfl)) rfl
theorem w_2_221 : (Cond.methodLink RX3 32 yX6_begin) ∈ wsL_law := sk_mem (ck_2 _ (List.mem_of_getElem? (i := 221) rfl)) rfl
theorem w_2_222 : (Cond.instanceMethod yX6_begin) ∈ wsL_law := sk_mem (ck_2 _ (List.mem_of_getElem? (i := 222) rfl)) rfl
theorem w_2_223 : (Cond.selects RX6 yX6_begin yX6_begin) ∈ wsL_law := sk_mem (ck_2 _ (List.mem_of_getElem? (i := 223) rfl)) rfl
theorem w_3_46 : (Cond.methodLink RX3 37 yX3_readOpening) ∈ wsL_law := sk_mem (ck_3 _ (List.mem_of_getElem? (i := 46) rfl)) rfl
theorem w_3_48 : (Cond.instanceMethod yX3_readOpening) ∈ wsL_law := sk_mem (ck_3 _ (List.mem_of_getElem? (i := 48) rfl)) rfl
theorem w_0_4 : (Cond.selects RX3 yX3_readOpening yX3_readOpening) ∈ wsL_law := sk_mem (ck_0 _ (List.mem_of_getElem? (i := 4) rfl)) rfl
theorem w_3_140 : (Cond.methodLink RX3 69 yX2_addUntold) ∈ wsL_law := sk_mem (ck_3 _ (List.mem_of_getElem? (i := 140) rfl)) rfl
theorem w_3_141 : (Cond.instanceMethod yX2_addUntold) ∈ wsL_law := sk_mem (ck_3 _ (List.mem_of_getElem? (i := 141) rfl)) rfl
theorem w_3_142 : (Cond.selects RX2 yX2_addUntold yX2_addUntold) ∈ wsL_law := sk_mem (ck_3 _ (List.mem_of_getElem? (i := 142) rfl)) rfl
theorem w_1_108 : (Cond.fieldLink RX3 20 "SameKeeper$LockText" "ofMood" "LSameKeeper$Sums;") ∈ wsL_law := sk_mem (ck_1 _ (List.mem_of_getElem? (i := 108) rfl)) rfl
theorem w_3_66 : (Cond.methodLink RX3 51 yX3_readSumOf) ∈ wsL_law := sk_mem (ck_3 _ (List.mem_of_getElem? (i := 66) rfl)) rfl
theorem w_3_68 : (Cond.instanceMethod yX3_readSumOf) ∈ wsL_law := sk_mem (ck_3 _ (List.mem_of_getElem? (i := 68) rfl)) rfl
theorem w_0_5 : (Cond.selects RX3 yX3_readSumOf yX3_readSumOf) ∈ wsL_law := sk_mem (ck_0 _ (List.mem_of_getElem? (i := 5) rfl)) rfl
theorem w_1_109 : (Cond.fieldLink RX3 24 "SameKeeper$LockText" "ofDeed" "LSameKeeper$Sums;") ∈ wsL_law := sk_mem (ck_1 _ (List.mem_of_getElem? (i := 109) rfl)) rfl
theorem w_3_127 : (Cond.methodLink RX3 55 yX3_readNumbers) ∈ wsL_law := sk_mem (ck_3 _ (List.mem_of_getElem? (i := 127) rfl)) rfl
theorem w_3_129 : (Cond.instanceMethod yX3_readNumbers) ∈ wsL_law := sk_mem (ck_3 _ (List.mem_of_getElem? (i := 129) rfl)) rfl
theorem w_0_11 : (Cond.selects RX3 yX3_readNumbers yX3_readNumbers) ∈ wsL_law := sk_mem (ck_0 _ (List.mem_of_getElem? (i := 11) rfl)) rfl
theorem w_2_209 : (Cond.code yX3_read cX3_read 2 none) ∈ wsL_law := sk_mem (ck_2 _ (List.mem_of_getElem? (i := 209) rfl)) rfl
def om_13_6f : List Bool := false :: false :: false :: false :: false :: false :: true :: true :: false :: true :: true :: true :: true :: []
def om_13_e00 : List Bool := false :: true :: true :: true :: false :: false :: false :: false :: false :: false :: false :: false :: false :: []
def om_13_1e40 : List Bool := true :: true :: true :: true :: false :: false :: true :: false :: false :: false :: false :: false :: false :: []
def om_13_800 : List Bool := false :: true :: false :: false :: false :: false :: false :: false :: false :: false :: false :: false :: false :: []
def om_13_1f7c : List Bool := true :: true :: true :: true :: true :: false :: true :: true :: true :: true :: true :: false :: false :: []
def om_13_1efc : List Bool := true :: true :: true :: true :: false :: true :: true :: true :: true :: true :: true :: false :: false :: []
def om_13_1e43 : List Bool := true :: true :: true :: true :: false :: false :: true :: false :: false :: false :: false :: true :: true :: []
theorem hd_X2_clear_0 : skD yX2_clear 0 := by decide +kernel
theorem hd_X6_begin_0 : skD yX6_begin 0 := by decide +kernel
theorem hd_X3_readOpening_1 : skD yX3_readOpening 1 := by decide +kernel
theorem hd_X2_addUntold_0 : skD yX2_addUntold 0 := by decide +kernel
theorem hd_X3_readSumOf_3 : skD yX3_readSumOf 3 := by decide +kernel
theorem hd_X3_readNumbers_1 : skD yX3_readNumbers 1 := by decide +kernel

