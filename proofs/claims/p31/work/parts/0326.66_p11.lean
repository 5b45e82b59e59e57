theorem dX12_ask_120 : decode cX12_ask 120 = .ok (.iconst (-1), 1) := q_iconstm1 (bat_get dg_X12_ask_109_109 18 rfl rfl)
theorem dX12_ask_121 : decode cX12_ask 121 = .ok (.if_icmp .eq 12, 3) := q_if_icmp_eq (bat_get dg_X12_ask_109_109 19 rfl rfl) rfl
theorem dX12_ask_160 : decode cX12_ask 160 = .ok (.aload_n 0, 1) := q_aload_n0 (bat_get dg_X12_ask_109_109 20 rfl rfl)
theorem dX12_ask_161 : decode cX12_ask 161 = .ok (.iload_n 1, 1) := q_iload_n1 (bat_get dg_X12_ask_109_109 21 rfl rfl)
theorem dX12_ask_162 : decode cX12_ask 162 = .ok (.iconst 2, 1) := q_iconst2 (bat_get dg_X12_ask_109_109 22 rfl rfl)
theorem dX12_ask_163 : decode cX12_ask 163 = .ok (.if_icmp .ge 9, 3) := q_if_icmp_ge (bat_get dg_X12_ask_109_109 23 rfl rfl) rfl
theorem dX12_ask_172 : decode cX12_ask 172 = .ok (.lconst 0, 1) := q_lconst0 (bat_get dg_X12_ask_109_109 24 rfl rfl)
theorem dX12_ask_173 : decode cX12_ask 173 = .ok (.putfield 575, 3) := q_putfield (bat_get dg_X12_ask_109_109 25 rfl rfl) rfl
theorem dX12_ask_176 : decode cX12_ask 176 = .ok (.aload_n 0, 1) := q_aload_n0 (bat_get dg_X12_ask_109_109 26 rfl rfl)
theorem dX12_ask_177 : decode cX12_ask 177 = .ok (.iconst 1, 1) := q_iconst1 (bat_get dg_X12_ask_109_109 27 rfl rfl)
theorem dX12_ask_178 : decode cX12_ask 178 = .ok (.putfield 578, 3) := q_putfield (bat_get dg_X12_ask_109_109 28 rfl rfl) rfl
theorem dX12_ask_181 : decode cX12_ask 181 = .ok (.aload_n 0, 1) := q_aload_n0 (bat_get dg_X12_ask_109_109 29 rfl rfl)
theorem dX12_ask_182 : decode cX12_ask 182 = .ok (.invokevirtual 400, 3) := q_invokevirtual (bat_get dg_X12_ask_109_109 30 rfl rfl) rfl
theorem dX12_ask_185 : decode cX12_ask 185 = .ok (.aload_n 0, 1) := q_aload_n0 (bat_get dg_X12_ask_109_109 31 rfl rfl)
theorem dX12_ask_186 : decode cX12_ask 186 = .ok (.getfield 382, 3) := q_getfield (bat_get dg_X12_ask_109_109 32 rfl rfl) rfl
theorem dX12_ask_189 : decode cX12_ask 189 = .ok (.lconst 0, 1) := q_lconst0 (bat_get dg_X12_ask_109_109 33 rfl rfl)
theorem dX12_ask_190 : decode cX12_ask 190 = .ok (.lcmp, 1) := q_lcmp (bat_get dg_X12_ask_109_109 34 rfl rfl)
theorem dX12_ask_191 : decode cX12_ask 191 = .ok (.ifCond .le 8, 3) := q_ifCond_le (bat_get dg_X12_ask_109_109 35 rfl rfl) rfl
theorem dX12_ask_199 : decode cX12_ask 199 = .ok (.aload_n 0, 1) := q_aload_n0 (bat_get dg_X12_ask_109_109 36 rfl rfl)
theorem dX12_ask_200 : decode cX12_ask 200 = .ok (.iconst 2, 1) := q_iconst2 (bat_get dg_X12_ask_109_109 37 rfl rfl)
theorem dX12_ask_201 : decode cX12_ask 201 = .ok (.putfield 242, 3) := q_putfield (bat_get dg_X12_ask_109_109 38 rfl rfl) rfl
theorem dX12_ask_204 : decode cX12_ask 204 = .ok (.iconst 0, 1) := q_iconst0 (bat_get dg_X12_ask_109_109 39 rfl rfl)
theorem dg_X12_ask_79_205 : bqL cX12_ask 79 [(126, [61]), (127, [28]), (128, [42]), (129, [182, 1, 59]), (132, [162, 0, 20]), (152, [42]), (153, [180, 2, 63]), (156, [173]), (135, [42]), (136, [27]), (137, [42]), (138, [28]), (139, [182, 2, 75]), (142, [28]), (143, [182, 2, 79]), (146, [132, 2, 1]), (149, [167, 255, 234]), (115, [42]), (116, [9]), (117, [182, 1, 138]), (87, [20, 2, 57]), (90, [167, 0, 4]), (45, [42]), (46, [4]), (47, [42]), (48, [180, 0, 201]), (51, [182, 0, 225]), (0, [42]), (1, [180, 0, 195]), (4, [154, 0, 15]), (19, [42]), (20, [180, 0, 195]), (23, [154, 0, 7]), (26, [42]), (27, [182, 1, 13]), (7, [27]), (8, [6]), (9, [162, 0, 10]), (12, [42]), (13, [182, 2, 72])] = true := by decide +kernel
theorem dX12_ask_205 : decode cX12_ask 205 = .ok (.istore_n 2, 1) := q_istore_n2 (bat_get dg_X12_ask_79_205 0 rfl rfl)
theorem dX12_ask_206 : decode cX12_ask 206 = .ok (.iload_n 2, 1) := q_iload_n2 (bat_get dg_X12_ask_79_205 1 rfl rfl)
theorem dX12_ask_207 : decode cX12_ask 207 = .ok (.aload_n 0, 1) := q_aload_n0 (bat_get dg_X12_ask_79_205 2 rfl rfl)
theorem dX12_ask_208 : decode cX12_ask 208 = .ok (.invokevirtual 315, 3) := q_invokevirtual (bat_get dg_X12_ask_79_205 3 rfl rfl) rfl
theorem dX12_ask_211 : decode cX12_ask 211 = .ok (.if_icmp .ge 20, 3) := q_if_icmp_ge (bat_get dg_X12_ask_79_205 4 rfl rfl) rfl
theorem dX12_ask_231 : decode cX12_ask 231 = .ok (.aload_n 0, 1) := q_aload_n0 (bat_get dg_X12_ask_79_205 5 rfl rfl)
theorem dX12_ask_232 : decode cX12_ask 232 = .ok (.getfield 575, 3) := q_getfield (bat_get dg_X12_ask_79_205 6 rfl rfl) rfl
theorem dX12_ask_235 : decode cX12_ask 235 = .ok (.lreturn, 1) := q_lreturn (bat_get dg_X12_ask_79_205 7 rfl rfl)
theorem dX12_ask_214 : decode cX12_ask 214 = .ok (.aload_n 0, 1) := q_aload_n0 (bat_get dg_X12_ask_79_205 8 rfl rfl)
theorem dX12_ask_215 : decode cX12_ask 215 = .ok (.iload_n 1, 1) := q_iload_n1 (bat_get dg_X12_ask_79_205 9 rfl rfl)
theorem dX12_ask_216 : decode cX12_ask 216 = .ok (.aload_n 0, 1) := q_aload_n0 (bat_get dg_X12_ask_79_205 10 rfl rfl)
theorem dX12_ask_217 : decode cX12_ask 217 = .ok (.iload_n 2, 1) := q_iload_n2 (bat_get dg_X12_ask_79_205 11 rfl rfl)
theorem dX12_ask_218 : decode cX12_ask 218 = .ok (.invokevirtual 587, 3) := q_invokevirtual (bat_get dg_X12_ask_79_205 12 rfl rfl) rfl
theorem dX12_ask_221 : decode cX12_ask 221 = .ok (.iload_n 2, 1) := q_iload_n2 (bat_get dg_X12_ask_79_205 13 rfl rfl)
theorem dX12_ask_222 : decode cX12_ask 222 = .ok (.invokevirtual 591, 3) := q_invokevirtual (bat_get dg_X12_ask_79_205 14 rfl rfl) rfl
theorem dX12_ask_225 : decode cX12_ask 225 = .ok (.iinc 2 1, 3) := q_iinc (bat_get dg_X12_ask_79_205 15 rfl rfl) rfl
theorem dX12_ask_228 : decode cX12_ask 228 = .ok (.goto (-22), 3) := q_goto (bat_get dg_X12_ask_79_205 16 rfl rfl) rfl
theorem dX12_ask_194 : decode cX12_ask 194 = .ok (.aload_n 0, 1) := q_aload_n0 (bat_get dg_X12_ask_79_205 17 rfl rfl)
theorem dX12_ask_195 : decode cX12_ask 195 = .ok (.lconst 0, 1) := q_lconst0 (bat_get dg_X12_ask_79_205 18 rfl rfl)
theorem dX12_ask_196 : decode cX12_ask 196 = .ok (.invokevirtual 394, 3) := q_invokevirtual (bat_get dg_X12_ask_79_205 19 rfl rfl) rfl
theorem dX12_ask_166 : decode cX12_ask 166 = .ok (.ldc2_w 569, 3) := q_ldc2_w (bat_get dg_X12_ask_79_205 20 rfl rfl) rfl
theorem dX12_ask_169 : decode cX12_ask 169 = .ok (.goto 4, 3) := q_goto (bat_get dg_X12_ask_79_205 21 rfl rfl) rfl
theorem dX12_ask_124 : decode cX12_ask 124 = .ok (.aload_n 0, 1) := q_aload_n0 (bat_get dg_X12_ask_79_205 22 rfl rfl)
theorem dX12_ask_125 : decode cX12_ask 125 = .ok (.iconst 1, 1) := q_iconst1 (bat_get dg_X12_ask_79_205 23 rfl rfl)
theorem dX12_ask_126 : decode cX12_ask 126 = .ok (.aload_n 0, 1) := q_aload_n0 (bat_get dg_X12_ask_79_205 24 rfl rfl)
theorem dX12_ask_127 : decode cX12_ask 127 = .ok (.getfield 201, 3) := q_getfield (bat_get dg_X12_ask_79_205 25 rfl rfl) rfl
theorem dX12_ask_130 : decode cX12_ask 130 = .ok (.invokevirtual 225, 3) := q_invokevirtual (bat_get dg_X12_ask_79_205 26 rfl rfl) rfl
theorem dX12_ask_79 : decode cX12_ask 79 = .ok (.aload_n 0, 1) := q_aload_n0 (bat_get dg_X12_ask_79_205 27 rfl rfl)
theorem dX12_ask_80 : decode cX12_ask 80 = .ok (.getfield 195, 3) := q_getfield (bat_get dg_X12_ask_79_205 28 rfl rfl) rfl
theorem dX12_ask_83 : decode cX12_ask 83 = .ok (.ifCond .ne 15, 3) := q_ifCond_ne (bat_get dg_X12_ask_79_205 29 rfl rfl) rfl
theorem dX12_ask_98 : decode cX12_ask 98 = .ok (.aload_n 0, 1) := q_aload_n0 (bat_get dg_X12_ask_79_205 30 rfl rfl)
theorem dX12_ask_99 : decode cX12_ask 99 = .ok (.getfield 195, 3) := q_getfield (bat_get dg_X12_ask_79_205 31 rfl rfl) rfl
theorem dX12_ask_102 : decode cX12_ask 102 = .ok (.ifCond .ne 7, 3) := q_ifCond_ne (bat_get dg_X12_ask_79_205 32 rfl rfl) rfl
theorem dX12_ask_105 : decode cX12_ask 105 = .ok (.aload_n 0, 1) := q_aload_n0 (bat_get dg_X12_ask_79_205 33 rfl rfl)
theorem dX12_ask_106 : decode cX12_ask 106 = .ok (.invokevirtual 269, 3) := q_invokevirtual (bat_get dg_X12_ask_79_205 34 rfl rfl) rfl
theorem dX12_ask_86 : decode cX12_ask 86 = .ok (.iload_n 1, 1) := q_iload_n1 (bat_get dg_X12_ask_79_205 35 rfl rfl)
theorem dX12_ask_87 : decode cX12_ask 87 = .ok (.iconst 3, 1) := q_iconst3 (bat_get dg_X12_ask_79_205 36 rfl rfl)
theorem dX12_ask_88 : decode cX12_ask 88 = .ok (.if_icmp .ge 10, 3) := q_if_icmp_ge (bat_get dg_X12_ask_79_205 37 rfl rfl) rfl
theorem dX12_ask_91 : decode cX12_ask 91 = .ok (.aload_n 0, 1) := q_aload_n0 (bat_get dg_X12_ask_79_205 38 rfl rfl)
theorem dX12_ask_92 : decode cX12_ask 92 = .ok (.invokevirtual 584, 3) := q_invokevirtual (bat_get dg_X12_ask_79_205 39 rfl rfl) rfl
theorem dg_X12_ask_7_95 : bqL cX12_ask 7 [(88, [167, 0, 14]), (0, [42]), (1, [3]), (2, [181, 0, 192]), (5, [20, 1, 165]), (8, [173])] = true := by decide +kernel
theorem dX12_ask_95 : decode cX12_ask 95 = .ok (.goto 14, 3) := q_goto (bat_get dg_X12_ask_7_95 0 rfl rfl) rfl
theorem dX12_ask_7 : decode cX12_ask 7 = .ok (.aload_n 0, 1) := q_aload_n0 (bat_get dg_X12_ask_7_95 1 rfl rfl)
theorem dX12_ask_8 : decode cX12_ask 8 = .ok (.iconst 0, 1) := q_iconst0 (bat_get dg_X12_ask_7_95 2 rfl rfl)
theorem dX12_ask_9 : decode cX12_ask 9 = .ok (.putfield 192, 3) := q_putfield (bat_get dg_X12_ask_7_95 3 rfl rfl) rfl
theorem dX12_ask_12 : decode cX12_ask 12 = .ok (.ldc2_w 421, 3) := q_ldc2_w (bat_get dg_X12_ask_7_95 4 rfl rfl) rfl
theorem dX12_ask_15 : decode cX12_ask 15 = .ok (.lreturn, 1) := q_lreturn (bat_get dg_X12_ask_7_95 5 rfl rfl)
theorem w_8_167 : (Cond.methodLink RX12 581 yX12_qKind) ∈ wsL_law := sk_mem (ck_8 _ (List.mem_of_getElem? (i := 167) rfl)) rfl
theorem w_8_169 : (Cond.instanceMethod yX12_qKind) ∈ wsL_law := sk_mem (ck_8 _ (List.mem_of_getElem? (i := 169) rfl)) rfl
theorem w_0_110 : (Cond.selects RX12 yX12_qKind yX12_qKind) ∈ wsL_law := sk_mem (ck_0 _ (List.mem_of_getElem? (i := 110) rfl)) rfl
theorem w_8_191 : (Cond.methodLink RX12 587 yX12_qTold) ∈ wsL_law := sk_mem (ck_8 _ (List.mem_of_getElem? (i := 191) rfl)) rfl
theorem w_8_193 : (Cond.instanceMethod yX12_qTold) ∈ wsL_law := sk_mem (ck_8 _ (List.mem_of_getElem? (i := 193) rfl)) rfl
theorem w_0_116 : (Cond.selects RX12 yX12_qTold yX12_qTold) ∈ wsL_law := sk_mem (ck_0 _ (List.mem_of_getElem? (i := 116) rfl)) rfl
theorem w_8_199 : (Cond.methodLink RX12 591 yX12_qTakes) ∈ wsL_law := sk_mem (ck_8 _ (List.mem_of_getElem? (i := 199) rfl)) rfl
theorem w_8_201 : (Cond.instanceMethod yX12_qTakes) ∈ wsL_law := sk_mem (ck_8 _ (List.mem_of_getElem? (i := 201) rfl)) rfl
theorem w_0_118 : (Cond.selects RX12 yX12_qTakes yX12_qTakes) ∈ wsL_law := sk_mem (ck_0 _ (List.mem_of_getElem? (i := 118) rfl)) rfl
theorem w_8_171 : (Cond.methodLink RX12 584 yX12_qTest) ∈ wsL_law := sk_mem (ck_8 _ (List.mem_of_getElem? (i := 171) rfl)) rfl
theorem w_8_173 : (Cond.instanceMethod yX12_qTest) ∈ wsL_law := sk_mem (ck_8 _ (List.mem_of_getElem? (i := 173) rfl)) rfl
theorem w_0_111 : (Cond.selects RX12 yX12_qTest yX12_qTest) ∈ wsL_law := sk_mem (ck_0 _ (List.mem_of_getElem? (i := 111) rfl)) rfl
theorem w_8_166 : (Cond.code yX12_ask cX12_ask 3 (some .long)) ∈ wsL_law := sk_mem (ck_8 _ (List.mem_of_getElem? (i := 166) rfl)) rfl
def om_38_200100041f : List Bool := true :: false :: false :: false :: false :: false :: false :: false :: false :: false :: false :: false :: false :: true :: false :: false :: false :: false :: false :: false :: false :: false :: false :: false :: false :: false :: false :: true :: false :: false :: false :: false :: false :: true :: true :: true :: true :: true :: []
def om_38_2001000000 : List Bool := true :: false :: false :: false :: false :: false :: false :: false :: false :: false :: false :: false :: false :: true :: false :: false :: false :: false :: false :: false :: false :: false :: false :: false :: false :: false :: false :: false :: false :: false :: false :: false :: false :: false :: false :: false :: false :: false :: []
def om_38_3ffe000000 : List Bool := true :: true :: true :: true :: true :: true :: true :: true :: true :: true :: true :: true :: true :: false :: false :: false :: false :: false :: false :: false :: false :: false :: false :: false :: false :: false :: false :: false :: false :: false :: false :: false :: false :: false :: false :: false :: false :: false :: []
def om_38_2040000000 : List Bool := true :: false :: false :: false :: false :: false :: false :: true :: false :: false :: false :: false :: false :: false :: false :: false :: false :: false :: false :: false :: false :: false :: false :: false :: false :: false :: false :: false :: false :: false :: false :: false :: false :: false :: false :: false :: false :: false :: []
def om_38_2386800000 : List Bool := true :: false :: false :: false :: true :: true :: true :: false :: false :: false :: false :: true :: true :: false :: true :: false :: false :: false :: false :: false :: false :: false :: false :: false :: false :: false :: false :: false :: false :: false :: false :: false :: false :: false :: false :: false :: false :: false :: []
def om_38_2000000000 : List Bool := true :: false :: false :: false :: false :: false :: false :: false :: false :: false :: false :: false :: false :: false :: false :: false :: false :: false :: false :: false :: false :: false :: false :: false :: false :: false :: false :: false :: false :: false :: false :: false :: false :: false :: false :: false :: false :: false :: []
def om_38_235c000000 : List Bool := true :: false :: false :: false :: true :: true :: false :: true :: false :: true :: true :: true :: false :: false :: false :: false :: false :: false :: false :: false :: false :: false :: false :: false :: false :: false :: false :: false :: false :: false :: false :: false :: false :: false :: false :: false :: false :: false :: []
def om_38_2001fffe00 : List Bool := true :: false :: false :: false :: false :: false :: false :: false :: false :: false :: false :: false :: false :: true :: true :: true :: true :: true :: true :: true :: true :: true :: true :: true :: true :: true :: true :: true :: true :: false :: false :: false :: false :: false :: false :: false :: false :: false :: []
def om_38_2001ffffe0 : List Bool := true :: false :: false :: false :: false :: false :: false :: false :: false :: false :: false :: false :: false :: true :: true :: true :: true :: true :: true :: true :: true :: true :: true :: true :: true :: true :: true :: true :: true :: true :: true :: true :: true :: false :: false :: false :: false :: false :: []
theorem hd_X12_qKind_0 : skD yX12_qKind 0 := by decide +kernel
theorem hd_X12_qTold_1 : skD yX12_qTold 1 := by decide +kernel
theorem hd_X12_qTakes_3 : skD yX12_qTakes 3 := by decide +kernel
theorem hd_X12_qTest_0 : skD yX12_qTest 0 := by decide +kernel

