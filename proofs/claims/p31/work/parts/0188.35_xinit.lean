theorem dg_X11_init_0_0 : bqL cX11_init 0 [(0, [42]), (1, [183, 0, 1]), (4, [42]), (5, [187, 0, 7]), (8, [89]), (9, [17, 6, 64]), (12, [183, 0, 9]), (15, [181, 0, 12]), (18, [42]), (19, [187, 0, 7]), (22, [89]), (23, [16, 31]), (25, [183, 0, 9]), (28, [181, 0, 18]), (31, [42]), (32, [187, 0, 21]), (35, [89]), (36, [42]), (37, [180, 0, 12]), (40, [183, 0, 23]), (43, [181, 0, 26]), (46, [42]), (47, [187, 0, 30]), (50, [89]), (51, [42]), (52, [180, 0, 26]), (55, [183, 0, 32]), (58, [181, 0, 35]), (61, [42]), (62, [187, 0, 39]), (65, [89]), (66, [42]), (67, [180, 0, 26]), (70, [183, 0, 41]), (73, [181, 0, 42]), (76, [42]), (77, [187, 0, 46]), (80, [89]), (81, [183, 0, 48]), (84, [181, 0, 49])] = true := by decide +kernel
theorem dX11_init_0 : decode cX11_init 0 = .ok (.aload_n 0, 1) := q_aload_n0 (bat_get dg_X11_init_0_0 0 rfl rfl)
theorem dX11_init_1 : decode cX11_init 1 = .ok (.invokespecial 1, 3) := q_invokespecial (bat_get dg_X11_init_0_0 1 rfl rfl) rfl
theorem dX11_init_4 : decode cX11_init 4 = .ok (.aload_n 0, 1) := q_aload_n0 (bat_get dg_X11_init_0_0 2 rfl rfl)
theorem dX11_init_5 : decode cX11_init 5 = .ok (.new 7, 3) := q_new (bat_get dg_X11_init_0_0 3 rfl rfl) rfl
theorem dX11_init_8 : decode cX11_init 8 = .ok (.dup, 1) := q_dup (bat_get dg_X11_init_0_0 4 rfl rfl)
theorem dX11_init_9 : decode cX11_init 9 = .ok (.sipush 1600, 3) := q_sipush (bat_get dg_X11_init_0_0 5 rfl rfl) rfl
theorem dX11_init_12 : decode cX11_init 12 = .ok (.invokespecial 9, 3) := q_invokespecial (bat_get dg_X11_init_0_0 6 rfl rfl) rfl
theorem dX11_init_15 : decode cX11_init 15 = .ok (.putfield 12, 3) := q_putfield (bat_get dg_X11_init_0_0 7 rfl rfl) rfl
theorem dX11_init_18 : decode cX11_init 18 = .ok (.aload_n 0, 1) := q_aload_n0 (bat_get dg_X11_init_0_0 8 rfl rfl)
theorem dX11_init_19 : decode cX11_init 19 = .ok (.new 7, 3) := q_new (bat_get dg_X11_init_0_0 9 rfl rfl) rfl
theorem dX11_init_22 : decode cX11_init 22 = .ok (.dup, 1) := q_dup (bat_get dg_X11_init_0_0 10 rfl rfl)
theorem dX11_init_23 : decode cX11_init 23 = .ok (.bipush 31, 2) := q_bipush (bat_get dg_X11_init_0_0 11 rfl rfl) rfl
theorem dX11_init_25 : decode cX11_init 25 = .ok (.invokespecial 9, 3) := q_invokespecial (bat_get dg_X11_init_0_0 12 rfl rfl) rfl
theorem dX11_init_28 : decode cX11_init 28 = .ok (.putfield 18, 3) := q_putfield (bat_get dg_X11_init_0_0 13 rfl rfl) rfl
theorem dX11_init_31 : decode cX11_init 31 = .ok (.aload_n 0, 1) := q_aload_n0 (bat_get dg_X11_init_0_0 14 rfl rfl)
theorem dX11_init_32 : decode cX11_init 32 = .ok (.new 21, 3) := q_new (bat_get dg_X11_init_0_0 15 rfl rfl) rfl
theorem dX11_init_35 : decode cX11_init 35 = .ok (.dup, 1) := q_dup (bat_get dg_X11_init_0_0 16 rfl rfl)
theorem dX11_init_36 : decode cX11_init 36 = .ok (.aload_n 0, 1) := q_aload_n0 (bat_get dg_X11_init_0_0 17 rfl rfl)
theorem dX11_init_37 : decode cX11_init 37 = .ok (.getfield 12, 3) := q_getfield (bat_get dg_X11_init_0_0 18 rfl rfl) rfl
theorem dX11_init_40 : decode cX11_init 40 = .ok (.invokespecial 23, 3) := q_invokespecial (bat_get dg_X11_init_0_0 19 rfl rfl) rfl
theorem dX11_init_43 : decode cX11_init 43 = .ok (.putfield 26, 3) := q_putfield (bat_get dg_X11_init_0_0 20 rfl rfl) rfl
theorem dX11_init_46 : decode cX11_init 46 = .ok (.aload_n 0, 1) := q_aload_n0 (bat_get dg_X11_init_0_0 21 rfl rfl)
theorem dX11_init_47 : decode cX11_init 47 = .ok (.new 30, 3) := q_new (bat_get dg_X11_init_0_0 22 rfl rfl) rfl
theorem dX11_init_50 : decode cX11_init 50 = .ok (.dup, 1) := q_dup (bat_get dg_X11_init_0_0 23 rfl rfl)
theorem dX11_init_51 : decode cX11_init 51 = .ok (.aload_n 0, 1) := q_aload_n0 (bat_get dg_X11_init_0_0 24 rfl rfl)
theorem dX11_init_52 : decode cX11_init 52 = .ok (.getfield 26, 3) := q_getfield (bat_get dg_X11_init_0_0 25 rfl rfl) rfl
theorem dX11_init_55 : decode cX11_init 55 = .ok (.invokespecial 32, 3) := q_invokespecial (bat_get dg_X11_init_0_0 26 rfl rfl) rfl
theorem dX11_init_58 : decode cX11_init 58 = .ok (.putfield 35, 3) := q_putfield (bat_get dg_X11_init_0_0 27 rfl rfl) rfl
theorem dX11_init_61 : decode cX11_init 61 = .ok (.aload_n 0, 1) := q_aload_n0 (bat_get dg_X11_init_0_0 28 rfl rfl)
theorem dX11_init_62 : decode cX11_init 62 = .ok (.new 39, 3) := q_new (bat_get dg_X11_init_0_0 29 rfl rfl) rfl
theorem dX11_init_65 : decode cX11_init 65 = .ok (.dup, 1) := q_dup (bat_get dg_X11_init_0_0 30 rfl rfl)
theorem dX11_init_66 : decode cX11_init 66 = .ok (.aload_n 0, 1) := q_aload_n0 (bat_get dg_X11_init_0_0 31 rfl rfl)
theorem dX11_init_67 : decode cX11_init 67 = .ok (.getfield 26, 3) := q_getfield (bat_get dg_X11_init_0_0 32 rfl rfl) rfl
theorem dX11_init_70 : decode cX11_init 70 = .ok (.invokespecial 41, 3) := q_invokespecial (bat_get dg_X11_init_0_0 33 rfl rfl) rfl
theorem dX11_init_73 : decode cX11_init 73 = .ok (.putfield 42, 3) := q_putfield (bat_get dg_X11_init_0_0 34 rfl rfl) rfl
theorem dX11_init_76 : decode cX11_init 76 = .ok (.aload_n 0, 1) := q_aload_n0 (bat_get dg_X11_init_0_0 35 rfl rfl)
theorem dX11_init_77 : decode cX11_init 77 = .ok (.new 46, 3) := q_new (bat_get dg_X11_init_0_0 36 rfl rfl) rfl
theorem dX11_init_80 : decode cX11_init 80 = .ok (.dup, 1) := q_dup (bat_get dg_X11_init_0_0 37 rfl rfl)
theorem dX11_init_81 : decode cX11_init 81 = .ok (.invokespecial 48, 3) := q_invokespecial (bat_get dg_X11_init_0_0 38 rfl rfl) rfl
theorem dX11_init_84 : decode cX11_init 84 = .ok (.putfield 49, 3) := q_putfield (bat_get dg_X11_init_0_0 39 rfl rfl) rfl
theorem dg_X11_init_87_87 : bqL cX11_init 87 [(0, [42]), (1, [187, 0, 46]), (4, [89]), (5, [183, 0, 48]), (8, [181, 0, 53]), (11, [42]), (12, [187, 0, 56]), (15, [89]), (16, [183, 0, 58]), (19, [181, 0, 59]), (22, [42]), (23, [187, 0, 56]), (26, [89]), (27, [183, 0, 58]), (30, [181, 0, 63]), (33, [42]), (34, [187, 0, 66]), (37, [89]), (38, [183, 0, 68]), (41, [181, 0, 69]), (44, [42]), (45, [187, 0, 73]), (48, [89]), (49, [183, 0, 75]), (52, [181, 0, 76]), (55, [42]), (56, [187, 0, 80]), (59, [89]), (60, [42]), (61, [180, 0, 76]), (64, [183, 0, 82]), (67, [181, 0, 85]), (70, [42]), (71, [16, 9]), (73, [188, 10]), (75, [181, 0, 89]), (78, [42]), (79, [16, 9]), (81, [188, 10]), (83, [181, 0, 93])] = true := by decide +kernel
theorem dX11_init_87 : decode cX11_init 87 = .ok (.aload_n 0, 1) := q_aload_n0 (bat_get dg_X11_init_87_87 0 rfl rfl)
theorem dX11_init_88 : decode cX11_init 88 = .ok (.new 46, 3) := q_new (bat_get dg_X11_init_87_87 1 rfl rfl) rfl
theorem dX11_init_91 : decode cX11_init 91 = .ok (.dup, 1) := q_dup (bat_get dg_X11_init_87_87 2 rfl rfl)
theorem dX11_init_92 : decode cX11_init 92 = .ok (.invokespecial 48, 3) := q_invokespecial (bat_get dg_X11_init_87_87 3 rfl rfl) rfl
theorem dX11_init_95 : decode cX11_init 95 = .ok (.putfield 53, 3) := q_putfield (bat_get dg_X11_init_87_87 4 rfl rfl) rfl
theorem dX11_init_98 : decode cX11_init 98 = .ok (.aload_n 0, 1) := q_aload_n0 (bat_get dg_X11_init_87_87 5 rfl rfl)
theorem dX11_init_99 : decode cX11_init 99 = .ok (.new 56, 3) := q_new (bat_get dg_X11_init_87_87 6 rfl rfl) rfl
theorem dX11_init_102 : decode cX11_init 102 = .ok (.dup, 1) := q_dup (bat_get dg_X11_init_87_87 7 rfl rfl)
theorem dX11_init_103 : decode cX11_init 103 = .ok (.invokespecial 58, 3) := q_invokespecial (bat_get dg_X11_init_87_87 8 rfl rfl) rfl
theorem dX11_init_106 : decode cX11_init 106 = .ok (.putfield 59, 3) := q_putfield (bat_get dg_X11_init_87_87 9 rfl rfl) rfl
theorem dX11_init_109 : decode cX11_init 109 = .ok (.aload_n 0, 1) := q_aload_n0 (bat_get dg_X11_init_87_87 10 rfl rfl)
theorem dX11_init_110 : decode cX11_init 110 = .ok (.new 56, 3) := q_new (bat_get dg_X11_init_87_87 11 rfl rfl) rfl
theorem dX11_init_113 : decode cX11_init 113 = .ok (.dup, 1) := q_dup (bat_get dg_X11_init_87_87 12 rfl rfl)
theorem dX11_init_114 : decode cX11_init 114 = .ok (.invokespecial 58, 3) := q_invokespecial (bat_get dg_X11_init_87_87 13 rfl rfl) rfl
theorem dX11_init_117 : decode cX11_init 117 = .ok (.putfield 63, 3) := q_putfield (bat_get dg_X11_init_87_87 14 rfl rfl) rfl
theorem dX11_init_120 : decode cX11_init 120 = .ok (.aload_n 0, 1) := q_aload_n0 (bat_get dg_X11_init_87_87 15 rfl rfl)
theorem dX11_init_121 : decode cX11_init 121 = .ok (.new 66, 3) := q_new (bat_get dg_X11_init_87_87 16 rfl rfl) rfl
theorem dX11_init_124 : decode cX11_init 124 = .ok (.dup, 1) := q_dup (bat_get dg_X11_init_87_87 17 rfl rfl)
theorem dX11_init_125 : decode cX11_init 125 = .ok (.invokespecial 68, 3) := q_invokespecial (bat_get dg_X11_init_87_87 18 rfl rfl) rfl
theorem dX11_init_128 : decode cX11_init 128 = .ok (.putfield 69, 3) := q_putfield (bat_get dg_X11_init_87_87 19 rfl rfl) rfl
theorem dX11_init_131 : decode cX11_init 131 = .ok (.aload_n 0, 1) := q_aload_n0 (bat_get dg_X11_init_87_87 20 rfl rfl)
theorem dX11_init_132 : decode cX11_init 132 = .ok (.new 73, 3) := q_new (bat_get dg_X11_init_87_87 21 rfl rfl) rfl
theorem dX11_init_135 : decode cX11_init 135 = .ok (.dup, 1) := q_dup (bat_get dg_X11_init_87_87 22 rfl rfl)
theorem dX11_init_136 : decode cX11_init 136 = .ok (.invokespecial 75, 3) := q_invokespecial (bat_get dg_X11_init_87_87 23 rfl rfl) rfl
theorem dX11_init_139 : decode cX11_init 139 = .ok (.putfield 76, 3) := q_putfield (bat_get dg_X11_init_87_87 24 rfl rfl) rfl
theorem dX11_init_142 : decode cX11_init 142 = .ok (.aload_n 0, 1) := q_aload_n0 (bat_get dg_X11_init_87_87 25 rfl rfl)
theorem dX11_init_143 : decode cX11_init 143 = .ok (.new 80, 3) := q_new (bat_get dg_X11_init_87_87 26 rfl rfl) rfl
theorem dX11_init_146 : decode cX11_init 146 = .ok (.dup, 1) := q_dup (bat_get dg_X11_init_87_87 27 rfl rfl)
theorem dX11_init_147 : decode cX11_init 147 = .ok (.aload_n 0, 1) := q_aload_n0 (bat_get dg_X11_init_87_87 28 rfl rfl)
theorem dX11_init_148 : decode cX11_init 148 = .ok (.getfield 76, 3) := q_getfield (bat_get dg_X11_init_87_87 29 rfl rfl) rfl
theorem dX11_init_151 : decode cX11_init 151 = .ok (.invokespecial 82, 3) := q_invokespecial (bat_get dg_X11_init_87_87 30 rfl rfl) rfl
theorem dX11_init_154 : decode cX11_init 154 = .ok (.putfield 85, 3) := q_putfield (bat_get dg_X11_init_87_87 31 rfl rfl) rfl
theorem dX11_init_157 : decode cX11_init 157 = .ok (.aload_n 0, 1) := q_aload_n0 (bat_get dg_X11_init_87_87 32 rfl rfl)
theorem dX11_init_158 : decode cX11_init 158 = .ok (.bipush 9, 2) := q_bipush (bat_get dg_X11_init_87_87 33 rfl rfl) rfl
theorem dX11_init_160 : decode cX11_init 160 = .ok (.newarray .int, 2) := q_newarray_int (bat_get dg_X11_init_87_87 34 rfl rfl)
theorem dX11_init_162 : decode cX11_init 162 = .ok (.putfield 89, 3) := q_putfield (bat_get dg_X11_init_87_87 35 rfl rfl) rfl
theorem dX11_init_165 : decode cX11_init 165 = .ok (.aload_n 0, 1) := q_aload_n0 (bat_get dg_X11_init_87_87 36 rfl rfl)
theorem dX11_init_166 : decode cX11_init 166 = .ok (.bipush 9, 2) := q_bipush (bat_get dg_X11_init_87_87 37 rfl rfl) rfl
theorem dX11_init_168 : decode cX11_init 168 = .ok (.newarray .int, 2) := q_newarray_int (bat_get dg_X11_init_87_87 38 rfl rfl)
theorem dX11_init_170 : decode cX11_init 170 = .ok (.putfield 93, 3) := q_putfield (bat_get dg_X11_init_87_87 39 rfl rfl) rfl
theorem dg_X11_init_173_173 : bqL cX11_init 173 [(0, [42]), (1, [16, 16]), (3, [188, 10]), (5, [181, 0, 96]), (8, [42]), (9, [3]), (10, [181, 0, 99]), (13, [42]), (14, [16, 6]), (16, [188, 10]), (18, [181, 0, 103]), (21, [42]), (22, [10]), (23, [181, 0, 106]), (26, [177])] = true := by decide +kernel
theorem dX11_init_173 : decode cX11_init 173 = .ok (.aload_n 0, 1) := q_aload_n0 (bat_get dg_X11_init_173_173 0 rfl rfl)
theorem dX11_init_174 : decode cX11_init 174 = .ok (.bipush 16, 2) := q_bipush (bat_get dg_X11_init_173_173 1 rfl rfl) rfl
theorem dX11_init_176 : decode cX11_init 176 = .ok (.newarray .int, 2) := q_newarray_int (bat_get dg_X11_init_173_173 2 rfl rfl)
theorem dX11_init_178 : decode cX11_init 178 = .ok (.putfield 96, 3) := q_putfield (bat_get dg_X11_init_173_173 3 rfl rfl) rfl
theorem dX11_init_181 : decode cX11_init 181 = .ok (.aload_n 0, 1) := q_aload_n0 (bat_get dg_X11_init_173_173 4 rfl rfl)
theorem dX11_init_182 : decode cX11_init 182 = .ok (.iconst 0, 1) := q_iconst0 (bat_get dg_X11_init_173_173 5 rfl rfl)
theorem dX11_init_183 : decode cX11_init 183 = .ok (.putfield 99, 3) := q_putfield (bat_get dg_X11_init_173_173 6 rfl rfl) rfl
theorem dX11_init_186 : decode cX11_init 186 = .ok (.aload_n 0, 1) := q_aload_n0 (bat_get dg_X11_init_173_173 7 rfl rfl)
theorem dX11_init_187 : decode cX11_init 187 = .ok (.bipush 6, 2) := q_bipush (bat_get dg_X11_init_173_173 8 rfl rfl) rfl
theorem dX11_init_189 : decode cX11_init 189 = .ok (.newarray .int, 2) := q_newarray_int (bat_get dg_X11_init_173_173 9 rfl rfl)
theorem dX11_init_191 : decode cX11_init 191 = .ok (.putfield 103, 3) := q_putfield (bat_get dg_X11_init_173_173 10 rfl rfl) rfl
theorem dX11_init_194 : decode cX11_init 194 = .ok (.aload_n 0, 1) := q_aload_n0 (bat_get dg_X11_init_173_173 11 rfl rfl)
theorem dX11_init_195 : decode cX11_init 195 = .ok (.lconst 1, 1) := q_lconst1 (bat_get dg_X11_init_173_173 12 rfl rfl)
theorem dX11_init_196 : decode cX11_init 196 = .ok (.putfield 106, 3) := q_putfield (bat_get dg_X11_init_173_173 13 rfl rfl) rfl
theorem dX11_init_199 : decode cX11_init 199 = .ok (.return_, 1) := q_return_ (bat_get dg_X11_init_173_173 14 rfl rfl)
theorem w_1_27 : (Cond.methodLink RX11 1 objectInit) ∈ wsL_law := sk_mem (ck_1 _ (List.mem_of_getElem? (i := 27) rfl)) rfl
theorem w_1_30 : (Cond.classLink RX11 7 RX10) ∈ wsL_law := sk_mem (ck_1 _ (List.mem_of_getElem? (i := 30) rfl)) rfl
theorem w_1_31 : (Cond.instantiable RX10 2) ∈ wsL_law := sk_mem (ck_1 _ (List.mem_of_getElem? (i := 31) rfl)) rfl
theorem w_1_32 : (Cond.methodLink RX11 9 yX10_init) ∈ wsL_law := sk_mem (ck_1 _ (List.mem_of_getElem? (i := 32) rfl)) rfl
theorem w_1_33 : (Cond.instanceMethod yX10_init) ∈ wsL_law := sk_mem (ck_1 _ (List.mem_of_getElem? (i := 33) rfl)) rfl
theorem w_1_50 : (Cond.classLink RX11 21 RX6) ∈ wsL_law := sk_mem (ck_1 _ (List.mem_of_getElem? (i := 50) rfl)) rfl
theorem w_1_51 : (Cond.instantiable RX6 8) ∈ wsL_law := sk_mem (ck_1 _ (List.mem_of_getElem? (i := 51) rfl)) rfl
theorem w_1_52 : (Cond.methodLink RX11 23 yX6_init) ∈ wsL_law := sk_mem (ck_1 _ (List.mem_of_getElem? (i := 52) rfl)) rfl
theorem w_1_53 : (Cond.instanceMethod yX6_init) ∈ wsL_law := sk_mem (ck_1 _ (List.mem_of_getElem? (i := 53) rfl)) rfl
theorem w_1_88 : (Cond.classLink RX11 30 RX3) ∈ wsL_law := sk_mem (ck_1 _ (List.mem_of_getElem? (i := 88) rfl)) rfl
theorem w_1_89 : (Cond.instantiable RX3 3) ∈ wsL_law := sk_mem (ck_1 _ (List.mem_of_getElem? (i := 89) rfl)) rfl
theorem w_1_90 : (Cond.methodLink RX11 32 yX3_init) ∈ wsL_law := sk_mem (ck_1 _ (List.mem_of_getElem? (i := 90) rfl)) rfl
theorem w_1_91 : (Cond.instanceMethod yX3_init) ∈ wsL_law := sk_mem (ck_1 _ (List.mem_of_getElem? (i := 91) rfl)) rfl
theorem w_1_117 : (Cond.classLink RX11 39 RX5) ∈ wsL_law := sk_mem (ck_1 _ (List.mem_of_getElem? (i := 117) rfl)) rfl
theorem w_1_118 : (Cond.instantiable RX5 4) ∈ wsL_law := sk_mem (ck_1 _ (List.mem_of_getElem? (i := 118) rfl)) rfl
theorem w_1_119 : (Cond.methodLink RX11 41 yX5_init) ∈ wsL_law := sk_mem (ck_1 _ (List.mem_of_getElem? (i := 119) rfl)) rfl
theorem w_1_120 : (Cond.instanceMethod yX5_init) ∈ wsL_law := sk_mem (ck_1 _ (List.mem_of_getElem? (i := 120) rfl)) rfl
theorem w_1_167 : (Cond.classLink RX11 46 RX2) ∈ wsL_law := sk_mem (ck_1 _ (List.mem_of_getElem? (i := 167) rfl)) rfl
theorem w_1_168 : (Cond.instantiable RX2 10) ∈ wsL_law := sk_mem (ck_1 _ (List.mem_of_getElem? (i := 168) rfl)) rfl
theorem w_1_170 : (Cond.instanceMethod yX2_init) ∈ wsL_law := sk_mem (ck_1 _ (List.mem_of_getElem? (i := 170) rfl)) rfl
theorem w_1_224 : (Cond.classLink RX11 56 RX7) ∈ wsL_law := sk_mem (ck_1 _ (List.mem_of_getElem? (i := 224) rfl)) rfl
theorem w_2_31 : (Cond.classLink RX11 66 RX4) ∈ wsL_law := sk_mem (ck_2 _ (List.mem_of_getElem? (i := 31) rfl)) rfl
theorem w_2_32 : (Cond.instantiable RX4 5) ∈ wsL_law := sk_mem (ck_2 _ (List.mem_of_getElem? (i := 32) rfl)) rfl
theorem w_2_33 : (Cond.methodLink RX11 68 yX4_init) ∈ wsL_law := sk_mem (ck_2 _ (List.mem_of_getElem? (i := 33) rfl)) rfl
theorem w_2_34 : (Cond.instanceMethod yX4_init) ∈ wsL_law := sk_mem (ck_2 _ (List.mem_of_getElem? (i := 34) rfl)) rfl
theorem w_2_57 : (Cond.classLink RX11 73 RX9) ∈ wsL_law := sk_mem (ck_2 _ (List.mem_of_getElem? (i := 57) rfl)) rfl
