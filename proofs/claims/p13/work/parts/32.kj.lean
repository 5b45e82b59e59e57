theorem dg_X11_on_19_19 : bqL cX11_on 19 [(0, [60]), (1, [42]), (2, [180, 0, 12]), (5, [3]), (6, [181, 0, 110]), (9, [27]), (10, [154, 0, 9]), (19, [42]), (20, [180, 0, 59]), (23, [42]), (24, [180, 0, 12]), (27, [3]), (28, [182, 1, 12]), (31, [17, 1, 0]), (34, [104]), (35, [42]), (36, [180, 0, 12]), (39, [4]), (40, [182, 1, 12]), (43, [96]), (44, [181, 0, 147]), (47, [42]), (48, [180, 0, 59]), (51, [42]), (52, [180, 0, 12]), (55, [5]), (56, [182, 1, 12]), (59, [181, 0, 150]), (62, [42]), (63, [180, 0, 59]), (66, [3]), (67, [181, 0, 153]), (70, [3]), (71, [61]), (72, [28]), (73, [42]), (74, [180, 0, 59]), (77, [180, 0, 144]), (80, [162, 0, 77]), (157, [42])] = true := by decide +kernel
theorem dX11_on_19 : decode cX11_on 19 = .ok (.istore_n 1, 1) := q_istore_n1 (bat_get dg_X11_on_19_19 0 rfl rfl)
theorem dX11_on_20 : decode cX11_on 20 = .ok (.aload_n 0, 1) := q_aload_n0 (bat_get dg_X11_on_19_19 1 rfl rfl)
theorem dX11_on_21 : decode cX11_on 21 = .ok (.getfield 12, 3) := q_getfield (bat_get dg_X11_on_19_19 2 rfl rfl) rfl
theorem dX11_on_24 : decode cX11_on 24 = .ok (.iconst 0, 1) := q_iconst0 (bat_get dg_X11_on_19_19 3 rfl rfl)
theorem dX11_on_25 : decode cX11_on 25 = .ok (.putfield 110, 3) := q_putfield (bat_get dg_X11_on_19_19 4 rfl rfl) rfl
theorem dX11_on_28 : decode cX11_on 28 = .ok (.iload_n 1, 1) := q_iload_n1 (bat_get dg_X11_on_19_19 5 rfl rfl)
theorem dX11_on_29 : decode cX11_on 29 = .ok (.ifCond .ne 9, 3) := q_ifCond_ne (bat_get dg_X11_on_19_19 6 rfl rfl) rfl
theorem dX11_on_38 : decode cX11_on 38 = .ok (.aload_n 0, 1) := q_aload_n0 (bat_get dg_X11_on_19_19 7 rfl rfl)
theorem dX11_on_39 : decode cX11_on 39 = .ok (.getfield 59, 3) := q_getfield (bat_get dg_X11_on_19_19 8 rfl rfl) rfl
theorem dX11_on_42 : decode cX11_on 42 = .ok (.aload_n 0, 1) := q_aload_n0 (bat_get dg_X11_on_19_19 9 rfl rfl)
theorem dX11_on_43 : decode cX11_on 43 = .ok (.getfield 12, 3) := q_getfield (bat_get dg_X11_on_19_19 10 rfl rfl) rfl
theorem dX11_on_46 : decode cX11_on 46 = .ok (.iconst 0, 1) := q_iconst0 (bat_get dg_X11_on_19_19 11 rfl rfl)
theorem dX11_on_47 : decode cX11_on 47 = .ok (.invokevirtual 268, 3) := q_invokevirtual (bat_get dg_X11_on_19_19 12 rfl rfl) rfl
theorem dX11_on_50 : decode cX11_on 50 = .ok (.sipush 256, 3) := q_sipush (bat_get dg_X11_on_19_19 13 rfl rfl) rfl
theorem dX11_on_53 : decode cX11_on 53 = .ok (.imul, 1) := q_imul (bat_get dg_X11_on_19_19 14 rfl rfl)
theorem dX11_on_54 : decode cX11_on 54 = .ok (.aload_n 0, 1) := q_aload_n0 (bat_get dg_X11_on_19_19 15 rfl rfl)
theorem dX11_on_55 : decode cX11_on 55 = .ok (.getfield 12, 3) := q_getfield (bat_get dg_X11_on_19_19 16 rfl rfl) rfl
theorem dX11_on_58 : decode cX11_on 58 = .ok (.iconst 1, 1) := q_iconst1 (bat_get dg_X11_on_19_19 17 rfl rfl)
theorem dX11_on_59 : decode cX11_on 59 = .ok (.invokevirtual 268, 3) := q_invokevirtual (bat_get dg_X11_on_19_19 18 rfl rfl) rfl
theorem dX11_on_62 : decode cX11_on 62 = .ok (.iadd, 1) := q_iadd (bat_get dg_X11_on_19_19 19 rfl rfl)
theorem dX11_on_63 : decode cX11_on 63 = .ok (.putfield 147, 3) := q_putfield (bat_get dg_X11_on_19_19 20 rfl rfl) rfl
theorem dX11_on_66 : decode cX11_on 66 = .ok (.aload_n 0, 1) := q_aload_n0 (bat_get dg_X11_on_19_19 21 rfl rfl)
theorem dX11_on_67 : decode cX11_on 67 = .ok (.getfield 59, 3) := q_getfield (bat_get dg_X11_on_19_19 22 rfl rfl) rfl
theorem dX11_on_70 : decode cX11_on 70 = .ok (.aload_n 0, 1) := q_aload_n0 (bat_get dg_X11_on_19_19 23 rfl rfl)
theorem dX11_on_71 : decode cX11_on 71 = .ok (.getfield 12, 3) := q_getfield (bat_get dg_X11_on_19_19 24 rfl rfl) rfl
theorem dX11_on_74 : decode cX11_on 74 = .ok (.iconst 2, 1) := q_iconst2 (bat_get dg_X11_on_19_19 25 rfl rfl)
theorem dX11_on_75 : decode cX11_on 75 = .ok (.invokevirtual 268, 3) := q_invokevirtual (bat_get dg_X11_on_19_19 26 rfl rfl) rfl
theorem dX11_on_78 : decode cX11_on 78 = .ok (.putfield 150, 3) := q_putfield (bat_get dg_X11_on_19_19 27 rfl rfl) rfl
theorem dX11_on_81 : decode cX11_on 81 = .ok (.aload_n 0, 1) := q_aload_n0 (bat_get dg_X11_on_19_19 28 rfl rfl)
theorem dX11_on_82 : decode cX11_on 82 = .ok (.getfield 59, 3) := q_getfield (bat_get dg_X11_on_19_19 29 rfl rfl) rfl
theorem dX11_on_85 : decode cX11_on 85 = .ok (.iconst 0, 1) := q_iconst0 (bat_get dg_X11_on_19_19 30 rfl rfl)
theorem dX11_on_86 : decode cX11_on 86 = .ok (.putfield 153, 3) := q_putfield (bat_get dg_X11_on_19_19 31 rfl rfl) rfl
theorem dX11_on_89 : decode cX11_on 89 = .ok (.iconst 0, 1) := q_iconst0 (bat_get dg_X11_on_19_19 32 rfl rfl)
theorem dX11_on_90 : decode cX11_on 90 = .ok (.istore_n 2, 1) := q_istore_n2 (bat_get dg_X11_on_19_19 33 rfl rfl)
theorem dX11_on_91 : decode cX11_on 91 = .ok (.iload_n 2, 1) := q_iload_n2 (bat_get dg_X11_on_19_19 34 rfl rfl)
theorem dX11_on_92 : decode cX11_on 92 = .ok (.aload_n 0, 1) := q_aload_n0 (bat_get dg_X11_on_19_19 35 rfl rfl)
theorem dX11_on_93 : decode cX11_on 93 = .ok (.getfield 59, 3) := q_getfield (bat_get dg_X11_on_19_19 36 rfl rfl) rfl
theorem dX11_on_96 : decode cX11_on 96 = .ok (.getfield 144, 3) := q_getfield (bat_get dg_X11_on_19_19 37 rfl rfl) rfl
theorem dX11_on_99 : decode cX11_on 99 = .ok (.if_icmp .ge 77, 3) := q_if_icmp_ge (bat_get dg_X11_on_19_19 38 rfl rfl) rfl
theorem dX11_on_176 : decode cX11_on 176 = .ok (.aload_n 0, 1) := q_aload_n0 (bat_get dg_X11_on_19_19 39 rfl rfl)
theorem dg_X11_on_102_177 : bqL cX11_on 102 [(75, [180, 0, 59]), (78, [3]), (79, [181, 0, 161]), (82, [42]), (83, [180, 0, 69]), (86, [182, 0, 134]), (89, [4]), (90, [172]), (0, [42]), (1, [180, 0, 59]), (4, [180, 0, 173]), (7, [28]), (8, [42]), (9, [180, 0, 12]), (12, [6]), (13, [28]), (14, [104]), (15, [6]), (16, [96]), (17, [182, 1, 12]), (20, [79]), (21, [42]), (22, [180, 0, 59]), (25, [180, 0, 176]), (28, [28]), (29, [42]), (30, [180, 0, 12]), (33, [6]), (34, [28]), (35, [104]), (36, [7]), (37, [96]), (38, [182, 1, 12]), (41, [79]), (42, [42]), (43, [180, 0, 59]), (46, [89]), (47, [180, 0, 153]), (50, [42]), (51, [180, 0, 12])] = true := by decide +kernel
theorem dX11_on_177 : decode cX11_on 177 = .ok (.getfield 59, 3) := q_getfield (bat_get dg_X11_on_102_177 0 rfl rfl) rfl
theorem dX11_on_180 : decode cX11_on 180 = .ok (.iconst 0, 1) := q_iconst0 (bat_get dg_X11_on_102_177 1 rfl rfl)
theorem dX11_on_181 : decode cX11_on 181 = .ok (.putfield 161, 3) := q_putfield (bat_get dg_X11_on_102_177 2 rfl rfl) rfl
theorem dX11_on_184 : decode cX11_on 184 = .ok (.aload_n 0, 1) := q_aload_n0 (bat_get dg_X11_on_102_177 3 rfl rfl)
theorem dX11_on_185 : decode cX11_on 185 = .ok (.getfield 69, 3) := q_getfield (bat_get dg_X11_on_102_177 4 rfl rfl) rfl
theorem dX11_on_188 : decode cX11_on 188 = .ok (.invokevirtual 134, 3) := q_invokevirtual (bat_get dg_X11_on_102_177 5 rfl rfl) rfl
theorem dX11_on_191 : decode cX11_on 191 = .ok (.iconst 1, 1) := q_iconst1 (bat_get dg_X11_on_102_177 6 rfl rfl)
theorem dX11_on_192 : decode cX11_on 192 = .ok (.ireturn, 1) := q_ireturn (bat_get dg_X11_on_102_177 7 rfl rfl)
theorem dX11_on_102 : decode cX11_on 102 = .ok (.aload_n 0, 1) := q_aload_n0 (bat_get dg_X11_on_102_177 8 rfl rfl)
theorem dX11_on_103 : decode cX11_on 103 = .ok (.getfield 59, 3) := q_getfield (bat_get dg_X11_on_102_177 9 rfl rfl) rfl
theorem dX11_on_106 : decode cX11_on 106 = .ok (.getfield 173, 3) := q_getfield (bat_get dg_X11_on_102_177 10 rfl rfl) rfl
theorem dX11_on_109 : decode cX11_on 109 = .ok (.iload_n 2, 1) := q_iload_n2 (bat_get dg_X11_on_102_177 11 rfl rfl)
theorem dX11_on_110 : decode cX11_on 110 = .ok (.aload_n 0, 1) := q_aload_n0 (bat_get dg_X11_on_102_177 12 rfl rfl)
theorem dX11_on_111 : decode cX11_on 111 = .ok (.getfield 12, 3) := q_getfield (bat_get dg_X11_on_102_177 13 rfl rfl) rfl
theorem dX11_on_114 : decode cX11_on 114 = .ok (.iconst 3, 1) := q_iconst3 (bat_get dg_X11_on_102_177 14 rfl rfl)
theorem dX11_on_115 : decode cX11_on 115 = .ok (.iload_n 2, 1) := q_iload_n2 (bat_get dg_X11_on_102_177 15 rfl rfl)
theorem dX11_on_116 : decode cX11_on 116 = .ok (.imul, 1) := q_imul (bat_get dg_X11_on_102_177 16 rfl rfl)
theorem dX11_on_117 : decode cX11_on 117 = .ok (.iconst 3, 1) := q_iconst3 (bat_get dg_X11_on_102_177 17 rfl rfl)
theorem dX11_on_118 : decode cX11_on 118 = .ok (.iadd, 1) := q_iadd (bat_get dg_X11_on_102_177 18 rfl rfl)
theorem dX11_on_119 : decode cX11_on 119 = .ok (.invokevirtual 268, 3) := q_invokevirtual (bat_get dg_X11_on_102_177 19 rfl rfl) rfl
theorem dX11_on_122 : decode cX11_on 122 = .ok (.iastore, 1) := q_iastore (bat_get dg_X11_on_102_177 20 rfl rfl)
theorem dX11_on_123 : decode cX11_on 123 = .ok (.aload_n 0, 1) := q_aload_n0 (bat_get dg_X11_on_102_177 21 rfl rfl)
theorem dX11_on_124 : decode cX11_on 124 = .ok (.getfield 59, 3) := q_getfield (bat_get dg_X11_on_102_177 22 rfl rfl) rfl
theorem dX11_on_127 : decode cX11_on 127 = .ok (.getfield 176, 3) := q_getfield (bat_get dg_X11_on_102_177 23 rfl rfl) rfl
theorem dX11_on_130 : decode cX11_on 130 = .ok (.iload_n 2, 1) := q_iload_n2 (bat_get dg_X11_on_102_177 24 rfl rfl)
theorem dX11_on_131 : decode cX11_on 131 = .ok (.aload_n 0, 1) := q_aload_n0 (bat_get dg_X11_on_102_177 25 rfl rfl)
theorem dX11_on_132 : decode cX11_on 132 = .ok (.getfield 12, 3) := q_getfield (bat_get dg_X11_on_102_177 26 rfl rfl) rfl
theorem dX11_on_135 : decode cX11_on 135 = .ok (.iconst 3, 1) := q_iconst3 (bat_get dg_X11_on_102_177 27 rfl rfl)
theorem dX11_on_136 : decode cX11_on 136 = .ok (.iload_n 2, 1) := q_iload_n2 (bat_get dg_X11_on_102_177 28 rfl rfl)
theorem dX11_on_137 : decode cX11_on 137 = .ok (.imul, 1) := q_imul (bat_get dg_X11_on_102_177 29 rfl rfl)
theorem dX11_on_138 : decode cX11_on 138 = .ok (.iconst 4, 1) := q_iconst4 (bat_get dg_X11_on_102_177 30 rfl rfl)
theorem dX11_on_139 : decode cX11_on 139 = .ok (.iadd, 1) := q_iadd (bat_get dg_X11_on_102_177 31 rfl rfl)
theorem dX11_on_140 : decode cX11_on 140 = .ok (.invokevirtual 268, 3) := q_invokevirtual (bat_get dg_X11_on_102_177 32 rfl rfl) rfl
theorem dX11_on_143 : decode cX11_on 143 = .ok (.iastore, 1) := q_iastore (bat_get dg_X11_on_102_177 33 rfl rfl)
theorem dX11_on_144 : decode cX11_on 144 = .ok (.aload_n 0, 1) := q_aload_n0 (bat_get dg_X11_on_102_177 34 rfl rfl)
theorem dX11_on_145 : decode cX11_on 145 = .ok (.getfield 59, 3) := q_getfield (bat_get dg_X11_on_102_177 35 rfl rfl) rfl
theorem dX11_on_148 : decode cX11_on 148 = .ok (.dup, 1) := q_dup (bat_get dg_X11_on_102_177 36 rfl rfl)
theorem dX11_on_149 : decode cX11_on 149 = .ok (.getfield 153, 3) := q_getfield (bat_get dg_X11_on_102_177 37 rfl rfl) rfl
theorem dX11_on_152 : decode cX11_on 152 = .ok (.aload_n 0, 1) := q_aload_n0 (bat_get dg_X11_on_102_177 38 rfl rfl)
theorem dX11_on_153 : decode cX11_on 153 = .ok (.getfield 12, 3) := q_getfield (bat_get dg_X11_on_102_177 39 rfl rfl) rfl
theorem dg_X11_on_0_156 : bqL cX11_on 0 [(156, [6]), (157, [28]), (158, [104]), (159, [8]), (160, [96]), (161, [182, 1, 12]), (164, [28]), (165, [120]), (166, [128]), (167, [181, 0, 153]), (170, [132, 2, 1]), (173, [167, 255, 174]), (32, [42]), (33, [8]), (34, [182, 0, 120]), (37, [172]), (0, [42]), (1, [182, 0, 204]), (4, [153, 0, 14]), (18, [3]), (7, [42]), (8, [182, 1, 60]), (11, [153, 0, 7]), (14, [4]), (15, [167, 0, 4])] = true := by decide +kernel
theorem dX11_on_156 : decode cX11_on 156 = .ok (.iconst 3, 1) := q_iconst3 (bat_get dg_X11_on_0_156 0 rfl rfl)
theorem dX11_on_157 : decode cX11_on 157 = .ok (.iload_n 2, 1) := q_iload_n2 (bat_get dg_X11_on_0_156 1 rfl rfl)
theorem dX11_on_158 : decode cX11_on 158 = .ok (.imul, 1) := q_imul (bat_get dg_X11_on_0_156 2 rfl rfl)
theorem dX11_on_159 : decode cX11_on 159 = .ok (.iconst 5, 1) := q_iconst5 (bat_get dg_X11_on_0_156 3 rfl rfl)
theorem dX11_on_160 : decode cX11_on 160 = .ok (.iadd, 1) := q_iadd (bat_get dg_X11_on_0_156 4 rfl rfl)
theorem dX11_on_161 : decode cX11_on 161 = .ok (.invokevirtual 268, 3) := q_invokevirtual (bat_get dg_X11_on_0_156 5 rfl rfl) rfl
theorem dX11_on_164 : decode cX11_on 164 = .ok (.iload_n 2, 1) := q_iload_n2 (bat_get dg_X11_on_0_156 6 rfl rfl)
theorem dX11_on_165 : decode cX11_on 165 = .ok (.ishl, 1) := q_ishl (bat_get dg_X11_on_0_156 7 rfl rfl)
theorem dX11_on_166 : decode cX11_on 166 = .ok (.ior, 1) := q_ior (bat_get dg_X11_on_0_156 8 rfl rfl)
theorem dX11_on_167 : decode cX11_on 167 = .ok (.putfield 153, 3) := q_putfield (bat_get dg_X11_on_0_156 9 rfl rfl) rfl
theorem dX11_on_170 : decode cX11_on 170 = .ok (.iinc 2 1, 3) := q_iinc (bat_get dg_X11_on_0_156 10 rfl rfl) rfl
theorem dX11_on_173 : decode cX11_on 173 = .ok (.goto (-82), 3) := q_goto (bat_get dg_X11_on_0_156 11 rfl rfl) rfl
theorem dX11_on_32 : decode cX11_on 32 = .ok (.aload_n 0, 1) := q_aload_n0 (bat_get dg_X11_on_0_156 12 rfl rfl)
theorem dX11_on_33 : decode cX11_on 33 = .ok (.iconst 5, 1) := q_iconst5 (bat_get dg_X11_on_0_156 13 rfl rfl)
theorem dX11_on_34 : decode cX11_on 34 = .ok (.invokevirtual 120, 3) := q_invokevirtual (bat_get dg_X11_on_0_156 14 rfl rfl) rfl
theorem dX11_on_37 : decode cX11_on 37 = .ok (.ireturn, 1) := q_ireturn (bat_get dg_X11_on_0_156 15 rfl rfl)
theorem dX11_on_0 : decode cX11_on 0 = .ok (.aload_n 0, 1) := q_aload_n0 (bat_get dg_X11_on_0_156 16 rfl rfl)
theorem dX11_on_1 : decode cX11_on 1 = .ok (.invokevirtual 204, 3) := q_invokevirtual (bat_get dg_X11_on_0_156 17 rfl rfl) rfl
theorem dX11_on_4 : decode cX11_on 4 = .ok (.ifCond .eq 14, 3) := q_ifCond_eq (bat_get dg_X11_on_0_156 18 rfl rfl) rfl
theorem dX11_on_18 : decode cX11_on 18 = .ok (.iconst 0, 1) := q_iconst0 (bat_get dg_X11_on_0_156 19 rfl rfl)
theorem dX11_on_7 : decode cX11_on 7 = .ok (.aload_n 0, 1) := q_aload_n0 (bat_get dg_X11_on_0_156 20 rfl rfl)
theorem dX11_on_8 : decode cX11_on 8 = .ok (.invokevirtual 316, 3) := q_invokevirtual (bat_get dg_X11_on_0_156 21 rfl rfl) rfl
theorem dX11_on_11 : decode cX11_on 11 = .ok (.ifCond .eq 7, 3) := q_ifCond_eq (bat_get dg_X11_on_0_156 22 rfl rfl) rfl
theorem dX11_on_14 : decode cX11_on 14 = .ok (.iconst 1, 1) := q_iconst1 (bat_get dg_X11_on_0_156 23 rfl rfl)
theorem dX11_on_15 : decode cX11_on 15 = .ok (.goto 4, 3) := q_goto (bat_get dg_X11_on_0_156 24 rfl rfl) rfl
theorem w_3_155 : (Cond.methodLink RX11 134 yX4_forget) ∈ wsL_law := sk_mem (ck_3 _ (List.mem_of_getElem? (i := 155) rfl)) rfl
theorem w_3_156 : (Cond.instanceMethod yX4_forget) ∈ wsL_law := sk_mem (ck_3 _ (List.mem_of_getElem? (i := 156) rfl)) rfl
theorem w_3_157 : (Cond.selects RX4 yX4_forget yX4_forget) ∈ wsL_law := sk_mem (ck_3 _ (List.mem_of_getElem? (i := 157) rfl)) rfl
theorem w_5_141 : (Cond.methodLink RX11 316 yX11_tellsImage) ∈ wsL_law := sk_mem (ck_5 _ (List.mem_of_getElem? (i := 141) rfl)) rfl
theorem w_5_143 : (Cond.instanceMethod yX11_tellsImage) ∈ wsL_law := sk_mem (ck_5 _ (List.mem_of_getElem? (i := 143) rfl)) rfl
theorem w_0_40 : (Cond.selects RX11 yX11_tellsImage yX11_tellsImage) ∈ wsL_law := sk_mem (ck_0 _ (List.mem_of_getElem? (i := 40) rfl)) rfl
theorem w_5_140 : (Cond.code yX11_on cX11_on 3 (some .boolean)) ∈ wsL_law := sk_mem (ck_5 _ (List.mem_of_getElem? (i := 140) rfl)) rfl
def om_8_60 : List Bool := false :: true :: true :: false :: false :: false :: false :: false :: []
def om_8_2 : List Bool := false :: false :: false :: false :: false :: false :: true :: false :: []
def om_8_81 : List Bool := true :: false :: false :: false :: false :: false :: false :: true :: []
def om_8_90 : List Bool := true :: false :: false :: true :: false :: false :: false :: false :: []
theorem hd_X4_forget_0 : skD yX4_forget 0 := by decide +kernel
theorem hd_X11_tellsImage_0 : skD yX11_tellsImage 0 := by decide +kernel
set_option maxHeartbeats 4000000 in
set_option maxRecDepth 100000 in
theorem c_ky_on (l : Launch) (D : va_G) (cI cJ cC cZ cS : ClassId) (x0 : Nat) (q : Nat → Nat) (hc : Int32) (dr : Int64) (tl : Nat) (tb : Nat → Nat) (dy : Nat) (wn : Nat) (mo : Nat) (ke : Nat) (mu : Int32) (fb : Nat → Int32) (fw : Nat → Int32) (Ba : Nat → Nat) (We : Nat → Nat) (U : Nat → Bool) (ac : Nat) (rf : Nat → Int32) (htl : tl ≤ 1600) (htb : ∀ j, tb j ≤ 255) (hdy : dy ≤ 9) (hmo : mo ≤ 9) (hfb : ∀ j, j < 9 → fb j = nI (Ba j)) (hfw : ∀ j, j < 9 → fw j = nI (We j)) (hB9 : ∀ j, Ba j ≤ 9) (hW9 : ∀ j, We j ≤ 9) (hU : muO U mu) : skM l yX11_on cX11_on 3 (some .boolean) 3 66 0 0 D (skT cI cJ cC cZ cS) [.ref x0] [ro_rrrrrrrrrrrrrrrirl x0 11 (q 0) (q 1) (q 2) (q 3) (q 4) (q 5) (q 6) (q 7) (q 8) (q 9) (q 10) (q 11) (q 12) (q 13) (q 14) hc (q 16) dr, ro_rn (q 0) 10 (q 20) tl, ra_N (q 20) cI 1600 tb, ro_rrnnnin (q 7) 7 (q 33) (q 34) dy wn mo mu ke, ra_I (q 33) cI 9 fb, ra_I (q 34) cI 9 fw, ro_rnrrr (q 9) 4 (q 35) ac (q 36) (q 37) (q 38), ra_I (q 16) cI 6 rf] (skI D (skT cI cJ cC cZ cS) (fun (r : Int32) (u : va_W) => ∃ (wn2 : Nat), ∃ (mo2 : Nat), ∃ (ke2 : Nat), ∃ (ac2 : Nat), ∃ (mu2 : Int32), ∃ (fb2 : Nat → Int32), ∃ (fw2 : Nat → Int32), ∃ (Ba2 : Nat → Nat), ∃ (We2 : Nat → Nat), ∃ (U2 : Nat → Bool), ∃ (rf2 : Nat → Int32), (∀ j, j < 9 → fb2 j = nI (Ba2 j)) ∧ (∀ j, j < 9 → fw2 j = nI (We2 j)) ∧ muO U2 mu2 ∧ ac2 ≤ ac ∧ mo2 ≤ 9 ∧ ke2 ≤ ke ∧ onR dy tb tl (wn, mo, Ba, We, U, ke) ac rf r (wn2, mo2, Ba2, We2, U2, ke2) ac2 rf2 ∧ u = [ro_rrrrrrrrrrrrrrrirl x0 11 (q 0) (q 1) (q 2) (q 3) (q 4) (q 5) (q 6) (q 7) (q 8) (q 9) (q 10) (q 11) (q 12) (q 13) (q 14) hc (q 16) dr, ro_ri (q 0) 10 (q 20) 0, ra_N (q 20) cI 1600 tb, ro_rrnnnin (q 7) 7 (q 33) (q 34) dy wn2 mo2 mu2 ke2, ra_I (q 33) cI 9 fb2, ra_I (q 34) cI 9 fw2, ro_rnrrr (q 9) 4 (q 35) ac2 (q 36) (q 37) (q 38), ra_I (q 16) cI 6 rf2])) := by
  refine skM_of pf_X11_on (Nat.le_of_ble_eq_true rfl) ?_
  intro p e s m below meth c A ls E hP hD hl
  refine skE_el E (fun hx hb hr hml hlocks hin hown hts hK hA => ?_)
  have hown : s.vm.findClass RX11 = some m.cls := hown
  have hS : va_S A s.heap s.heap [] := va_S.rf
  have hl : lv_has ls 3 [(0, .ref x0)] := hl
  have jn_1 : ∀ (bq : Nat) (H : Heap) (locs : List Loc) (ls : Array Slot), (bq ≤ 1) → ((bq = 0 ∧ ¬ (1 ≤ dy ∧ imgO tb tl dy)) ∨ (bq = 1 ∧ 1 ≤ dy ∧ imgO tb tl dy)) → va_P D vwCl [ro_rrrrrrrrrrrrrrrirl x0 11 (q 0) (q 1) (q 2) (q 3) (q 4) (q 5) (q 6) (q 7) (q 8) (q 9) (q 10) (q 11) (q 12) (q 13) (q 14) hc (q 16) dr, ro_rn (q 0) 10 (q 20) tl, ra_N (q 20) cI 1600 tb, ro_rrnnnin (q 7) 7 (q 33) (q 34) dy wn mo mu ke, ra_I (q 33) cI 9 fb, ra_I (q 34) cI 9 fw, ro_rnrrr (q 9) 4 (q 35) ac (q 36) (q 37) (q 38), ra_I (q 16) cI 6 rf] H → va_D A [ro_rrrrrrrrrrrrrrrirl x0 11 (q 0) (q 1) (q 2) (q 3) (q 4) (q 5) (q 6) (q 7) (q 8) (q 9) (q 10) (q 11) (q 12) (q 13) (q 14) hc (q 16) dr, ro_rn (q 0) 10 (q 20) tl, ra_N (q 20) cI 1600 tb, ro_rrnnnin (q 7) 7 (q 33) (q 34) dy wn mo mu ke, ra_I (q 33) cI 9 fb, ra_I (q 34) cI 9 fw, ro_rnrrr (q 9) 4 (q 35) ac (q 36) (q 37) (q 38), ra_I (q 16) cI 6 rf] → va_S A s.heap H locs → lv_has ls 3 [(0, .ref x0)] → W p l e { frames := 3, cells := 0, slots := 0, locals := 66 } s m ([.ref x0] : List Value).toArray below meth c H locs 0 0 (MQ below (skI D (skT cI cJ cC cZ cS) (fun (r : Int32) (u : va_W) => ∃ (wn2 : Nat), ∃ (mo2 : Nat), ∃ (ke2 : Nat), ∃ (ac2 : Nat), ∃ (mu2 : Int32), ∃ (fb2 : Nat → Int32), ∃ (fw2 : Nat → Int32), ∃ (Ba2 : Nat → Nat), ∃ (We2 : Nat → Nat), ∃ (U2 : Nat → Bool), ∃ (rf2 : Nat → Int32), (∀ j, j < 9 → fb2 j = nI (Ba2 j)) ∧ (∀ j, j < 9 → fw2 j = nI (We2 j)) ∧ muO U2 mu2 ∧ ac2 ≤ ac ∧ mo2 ≤ 9 ∧ ke2 ≤ ke ∧ onR dy tb tl (wn, mo, Ba, We, U, ke) ac rf r (wn2, mo2, Ba2, We2, U2, ke2) ac2 rf2 ∧ u = [ro_rrrrrrrrrrrrrrrirl x0 11 (q 0) (q 1) (q 2) (q 3) (q 4) (q 5) (q 6) (q 7) (q 8) (q 9) (q 10) (q 11) (q 12) (q 13) (q 14) hc (q 16) dr, ro_ri (q 0) 10 (q 20) 0, ra_N (q 20) cI 1600 tb, ro_rrnnnin (q 7) 7 (q 33) (q 34) dy wn2 mo2 mu2 ke2, ra_I (q 33) cI 9 fb2, ra_I (q 34) cI 9 fw2, ro_rnrrr (q 9) 4 (q 35) ac2 (q 36) (q 37) (q 38), ra_I (q 16) cI 6 rf2]) A) ([.ref x0] : List Value).toArray s 0 0 A) (F0 m 19 ls [.int (nI bq)]) := by
    intro bq H locs ls hbq1 hbq3 hP hD hS hl
    refine lv_istore_n (lv' := [(1, .int (nI bq)), (0, .ref x0)]) hx hb dX11_on_19 rfl hl (by decide) rfl (fun ls hl => ?_)
    refine lv_aload_n hx hb dX11_on_20 rfl (lv_at hl 1 rfl) ?_
    refine sk_get (v := .ref (q 0)) (C := RX11) (T := TX11) (N := 18) hx hb hts inlX11 hown hK hP 0 rfl rfl 0 (Nat.le_of_ble_eq_true rfl) w_2_123 rfl dX11_on_21 ?_
    refine lv_iconst (v := 0) hx hb dX11_on_24 ic_0 ?_
    refine sk_put (ws' := [ro_rrrrrrrrrrrrrrrirl x0 11 (q 0) (q 1) (q 2) (q 3) (q 4) (q 5) (q 6) (q 7) (q 8) (q 9) (q 10) (q 11) (q 12) (q 13) (q 14) hc (q 16) dr, ro_ri (q 0) 10 (q 20) 0, ra_N (q 20) cI 1600 tb, ro_rrnnnin (q 7) 7 (q 33) (q 34) dy wn mo mu ke, ra_I (q 33) cI 9 fb, ra_I (q 34) cI 9 fw, ro_rnrrr (q 9) 4 (q 35) ac (q 36) (q 37) (q 38), ra_I (q 16) cI 6 rf]) (C := RX10) (T := TX10) (N := 2) (v := .int 0) hx hb hts inlX10 tyX10 tyX10_ok nmX10 hown hK hP hD hS 1 rfl rfl 1 (Nat.le_of_ble_eq_true rfl) w_1_42 rfl rfl rfl (Nat.le_of_ble_eq_true rfl) rfl dX11_on_25 (fun H locs hP hD hS => ?_)
    refine lv_iload_n hx hb dX11_on_28 rfl (lv_at hl 0 rfl) ?_
    refine lv_if_ne (tgt := 38) hx hb dX11_on_29 (by decide) (fun c_2 => ?_) (fun c_2 => ?_)
    · have c_2 : ¬ (bq = 0) := fun h => c_2 ((neq bq 0 (by omega) (Nat.le_of_ble_eq_true rfl)).mpr h)
      have hcc := rr_1 hbq3 (by omega)
      refine lv_aload_n hx hb dX11_on_38 rfl (lv_at hl 1 rfl) ?_
      refine sk_get (v := .ref (q 7)) (C := RX11) (T := TX11) (N := 18) hx hb hts inlX11 hown hK hP 0 rfl rfl 7 (Nat.le_of_ble_eq_true rfl) w_2_130 rfl dX11_on_39 ?_
      refine lv_aload_n hx hb dX11_on_42 rfl (lv_at hl 1 rfl) ?_
      refine sk_get (v := .ref (q 0)) (C := RX11) (T := TX11) (N := 18) hx hb hts inlX11 hown hK hP 0 rfl rfl 0 (Nat.le_of_ble_eq_true rfl) w_2_123 rfl dX11_on_43 ?_
      refine lv_iconst (v := 0) hx hb dX11_on_46 ic_0 ?_
      refine sk_Vi (q0 := 0) (n := 1) (rest := [.ref (q 7)]) (wr := fmR om_8_60 _) ⟨hx, hb, hml, hown, hts⟩ hl.1 (c_Tape_leftN l D cI cJ cC cZ cS (q 0) (q 20) 0 tb 0 (by omega) htb (by omega)) w_4_214 w_4_215 w_4_216 w_1_2 w_4_217 hd_X10_left_1 ⟨⟨(Nat.le_of_ble_eq_true rfl), (Nat.le_of_ble_eq_true rfl)⟩, (Nat.le_of_ble_eq_true rfl), (Nat.le_of_ble_eq_true rfl)⟩ hK hP hD hS hA (fmT om_8_60 0) (fmF om_8_60 0) (fm_C1 rfl rfl) (fm_R rfl rfl) (fm_nT om_8_60 0) (fm_nF om_8_60 0) (fm_di om_8_60 0) rfl rfl rfl rfl (Nat.le_of_ble_eq_true rfl) dX11_on_47 (fun r_3 u H locs hw hP hD hS => ?_)
      refine anE hw (fun hv_4 hw1 => anE hw1 (fun er_6 eu_5 => ?_))
      clear hw hw1
      subst er_6
      refine o_mgE (ws' := [ro_rrrrrrrrrrrrrrrirl x0 11 (q 0) (q 1) (q 2) (q 3) (q 4) (q 5) (q 6) (q 7) (q 8) (q 9) (q 10) (q 11) (q 12) (q 13) (q 14) hc (q 16) dr, ro_ri (q 0) 10 (q 20) 0, ra_N (q 20) cI 1600 tb, ro_rrnnnin (q 7) 7 (q 33) (q 34) dy wn mo mu ke, ra_I (q 33) cI 9 fb, ra_I (q 34) cI 9 fw, ro_rnrrr (q 9) 4 (q 35) ac (q 36) (q 37) (q 38), ra_I (q 16) cI 6 rf]) eu_5 hP hD rfl (fun hP hD => ?_)
      refine lv_sipush (v := 256) hx hb dX11_on_50 (by decide) ?_
      refine lv_imul hx hb dX11_on_53 ?_
      refine sk_top (nI ((tb 0) * 256)) (nmul (tb 0) 256) ?_
      refine lv_aload_n hx hb dX11_on_54 rfl (lv_at hl 1 rfl) ?_
      refine sk_get (v := .ref (q 0)) (C := RX11) (T := TX11) (N := 18) hx hb hts inlX11 hown hK hP 0 rfl rfl 0 (Nat.le_of_ble_eq_true rfl) w_2_123 rfl dX11_on_55 ?_
      refine lv_iconst (v := 1) hx hb dX11_on_58 ic_1 ?_
      refine sk_Vi (q0 := 0) (n := 1) (rest := [.int (nI ((tb 0) * 256)), .ref (q 7)]) (wr := fmR om_8_60 _) ⟨hx, hb, hml, hown, hts⟩ hl.1 (c_Tape_leftN l D cI cJ cC cZ cS (q 0) (q 20) 0 tb 1 (by omega) htb (by omega)) w_4_214 w_4_215 w_4_216 w_1_2 w_4_217 hd_X10_left_1 ⟨⟨(Nat.le_of_ble_eq_true rfl), (Nat.le_of_ble_eq_true rfl)⟩, (Nat.le_of_ble_eq_true rfl), (Nat.le_of_ble_eq_true rfl)⟩ hK hP hD hS hA (fmT om_8_60 0) (fmF om_8_60 0) (fm_C1 rfl rfl) (fm_R rfl rfl) (fm_nT om_8_60 0) (fm_nF om_8_60 0) (fm_di om_8_60 0) rfl rfl rfl rfl (Nat.le_of_ble_eq_true rfl) dX11_on_59 (fun r_7 u H locs hw hP hD hS => ?_)
      refine anE hw (fun hv_8 hw1 => anE hw1 (fun er_10 eu_9 => ?_))
      clear hw hw1
      subst er_10
      refine o_mgE (ws' := [ro_rrrrrrrrrrrrrrrirl x0 11 (q 0) (q 1) (q 2) (q 3) (q 4) (q 5) (q 6) (q 7) (q 8) (q 9) (q 10) (q 11) (q 12) (q 13) (q 14) hc (q 16) dr, ro_ri (q 0) 10 (q 20) 0, ra_N (q 20) cI 1600 tb, ro_rrnnnin (q 7) 7 (q 33) (q 34) dy wn mo mu ke, ra_I (q 33) cI 9 fb, ra_I (q 34) cI 9 fw, ro_rnrrr (q 9) 4 (q 35) ac (q 36) (q 37) (q 38), ra_I (q 16) cI 6 rf]) eu_9 hP hD rfl (fun hP hD => ?_)
      refine lv_iadd hx hb dX11_on_62 ?_
      refine sk_top (nI ((tb 0) * 256 + (tb 1))) (nI_add ((tb 0) * 256) (tb 1)) ?_
      refine sk_put (ws' := [ro_rrrrrrrrrrrrrrrirl x0 11 (q 0) (q 1) (q 2) (q 3) (q 4) (q 5) (q 6) (q 7) (q 8) (q 9) (q 10) (q 11) (q 12) (q 13) (q 14) hc (q 16) dr, ro_ri (q 0) 10 (q 20) 0, ra_N (q 20) cI 1600 tb, ro_rrnnnin (q 7) 7 (q 33) (q 34) dy ((tb 0) * 256 + (tb 1)) mo mu ke, ra_I (q 33) cI 9 fb, ra_I (q 34) cI 9 fw, ro_rnrrr (q 9) 4 (q 35) ac (q 36) (q 37) (q 38), ra_I (q 16) cI 6 rf]) (C := RX7) (T := TX7) (N := 7) (v := .int (nI ((tb 0) * 256 + (tb 1)))) hx hb hts inlX7 tyX7 tyX7_ok nmX7 hown hK hP hD hS 3 rfl rfl 3 (Nat.le_of_ble_eq_true rfl) w_2_6 rfl rfl rfl (Nat.le_of_ble_eq_true rfl) rfl dX11_on_63 (fun H locs hP hD hS => ?_)
      refine lv_aload_n hx hb dX11_on_66 rfl (lv_at hl 1 rfl) ?_
      refine sk_get (v := .ref (q 7)) (C := RX11) (T := TX11) (N := 18) hx hb hts inlX11 hown hK hP 0 rfl rfl 7 (Nat.le_of_ble_eq_true rfl) w_2_130 rfl dX11_on_67 ?_
      refine lv_aload_n hx hb dX11_on_70 rfl (lv_at hl 1 rfl) ?_
      refine sk_get (v := .ref (q 0)) (C := RX11) (T := TX11) (N := 18) hx hb hts inlX11 hown hK hP 0 rfl rfl 0 (Nat.le_of_ble_eq_true rfl) w_2_123 rfl dX11_on_71 ?_
      refine lv_iconst (v := 2) hx hb dX11_on_74 ic_2 ?_
      refine sk_Vi (q0 := 0) (n := 1) (rest := [.ref (q 7)]) (wr := fmR om_8_60 _) ⟨hx, hb, hml, hown, hts⟩ hl.1 (c_Tape_leftN l D cI cJ cC cZ cS (q 0) (q 20) 0 tb 2 (by omega) htb (by omega)) w_4_214 w_4_215 w_4_216 w_1_2 w_4_217 hd_X10_left_1 ⟨⟨(Nat.le_of_ble_eq_true rfl), (Nat.le_of_ble_eq_true rfl)⟩, (Nat.le_of_ble_eq_true rfl), (Nat.le_of_ble_eq_true rfl)⟩ hK hP hD hS hA (fmT om_8_60 0) (fmF om_8_60 0) (fm_C1 rfl rfl) (fm_R rfl rfl) (fm_nT om_8_60 0) (fm_nF om_8_60 0) (fm_di om_8_60 0) rfl rfl rfl rfl (Nat.le_of_ble_eq_true rfl) dX11_on_75 (fun r_11 u H locs hw hP hD hS => ?_)
      refine anE hw (fun hv_12 hw1 => anE hw1 (fun er_14 eu_13 => ?_))
      clear hw hw1
      subst er_14
      refine o_mgE (ws' := [ro_rrrrrrrrrrrrrrrirl x0 11 (q 0) (q 1) (q 2) (q 3) (q 4) (q 5) (q 6) (q 7) (q 8) (q 9) (q 10) (q 11) (q 12) (q 13) (q 14) hc (q 16) dr, ro_ri (q 0) 10 (q 20) 0, ra_N (q 20) cI 1600 tb, ro_rrnnnin (q 7) 7 (q 33) (q 34) dy ((tb 0) * 256 + (tb 1)) mo mu ke, ra_I (q 33) cI 9 fb, ra_I (q 34) cI 9 fw, ro_rnrrr (q 9) 4 (q 35) ac (q 36) (q 37) (q 38), ra_I (q 16) cI 6 rf]) eu_13 hP hD rfl (fun hP hD => ?_)
      refine sk_put (ws' := [ro_rrrrrrrrrrrrrrrirl x0 11 (q 0) (q 1) (q 2) (q 3) (q 4) (q 5) (q 6) (q 7) (q 8) (q 9) (q 10) (q 11) (q 12) (q 13) (q 14) hc (q 16) dr, ro_ri (q 0) 10 (q 20) 0, ra_N (q 20) cI 1600 tb, ro_rrnnnin (q 7) 7 (q 33) (q 34) dy ((tb 0) * 256 + (tb 1)) (tb 2) mu ke, ra_I (q 33) cI 9 fb, ra_I (q 34) cI 9 fw, ro_rnrrr (q 9) 4 (q 35) ac (q 36) (q 37) (q 38), ra_I (q 16) cI 6 rf]) (C := RX7) (T := TX7) (N := 7) (v := .int (nI (tb 2))) hx hb hts inlX7 tyX7 tyX7_ok nmX7 hown hK hP hD hS 3 rfl rfl 4 (Nat.le_of_ble_eq_true rfl) w_2_10 rfl rfl rfl (Nat.le_of_ble_eq_true rfl) rfl dX11_on_78 (fun H locs hP hD hS => ?_)
      refine lv_aload_n hx hb dX11_on_81 rfl (lv_at hl 1 rfl) ?_
      refine sk_get (v := .ref (q 7)) (C := RX11) (T := TX11) (N := 18) hx hb hts inlX11 hown hK hP 0 rfl rfl 7 (Nat.le_of_ble_eq_true rfl) w_2_130 rfl dX11_on_82 ?_
      refine lv_iconst (v := 0) hx hb dX11_on_85 ic_0 ?_
      refine sk_put (ws' := [ro_rrrrrrrrrrrrrrrirl x0 11 (q 0) (q 1) (q 2) (q 3) (q 4) (q 5) (q 6) (q 7) (q 8) (q 9) (q 10) (q 11) (q 12) (q 13) (q 14) hc (q 16) dr, ro_ri (q 0) 10 (q 20) 0, ra_N (q 20) cI 1600 tb, ro_rrnnnin (q 7) 7 (q 33) (q 34) dy ((tb 0) * 256 + (tb 1)) (tb 2) 0 ke, ra_I (q 33) cI 9 fb, ra_I (q 34) cI 9 fw, ro_rnrrr (q 9) 4 (q 35) ac (q 36) (q 37) (q 38), ra_I (q 16) cI 6 rf]) (C := RX7) (T := TX7) (N := 7) (v := .int 0) hx hb hts inlX7 tyX7 tyX7_ok nmX7 hown hK hP hD hS 3 rfl rfl 5 (Nat.le_of_ble_eq_true rfl) w_2_12 rfl rfl rfl (Nat.le_of_ble_eq_true rfl) rfl dX11_on_86 (fun H locs hP hD hS => ?_)
      refine lv_iconst (v := 0) hx hb dX11_on_89 ic_0 ?_
      refine lv_istore_n (lv' := [(2, .int 0), (1, .int (nI bq)), (0, .ref x0)]) hx hb dX11_on_90 rfl hl (by decide) rfl (fun ls hl => ?_)
      have lp_15 : ∀ (n_16 : Nat) (i : Nat) (zu : Int32) (zb1 : Nat → Int32) (zw1 : Nat → Int32) (H : Heap) (locs : List Loc) (ls : Array Slot), dy - i < n_16 → (i ≤ dy) → (∀ j, j < 9 → zb1 j = nI (onB tb Ba 3 i j)) → (∀ j, j < 9 → zw1 j = nI (onB tb We 4 i j)) → (muO (onU tb i) zu) → va_P D vwCl [ro_rrrrrrrrrrrrrrrirl x0 11 (q 0) (q 1) (q 2) (q 3) (q 4) (q 5) (q 6) (q 7) (q 8) (q 9) (q 10) (q 11) (q 12) (q 13) (q 14) hc (q 16) dr, ro_ri (q 0) 10 (q 20) 0, ra_N (q 20) cI 1600 tb, ro_rrnnnin (q 7) 7 (q 33) (q 34) dy ((tb 0) * 256 + (tb 1)) (tb 2) zu ke, ra_I (q 33) cI 9 zb1, ra_I (q 34) cI 9 zw1, ro_rnrrr (q 9) 4 (q 35) ac (q 36) (q 37) (q 38), ra_I (q 16) cI 6 rf] H → va_D A [ro_rrrrrrrrrrrrrrrirl x0 11 (q 0) (q 1) (q 2) (q 3) (q 4) (q 5) (q 6) (q 7) (q 8) (q 9) (q 10) (q 11) (q 12) (q 13) (q 14) hc (q 16) dr, ro_ri (q 0) 10 (q 20) 0, ra_N (q 20) cI 1600 tb, ro_rrnnnin (q 7) 7 (q 33) (q 34) dy ((tb 0) * 256 + (tb 1)) (tb 2) zu ke, ra_I (q 33) cI 9 zb1, ra_I (q 34) cI 9 zw1, ro_rnrrr (q 9) 4 (q 35) ac (q 36) (q 37) (q 38), ra_I (q 16) cI 6 rf] → va_S A s.heap H locs → lv_has ls 3 [(2, .int (nI i)), (1, .int (nI bq)), (0, .ref x0)] → W p l e { frames := 3, cells := 0, slots := 0, locals := 66 } s m ([.ref x0] : List Value).toArray below meth c H locs 0 0 (MQ below (skI D (skT cI cJ cC cZ cS) (fun (r : Int32) (u : va_W) => ∃ (wn2 : Nat), ∃ (mo2 : Nat), ∃ (ke2 : Nat), ∃ (ac2 : Nat), ∃ (mu2 : Int32), ∃ (fb2 : Nat → Int32), ∃ (fw2 : Nat → Int32), ∃ (Ba2 : Nat → Nat), ∃ (We2 : Nat → Nat), ∃ (U2 : Nat → Bool), ∃ (rf2 : Nat → Int32), (∀ j, j < 9 → fb2 j = nI (Ba2 j)) ∧ (∀ j, j < 9 → fw2 j = nI (We2 j)) ∧ muO U2 mu2 ∧ ac2 ≤ ac ∧ mo2 ≤ 9 ∧ ke2 ≤ ke ∧ onR dy tb tl (wn, mo, Ba, We, U, ke) ac rf r (wn2, mo2, Ba2, We2, U2, ke2) ac2 rf2 ∧ u = [ro_rrrrrrrrrrrrrrrirl x0 11 (q 0) (q 1) (q 2) (q 3) (q 4) (q 5) (q 6) (q 7) (q 8) (q 9) (q 10) (q 11) (q 12) (q 13) (q 14) hc (q 16) dr, ro_ri (q 0) 10 (q 20) 0, ra_N (q 20) cI 1600 tb, ro_rrnnnin (q 7) 7 (q 33) (q 34) dy wn2 mo2 mu2 ke2, ra_I (q 33) cI 9 fb2, ra_I (q 34) cI 9 fw2, ro_rnrrr (q 9) 4 (q 35) ac2 (q 36) (q 37) (q 38), ra_I (q 16) cI 6 rf2]) A) ([.ref x0] : List Value).toArray s 0 0 A) (F0 m 91 ls []) := by
        intro n_16
        induction n_16 with
        | zero => intro i zu zb1 zw1 H locs ls hm; exact absurd hm (Nat.not_lt_zero _)
        | succ n_16 ih_lp_15 =>
          intro i zu zb1 zw1 H locs ls hm hi hzb hzw hzU hP hD hS hl
          refine lv_iload_n hx hb dX11_on_91 rfl (lv_at hl 0 rfl) ?_
          refine lv_aload_n hx hb dX11_on_92 rfl (lv_at hl 2 rfl) ?_
          refine sk_get (v := .ref (q 7)) (C := RX11) (T := TX11) (N := 18) hx hb hts inlX11 hown hK hP 0 rfl rfl 7 (Nat.le_of_ble_eq_true rfl) w_2_130 rfl dX11_on_93 ?_
          refine sk_get (v := .int (nI dy)) (C := RX7) (T := TX7) (N := 7) hx hb hts inlX7 hown hK hP 3 rfl rfl 2 (Nat.le_of_ble_eq_true rfl) w_2_1 rfl dX11_on_96 ?_
          refine lv_icmp_ge (tgt := 176) hx hb dX11_on_99 (by decide) (fun c_17 => ?_) (fun c_17 => ?_)
          · have c_17 : dy ≤ i := (nle dy i (by omega) (by omega)).mp c_17
            refine lv_aload_n hx hb dX11_on_176 rfl (lv_at hl 2 rfl) ?_
            refine sk_get (v := .ref (q 7)) (C := RX11) (T := TX11) (N := 18) hx hb hts inlX11 hown hK hP 0 rfl rfl 7 (Nat.le_of_ble_eq_true rfl) w_2_130 rfl dX11_on_177 ?_
            refine lv_iconst (v := 0) hx hb dX11_on_180 ic_0 ?_
            refine sk_put (ws' := [ro_rrrrrrrrrrrrrrrirl x0 11 (q 0) (q 1) (q 2) (q 3) (q 4) (q 5) (q 6) (q 7) (q 8) (q 9) (q 10) (q 11) (q 12) (q 13) (q 14) hc (q 16) dr, ro_ri (q 0) 10 (q 20) 0, ra_N (q 20) cI 1600 tb, ro_rrnnnii (q 7) 7 (q 33) (q 34) dy ((tb 0) * 256 + (tb 1)) (tb 2) zu 0, ra_I (q 33) cI 9 zb1, ra_I (q 34) cI 9 zw1, ro_rnrrr (q 9) 4 (q 35) ac (q 36) (q 37) (q 38), ra_I (q 16) cI 6 rf]) (C := RX7) (T := TX7) (N := 7) (v := .int 0) hx hb hts inlX7 tyX7 tyX7_ok nmX7 hown hK hP hD hS 3 rfl rfl 6 (Nat.le_of_ble_eq_true rfl) w_2_15 rfl rfl rfl (Nat.le_of_ble_eq_true rfl) rfl dX11_on_181 (fun H locs hP hD hS => ?_)
            refine lv_aload_n hx hb dX11_on_184 rfl (lv_at hl 2 rfl) ?_
            refine sk_get (v := .ref (q 9)) (C := RX11) (T := TX11) (N := 18) hx hb hts inlX11 hown hK hP 0 rfl rfl 9 (Nat.le_of_ble_eq_true rfl) w_2_132 rfl dX11_on_185 ?_
            refine sk_Vv (q0 := 0) (n := 0) (rest := []) (wr := fmR om_8_2 _) ⟨hx, hb, hml, hown, hts⟩ hl.1 (c_past_forget l D cI cJ cC cZ cS q ac) w_3_155 w_3_156 w_3_157 w_1_11 w_3_158 hd_X4_forget_0 ⟨⟨(Nat.le_of_ble_eq_true rfl), (Nat.le_of_ble_eq_true rfl)⟩, (Nat.le_of_ble_eq_true rfl), (Nat.le_of_ble_eq_true rfl)⟩ hK hP hD hS hA (fmT om_8_2 0) (fmF om_8_2 0) (fm_C1 rfl rfl) (fm_R rfl rfl) (fm_nT om_8_2 0) (fm_nF om_8_2 0) (fm_di om_8_2 0) rfl rfl rfl rfl (Nat.le_of_ble_eq_true rfl) dX11_on_188 (fun u H locs hw hP hD hS => ?_)
            refine o_mgE (ws' := [ro_rrrrrrrrrrrrrrrirl x0 11 (q 0) (q 1) (q 2) (q 3) (q 4) (q 5) (q 6) (q 7) (q 8) (q 9) (q 10) (q 11) (q 12) (q 13) (q 14) hc (q 16) dr, ro_ri (q 0) 10 (q 20) 0, ra_N (q 20) cI 1600 tb, ro_rrnnnii (q 7) 7 (q 33) (q 34) dy ((tb 0) * 256 + (tb 1)) (tb 2) zu 0, ra_I (q 33) cI 9 zb1, ra_I (q 34) cI 9 zw1, ro_rirrr (q 9) 4 (q 35) 0 (q 36) (q 37) (q 38), ra_I (q 16) cI 6 rf]) hw hP hD rfl (fun hP hD => ?_)
            refine lv_iconst (v := 1) hx hb dX11_on_191 ic_1 ?_
            exact sk_iret hx hb hr rfl hlocks hK hP hD hS (⟨(tb 0) * 256 + (tb 1), tb 2, 0, 0, zu, zb1, zw1, (onB tb Ba 3 i), (onB tb We 4 i), (onU tb i), rf, hzb, hzw, hzU, by omega, (hcc.2.2.2.2 2 (by omega) (by omega)).1, by omega, (on_y (n := (wn, mo, Ba, We, U, ke)) hcc (by omega)), rfl⟩) (Nat.le_of_ble_eq_true rfl) (Nat.le_of_ble_eq_true rfl) dX11_on_192
          · have c_17 : ¬ (dy ≤ i) := fun h => c_17 ((nle dy i (by omega) (by omega)).mpr h)
            refine lv_aload_n hx hb dX11_on_102 rfl (lv_at hl 2 rfl) ?_
            refine sk_get (v := .ref (q 7)) (C := RX11) (T := TX11) (N := 18) hx hb hts inlX11 hown hK hP 0 rfl rfl 7 (Nat.le_of_ble_eq_true rfl) w_2_130 rfl dX11_on_103 ?_
            refine sk_get (v := .ref (q 33)) (C := RX7) (T := TX7) (N := 7) hx hb hts inlX7 hown hK hP 3 rfl rfl 0 (Nat.le_of_ble_eq_true rfl) w_1_232 rfl dX11_on_106 ?_
            refine lv_iload_n hx hb dX11_on_109 rfl (lv_at hl 0 rfl) ?_
            refine lv_aload_n hx hb dX11_on_110 rfl (lv_at hl 2 rfl) ?_
            refine sk_get (v := .ref (q 0)) (C := RX11) (T := TX11) (N := 18) hx hb hts inlX11 hown hK hP 0 rfl rfl 0 (Nat.le_of_ble_eq_true rfl) w_2_123 rfl dX11_on_111 ?_
            refine lv_iconst (v := 3) hx hb dX11_on_114 ic_3 ?_
            refine lv_iload_n hx hb dX11_on_115 rfl (lv_at hl 0 rfl) ?_
            refine lv_imul hx hb dX11_on_116 ?_
            refine sk_top (nI (3 * i)) (nmul 3 i) ?_
            refine lv_iconst (v := 3) hx hb dX11_on_117 ic_3 ?_
            refine lv_iadd hx hb dX11_on_118 ?_
            refine sk_top (nI (3 * i + 3)) (nI_add (3 * i) 3) ?_
            refine sk_Vi (q0 := 0) (n := 1) (rest := [.int (nI i), .ref (q 33)]) (wr := fmR om_8_60 _) ⟨hx, hb, hml, hown, hts⟩ hl.1 (c_Tape_leftN l D cI cJ cC cZ cS (q 0) (q 20) 0 tb (3 * i + 3) (by omega) htb (by omega)) w_4_214 w_4_215 w_4_216 w_1_2 w_4_217 hd_X10_left_1 ⟨⟨(Nat.le_of_ble_eq_true rfl), (Nat.le_of_ble_eq_true rfl)⟩, (Nat.le_of_ble_eq_true rfl), (Nat.le_of_ble_eq_true rfl)⟩ hK hP hD hS hA (fmT om_8_60 0) (fmF om_8_60 0) (fm_C1 rfl rfl) (fm_R rfl rfl) (fm_nT om_8_60 0) (fm_nF om_8_60 0) (fm_di om_8_60 0) rfl rfl rfl rfl (Nat.le_of_ble_eq_true rfl) dX11_on_119 (fun r_18 u H locs hw hP hD hS => ?_)
            refine anE hw (fun hv_19 hw1 => anE hw1 (fun er_21 eu_20 => ?_))
            clear hw hw1
            subst er_21
            refine o_mgE (ws' := [ro_rrrrrrrrrrrrrrrirl x0 11 (q 0) (q 1) (q 2) (q 3) (q 4) (q 5) (q 6) (q 7) (q 8) (q 9) (q 10) (q 11) (q 12) (q 13) (q 14) hc (q 16) dr, ro_ri (q 0) 10 (q 20) 0, ra_N (q 20) cI 1600 tb, ro_rrnnnin (q 7) 7 (q 33) (q 34) dy ((tb 0) * 256 + (tb 1)) (tb 2) zu ke, ra_I (q 33) cI 9 zb1, ra_I (q 34) cI 9 zw1, ro_rnrrr (q 9) 4 (q 35) ac (q 36) (q 37) (q 38), ra_I (q 16) cI 6 rf]) eu_20 hP hD rfl (fun hP hD => ?_)
            refine sk_iastE (k := i) (ws' := fun f_22 => [ro_rrrrrrrrrrrrrrrirl x0 11 (q 0) (q 1) (q 2) (q 3) (q 4) (q 5) (q 6) (q 7) (q 8) (q 9) (q 10) (q 11) (q 12) (q 13) (q 14) hc (q 16) dr, ro_ri (q 0) 10 (q 20) 0, ra_N (q 20) cI 1600 tb, ro_rrnnnin (q 7) 7 (q 33) (q 34) dy ((tb 0) * 256 + (tb 1)) (tb 2) zu ke, ra_I (q 33) cI 9 f_22, ra_I (q 34) cI 9 zw1, ro_rnrrr (q 9) 4 (q 35) ac (q 36) (q 37) (q 38), ra_I (q 16) cI 6 rf]) hx hb hK hP hD hS 4 0 rfl rfl (by omega) (by omega) (fun _ => rfl) dX11_on_122 (fun f_22 H locs ef_23 hP hD hS => ?_)
            refine lv_aload_n hx hb dX11_on_123 rfl (lv_at hl 2 rfl) ?_
            refine sk_get (v := .ref (q 7)) (C := RX11) (T := TX11) (N := 18) hx hb hts inlX11 hown hK hP 0 rfl rfl 7 (Nat.le_of_ble_eq_true rfl) w_2_130 rfl dX11_on_124 ?_
            refine sk_get (v := .ref (q 34)) (C := RX7) (T := TX7) (N := 7) hx hb hts inlX7 hown hK hP 3 rfl rfl 1 (Nat.le_of_ble_eq_true rfl) w_1_236 rfl dX11_on_127 ?_
            refine lv_iload_n hx hb dX11_on_130 rfl (lv_at hl 0 rfl) ?_
            refine lv_aload_n hx hb dX11_on_131 rfl (lv_at hl 2 rfl) ?_
            refine sk_get (v := .ref (q 0)) (C := RX11) (T := TX11) (N := 18) hx hb hts inlX11 hown hK hP 0 rfl rfl 0 (Nat.le_of_ble_eq_true rfl) w_2_123 rfl dX11_on_132 ?_
            refine lv_iconst (v := 3) hx hb dX11_on_135 ic_3 ?_
            refine lv_iload_n hx hb dX11_on_136 rfl (lv_at hl 0 rfl) ?_
            refine lv_imul hx hb dX11_on_137 ?_
            refine sk_top (nI (3 * i)) (nmul 3 i) ?_
            refine lv_iconst (v := 4) hx hb dX11_on_138 ic_4 ?_
            refine lv_iadd hx hb dX11_on_139 ?_
            refine sk_top (nI (3 * i + 4)) (nI_add (3 * i) 4) ?_
            refine sk_Vi (q0 := 0) (n := 1) (rest := [.int (nI i), .ref (q 34)]) (wr := fmR om_8_60 _) ⟨hx, hb, hml, hown, hts⟩ hl.1 (c_Tape_leftN l D cI cJ cC cZ cS (q 0) (q 20) 0 tb (3 * i + 4) (by omega) htb (by omega)) w_4_214 w_4_215 w_4_216 w_1_2 w_4_217 hd_X10_left_1 ⟨⟨(Nat.le_of_ble_eq_true rfl), (Nat.le_of_ble_eq_true rfl)⟩, (Nat.le_of_ble_eq_true rfl), (Nat.le_of_ble_eq_true rfl)⟩ hK hP hD hS hA (fmT om_8_60 0) (fmF om_8_60 0) (fm_C1 rfl rfl) (fm_R rfl rfl) (fm_nT om_8_60 0) (fm_nF om_8_60 0) (fm_di om_8_60 0) rfl rfl rfl rfl (Nat.le_of_ble_eq_true rfl) dX11_on_140 (fun r_24 u H locs hw hP hD hS => ?_)
            refine anE hw (fun hv_25 hw1 => anE hw1 (fun er_27 eu_26 => ?_))
            clear hw hw1
            subst er_27
            refine o_mgE (ws' := [ro_rrrrrrrrrrrrrrrirl x0 11 (q 0) (q 1) (q 2) (q 3) (q 4) (q 5) (q 6) (q 7) (q 8) (q 9) (q 10) (q 11) (q 12) (q 13) (q 14) hc (q 16) dr, ro_ri (q 0) 10 (q 20) 0, ra_N (q 20) cI 1600 tb, ro_rrnnnin (q 7) 7 (q 33) (q 34) dy ((tb 0) * 256 + (tb 1)) (tb 2) zu ke, ra_I (q 33) cI 9 f_22, ra_I (q 34) cI 9 zw1, ro_rnrrr (q 9) 4 (q 35) ac (q 36) (q 37) (q 38), ra_I (q 16) cI 6 rf]) eu_26 hP hD rfl (fun hP hD => ?_)
            refine sk_iastE (k := i) (ws' := fun f_28 => [ro_rrrrrrrrrrrrrrrirl x0 11 (q 0) (q 1) (q 2) (q 3) (q 4) (q 5) (q 6) (q 7) (q 8) (q 9) (q 10) (q 11) (q 12) (q 13) (q 14) hc (q 16) dr, ro_ri (q 0) 10 (q 20) 0, ra_N (q 20) cI 1600 tb, ro_rrnnnin (q 7) 7 (q 33) (q 34) dy ((tb 0) * 256 + (tb 1)) (tb 2) zu ke, ra_I (q 33) cI 9 f_22, ra_I (q 34) cI 9 f_28, ro_rnrrr (q 9) 4 (q 35) ac (q 36) (q 37) (q 38), ra_I (q 16) cI 6 rf]) hx hb hK hP hD hS 5 0 rfl rfl (by omega) (by omega) (fun _ => rfl) dX11_on_143 (fun f_28 H locs ef_29 hP hD hS => ?_)
            refine lv_aload_n hx hb dX11_on_144 rfl (lv_at hl 2 rfl) ?_
            refine sk_get (v := .ref (q 7)) (C := RX11) (T := TX11) (N := 18) hx hb hts inlX11 hown hK hP 0 rfl rfl 7 (Nat.le_of_ble_eq_true rfl) w_2_130 rfl dX11_on_145 ?_
            refine lv_dup hx hb dX11_on_148 rfl ?_
            refine sk_get (v := .int zu) (C := RX7) (T := TX7) (N := 7) hx hb hts inlX7 hown hK hP 3 rfl rfl 5 (Nat.le_of_ble_eq_true rfl) w_2_12 rfl dX11_on_149 ?_
            refine lv_aload_n hx hb dX11_on_152 rfl (lv_at hl 2 rfl) ?_
            refine sk_get (v := .ref (q 0)) (C := RX11) (T := TX11) (N := 18) hx hb hts inlX11 hown hK hP 0 rfl rfl 0 (Nat.le_of_ble_eq_true rfl) w_2_123 rfl dX11_on_153 ?_
            refine lv_iconst (v := 3) hx hb dX11_on_156 ic_3 ?_
            refine lv_iload_n hx hb dX11_on_157 rfl (lv_at hl 0 rfl) ?_
            refine lv_imul hx hb dX11_on_158 ?_
            refine sk_top (nI (3 * i)) (nmul 3 i) ?_
            refine lv_iconst (v := 5) hx hb dX11_on_159 ic_5 ?_
            refine lv_iadd hx hb dX11_on_160 ?_
            refine sk_top (nI (3 * i + 5)) (nI_add (3 * i) 5) ?_
            refine sk_Vi (q0 := 0) (n := 1) (rest := [.int zu, .ref (q 7)]) (wr := fmR om_8_60 _) ⟨hx, hb, hml, hown, hts⟩ hl.1 (c_Tape_leftN l D cI cJ cC cZ cS (q 0) (q 20) 0 tb (3 * i + 5) (by omega) htb (by omega)) w_4_214 w_4_215 w_4_216 w_1_2 w_4_217 hd_X10_left_1 ⟨⟨(Nat.le_of_ble_eq_true rfl), (Nat.le_of_ble_eq_true rfl)⟩, (Nat.le_of_ble_eq_true rfl), (Nat.le_of_ble_eq_true rfl)⟩ hK hP hD hS hA (fmT om_8_60 0) (fmF om_8_60 0) (fm_C1 rfl rfl) (fm_R rfl rfl) (fm_nT om_8_60 0) (fm_nF om_8_60 0) (fm_di om_8_60 0) rfl rfl rfl rfl (Nat.le_of_ble_eq_true rfl) dX11_on_161 (fun r_30 u H locs hw hP hD hS => ?_)
            refine anE hw (fun hv_31 hw1 => anE hw1 (fun er_33 eu_32 => ?_))
            clear hw hw1
            subst er_33
            refine o_mgE (ws' := [ro_rrrrrrrrrrrrrrrirl x0 11 (q 0) (q 1) (q 2) (q 3) (q 4) (q 5) (q 6) (q 7) (q 8) (q 9) (q 10) (q 11) (q 12) (q 13) (q 14) hc (q 16) dr, ro_ri (q 0) 10 (q 20) 0, ra_N (q 20) cI 1600 tb, ro_rrnnnin (q 7) 7 (q 33) (q 34) dy ((tb 0) * 256 + (tb 1)) (tb 2) zu ke, ra_I (q 33) cI 9 f_22, ra_I (q 34) cI 9 f_28, ro_rnrrr (q 9) 4 (q 35) ac (q 36) (q 37) (q 38), ra_I (q 16) cI 6 rf]) eu_32 hP hD rfl (fun hP hD => ?_)
            refine lv_iload_n hx hb dX11_on_164 rfl (lv_at hl 0 rfl) ?_
            refine lv_ishl hx hb dX11_on_165 ?_
            refine lv_ior hx hb dX11_on_166 ?_
            refine sk_put (ws' := [ro_rrrrrrrrrrrrrrrirl x0 11 (q 0) (q 1) (q 2) (q 3) (q 4) (q 5) (q 6) (q 7) (q 8) (q 9) (q 10) (q 11) (q 12) (q 13) (q 14) hc (q 16) dr, ro_ri (q 0) 10 (q 20) 0, ra_N (q 20) cI 1600 tb, ro_rrnnnin (q 7) 7 (q 33) (q 34) dy ((tb 0) * 256 + (tb 1)) (tb 2) (zu ||| (nI (tb (3 * i + 5)) <<< (nI i &&& 31))) ke, ra_I (q 33) cI 9 f_22, ra_I (q 34) cI 9 f_28, ro_rnrrr (q 9) 4 (q 35) ac (q 36) (q 37) (q 38), ra_I (q 16) cI 6 rf]) (C := RX7) (T := TX7) (N := 7) (v := .int (zu ||| (nI (tb (3 * i + 5)) <<< (nI i &&& 31)))) hx hb hts inlX7 tyX7 tyX7_ok nmX7 hown hK hP hD hS 3 rfl rfl 5 (Nat.le_of_ble_eq_true rfl) w_2_12 rfl rfl rfl (Nat.le_of_ble_eq_true rfl) rfl dX11_on_167 (fun H locs hP hD hS => ?_)
            refine lv_iinc (v := nI (i + 1)) (lv' := [(2, .int (nI (i + 1))), (1, .int (nI bq)), (0, .ref x0)]) hx hb dX11_on_170 hl (k := 0) rfl (ninc i 1 (by decide)) (by decide) rfl (fun ls hl => ?_)
            refine lv_goto (tgt := 91) hx hb dX11_on_173 (by decide) ?_
            exact ih_lp_15 (i + 1) (zu ||| (nI (tb (3 * i + 5)) <<< (nI i &&& 31))) f_22 f_28 _ _ _ (by omega) (by omega) (onB_s hzb ef_23) (onB_s hzw ef_29) (onU_s hzU (by omega) (img_5 hcc.2 (by omega))) hP hD hS (lv_sub hl [0, 1, 2] rfl)
      exact lp_15 (dy - 0 + 1) 0 0 fb fw _ _ _ (Nat.lt_succ_self _) (by omega) (onB_0 hfb) (onB_0 hfw) (onU_0 tb) hP hD hS (lv_sub hl [0, 1, 2] rfl)
    · have c_2 : bq = 0 := (neq bq 0 (by omega) (Nat.le_of_ble_eq_true rfl)).mp c_2
      refine lv_aload_n hx hb dX11_on_32 rfl (lv_at hl 1 rfl) ?_
      refine lv_iconst (v := 5) hx hb dX11_on_33 ic_5 ?_
      refine sk_Vi (q0 := 0) (n := 1) (rest := []) (wr := fmR om_8_81 _) ⟨hx, hb, hml, hown, hts⟩ hl.1 (c_kx_refuseIt l D cI cJ cC cZ cS x0 q hc dr 5 rf (by omega)) w_2_198 w_2_200 w_0_1 w_1_1 w_2_201 hd_X11_refuseIt_1 ⟨⟨(Nat.le_of_ble_eq_true rfl), (Nat.le_of_ble_eq_true rfl)⟩, (Nat.le_of_ble_eq_true rfl), (Nat.le_of_ble_eq_true rfl)⟩ hK hP hD hS hA (fmT om_8_81 0) (fmF om_8_81 0) (fm_C1 rfl rfl) (fm_R rfl rfl) (fm_nT om_8_81 0) (fm_nF om_8_81 0) (fm_di om_8_81 0) rfl rfl rfl rfl (Nat.le_of_ble_eq_true rfl) dX11_on_34 (fun r_35 u H locs hw hP hD hS => ?_)
      refine exE hw (fun rf2_34 hw1 => anE hw1 (fun hrf_36 hw2 => anE hw2 (fun er_38 eu_37 => ?_)))
      clear hw hw1 hw2
      subst er_38
      refine o_mgE (ws' := [ro_rrrrrrrrrrrrrrrirl x0 11 (q 0) (q 1) (q 2) (q 3) (q 4) (q 5) (q 6) (q 7) (q 8) (q 9) (q 10) (q 11) (q 12) (q 13) (q 14) hc (q 16) dr, ro_ri (q 0) 10 (q 20) 0, ra_N (q 20) cI 1600 tb, ro_rrnnnin (q 7) 7 (q 33) (q 34) dy wn mo mu ke, ra_I (q 33) cI 9 fb, ra_I (q 34) cI 9 fw, ro_rnrrr (q 9) 4 (q 35) ac (q 36) (q 37) (q 38), ra_I (q 16) cI 6 rf2_34]) eu_37 hP hD rfl (fun hP hD => ?_)
      exact sk_iret hx hb hr rfl hlocks hK hP hD hS (⟨wn, mo, ke, ac, mu, fb, fw, Ba, We, U, rf2_34, hfb, hfw, hU, by omega, hmo, by omega, (on_n (rr_0 hbq3 (by omega)) hrf_36), rfl⟩) (Nat.le_of_ble_eq_true rfl) (Nat.le_of_ble_eq_true rfl) dX11_on_37
  refine lv_aload_n hx hb dX11_on_0 rfl (lv_at hl 0 rfl) ?_
  refine sk_Vi (q0 := 0) (n := 0) (rest := []) (wr := fmR om_8_90 _) ⟨hx, hb, hml, hown, hts⟩ hl.1 (c_kx_isLocked l D cI cJ cC cZ cS x0 q hc dr dy wn mo ke mu fb fw hdy) w_4_39 w_4_41 w_0_18 w_1_1 w_4_42 hd_X11_isLocked_0 ⟨⟨(Nat.le_of_ble_eq_true rfl), (Nat.le_of_ble_eq_true rfl)⟩, (Nat.le_of_ble_eq_true rfl), (Nat.le_of_ble_eq_true rfl)⟩ hK hP hD hS hA (fmT om_8_90 0) (fmF om_8_90 0) (fm_C1 rfl rfl) (fm_R rfl rfl) (fm_nT om_8_90 0) (fm_nF om_8_90 0) (fm_di om_8_90 0) rfl rfl rfl rfl (Nat.le_of_ble_eq_true rfl) dX11_on_1 (fun r_40 u H locs hw hP hD hS => ?_)
  refine exE hw (fun b_39 hw1 => anE hw1 (fun hb1_41 hw2 => anE hw2 (fun er_43 eu_42 => ?_)))
  clear hw hw1 hw2
  subst er_43
  refine o_mgE (ws' := [ro_rrrrrrrrrrrrrrrirl x0 11 (q 0) (q 1) (q 2) (q 3) (q 4) (q 5) (q 6) (q 7) (q 8) (q 9) (q 10) (q 11) (q 12) (q 13) (q 14) hc (q 16) dr, ro_rn (q 0) 10 (q 20) tl, ra_N (q 20) cI 1600 tb, ro_rrnnnin (q 7) 7 (q 33) (q 34) dy wn mo mu ke, ra_I (q 33) cI 9 fb, ra_I (q 34) cI 9 fw, ro_rnrrr (q 9) 4 (q 35) ac (q 36) (q 37) (q 38), ra_I (q 16) cI 6 rf]) eu_42 hP hD rfl (fun hP hD => ?_)
  refine lv_if_eq (tgt := 18) hx hb dX11_on_4 (by decide) (fun c_44 => ?_) (fun c_44 => ?_)
  · have c_44 : b_39 = 0 := (neq b_39 0 (by omega) (Nat.le_of_ble_eq_true rfl)).mp c_44
    refine lv_iconst (v := 0) hx hb dX11_on_18 ic_0 ?_
    exact jn_1 0 _ _ _ (by omega) (Or.inl ⟨rfl, fun hq => absurd hq.1 (by omega)⟩) hP hD hS (lv_sub hl [0] rfl)
  · have c_44 : ¬ (b_39 = 0) := fun h => c_44 ((neq b_39 0 (by omega) (Nat.le_of_ble_eq_true rfl)).mpr h)
    refine lv_aload_n hx hb dX11_on_7 rfl (lv_at hl 0 rfl) ?_
    refine sk_Vi (q0 := 0) (n := 0) (rest := []) (wr := fmR om_8_f0 _) ⟨hx, hb, hml, hown, hts⟩ hl.1 (c_x_tellsImage l D cI cJ cC cZ cS x0 q hc dr tl tb dy mo (nI wn) mu (nI ke) fb fw htl htb hdy hmo) w_5_141 w_5_143 w_0_40 w_1_1 w_5_144 hd_X11_tellsImage_0 ⟨⟨(Nat.le_of_ble_eq_true rfl), (Nat.le_of_ble_eq_true rfl)⟩, (Nat.le_of_ble_eq_true rfl), (Nat.le_of_ble_eq_true rfl)⟩ hK hP hD hS hA (fmT om_8_f0 0) (fmF om_8_f0 0) (fm_C1 rfl rfl) (fm_R rfl rfl) (fm_nT om_8_f0 0) (fm_nF om_8_f0 0) (fm_di om_8_f0 0) rfl rfl rfl rfl (Nat.le_of_ble_eq_true rfl) dX11_on_8 (fun r_46 u H locs hw hP hD hS => ?_)
    refine exE hw (fun b_45 hw1 => anE hw1 (fun hb1_47 hw2 => anE hw2 (fun hb2_48 hw3 => anE hw3 (fun himg_49 hw4 => anE hw4 (fun er_51 eu_50 => ?_)))))
    clear hw hw1 hw2 hw3 hw4
    subst er_51
    refine o_mgE (ws' := [ro_rrrrrrrrrrrrrrrirl x0 11 (q 0) (q 1) (q 2) (q 3) (q 4) (q 5) (q 6) (q 7) (q 8) (q 9) (q 10) (q 11) (q 12) (q 13) (q 14) hc (q 16) dr, ro_rn (q 0) 10 (q 20) tl, ra_N (q 20) cI 1600 tb, ro_rrnnnin (q 7) 7 (q 33) (q 34) dy wn mo mu ke, ra_I (q 33) cI 9 fb, ra_I (q 34) cI 9 fw, ro_rnrrr (q 9) 4 (q 35) ac (q 36) (q 37) (q 38), ra_I (q 16) cI 6 rf]) eu_50 hP hD rfl (fun hP hD => ?_)
    refine lv_if_eq (tgt := 18) hx hb dX11_on_11 (by decide) (fun c_52 => ?_) (fun c_52 => ?_)
    · have c_52 : b_45 = 0 := (neq b_45 0 (by omega) (Nat.le_of_ble_eq_true rfl)).mp c_52
      refine lv_iconst (v := 0) hx hb dX11_on_18 ic_0 ?_
      exact jn_1 0 _ _ _ (by omega) (Or.inl ⟨rfl, fun hq => rr_0 himg_49 (by omega) hq.2⟩) hP hD hS (lv_sub hl [0] rfl)
    · have c_52 : ¬ (b_45 = 0) := fun h => c_52 ((neq b_45 0 (by omega) (Nat.le_of_ble_eq_true rfl)).mpr h)
      refine lv_iconst (v := 1) hx hb dX11_on_14 ic_1 ?_
      refine lv_goto (tgt := 19) hx hb dX11_on_15 (by decide) ?_
      exact jn_1 1 _ _ _ (by omega) (Or.inr ⟨rfl, by omega, rr_1 himg_49 (by omega)⟩) hP hD hS (lv_sub hl [0] rfl)
set_option maxHeartbeats 4000000 in
set_option maxRecDepth 100000 in
theorem c_ktab_forgetX (l : Launch) (D : va_G) (cI cJ cC cZ cS : ClassId) (q : Nat → Nat) (fk : Nat → Int32)  : skM l yX9_forget cX9_forget 1 none 1 23 0 0 D (skT cI cJ cC cZ cS) [.ref (q 10)] [ro_rrrrrr (q 10) 9 (q 61) (q 62) (q 63) (q 64) (q 65) (q 66), ra_I (q 66) cI 9 fk] (skV D (skT cI cJ cC cZ cS) (fun (u : va_W) => ∃ (gk : Nat → Int32), (∀ j, j < 9 → gk j = -1) ∧ u = [ro_rrrrrr (q 10) 9 (q 61) (q 62) (q 63) (q 64) (q 65) (q 66), ra_I (q 66) cI 9 gk])) := by
  refine skM_of pf_X9_forget (Nat.le_of_ble_eq_true rfl) ?_
  intro p e s m below meth c A ls E hP hD hl
  refine skE_el E (fun hx hb hr hml hlocks hin hown hts hK hA => ?_)
  have hown : s.vm.findClass RX9 = some m.cls := hown
  have hS : va_S A s.heap s.heap [] := va_S.rf
  have hl : lv_has ls 1 [(0, .ref (q 10))] := hl
  refine lv_aload_n hx hb dX9_forget_0 rfl (lv_at hl 0 rfl) ?_
  refine sk_get (v := .ref (q 66)) (C := RX9) (T := TX9) (N := 6) hx hb hts inlX9 hown hK hP 0 rfl rfl 5 (Nat.le_of_ble_eq_true rfl) w_2_75 rfl dX9_forget_1 ?_
  refine lv_iconst (v := (-1)) hx hb dX9_forget_4 (by decide) ?_
  refine sk_Sv (n := 2) (rest := []) (wr := fmR om_2_1 _) ⟨hx, hb, hml, hown, hts⟩ hl.1 (c_efillX l D cI cJ cC cZ cS (q 66) 9 fk (-1) (by omega)) w_3_163 w_2_219 w_1_15 w_2_220 hd_J7_fill_53178_2 ⟨⟨(Nat.le_of_ble_eq_true rfl), (Nat.le_of_ble_eq_true rfl)⟩, (Nat.le_of_ble_eq_true rfl), (Nat.le_of_ble_eq_true rfl)⟩ hK hP hD hS hA (fmT om_2_1 0) (fmF om_2_1 0) (fm_C1 rfl rfl) (fm_R rfl rfl) (fm_nT om_2_1 0) (fm_nF om_2_1 0) (fm_di om_2_1 0) rfl rfl (Nat.le_of_ble_eq_true rfl) dX9_forget_5 (fun u H locs hw hP hD hS => ?_)
  refine exE hw (fun g_1 hw1 => anE hw1 (fun hfl_2 eu_3 => ?_))
  clear hw hw1
  refine o_mgE (ws' := [ro_rrrrrr (q 10) 9 (q 61) (q 62) (q 63) (q 64) (q 65) (q 66), ra_I (q 66) cI 9 g_1]) eu_3 hP hD rfl (fun hP hD => ?_)
  exact sk_vret hx hb hr hlocks hK hP hD hS (⟨g_1, hfl_2, rfl⟩) (Nat.le_of_ble_eq_true rfl) (Nat.le_of_ble_eq_true rfl) dX9_forget_8
def lkEr (P : Except Err (LkS × Nat)) : Prop := match P with
  | .ok _ => False
  | .error _ => True
theorem lkx_er {tb : Nat → Nat} {n : Nat} {xf xp : Int32} {jn jd jm : Nat} {ju jr : Int32} {jc jx : Nat} {j1 jf jt jb jw : Nat → Int32} (h : finO tb n xf xp jn jd jm ju jr jc jx j1 jf jt jb jw) (hf : ¬ xf = 0) : lkEr (lockP tb n) := by
  unfold finO at h
  unfold lkEr
  cases hP : lockP tb n with
  | error e => exact True.intro
  | ok r =>
    rw [hP] at h
    exact hf h.1
theorem lkx_ok {tb : Nat → Nat} {n : Nat} {xf xp : Int32} {jn jd jm : Nat} {ju jr : Int32} {jc jx : Nat} {j1 jf jt jb jw : Nat → Int32} (h : finO tb n xf xp jn jd jm ju jr jc jx j1 jf jt jb jw) (hf : xf = 0) : ∃ x, lockP tb n = .ok x ∧ nI jn = nI x.2 ∧ lkC (lkF x.1) jd jm ju jr jc jx j1 jf jt jb jw := by
  unfold finO at h
  cases hP : lockP tb n with
  | error e =>
    rw [hP] at h
    have h0 : xf = nI e.1 ∧ xp = nI e.2 ∧ 1 ≤ e.1 ∧ e.1 ≤ 5 ∧ e.2 ≤ 1700 := h
    have h1 := (neq e.1 0 (by omega) (Nat.le_of_ble_eq_true rfl)).mp (h0.1.symm.trans hf)
    omega
  | ok r =>
    rw [hP] at h
    have h0 : xf = 0 ∧ xp = -1 ∧ jn = r.2 ∧ lkC (lkF r.1) jd jm ju jr jc jx j1 jf jt jb jw := h
    exact ⟨r, rfl, by rw [h0.2.2.1], h0.2.2.2⟩
theorem dg_X11_lock_0_0 : bqL cX11_lock 0 [(0, [42]), (1, [180, 0, 35]), (4, [42]), (5, [180, 0, 53]), (8, [182, 0, 124]), (11, [42]), (12, [180, 0, 12]), (15, [3]), (16, [181, 0, 110]), (19, [42]), (20, [180, 0, 26]), (23, [180, 0, 128]), (26, [153, 0, 9]), (35, [42]), (36, [180, 0, 49]), (39, [76]), (40, [42]), (41, [42]), (42, [180, 0, 53]), (45, [181, 0, 49]), (48, [42]), (49, [43]), (50, [181, 0, 53]), (53, [42]), (54, [180, 0, 59]), (57, [42]), (58, [180, 0, 49]), (61, [182, 0, 131]), (64, [42]), (65, [180, 0, 69]), (68, [182, 0, 134]), (71, [42]), (72, [180, 0, 76]), (75, [182, 0, 137]), (78, [42]), (79, [3]), (80, [181, 0, 99]), (83, [42]), (84, [180, 0, 49]), (87, [180, 0, 138])] = true := by decide +kernel
theorem dX11_lock_0 : decode cX11_lock 0 = .ok (.aload_n 0, 1) := q_aload_n0 (bat_get dg_X11_lock_0_0 0 rfl rfl)
theorem dX11_lock_1 : decode cX11_lock 1 = .ok (.getfield 35, 3) := q_getfield (bat_get dg_X11_lock_0_0 1 rfl rfl) rfl
theorem dX11_lock_4 : decode cX11_lock 4 = .ok (.aload_n 0, 1) := q_aload_n0 (bat_get dg_X11_lock_0_0 2 rfl rfl)
theorem dX11_lock_5 : decode cX11_lock 5 = .ok (.getfield 53, 3) := q_getfield (bat_get dg_X11_lock_0_0 3 rfl rfl) rfl
theorem dX11_lock_8 : decode cX11_lock 8 = .ok (.invokevirtual 124, 3) := q_invokevirtual (bat_get dg_X11_lock_0_0 4 rfl rfl) rfl
theorem dX11_lock_11 : decode cX11_lock 11 = .ok (.aload_n 0, 1) := q_aload_n0 (bat_get dg_X11_lock_0_0 5 rfl rfl)
theorem dX11_lock_12 : decode cX11_lock 12 = .ok (.getfield 12, 3) := q_getfield (bat_get dg_X11_lock_0_0 6 rfl rfl) rfl
theorem dX11_lock_15 : decode cX11_lock 15 = .ok (.iconst 0, 1) := q_iconst0 (bat_get dg_X11_lock_0_0 7 rfl rfl)
theorem dX11_lock_16 : decode cX11_lock 16 = .ok (.putfield 110, 3) := q_putfield (bat_get dg_X11_lock_0_0 8 rfl rfl) rfl
theorem dX11_lock_19 : decode cX11_lock 19 = .ok (.aload_n 0, 1) := q_aload_n0 (bat_get dg_X11_lock_0_0 9 rfl rfl)
theorem dX11_lock_20 : decode cX11_lock 20 = .ok (.getfield 26, 3) := q_getfield (bat_get dg_X11_lock_0_0 10 rfl rfl) rfl
theorem dX11_lock_23 : decode cX11_lock 23 = .ok (.getfield 128, 3) := q_getfield (bat_get dg_X11_lock_0_0 11 rfl rfl) rfl
theorem dX11_lock_26 : decode cX11_lock 26 = .ok (.ifCond .eq 9, 3) := q_ifCond_eq (bat_get dg_X11_lock_0_0 12 rfl rfl) rfl
theorem dX11_lock_35 : decode cX11_lock 35 = .ok (.aload_n 0, 1) := q_aload_n0 (bat_get dg_X11_lock_0_0 13 rfl rfl)
theorem dX11_lock_36 : decode cX11_lock 36 = .ok (.getfield 49, 3) := q_getfield (bat_get dg_X11_lock_0_0 14 rfl rfl) rfl
theorem dX11_lock_39 : decode cX11_lock 39 = .ok (.astore_n 1, 1) := q_astore_n1 (bat_get dg_X11_lock_0_0 15 rfl rfl)
theorem dX11_lock_40 : decode cX11_lock 40 = .ok (.aload_n 0, 1) := q_aload_n0 (bat_get dg_X11_lock_0_0 16 rfl rfl)
theorem dX11_lock_41 : decode cX11_lock 41 = .ok (.aload_n 0, 1) := q_aload_n0 (bat_get dg_X11_lock_0_0 17 rfl rfl)
theorem dX11_lock_42 : decode cX11_lock 42 = .ok (.getfield 53, 3) := q_getfield (bat_get dg_X11_lock_0_0 18 rfl rfl) rfl
theorem dX11_lock_45 : decode cX11_lock 45 = .ok (.putfield 49, 3) := q_putfield (bat_get dg_X11_lock_0_0 19 rfl rfl) rfl
theorem dX11_lock_48 : decode cX11_lock 48 = .ok (.aload_n 0, 1) := q_aload_n0 (bat_get dg_X11_lock_0_0 20 rfl rfl)
theorem dX11_lock_49 : decode cX11_lock 49 = .ok (.aload_n 1, 1) := q_aload_n1 (bat_get dg_X11_lock_0_0 21 rfl rfl)
theorem dX11_lock_50 : decode cX11_lock 50 = .ok (.putfield 53, 3) := q_putfield (bat_get dg_X11_lock_0_0 22 rfl rfl) rfl
theorem dX11_lock_53 : decode cX11_lock 53 = .ok (.aload_n 0, 1) := q_aload_n0 (bat_get dg_X11_lock_0_0 23 rfl rfl)
theorem dX11_lock_54 : decode cX11_lock 54 = .ok (.getfield 59, 3) := q_getfield (bat_get dg_X11_lock_0_0 24 rfl rfl) rfl
theorem dX11_lock_57 : decode cX11_lock 57 = .ok (.aload_n 0, 1) := q_aload_n0 (bat_get dg_X11_lock_0_0 25 rfl rfl)
theorem dX11_lock_58 : decode cX11_lock 58 = .ok (.getfield 49, 3) := q_getfield (bat_get dg_X11_lock_0_0 26 rfl rfl) rfl
theorem dX11_lock_61 : decode cX11_lock 61 = .ok (.invokevirtual 131, 3) := q_invokevirtual (bat_get dg_X11_lock_0_0 27 rfl rfl) rfl
theorem dX11_lock_64 : decode cX11_lock 64 = .ok (.aload_n 0, 1) := q_aload_n0 (bat_get dg_X11_lock_0_0 28 rfl rfl)
theorem dX11_lock_65 : decode cX11_lock 65 = .ok (.getfield 69, 3) := q_getfield (bat_get dg_X11_lock_0_0 29 rfl rfl) rfl
theorem dX11_lock_68 : decode cX11_lock 68 = .ok (.invokevirtual 134, 3) := q_invokevirtual (bat_get dg_X11_lock_0_0 30 rfl rfl) rfl
theorem dX11_lock_71 : decode cX11_lock 71 = .ok (.aload_n 0, 1) := q_aload_n0 (bat_get dg_X11_lock_0_0 31 rfl rfl)
theorem dX11_lock_72 : decode cX11_lock 72 = .ok (.getfield 76, 3) := q_getfield (bat_get dg_X11_lock_0_0 32 rfl rfl) rfl
theorem dX11_lock_75 : decode cX11_lock 75 = .ok (.invokevirtual 137, 3) := q_invokevirtual (bat_get dg_X11_lock_0_0 33 rfl rfl) rfl
theorem dX11_lock_78 : decode cX11_lock 78 = .ok (.aload_n 0, 1) := q_aload_n0 (bat_get dg_X11_lock_0_0 34 rfl rfl)
theorem dX11_lock_79 : decode cX11_lock 79 = .ok (.iconst 0, 1) := q_iconst0 (bat_get dg_X11_lock_0_0 35 rfl rfl)
theorem dX11_lock_80 : decode cX11_lock 80 = .ok (.putfield 99, 3) := q_putfield (bat_get dg_X11_lock_0_0 36 rfl rfl) rfl
theorem dX11_lock_83 : decode cX11_lock 83 = .ok (.aload_n 0, 1) := q_aload_n0 (bat_get dg_X11_lock_0_0 37 rfl rfl)
theorem dX11_lock_84 : decode cX11_lock 84 = .ok (.getfield 49, 3) := q_getfield (bat_get dg_X11_lock_0_0 38 rfl rfl) rfl
theorem dX11_lock_87 : decode cX11_lock 87 = .ok (.getfield 138, 3) := q_getfield (bat_get dg_X11_lock_0_0 39 rfl rfl) rfl
theorem dg_X11_lock_29_90 : bqL cX11_lock 29 [(61, [172]), (0, [42]), (1, [4]), (2, [182, 0, 113]), (5, [172])] = true := by decide +kernel
theorem dX11_lock_90 : decode cX11_lock 90 = .ok (.ireturn, 1) := q_ireturn (bat_get dg_X11_lock_29_90 0 rfl rfl)
theorem dX11_lock_29 : decode cX11_lock 29 = .ok (.aload_n 0, 1) := q_aload_n0 (bat_get dg_X11_lock_29_90 1 rfl rfl)
theorem dX11_lock_30 : decode cX11_lock 30 = .ok (.iconst 1, 1) := q_iconst1 (bat_get dg_X11_lock_29_90 2 rfl rfl)
theorem dX11_lock_31 : decode cX11_lock 31 = .ok (.invokevirtual 113, 3) := q_invokevirtual (bat_get dg_X11_lock_29_90 3 rfl rfl) rfl
theorem dX11_lock_34 : decode cX11_lock 34 = .ok (.ireturn, 1) := q_ireturn (bat_get dg_X11_lock_29_90 4 rfl rfl)
theorem w_2_126 : (Cond.fieldLink RX11 35 "SameKeeper" "lockText" "LSameKeeper$LockText;") ∈ wsL_law := sk_mem (ck_2 _ (List.mem_of_getElem? (i := 126) rfl)) rfl
theorem w_2_129 : (Cond.fieldLink RX11 53 "SameKeeper" "draft" "LSameKeeper$Lock;") ∈ wsL_law := sk_mem (ck_2 _ (List.mem_of_getElem? (i := 129) rfl)) rfl
theorem w_2_206 : (Cond.methodLink RX11 124 yX3_read) ∈ wsL_law := sk_mem (ck_2 _ (List.mem_of_getElem? (i := 206) rfl)) rfl
theorem w_2_207 : (Cond.instanceMethod yX3_read) ∈ wsL_law := sk_mem (ck_2 _ (List.mem_of_getElem? (i := 207) rfl)) rfl
theorem w_2_208 : (Cond.selects RX3 yX3_read yX3_read) ∈ wsL_law := sk_mem (ck_2 _ (List.mem_of_getElem? (i := 208) rfl)) rfl
theorem w_3_148 : (Cond.methodLink RX11 131 yX7_begin) ∈ wsL_law := sk_mem (ck_3 _ (List.mem_of_getElem? (i := 148) rfl)) rfl
theorem w_3_149 : (Cond.instanceMethod yX7_begin) ∈ wsL_law := sk_mem (ck_3 _ (List.mem_of_getElem? (i := 149) rfl)) rfl
theorem w_3_150 : (Cond.selects RX7 yX7_begin yX7_begin) ∈ wsL_law := sk_mem (ck_3 _ (List.mem_of_getElem? (i := 150) rfl)) rfl
theorem w_3_159 : (Cond.methodLink RX11 137 yX9_forget) ∈ wsL_law := sk_mem (ck_3 _ (List.mem_of_getElem? (i := 159) rfl)) rfl
theorem w_3_160 : (Cond.instanceMethod yX9_forget) ∈ wsL_law := sk_mem (ck_3 _ (List.mem_of_getElem? (i := 160) rfl)) rfl
theorem w_3_161 : (Cond.selects RX9 yX9_forget yX9_forget) ∈ wsL_law := sk_mem (ck_3 _ (List.mem_of_getElem? (i := 161) rfl)) rfl
theorem w_1_202 : (Cond.fieldLink RX11 138 "SameKeeper$Lock" "statements" "I") ∈ wsL_law := sk_mem (ck_1 _ (List.mem_of_getElem? (i := 202) rfl)) rfl
theorem w_2_205 : (Cond.code yX11_lock cX11_lock 2 (some .int)) ∈ wsL_law := sk_mem (ck_2 _ (List.mem_of_getElem? (i := 205) rfl)) rfl
def om_21_fff80 : List Bool := false :: true :: true :: true :: true :: true :: true :: true :: true :: true :: true :: true :: true :: true :: false :: false :: false :: false :: false :: false :: false :: []
def om_21_21f0 : List Bool := false :: false :: false :: false :: false :: false :: false :: true :: false :: false :: false :: false :: true :: true :: true :: true :: true :: false :: false :: false :: false :: []
def om_21_8 : List Bool := false :: false :: false :: false :: false :: false :: false :: false :: false :: false :: false :: false :: false :: false :: false :: false :: false :: true :: false :: false :: false :: []
def om_21_6 : List Bool := false :: false :: false :: false :: false :: false :: false :: false :: false :: false :: false :: false :: false :: false :: false :: false :: false :: false :: true :: true :: false :: []
def om_21_100001 : List Bool := true :: false :: false :: false :: false :: false :: false :: false :: false :: false :: false :: false :: false :: false :: false :: false :: false :: false :: false :: false :: true :: []
theorem hd_X3_read_1 : skD yX3_read 1 := by decide +kernel
theorem hd_X7_begin_1 : skD yX7_begin 1 := by decide +kernel
theorem hd_X9_forget_0 : skD yX9_forget 0 := by decide +kernel
set_option maxHeartbeats 4000000 in
set_option maxRecDepth 100000 in
theorem c_ky_lock (l : Launch) (D : va_G) (cI cJ cC cZ cS : ClassId) (zk zv : Nat) (zf : Value) (x0 : Nat) (q : Nat → Nat) (dr : Int64) (hn : Nat) (xa : Nat) (xv : Int32) (xo : Nat) (xt : Int32) (xz : Nat) (xf : Int32) (xp : Int32) (tl : Nat) (tb : Nat → Nat) (jd : Nat) (jm : Nat) (ju : Int32) (jr : Int32) (jn : Nat) (jc : Nat) (jx : Nat) (j1 : Nat → Int32) (jf : Nat → Int32) (jt : Nat → Int32) (jb : Nat → Int32) (jw : Nat → Int32) (dy : Nat) (wn : Nat) (mo : Nat) (ke : Nat) (mu : Int32) (fb : Nat → Int32) (fw : Nat → Int32) (ac : Nat) (fk : Nat → Int32) (rf : Nat → Int32) (hxa : xa ≤ 1600) (hxz : xz ≤ 1600) (htl : tl ≤ 1600) (htb : ∀ j, tb j ≤ 255) (hjc : jc ≤ 1600) (hjx : jx ≤ 1) (hdy : dy ≤ 9) (hmo : mo ≤ 9) : skMZ zk zv zf l yX11_lock cX11_lock 2 (some .int) 57 1365 0 0 D (skT cI cJ cC cZ cS) [.ref x0] [ro_rrrrrrrrrrrrrrrirl x0 11 (q 0) (q 1) (q 2) (q 3) (q 4) (q 5) (q 6) (q 7) (q 8) (q 9) (q 10) (q 11) (q 12) (q 13) (q 14) (nI hn) (q 16) dr, ro_rrr (q 3) 3 (q 2) (q 22) (q 23), ro_rnininii (q 2) 6 (q 0) xa xv xo xt xz xf xp, ro_rn (q 0) 10 (q 20) tl, ra_N (q 20) cI 1600 tb, ro_ri (q 22) 8 (q 2) 0, ro_ri (q 23) 8 (q 2) 1, ro_rrrrrnniin (q 6) 2 (q 24) (q 25) (q 26) (q 27) (q 28) jd jm ju jr jn, ro_rrrrnn (q 24) 0 (q 29) (q 30) (q 31) (q 32) jc jx, ra_I (q 29) cI 1600 j1, ra_I (q 27) cI 3 jf, ra_I (q 28) cI 3 jt, ra_I (q 25) cI 9 jb, ra_I (q 26) cI 9 jw, ro_rrnnnin (q 7) 7 (q 33) (q 34) dy wn mo mu ke, ra_I (q 33) cI 9 fb, ra_I (q 34) cI 9 fw, ro_rnrrr (q 9) 4 (q 35) ac (q 36) (q 37) (q 38), ro_rrrrrr (q 10) 9 (q 61) (q 62) (q 63) (q 64) (q 65) (q 66), ra_I (q 66) cI 9 fk, ra_I (q 16) cI 6 rf] (skI D (skT cI cJ cC cZ cS) (fun (r : Int32) (u : va_W) => ∃ (v5 : Nat), ∃ (v6 : Nat), ∃ (hn2 : Nat), ∃ (xa2 : Nat), ∃ (xv2 : Int32), ∃ (xt2 : Int32), ∃ (xz2 : Nat), ∃ (xf2 : Int32), ∃ (xp2 : Int32), ∃ (jc2 : Nat), ∃ (jx2 : Nat), ∃ (k1_ : Nat → Int32), ∃ (kf_ : Nat → Int32), ∃ (kt_ : Nat → Int32), ∃ (jd2 : Nat), ∃ (jm2 : Nat), ∃ (jn2 : Nat), ∃ (ju2 : Int32), ∃ (jr2 : Int32), ∃ (jb2 : Nat → Int32), ∃ (jw2 : Nat → Int32), ∃ (dy2 : Nat), ∃ (wn2 : Nat), ∃ (mo2 : Nat), ∃ (ke2 : Nat), ∃ (ac2 : Nat), ∃ (mu2 : Int32), ∃ (fb2 : Nat → Int32), ∃ (fw2 : Nat → Int32), ∃ (fk2 : Nat → Int32), ∃ (rf2 : Nat → Int32), xa2 ≤ 1600 ∧ xz2 ≤ 1600 ∧ jc2 ≤ 1600 ∧ jx2 ≤ 1 ∧ 2 ≤ jd2 ∧ jd2 ≤ 9 ∧ jm2 ≤ 9 ∧ jn2 ≤ 60 ∧ ((v5 = 5 ∧ v6 = 6 ∧ lkEr (lockP tb tl) ∧ r = -1 ∧ dy2 = dy ∧ wn2 = wn ∧ mo2 = mo ∧ mu2 = mu ∧ ke2 = ke ∧ fb2 = fb ∧ fw2 = fw ∧ ac2 = ac ∧ hn2 = hn ∧ fk2 = fk ∧ rf2 = upd rf 1 (rf 1 + 1)) ∨ (v5 = 6 ∧ v6 = 5 ∧ ∃ x, lockP tb tl = .ok x ∧ r = nI x.2 ∧ lkC (lkF x.1) jd2 jm2 ju2 jr2 jc2 jx2 k1_ kf_ kt_ jb2 jw2 ∧ dy2 = jd2 ∧ wn2 = 0 ∧ mo2 = jm2 ∧ mu2 = ju2 ∧ ke2 = 0 ∧ (∀ j, j < 9 → fb2 j = jb2 j) ∧ (∀ j, j < 9 → fw2 j = jw2 j) ∧ ac2 = 0 ∧ hn2 = 0 ∧ (∀ j, j < 9 → fk2 j = -1) ∧ rf2 = rf)) ∧ lkRs (lockP tb tl) r dy dy2 xf2 xp2 ∧ u = [ro_rrrrrrrrrrrrrrrirl x0 11 (q 0) (q 1) (q 2) (q 3) (q 4) (q v5) (q v6) (q 7) (q 8) (q 9) (q 10) (q 11) (q 12) (q 13) (q 14) (nI hn2) (q 16) dr, ro_rrr (q 3) 3 (q 2) (q 22) (q 23), ro_rniiinii (q 2) 6 (q 0) xa2 xv2 0 xt2 xz2 xf2 xp2, ro_ri (q 0) 10 (q 20) 0, ra_N (q 20) cI 1600 tb, ro_ri (q 22) 8 (q 2) 0, ro_ri (q 23) 8 (q 2) 1, ro_rrrrrnniin (q 6) 2 (q 24) (q 25) (q 26) (q 27) (q 28) jd2 jm2 ju2 jr2 jn2, ro_rrrrnn (q 24) 0 (q 29) (q 30) (q 31) (q 32) jc2 jx2, ra_I (q 29) cI 1600 k1_, ra_I (q 27) cI 3 kf_, ra_I (q 28) cI 3 kt_, ra_I (q 25) cI 9 jb2, ra_I (q 26) cI 9 jw2, ro_rrnnnin (q 7) 7 (q 33) (q 34) dy2 wn2 mo2 mu2 ke2, ra_I (q 33) cI 9 fb2, ra_I (q 34) cI 9 fw2, ro_rnrrr (q 9) 4 (q 35) ac2 (q 36) (q 37) (q 38), ro_rrrrrr (q 10) 9 (q 61) (q 62) (q 63) (q 64) (q 65) (q 66), ra_I (q 66) cI 9 fk2, ra_I (q 16) cI 6 rf2])) := by
  refine skMZ_of pf_X11_lock (Nat.le_of_ble_eq_true rfl) ?_
  intro p e s m below meth c A ls E hP hD hZ hl
  refine skE_el E (fun hx hb hr hml hlocks hin hown hts hK hA => ?_)
  have hown : s.vm.findClass RX11 = some m.cls := hown
  have hS : va_S A s.heap s.heap [] := va_S.rf
  have hl : lv_has ls 2 [(0, .ref x0)] := hl
  refine lv_aload_n hx hb dX11_lock_0 rfl (lv_at hl 0 rfl) ?_
  refine sk_get (v := .ref (q 3)) (C := RX11) (T := TX11) (N := 18) hx hb hts inlX11 hown hK hP 0 rfl rfl 3 (Nat.le_of_ble_eq_true rfl) w_2_126 rfl dX11_lock_1 ?_
  refine lv_aload_n hx hb dX11_lock_4 rfl (lv_at hl 0 rfl) ?_
  refine sk_get (v := .ref (q 6)) (C := RX11) (T := TX11) (N := 18) hx hb hts inlX11 hown hK hP 0 rfl rfl 6 (Nat.le_of_ble_eq_true rfl) w_2_129 rfl dX11_lock_5 ?_
  refine sk_VvZ (q0 := 0) (n := 1) (rest := []) (wr := fmR om_21_fff80 _) ⟨hx, hb, hml, hown, hts⟩ hl.1 (c_elt_read l D cI cJ cC cZ cS zk zv zf q xa xv xo xt xz xf xp tl tb jd jm ju jr jn jc jx j1 jf jt jb jw hxa hxz htl htb hjc hjx) w_2_206 w_2_207 w_2_208 w_1_5 w_2_209 hd_X3_read_1 ⟨⟨(Nat.le_of_ble_eq_true rfl), (Nat.le_of_ble_eq_true rfl)⟩, (Nat.le_of_ble_eq_true rfl), (Nat.le_of_ble_eq_true rfl)⟩ hK hP hD hS hZ hA (fmT om_21_fff80 0) (fmF om_21_fff80 0) (fm_C1 rfl rfl) (fm_R rfl rfl) (fm_nT om_21_fff80 0) (fm_nF om_21_fff80 0) (fm_di om_21_fff80 0) rfl rfl rfl rfl (Nat.le_of_ble_eq_true rfl) dX11_lock_8 (fun u H locs hw hP hD hS => ?_)
  refine exE hw (fun xa2_1 hw1 => exE hw1 (fun xv2_2 hw2 => exE hw2 (fun xt2_3 hw3 => exE hw3 (fun xz2_4 hw4 => exE hw4 (fun xf2_5 hw5 => exE hw5 (fun xp2_6 hw6 => exE hw6 (fun jc2_7 hw7 => exE hw7 (fun jx2_8 hw8 => exE hw8 (fun k1__9 hw9 => exE hw9 (fun kf__10 hw10 => exE hw10 (fun kt__11 hw11 => exE hw11 (fun jd2_12 hw12 => exE hw12 (fun jm2_13 hw13 => exE hw13 (fun jn2_14 hw14 => exE hw14 (fun ju2_15 hw15 => exE hw15 (fun jr2_16 hw16 => exE hw16 (fun jb2_17 hw17 => exE hw17 (fun jw2_18 hw18 => anE hw18 (fun hxa2_19 hw19 => anE hw19 (fun hxz2_20 hw20 => anE hw20 (fun hjc2_21 hw21 => anE hw21 (fun hjx2_22 hw22 => anE hw22 (fun hjd2_23 hw23 => anE hw23 (fun hjd3_24 hw24 => anE hw24 (fun hjm2_25 hw25 => anE hw25 (fun hjn2_26 hw26 => anE hw26 (fun hfin_27 eu_28 => ?_)))))))))))))))))))))))))))
  clear hw hw1 hw2 hw3 hw4 hw5 hw6 hw7 hw8 hw9 hw10 hw11 hw12 hw13 hw14 hw15 hw16 hw17 hw18 hw19 hw20 hw21 hw22 hw23 hw24 hw25 hw26
  refine o_mgE (ws' := [ro_rrrrrrrrrrrrrrrirl x0 11 (q 0) (q 1) (q 2) (q 3) (q 4) (q 5) (q 6) (q 7) (q 8) (q 9) (q 10) (q 11) (q 12) (q 13) (q 14) (nI hn) (q 16) dr, ro_rrr (q 3) 3 (q 2) (q 22) (q 23), ro_rniiinii (q 2) 6 (q 0) xa2_1 xv2_2 0 xt2_3 xz2_4 xf2_5 xp2_6, ro_rn (q 0) 10 (q 20) tl, ra_N (q 20) cI 1600 tb, ro_ri (q 22) 8 (q 2) 0, ro_ri (q 23) 8 (q 2) 1, ro_rrrrrnniin (q 6) 2 (q 24) (q 25) (q 26) (q 27) (q 28) jd2_12 jm2_13 ju2_15 jr2_16 jn2_14, ro_rrrrnn (q 24) 0 (q 29) (q 30) (q 31) (q 32) jc2_7 jx2_8, ra_I (q 29) cI 1600 k1__9, ra_I (q 27) cI 3 kf__10, ra_I (q 28) cI 3 kt__11, ra_I (q 25) cI 9 jb2_17, ra_I (q 26) cI 9 jw2_18, ro_rrnnnin (q 7) 7 (q 33) (q 34) dy wn mo mu ke, ra_I (q 33) cI 9 fb, ra_I (q 34) cI 9 fw, ro_rnrrr (q 9) 4 (q 35) ac (q 36) (q 37) (q 38), ro_rrrrrr (q 10) 9 (q 61) (q 62) (q 63) (q 64) (q 65) (q 66), ra_I (q 66) cI 9 fk, ra_I (q 16) cI 6 rf]) eu_28 hP hD rfl (fun hP hD => ?_)
  refine lv_aload_n hx hb dX11_lock_11 rfl (lv_at hl 0 rfl) ?_
  refine sk_get (v := .ref (q 0)) (C := RX11) (T := TX11) (N := 18) hx hb hts inlX11 hown hK hP 0 rfl rfl 0 (Nat.le_of_ble_eq_true rfl) w_2_123 rfl dX11_lock_12 ?_
  refine lv_iconst (v := 0) hx hb dX11_lock_15 ic_0 ?_
  refine sk_put (ws' := [ro_rrrrrrrrrrrrrrrirl x0 11 (q 0) (q 1) (q 2) (q 3) (q 4) (q 5) (q 6) (q 7) (q 8) (q 9) (q 10) (q 11) (q 12) (q 13) (q 14) (nI hn) (q 16) dr, ro_rrr (q 3) 3 (q 2) (q 22) (q 23), ro_rniiinii (q 2) 6 (q 0) xa2_1 xv2_2 0 xt2_3 xz2_4 xf2_5 xp2_6, ro_ri (q 0) 10 (q 20) 0, ra_N (q 20) cI 1600 tb, ro_ri (q 22) 8 (q 2) 0, ro_ri (q 23) 8 (q 2) 1, ro_rrrrrnniin (q 6) 2 (q 24) (q 25) (q 26) (q 27) (q 28) jd2_12 jm2_13 ju2_15 jr2_16 jn2_14, ro_rrrrnn (q 24) 0 (q 29) (q 30) (q 31) (q 32) jc2_7 jx2_8, ra_I (q 29) cI 1600 k1__9, ra_I (q 27) cI 3 kf__10, ra_I (q 28) cI 3 kt__11, ra_I (q 25) cI 9 jb2_17, ra_I (q 26) cI 9 jw2_18, ro_rrnnnin (q 7) 7 (q 33) (q 34) dy wn mo mu ke, ra_I (q 33) cI 9 fb, ra_I (q 34) cI 9 fw, ro_rnrrr (q 9) 4 (q 35) ac (q 36) (q 37) (q 38), ro_rrrrrr (q 10) 9 (q 61) (q 62) (q 63) (q 64) (q 65) (q 66), ra_I (q 66) cI 9 fk, ra_I (q 16) cI 6 rf]) (C := RX10) (T := TX10) (N := 2) (v := .int 0) hx hb hts inlX10 tyX10 tyX10_ok nmX10 hown hK hP hD hS 3 rfl rfl 1 (Nat.le_of_ble_eq_true rfl) w_1_42 rfl rfl rfl (Nat.le_of_ble_eq_true rfl) rfl dX11_lock_16 (fun H locs hP hD hS => ?_)
  refine lv_aload_n hx hb dX11_lock_19 rfl (lv_at hl 0 rfl) ?_
  refine sk_get (v := .ref (q 2)) (C := RX11) (T := TX11) (N := 18) hx hb hts inlX11 hown hK hP 0 rfl rfl 2 (Nat.le_of_ble_eq_true rfl) w_2_125 rfl dX11_lock_20 ?_
  refine sk_get (v := .int xf2_5) (C := RX6) (T := TX6) (N := 8) hx hb hts inlX6 hown hK hP 2 rfl rfl 6 (Nat.le_of_ble_eq_true rfl) w_1_68 rfl dX11_lock_23 ?_
  refine lv_if_eq (tgt := 35) hx hb dX11_lock_26 (by decide) (fun c_29 => ?_) (fun c_29 => ?_)
  · skip
    refine lv_aload_n hx hb dX11_lock_35 rfl (lv_at hl 0 rfl) ?_
    refine sk_get (v := .ref (q 5)) (C := RX11) (T := TX11) (N := 18) hx hb hts inlX11 hown hK hP 0 rfl rfl 5 (Nat.le_of_ble_eq_true rfl) w_2_128 rfl dX11_lock_36 ?_
    refine lv_astore_n (lv' := [(1, .ref (q 5)), (0, .ref x0)]) hx hb dX11_lock_39 rfl hl (by decide) rfl (fun ls hl => ?_)
    refine lv_aload_n hx hb dX11_lock_40 rfl (lv_at hl 1 rfl) ?_
    refine lv_aload_n hx hb dX11_lock_41 rfl (lv_at hl 1 rfl) ?_
    refine sk_get (v := .ref (q 6)) (C := RX11) (T := TX11) (N := 18) hx hb hts inlX11 hown hK hP 0 rfl rfl 6 (Nat.le_of_ble_eq_true rfl) w_2_129 rfl dX11_lock_42 ?_
    refine sk_put (ws' := [ro_rrrrrrrrrrrrrrrirl x0 11 (q 0) (q 1) (q 2) (q 3) (q 4) (q 6) (q 6) (q 7) (q 8) (q 9) (q 10) (q 11) (q 12) (q 13) (q 14) (nI hn) (q 16) dr, ro_rrr (q 3) 3 (q 2) (q 22) (q 23), ro_rniiinii (q 2) 6 (q 0) xa2_1 xv2_2 0 xt2_3 xz2_4 xf2_5 xp2_6, ro_ri (q 0) 10 (q 20) 0, ra_N (q 20) cI 1600 tb, ro_ri (q 22) 8 (q 2) 0, ro_ri (q 23) 8 (q 2) 1, ro_rrrrrnniin (q 6) 2 (q 24) (q 25) (q 26) (q 27) (q 28) jd2_12 jm2_13 ju2_15 jr2_16 jn2_14, ro_rrrrnn (q 24) 0 (q 29) (q 30) (q 31) (q 32) jc2_7 jx2_8, ra_I (q 29) cI 1600 k1__9, ra_I (q 27) cI 3 kf__10, ra_I (q 28) cI 3 kt__11, ra_I (q 25) cI 9 jb2_17, ra_I (q 26) cI 9 jw2_18, ro_rrnnnin (q 7) 7 (q 33) (q 34) dy wn mo mu ke, ra_I (q 33) cI 9 fb, ra_I (q 34) cI 9 fw, ro_rnrrr (q 9) 4 (q 35) ac (q 36) (q 37) (q 38), ro_rrrrrr (q 10) 9 (q 61) (q 62) (q 63) (q 64) (q 65) (q 66), ra_I (q 66) cI 9 fk, ra_I (q 16) cI 6 rf]) (C := RX11) (T := TX11) (N := 18) (v := .ref (q 6)) hx hb hts inlX11 tyX11 tyX11_ok nmX11 hown hK hP hD hS 0 rfl rfl 5 (Nat.le_of_ble_eq_true rfl) w_2_128 rfl rfl rfl (Nat.le_of_ble_eq_true rfl) rfl dX11_lock_45 (fun H locs hP hD hS => ?_)
    refine lv_aload_n hx hb dX11_lock_48 rfl (lv_at hl 1 rfl) ?_
    refine lv_aload_n hx hb dX11_lock_49 rfl (lv_at hl 0 rfl) ?_
    refine sk_put (ws' := [ro_rrrrrrrrrrrrrrrirl x0 11 (q 0) (q 1) (q 2) (q 3) (q 4) (q 6) (q 5) (q 7) (q 8) (q 9) (q 10) (q 11) (q 12) (q 13) (q 14) (nI hn) (q 16) dr, ro_rrr (q 3) 3 (q 2) (q 22) (q 23), ro_rniiinii (q 2) 6 (q 0) xa2_1 xv2_2 0 xt2_3 xz2_4 xf2_5 xp2_6, ro_ri (q 0) 10 (q 20) 0, ra_N (q 20) cI 1600 tb, ro_ri (q 22) 8 (q 2) 0, ro_ri (q 23) 8 (q 2) 1, ro_rrrrrnniin (q 6) 2 (q 24) (q 25) (q 26) (q 27) (q 28) jd2_12 jm2_13 ju2_15 jr2_16 jn2_14, ro_rrrrnn (q 24) 0 (q 29) (q 30) (q 31) (q 32) jc2_7 jx2_8, ra_I (q 29) cI 1600 k1__9, ra_I (q 27) cI 3 kf__10, ra_I (q 28) cI 3 kt__11, ra_I (q 25) cI 9 jb2_17, ra_I (q 26) cI 9 jw2_18, ro_rrnnnin (q 7) 7 (q 33) (q 34) dy wn mo mu ke, ra_I (q 33) cI 9 fb, ra_I (q 34) cI 9 fw, ro_rnrrr (q 9) 4 (q 35) ac (q 36) (q 37) (q 38), ro_rrrrrr (q 10) 9 (q 61) (q 62) (q 63) (q 64) (q 65) (q 66), ra_I (q 66) cI 9 fk, ra_I (q 16) cI 6 rf]) (C := RX11) (T := TX11) (N := 18) (v := .ref (q 5)) hx hb hts inlX11 tyX11 tyX11_ok nmX11 hown hK hP hD hS 0 rfl rfl 6 (Nat.le_of_ble_eq_true rfl) w_2_129 rfl rfl rfl (Nat.le_of_ble_eq_true rfl) rfl dX11_lock_50 (fun H locs hP hD hS => ?_)
    refine lv_aload_n hx hb dX11_lock_53 rfl (lv_at hl 1 rfl) ?_
    refine sk_get (v := .ref (q 7)) (C := RX11) (T := TX11) (N := 18) hx hb hts inlX11 hown hK hP 0 rfl rfl 7 (Nat.le_of_ble_eq_true rfl) w_2_130 rfl dX11_lock_54 ?_
    refine lv_aload_n hx hb dX11_lock_57 rfl (lv_at hl 1 rfl) ?_
    refine sk_get (v := .ref (q 6)) (C := RX11) (T := TX11) (N := 18) hx hb hts inlX11 hown hK hP 0 rfl rfl 5 (Nat.le_of_ble_eq_true rfl) w_2_128 rfl dX11_lock_58 ?_
    refine sk_Vv (q0 := 0) (n := 1) (rest := []) (wr := fmR om_21_21f0 _) ⟨hx, hb, hml, hown, hts⟩ hl.1 (c_kState_begin l D cI cJ cC cZ cS (q 7) (q 33) (q 34) dy mo (nI wn) mu (nI ke) fb fw (q 6) (q 24) (q 25) (q 26) (q 27) (q 28) jd2_12 jm2_13 jn2_14 ju2_15 jr2_16 jb2_17 jw2_18) w_3_148 w_3_149 w_3_150 w_1_10 w_3_151 hd_X7_begin_1 ⟨⟨(Nat.le_of_ble_eq_true rfl), (Nat.le_of_ble_eq_true rfl)⟩, (Nat.le_of_ble_eq_true rfl), (Nat.le_of_ble_eq_true rfl)⟩ hK hP hD hS hA [14, 15, 16, 7, 12, 13] (fmF om_21_21f0 0) rfl (fm_R rfl rfl) (by decide +kernel) (fm_nF om_21_21f0 0) (by decide +kernel) rfl rfl rfl rfl (Nat.le_of_ble_eq_true rfl) dX11_lock_61 (fun u H locs hw hP hD hS => ?_)
    refine exE hw (fun g1_30 hw1 => exE hw1 (fun g2_31 hw2 => anE hw2 (fun hc1_32 hw3 => anE hw3 (fun hc2_33 eu_34 => ?_))))
    clear hw hw1 hw2 hw3
    refine o_mgqE (ux := [ro_rrrrrnniin (q 6) 2 (q 24) (q 25) (q 26) (q 27) (q 28) jd2_12 jm2_13 ju2_15 jr2_16 jn2_14, ra_I (q 25) cI 9 jb2_17, ra_I (q 26) cI 9 jw2_18, ro_rrninii (q 7) 7 (q 33) (q 34) jd2_12 0 jm2_13 ju2_15 0, ra_I (q 33) cI 9 g1_30, ra_I (q 34) cI 9 g2_31]) (ws' := [ro_rrrrrrrrrrrrrrrirl x0 11 (q 0) (q 1) (q 2) (q 3) (q 4) (q 6) (q 5) (q 7) (q 8) (q 9) (q 10) (q 11) (q 12) (q 13) (q 14) (nI hn) (q 16) dr, ro_rrr (q 3) 3 (q 2) (q 22) (q 23), ro_rniiinii (q 2) 6 (q 0) xa2_1 xv2_2 0 xt2_3 xz2_4 xf2_5 xp2_6, ro_ri (q 0) 10 (q 20) 0, ra_N (q 20) cI 1600 tb, ro_ri (q 22) 8 (q 2) 0, ro_ri (q 23) 8 (q 2) 1, ro_rrrrrnniin (q 6) 2 (q 24) (q 25) (q 26) (q 27) (q 28) jd2_12 jm2_13 ju2_15 jr2_16 jn2_14, ro_rrrrnn (q 24) 0 (q 29) (q 30) (q 31) (q 32) jc2_7 jx2_8, ra_I (q 29) cI 1600 k1__9, ra_I (q 27) cI 3 kf__10, ra_I (q 28) cI 3 kt__11, ra_I (q 25) cI 9 jb2_17, ra_I (q 26) cI 9 jw2_18, ro_rrninii (q 7) 7 (q 33) (q 34) jd2_12 0 jm2_13 ju2_15 0, ra_I (q 33) cI 9 g1_30, ra_I (q 34) cI 9 g2_31, ro_rnrrr (q 9) 4 (q 35) ac (q 36) (q 37) (q 38), ro_rrrrrr (q 10) 9 (q 61) (q 62) (q 63) (q 64) (q 65) (q 66), ra_I (q 66) cI 9 fk, ra_I (q 16) cI 6 rf]) eu_34 [3, 4, 5, 0, 1, 2] (by decide +kernel) rfl hP hD rfl (fun hP hD => ?_)
    refine lv_aload_n hx hb dX11_lock_64 rfl (lv_at hl 1 rfl) ?_
    refine sk_get (v := .ref (q 9)) (C := RX11) (T := TX11) (N := 18) hx hb hts inlX11 hown hK hP 0 rfl rfl 9 (Nat.le_of_ble_eq_true rfl) w_2_132 rfl dX11_lock_65 ?_
    refine sk_Vv (q0 := 0) (n := 0) (rest := []) (wr := fmR om_21_8 _) ⟨hx, hb, hml, hown, hts⟩ hl.1 (c_past_forget l D cI cJ cC cZ cS q ac) w_3_155 w_3_156 w_3_157 w_1_11 w_3_158 hd_X4_forget_0 ⟨⟨(Nat.le_of_ble_eq_true rfl), (Nat.le_of_ble_eq_true rfl)⟩, (Nat.le_of_ble_eq_true rfl), (Nat.le_of_ble_eq_true rfl)⟩ hK hP hD hS hA (fmT om_21_8 0) (fmF om_21_8 0) (fm_C1 rfl rfl) (fm_R rfl rfl) (fm_nT om_21_8 0) (fm_nF om_21_8 0) (fm_di om_21_8 0) rfl rfl rfl rfl (Nat.le_of_ble_eq_true rfl) dX11_lock_68 (fun u H locs hw hP hD hS => ?_)
    refine o_mgE (ws' := [ro_rrrrrrrrrrrrrrrirl x0 11 (q 0) (q 1) (q 2) (q 3) (q 4) (q 6) (q 5) (q 7) (q 8) (q 9) (q 10) (q 11) (q 12) (q 13) (q 14) (nI hn) (q 16) dr, ro_rrr (q 3) 3 (q 2) (q 22) (q 23), ro_rniiinii (q 2) 6 (q 0) xa2_1 xv2_2 0 xt2_3 xz2_4 xf2_5 xp2_6, ro_ri (q 0) 10 (q 20) 0, ra_N (q 20) cI 1600 tb, ro_ri (q 22) 8 (q 2) 0, ro_ri (q 23) 8 (q 2) 1, ro_rrrrrnniin (q 6) 2 (q 24) (q 25) (q 26) (q 27) (q 28) jd2_12 jm2_13 ju2_15 jr2_16 jn2_14, ro_rrrrnn (q 24) 0 (q 29) (q 30) (q 31) (q 32) jc2_7 jx2_8, ra_I (q 29) cI 1600 k1__9, ra_I (q 27) cI 3 kf__10, ra_I (q 28) cI 3 kt__11, ra_I (q 25) cI 9 jb2_17, ra_I (q 26) cI 9 jw2_18, ro_rrninii (q 7) 7 (q 33) (q 34) jd2_12 0 jm2_13 ju2_15 0, ra_I (q 33) cI 9 g1_30, ra_I (q 34) cI 9 g2_31, ro_rirrr (q 9) 4 (q 35) 0 (q 36) (q 37) (q 38), ro_rrrrrr (q 10) 9 (q 61) (q 62) (q 63) (q 64) (q 65) (q 66), ra_I (q 66) cI 9 fk, ra_I (q 16) cI 6 rf]) hw hP hD rfl (fun hP hD => ?_)
    refine lv_aload_n hx hb dX11_lock_71 rfl (lv_at hl 1 rfl) ?_
    refine sk_get (v := .ref (q 10)) (C := RX11) (T := TX11) (N := 18) hx hb hts inlX11 hown hK hP 0 rfl rfl 10 (Nat.le_of_ble_eq_true rfl) w_2_133 rfl dX11_lock_72 ?_
    refine sk_Vv (q0 := 0) (n := 0) (rest := []) (wr := fmR om_21_6 _) ⟨hx, hb, hml, hown, hts⟩ hl.1 (c_ktab_forgetX l D cI cJ cC cZ cS q fk) w_3_159 w_3_160 w_3_161 w_1_12 w_3_162 hd_X9_forget_0 ⟨⟨(Nat.le_of_ble_eq_true rfl), (Nat.le_of_ble_eq_true rfl)⟩, (Nat.le_of_ble_eq_true rfl), (Nat.le_of_ble_eq_true rfl)⟩ hK hP hD hS hA (fmT om_21_6 0) (fmF om_21_6 0) (fm_C1 rfl rfl) (fm_R rfl rfl) (fm_nT om_21_6 0) (fm_nF om_21_6 0) (fm_di om_21_6 0) rfl rfl rfl rfl (Nat.le_of_ble_eq_true rfl) dX11_lock_75 (fun u H locs hw hP hD hS => ?_)
    refine exE hw (fun gk_35 hw1 => anE hw1 (fun hgk_36 eu_37 => ?_))
    clear hw hw1
    refine o_mgE (ws' := [ro_rrrrrrrrrrrrrrrirl x0 11 (q 0) (q 1) (q 2) (q 3) (q 4) (q 6) (q 5) (q 7) (q 8) (q 9) (q 10) (q 11) (q 12) (q 13) (q 14) (nI hn) (q 16) dr, ro_rrr (q 3) 3 (q 2) (q 22) (q 23), ro_rniiinii (q 2) 6 (q 0) xa2_1 xv2_2 0 xt2_3 xz2_4 xf2_5 xp2_6, ro_ri (q 0) 10 (q 20) 0, ra_N (q 20) cI 1600 tb, ro_ri (q 22) 8 (q 2) 0, ro_ri (q 23) 8 (q 2) 1, ro_rrrrrnniin (q 6) 2 (q 24) (q 25) (q 26) (q 27) (q 28) jd2_12 jm2_13 ju2_15 jr2_16 jn2_14, ro_rrrrnn (q 24) 0 (q 29) (q 30) (q 31) (q 32) jc2_7 jx2_8, ra_I (q 29) cI 1600 k1__9, ra_I (q 27) cI 3 kf__10, ra_I (q 28) cI 3 kt__11, ra_I (q 25) cI 9 jb2_17, ra_I (q 26) cI 9 jw2_18, ro_rrninii (q 7) 7 (q 33) (q 34) jd2_12 0 jm2_13 ju2_15 0, ra_I (q 33) cI 9 g1_30, ra_I (q 34) cI 9 g2_31, ro_rirrr (q 9) 4 (q 35) 0 (q 36) (q 37) (q 38), ro_rrrrrr (q 10) 9 (q 61) (q 62) (q 63) (q 64) (q 65) (q 66), ra_I (q 66) cI 9 gk_35, ra_I (q 16) cI 6 rf]) eu_37 hP hD rfl (fun hP hD => ?_)
    refine lv_aload_n hx hb dX11_lock_78 rfl (lv_at hl 1 rfl) ?_
    refine lv_iconst (v := 0) hx hb dX11_lock_79 ic_0 ?_
    refine sk_put (ws' := [ro_rrrrrrrrrrrrrrrirl x0 11 (q 0) (q 1) (q 2) (q 3) (q 4) (q 6) (q 5) (q 7) (q 8) (q 9) (q 10) (q 11) (q 12) (q 13) (q 14) 0 (q 16) dr, ro_rrr (q 3) 3 (q 2) (q 22) (q 23), ro_rniiinii (q 2) 6 (q 0) xa2_1 xv2_2 0 xt2_3 xz2_4 xf2_5 xp2_6, ro_ri (q 0) 10 (q 20) 0, ra_N (q 20) cI 1600 tb, ro_ri (q 22) 8 (q 2) 0, ro_ri (q 23) 8 (q 2) 1, ro_rrrrrnniin (q 6) 2 (q 24) (q 25) (q 26) (q 27) (q 28) jd2_12 jm2_13 ju2_15 jr2_16 jn2_14, ro_rrrrnn (q 24) 0 (q 29) (q 30) (q 31) (q 32) jc2_7 jx2_8, ra_I (q 29) cI 1600 k1__9, ra_I (q 27) cI 3 kf__10, ra_I (q 28) cI 3 kt__11, ra_I (q 25) cI 9 jb2_17, ra_I (q 26) cI 9 jw2_18, ro_rrninii (q 7) 7 (q 33) (q 34) jd2_12 0 jm2_13 ju2_15 0, ra_I (q 33) cI 9 g1_30, ra_I (q 34) cI 9 g2_31, ro_rirrr (q 9) 4 (q 35) 0 (q 36) (q 37) (q 38), ro_rrrrrr (q 10) 9 (q 61) (q 62) (q 63) (q 64) (q 65) (q 66), ra_I (q 66) cI 9 gk_35, ra_I (q 16) cI 6 rf]) (C := RX11) (T := TX11) (N := 18) (v := .int 0) hx hb hts inlX11 tyX11 tyX11_ok nmX11 hown hK hP hD hS 0 rfl rfl 15 (Nat.le_of_ble_eq_true rfl) w_2_138 rfl rfl rfl (Nat.le_of_ble_eq_true rfl) rfl dX11_lock_80 (fun H locs hP hD hS => ?_)
    refine lv_aload_n hx hb dX11_lock_83 rfl (lv_at hl 1 rfl) ?_
    refine sk_get (v := .ref (q 6)) (C := RX11) (T := TX11) (N := 18) hx hb hts inlX11 hown hK hP 0 rfl rfl 5 (Nat.le_of_ble_eq_true rfl) w_2_128 rfl dX11_lock_84 ?_
    refine sk_get (v := .int (nI jn2_14)) (C := RX2) (T := TX2) (N := 10) hx hb hts inlX2 hown hK hP 7 rfl rfl 9 (Nat.le_of_ble_eq_true rfl) w_1_202 rfl dX11_lock_87 ?_
    exact sk_iret hx hb hr rfl hlocks hK hP hD hS (⟨6, 5, 0, xa2_1, xv2_2, xt2_3, xz2_4, xf2_5, xp2_6, jc2_7, jx2_8, k1__9, kf__10, kt__11, jd2_12, jm2_13, jn2_14, ju2_15, jr2_16, jb2_17, jw2_18, jd2_12, 0, jm2_13, 0, 0, ju2_15, g1_30, g2_31, gk_35, rf, hxa2_19, hxz2_20, hjc2_21, hjx2_22, hjd2_23, hjd3_24, hjm2_25, hjn2_26, (Or.inr ⟨rfl, rfl, (by obtain ⟨x, h1, h2, h3⟩ := lkx_ok hfin_27 c_29; exact ⟨x, h1, h2, h3, rfl, rfl, rfl, rfl, rfl, hc1_32, hc2_33, rfl, rfl, hgk_36, rfl⟩)⟩), (lrs_ok hfin_27 c_29), rfl⟩) (Nat.le_of_ble_eq_true rfl) (Nat.le_of_ble_eq_true rfl) dX11_lock_90
  · skip
    refine lv_aload_n hx hb dX11_lock_29 rfl (lv_at hl 0 rfl) ?_
    refine lv_iconst (v := 1) hx hb dX11_lock_30 ic_1 ?_
    refine sk_Vi (q0 := 0) (n := 1) (rest := []) (wr := fmR om_21_100001 _) ⟨hx, hb, hml, hown, hts⟩ hl.1 (c_kx_refuse l D cI cJ cC cZ cS x0 q (nI hn) dr 1 rf (by omega)) w_2_182 w_2_184 w_0_0 w_1_1 w_2_185 hd_X11_refuse_1 ⟨⟨(Nat.le_of_ble_eq_true rfl), (Nat.le_of_ble_eq_true rfl)⟩, (Nat.le_of_ble_eq_true rfl), (Nat.le_of_ble_eq_true rfl)⟩ hK hP hD hS hA (fmT om_21_100001 0) (fmF om_21_100001 0) (fm_C1 rfl rfl) (fm_R rfl rfl) (fm_nT om_21_100001 0) (fm_nF om_21_100001 0) (fm_di om_21_100001 0) rfl rfl rfl rfl (Nat.le_of_ble_eq_true rfl) dX11_lock_31 (fun r_39 u H locs hw hP hD hS => ?_)
    refine exE hw (fun rf2_38 hw1 => anE hw1 (fun hrf_40 hw2 => anE hw2 (fun er_42 eu_41 => ?_)))
    clear hw hw1 hw2
    subst er_42
    refine o_mgE (ws' := [ro_rrrrrrrrrrrrrrrnrl x0 11 (q 0) (q 1) (q 2) (q 3) (q 4) (q 5) (q 6) (q 7) (q 8) (q 9) (q 10) (q 11) (q 12) (q 13) (q 14) hn (q 16) dr, ro_rrr (q 3) 3 (q 2) (q 22) (q 23), ro_rniiinii (q 2) 6 (q 0) xa2_1 xv2_2 0 xt2_3 xz2_4 xf2_5 xp2_6, ro_ri (q 0) 10 (q 20) 0, ra_N (q 20) cI 1600 tb, ro_ri (q 22) 8 (q 2) 0, ro_ri (q 23) 8 (q 2) 1, ro_rrrrrnniin (q 6) 2 (q 24) (q 25) (q 26) (q 27) (q 28) jd2_12 jm2_13 ju2_15 jr2_16 jn2_14, ro_rrrrnn (q 24) 0 (q 29) (q 30) (q 31) (q 32) jc2_7 jx2_8, ra_I (q 29) cI 1600 k1__9, ra_I (q 27) cI 3 kf__10, ra_I (q 28) cI 3 kt__11, ra_I (q 25) cI 9 jb2_17, ra_I (q 26) cI 9 jw2_18, ro_rrnnnin (q 7) 7 (q 33) (q 34) dy wn mo mu ke, ra_I (q 33) cI 9 fb, ra_I (q 34) cI 9 fw, ro_rnrrr (q 9) 4 (q 35) ac (q 36) (q 37) (q 38), ro_rrrrrr (q 10) 9 (q 61) (q 62) (q 63) (q 64) (q 65) (q 66), ra_I (q 66) cI 9 fk, ra_I (q 16) cI 6 rf2_38]) eu_41 hP hD rfl (fun hP hD => ?_)
    exact sk_iret hx hb hr rfl hlocks hK hP hD hS (⟨5, 6, hn, xa2_1, xv2_2, xt2_3, xz2_4, xf2_5, xp2_6, jc2_7, jx2_8, k1__9, kf__10, kt__11, jd2_12, jm2_13, jn2_14, ju2_15, jr2_16, jb2_17, jw2_18, dy, wn, mo, ke, ac, mu, fb, fw, fk, rf2_38, hxa2_19, hxz2_20, hjc2_21, hjx2_22, hjd2_23, hjd3_24, hjm2_25, hjn2_26, (Or.inl ⟨rfl, rfl, lkx_er hfin_27 c_29, rfl, rfl, rfl, rfl, rfl, rfl, rfl, rfl, rfl, rfl, rfl, hrf_40⟩), (lrs_er hfin_27 c_29), rfl⟩) (Nat.le_of_ble_eq_true rfl) (Nat.le_of_ble_eq_true rfl) dX11_lock_34
/-! from ahead, by what goes on -/
def kcBl (E : Nat → Nat → Nat → Bool) (gd a0 : Nat) : Nat → Nat → Nat
  | 0, m => if m = a0 then 1 else 0
  | d + 1, m => kcS (fun a => if 0 < kcW E gd d a m then kcBl E gd a0 d a else 0) 10
theorem kbl_0 (E : Nat → Nat → Nat → Bool) (gd a0 m : Nat) : kcBl E gd a0 0 m = if m = a0 then 1 else 0 := rfl
theorem kbl_s (E : Nat → Nat → Nat → Bool) (gd a0 d m : Nat) : kcBl E gd a0 (d + 1) m = kcS (fun a => if 0 < kcW E gd d a m then kcBl E gd a0 d a else 0) 10 := rfl
theorem kcS_at {g : Nat → Nat} {a : Nat} : ∀ n, a < n → kcS (fun x => if x = a then g x else 0) n = g a
  | 0, h => absurd h (Nat.not_lt_zero a)
  | n + 1, h => by
    show kcS (fun x => if x = a then g x else 0) n + (if n = a then g n else 0) = g a
    by_cases e : n = a
    · subst e
      rw [if_pos rfl, kcS_z n (fun m hm => if_neg (by omega)), Nat.zero_add]
    · rw [if_neg e, Nat.add_zero]
      exact kcS_at n (by omega)
/-- ways through a mood of a day -/
def kcT2 (E : Nat → Nat → Nat → Bool) (gd a0 d m : Nat) : Nat := kcB E a0 d m * kcC E (gd - (d + 1)) (d + 1) m
theorem kbl_z {E : Nat → Nat → Nat → Bool} {gd a0 d m : Nat} (h : kcC E (gd - (d + 1)) (d + 1) m = 0) : kcBl E gd a0 (d + 1) m = 0 := by
  rw [kbl_s]
  exact kcS_z 10 (fun a _ => if_neg (fun q => by have := (kW_pos.mp q).2; omega))
theorem kbl_B {E : Nat → Nat → Nat → Bool} {gd a0 : Nat} (ha : a0 < 10) : ∀ d m, d < gd → 0 < kcC E (gd - (d + 1)) (d + 1) m → m < 10 → kcBl E gd a0 (d + 1) m = kcB E a0 d m
  | 0, m, hd, h, hm => by
    rw [kbl_s, kcB_0]
    rw [kcS_cg (g := fun a => if a = a0 then (if E 0 a m = true then 1 else 0) else 0) 10 (fun a _ => ?_), kcS_at (g := fun a => if E 0 a m = true then 1 else 0) 10 ha]
    show (if 0 < kcW E gd 0 a m then kcBl E gd a0 0 a else 0) = if a = a0 then (if E 0 a m = true then 1 else 0) else 0
    rw [kbl_0]
    by_cases e : a = a0
    · rw [if_pos e]
      by_cases q : E 0 a m = true
      · rw [if_pos (kW_pos.mpr ⟨q, h⟩), if_pos e, if_pos q]
      · rw [if_neg (fun c => q (kW_pos.mp c).1), if_neg q, if_pos e]
    · rw [if_neg e, if_neg e]
      split <;> rfl
  | d + 1, m, hd, h, hm => by
    rw [kbl_s, kcB_s]
    refine kcS_cg 10 (fun a ha2 => ?_)
    by_cases q : E (d + 1) a m = true
    · rw [if_pos (kW_pos.mpr ⟨q, h⟩), if_pos q]
      refine kbl_B ha d a (by omega) ?_ ha2
      rw [← kcW_S (show d + 1 < gd by omega)]
      refine Nat.pos_of_ne_zero (fun z => ?_)
      have h2 := kcS_pos 10 z m hm
      have h3 : 0 < kcW E gd (d + 1) a m := kW_pos.mpr ⟨q, h⟩
      omega
    · rw [if_neg (fun c => q (kW_pos.mp c).1), if_neg q]
theorem kbl_T {E : Nat → Nat → Nat → Bool} {gd a0 d m : Nat} (ha : a0 < 10) (hd : d < gd) (hm : m < 10) : kcBl E gd a0 (d + 1) m * kcC E (gd - (d + 1)) (d + 1) m = kcT2 E gd a0 d m := by
  unfold kcT2
  by_cases h : kcC E (gd - (d + 1)) (d + 1) m = 0
  · rw [h, Nat.mul_zero, Nat.mul_zero]
  · rw [kbl_B ha d m hd (Nat.pos_of_ne_zero h) hm]
theorem kbl_P {E : Nat → Nat → Nat → Bool} {gd a0 d m : Nat} (ha : a0 < 10) (hd : d < gd) (hm : m < 10) : 0 < kcBl E gd a0 (d + 1) m ↔ 0 < kcT2 E gd a0 d m := by
  unfold kcT2
  by_cases h : kcC E (gd - (d + 1)) (d + 1) m = 0
  · rw [kbl_z h, h, Nat.mul_zero]
  · rw [kbl_B ha d m hd (Nat.pos_of_ne_zero h) hm]
    exact ⟨fun q => Nat.mul_pos q (Nat.pos_of_ne_zero h), fun q => Nat.pos_of_mul_pos_right q⟩
theorem kT2_S {E : Nat → Nat → Nat → Bool} {gd a0 d : Nat} (hd : d < gd) : kcS (kcT2 E gd a0 d) 10 = kcC E gd 0 a0 := by
  have h := kcB_C E a0 d (gd - (d + 1))
  rw [show gd - (d + 1) + d + 1 = gd by omega] at h
  exact h
theorem kcS_one {f : Nat → Nat} {m : Nat} : ∀ n, m < n → f m ≤ kcS f n
  | 0, h => absurd h (Nat.not_lt_zero m)
  | n + 1, h => by
    show f m ≤ kcS f n + f n
    by_cases e : m = n
    · subst e; omega
    · have := kcS_one (f := f) n (show m < n by omega); omega
theorem kT2_le {E : Nat → Nat → Nat → Bool} {gd a0 d m : Nat} (hd : d < gd) (hm : m < 10) : kcT2 E gd a0 d m ≤ kcC E gd 0 a0 := by
  rw [← kT2_S hd]
  exact kcS_one 10 hm
/-- the table of comings: days up to i are whole, the next has the first j moods behind it, and of mood j the first k -/
def kcCk (E : Nat → Nat → Nat → Bool) (gd a0 i j k : Nat) (f : Nat → Int64) : Prop := ∀ e m, m < 10 → e ≤ gd → f (e * 10 + m) = Int64.ofNat (if e ≤ i then kcBl E gd a0 e m else if e = i + 1 then kcS (fun a => if 0 < kcW E gd i a m then kcBl E gd a0 i a else 0) (if m < k then j + 1 else j) else 0)
def kcCm (E : Nat → Nat → Nat → Bool) (gd a0 i : Nat) (f : Nat → Int64) : Prop := ∀ e m, m < 10 → e ≤ gd → f (e * 10 + m) = Int64.ofNat (if e ≤ i then kcBl E gd a0 e m else 0)
theorem kcm_0 {E : Nat → Nat → Nat → Bool} {gd a0 : Nat} {f g : Nat → Int64} (hf : ∀ j, j < 100 → f j = 0) (h : g = vp_updL f a0 1) (ha : a0 < 10) (h9 : gd ≤ 9) : kcCm E gd a0 0 g := fun e m hm he => by
  by_cases q : e * 10 + m = a0
  · rw [q, kup_s h, if_pos (by omega), show e = 0 by omega, kbl_0, if_pos (by omega)]; rfl
  · rw [kup_n h q, hf _ (by omega)]
    by_cases c : e ≤ 0
    · rw [if_pos c, show e = 0 by omega, kbl_0, if_neg (by omega)]; rfl
    · rw [if_neg c]; rfl
theorem kck_0 {E : Nat → Nat → Nat → Bool} {gd a0 i : Nat} {f : Nat → Int64} (h : kcCm E gd a0 i f) : kcCk E gd a0 i 0 0 f := fun e m hm he => by
  rw [h e m hm he]
  by_cases c : e ≤ i
  · rw [if_pos c, if_pos c]
  · rw [if_neg c, if_neg c, if_neg (Nat.not_lt_zero m)]
    split <;> rfl
theorem kck_y {E : Nat → Nat → Nat → Bool} {gd a0 i j k : Nat} {f g : Nat → Int64} {x : Int64} (h : kcCk E gd a0 i j k f) (e1 : g = vp_updL f ((i + 1) * 10 + k) x) (hx : x = f ((i + 1) * 10 + k) + f (i * 10 + j)) (hi : i < gd) (hj : j < 10) (hk : k < 10) (hw : 0 < kcW E gd i j k) : kcCk E gd a0 i j (k + 1) g := fun e m hm he => by
  by_cases q : e = i + 1 ∧ m = k
  · obtain ⟨rfl, rfl⟩ := q
    rw [kup_s e1, hx, h (i + 1) m hm he, h i j hj (by omega), if_neg (by omega), if_pos rfl, if_neg (Nat.lt_irrefl m), if_pos (Nat.le_refl i), if_neg (by omega), if_pos rfl, if_pos (Nat.lt_succ_self m), kofn_add]
    show _ = Int64.ofNat (kcS (fun a => if 0 < kcW E gd i a m then kcBl E gd a0 i a else 0) j + (if 0 < kcW E gd i j m then kcBl E gd a0 i j else 0))
    rw [if_pos hw]
  · rw [kup_n e1 (by omega), h e m hm he]
    by_cases c : e ≤ i
    · rw [if_pos c, if_pos c]
    · rw [if_neg c, if_neg c]
      by_cases c2 : e = i + 1
      · rw [if_pos c2, if_pos c2]
        by_cases c3 : m < k
        · rw [if_pos c3, if_pos (by omega)]
        · rw [if_neg c3, if_neg (by omega)]
      · rw [if_neg c2, if_neg c2]
theorem kck_n {E : Nat → Nat → Nat → Bool} {gd a0 i j k : Nat} {f : Nat → Int64} (h : kcCk E gd a0 i j k f) (hw : ¬ 0 < kcW E gd i j k) : kcCk E gd a0 i j (k + 1) f := fun e m hm he => by
  rw [h e m hm he]
  by_cases c : e ≤ i
  · rw [if_pos c, if_pos c]
  · rw [if_neg c, if_neg c]
    by_cases c2 : e = i + 1
    · rw [if_pos c2, if_pos c2]
      by_cases c3 : m < k
      · rw [if_pos c3, if_pos (by omega)]
      · rw [if_neg c3]
        by_cases c4 : m = k
        · subst c4
          rw [if_pos (Nat.lt_succ_self m)]
          show _ = Int64.ofNat (kcS (fun a => if 0 < kcW E gd i a m then kcBl E gd a0 i a else 0) j + (if 0 < kcW E gd i j m then kcBl E gd a0 i j else 0))
          rw [if_neg hw, Nat.add_zero]
        · rw [if_neg (by omega)]
    · rw [if_neg c2, if_neg c2]
theorem kck_j {E : Nat → Nat → Nat → Bool} {gd a0 i j k : Nat} {f : Nat → Int64} (h : kcCk E gd a0 i j k f) (hk : 10 ≤ k) : kcCk E gd a0 i (j + 1) 0 f := fun e m hm he => by
  rw [h e m hm he, if_pos (show m < k by omega), if_neg (Nat.not_lt_zero m)]
theorem kck_i {E : Nat → Nat → Nat → Bool} {gd a0 i j : Nat} {f : Nat → Int64} (h : kcCk E gd a0 i j 0 f) (hj : j = 10) : kcCm E gd a0 (i + 1) f := fun e m hm he => by
  subst hj
  rw [h e m hm he, if_neg (Nat.not_lt_zero m)]
  by_cases c : e ≤ i
  · rw [if_pos c, if_pos (by omega)]
  · rw [if_neg c]
    by_cases c2 : e = i + 1
    · subst c2; rw [if_pos rfl, if_pos (Nat.le_refl _)]; rfl
    · rw [if_neg c2, if_neg (by omega)]
theorem kcm_e {E : Nat → Nat → Nat → Bool} {gd a0 i : Nat} {f : Nat → Int64} (h : kcCm E gd a0 i f) (e : gd = i) : kcCm E gd a0 gd f := by
  subst e; exact h
theorem kt2_x {E : Nat → Nat → Nat → Bool} {gd a0 d m : Nat} {f g : Nat → Int64} (hf : kcCm E gd a0 gd f) (hg : kcWy E gd 0 g) (ha : a0 < 10) (hd : d < gd) (hm : m < 10) : f ((d + 1) * 10 + m) * g ((d + 1) * 10 + m) = Int64.ofNat (kcT2 E gd a0 d m) := by
  rw [hf (d + 1) m hm (by omega), if_pos (by omega), hg (d + 1) (by omega) (by omega) m hm, kofn_mul, kbl_T ha hd hm]
/-- the most of ten -/
def kcMx (f : Nat → Nat) : Nat → Nat
  | 0 => 0
  | n + 1 => if kcMx f n < f n then f n else kcMx f n
theorem kmx_l {f : Nat → Nat} {b : Nat} : ∀ n, (∀ m, m < n → f m ≤ b) → kcMx f n ≤ b
  | 0, _ => Nat.zero_le b
  | n + 1, h => by
    show (if kcMx f n < f n then f n else kcMx f n) ≤ b
    split
    · exact h n (by omega)
    · exact kmx_l n (fun m hm => h m (by omega))
theorem kmx_s {f : Nat → Nat} {n : Nat} {x : Int64} (hx : x = Int64.ofNat (kcMx f n)) (h1 : kcMx f n < 9223372036854775808) (h2 : f n < 9223372036854775808) : (if Int64.ofNat (f n) < x then x else Int64.ofNat (f n)) = Int64.ofNat (kcMx f (n + 1)) := by
  show _ = Int64.ofNat (if kcMx f n < f n then f n else kcMx f n)
  rw [hx]
  by_cases c : f n < kcMx f n
  · rw [if_pos ((klt h2 h1).mpr c), if_neg (by omega)]
  · rw [if_neg (fun q => c ((klt h2 h1).mp q))]
    by_cases c2 : kcMx f n < f n
    · rw [if_pos c2]
    · rw [if_neg c2, show f n = kcMx f n by omega]
theorem kt2_b (E : Nat → Nat → Nat → Bool) {gd a0 d m : Nat} (h9 : gd ≤ 9) (hd : d < gd) (hm : m < 10) : kcT2 E gd a0 d m ≤ 1000000000 := Nat.le_trans (kT2_le hd hm) (kcC_9 E h9 0 a0)
theorem kmx_b (E : Nat → Nat → Nat → Bool) {gd a0 d n : Nat} (h9 : gd ≤ 9) (hd : d < gd) (hn : n ≤ 10) : kcMx (kcT2 E gd a0 d) n ≤ 1000000000 := kmx_l n (fun m hm => kt2_b E h9 hd (by omega))
/-- the moods of a day, as bits -/
def kcMs (E : Nat → Nat → Nat → Bool) (gd a0 d : Nat) : Nat := kcK (fun m => decide (0 < kcT2 E gd a0 d m)) 10
def kcRe (E : Nat → Nat → Nat → Bool) (gd a0 i j : Nat) : Nat := kcK (fun m => decide (0 < kcS (fun a => if 0 < kcW E gd i a m then kcBl E gd a0 i a else 0) j)) 10
theorem kK_cg {P Q : Nat → Bool} : ∀ n, (∀ m, m < n → P m = Q m) → kcK P n = kcK Q n
  | 0, _ => rfl
  | n + 1, h => by
    rw [kcK_s, kcK_s, kK_cg n (fun m hm => h m (by omega)), h n (by omega)]
theorem kre_0 (E : Nat → Nat → Nat → Bool) (gd a0 i : Nat) : kcRe E gd a0 i 0 = 0 := by
  unfold kcRe
  exact (kcK_z _ 10).mpr (fun j _ => rfl)
theorem kor32 {a b : Nat} (ha : a < 1024) (hb : b < 1024) : nI a ||| nI b = nI (a ||| b) ∧ a ||| b < 1024 := by
  have h3 : a ||| b < 2 ^ 10 := Nat.or_lt_two_pow ha hb
  refine ⟨?_, h3⟩
  refine Int32.toBitVec_inj.mp ?_
  rw [Int32.toBitVec_or]
  show BitVec.ofNat 32 a ||| BitVec.ofNat 32 b = BitVec.ofNat 32 (a ||| b)
  refine BitVec.eq_of_toNat_eq ?_
  rw [BitVec.toNat_or, BitVec.toNat_ofNat, BitVec.toNat_ofNat, BitVec.toNat_ofNat, Nat.mod_eq_of_lt (show a < 2 ^ 32 by omega), Nat.mod_eq_of_lt (show b < 2 ^ 32 by omega), Nat.mod_eq_of_lt (show a ||| b < 2 ^ 32 by omega)]
theorem kK_of {P : Nat → Bool} {x : Nat} (hx : x < 1024) (h : ∀ m, m < 10 → x.testBit m = P m) : x = kcK P 10 := by
  refine Nat.eq_of_testBit_eq (fun j => ?_)
  rw [kcK_bit]
  by_cases c : j < 10
  · rw [decide_eq_true c, Bool.true_and]; exact h j c
  · rw [decide_eq_false c, Bool.false_and]
    exact Nat.testBit_lt_two_pow (Nat.lt_of_lt_of_le hx (Nat.pow_le_pow_right (n := 2) (by decide) (show 10 ≤ j by omega)))
theorem kre_y {E : Nat → Nat → Nat → Bool} {gd a0 i j x : Nat} (hx : kcNx E gd i j x) (hj : 0 < kcBl E gd a0 i j) : nI (kcRe E gd a0 i j) ||| nI x = nI (kcRe E gd a0 i (j + 1)) := by
  have h1 : kcRe E gd a0 i j < 1024 := kcK_lt _ 10
  rw [(kor32 h1 hx.1).1]
  refine congrArg nI (kK_of (kor32 h1 hx.1).2 (fun m hm => ?_))
  have h2 := hx.2 m hm
  rw [Nat.testBit_or]
  unfold kcRe
  rw [kcK_bit, decide_eq_true hm, Bool.true_and]
  show (decide (0 < kcS (fun a => if 0 < kcW E gd i a m then kcBl E gd a0 i a else 0) j) || x.testBit m) = decide (0 < kcS (fun a => if 0 < kcW E gd i a m then kcBl E gd a0 i a else 0) j + (if 0 < kcW E gd i j m then kcBl E gd a0 i j else 0))
  by_cases c : 0 < kcW E gd i j m
  · rw [h2.mpr c, if_pos c, Bool.or_true, decide_eq_true (by omega)]
  · rw [if_neg c, Nat.add_zero]
    cases hb : x.testBit m with
    | true => exact absurd (h2.mp hb) c
    | false => rw [Bool.or_false]
theorem kre_n {E : Nat → Nat → Nat → Bool} {gd a0 i j : Nat} (hj : ¬ 0 < kcBl E gd a0 i j) : kcRe E gd a0 i j = kcRe E gd a0 i (j + 1) := by
  unfold kcRe
  refine kK_cg 10 (fun m _ => ?_)
  show _ = decide (0 < kcS (fun a => if 0 < kcW E gd i a m then kcBl E gd a0 i a else 0) j + (if 0 < kcW E gd i j m then kcBl E gd a0 i j else 0))
  rw [show (if 0 < kcW E gd i j m then kcBl E gd a0 i j else 0) = 0 by split <;> omega, Nat.add_zero]
def kcRs (E : Nat → Nat → Nat → Bool) (gd a0 i : Nat) : Nat := kcK (fun m => decide (0 < kcBl E gd a0 i m)) 10
theorem krs_0 (E : Nat → Nat → Nat → Bool) (gd : Nat) {a0 : Nat} (ha : a0 < 10) : kcRs E gd a0 0 = 2 ^ a0 := by
  unfold kcRs
  refine (kK_of (Nat.pow_lt_pow_right (a := 2) (by decide) ha) (fun m hm => ?_)).symm
  rw [Nat.testBit_two_pow, kbl_0]
  by_cases e : m = a0
  · subst e; rw [if_pos rfl, decide_eq_true rfl]; rfl
  · rw [if_neg e, decide_eq_false (fun q => e q.symm)]; rfl
theorem krs_s {E : Nat → Nat → Nat → Bool} {gd a0 i j : Nat} (hj : j = 10) : kcRe E gd a0 i j = kcRs E gd a0 (i + 1) := by
  subst hj; rfl
theorem krs_b {E : Nat → Nat → Nat → Bool} {gd a0 i j : Nat} (hj : j < 10) : (kcRs E gd a0 i).testBit j = true ↔ 0 < kcBl E gd a0 i j := by
  unfold kcRs
  rw [kcK_bit, decide_eq_true hj, Bool.true_and, decide_eq_true_eq]
theorem krs_m {E : Nat → Nat → Nat → Bool} {gd a0 d : Nat} (ha : a0 < 10) (hd : d < gd) : kcRs E gd a0 (d + 1) = kcMs E gd a0 d := by
  unfold kcRs kcMs
  refine kK_cg 10 (fun m hm => ?_)
  have h := kbl_P (E := E) ha hd hm
  by_cases c : 0 < kcT2 E gd a0 d m
  · rw [decide_eq_true c, decide_eq_true (h.mpr c)]
  · rw [decide_eq_false c, decide_eq_false (fun q => c (h.mp q))]
theorem krs_lt (E : Nat → Nat → Nat → Bool) (gd a0 i : Nat) : kcRs E gd a0 i < 1024 := kcK_lt _ 10
theorem kms_lt (E : Nat → Nat → Nat → Bool) (gd a0 d : Nat) : kcMs E gd a0 d < 1024 := kcK_lt _ 10
/-! what many answers -/
def manyR (E : Nat → Nat → Nat → Bool) (dy mo : Nat) (d o : Int32) (r : Int64) : Prop := kR (fun x : Nat × Nat => x.1 < dy ∧ d = nI x.1 ∧ x.2 < 10 ∧ o = nI x.2) (r = -1000000000000000) (fun x => r = Int64.ofNat (kcT2 E dy mo x.1 x.2))
theorem manyR_eq {E : Nat → Nat → Nat → Bool} {dy mo : Nat} {d o : Int32} {r q : Int64} (h9 : dy ≤ 9) (h1 : manyR E dy mo d o r) (h2 : manyR E dy mo d o q) : r = q :=
  kR_eq h1 h2 (fun x y a b => Prod.ext (kIe a.2.1 b.2.1 (by omega) (by omega)) (kIe a.2.2.2 b.2.2.2 (by omega) (by omega))) (fun a b => a.trans b.symm) (fun _ a b => a.trans b.symm)
theorem many_0 {E : Nat → Nat → Nat → Bool} {dy mo : Nat} {d o : Int32} (h : ¬ kIn d dy) : manyR E dy mo d o (-1000000000000000) := kR_0 (fun x q => h ⟨x.1, q.1, q.2.1⟩) rfl
theorem many_1 {E : Nat → Nat → Nat → Bool} {dy mo : Nat} {d o : Int32} (h : ¬ kIn o 10) : manyR E dy mo d o (-1000000000000000) := kR_0 (fun x q => h ⟨x.2, q.2.2.1, q.2.2.2⟩) rfl
theorem many_2 {E : Nat → Nat → Nat → Bool} {dy mo k j : Nat} {r : Int64} (hk : k < dy) (hj : j < 10) (hr : r = Int64.ofNat (kcT2 E dy mo k j)) : manyR E dy mo (nI k) (nI j) r := kR_1 (k, j) ⟨hk, rfl, hj, rfl⟩ hr
theorem kfil_s {i : Nat} {v : Int64} {f g : Nat → Int64} (h : ∀ j, j < i → f j = v) (e : g = vp_updL f i v) : ∀ j, j < i + 1 → g j = v := fun j hj => by
  by_cases q : j = i
  · subst q; exact kup_s e
  · rw [kup_n e q]; exact h j (by omega)
set_option maxHeartbeats 4000000 in
set_option maxRecDepth 100000 in
theorem c_ufillLX (l : Launch) (D : va_G) (cI cJ cC cZ cS : ClassId) (ar : Nat) (n : Nat) (f : Nat → Int64) (v : Int64) (hn : n < 2147483648) : skM l yJ7_fill_d0a16 cJ7_fill_d0a16 5 none 0 0 0 0 D (skT cI cJ cC cZ cS) [.ref ar, .long v] [ra_J ar cJ n f] (skV D (skT cI cJ cC cZ cS) (fun (u : va_W) => ∃ (g : Nat → Int64), (∀ j, j < n → g j = v) ∧ u = [ra_J ar cJ n g])) := by
  refine skM_of pf_J7_fill_d0a16 (Nat.le_of_ble_eq_true rfl) ?_
  intro p e s m below meth c A ls E hP hD hl
  refine skE_el E (fun hx hb hr hml hlocks hin hown hts hK hA => ?_)
  have hown : s.vm.findClass RJ7 = some m.cls := hown
  have hS : va_S A s.heap s.heap [] := va_S.rf
  have hl : lv_has ls 5 [(0, .ref ar), (1, .long v)] := hl
  refine lv_iconst (v := 0) hx hb dJ7_fill_d0a16_0 ic_0 ?_
  refine lv_istore_n (lv' := [(3, .int 0), (0, .ref ar), (1, .long v)]) hx hb dJ7_fill_d0a16_1 rfl hl (by decide) rfl (fun ls hl => ?_)
  refine lv_aload_n hx hb dJ7_fill_d0a16_2 rfl (lv_at hl 1 rfl) ?_
  refine va_alen (v := nI n) hx hb hK.1 hP 0 1 rfl rfl rfl dJ7_fill_d0a16_3 ?_
  refine lv_istore (lv' := [(4, .int (nI n)), (3, .int 0), (0, .ref ar), (1, .long v)]) hx hb dJ7_fill_d0a16_4 hl (by decide) rfl (fun ls hl => ?_)
  have lp_1 : ∀ (n_2 : Nat) (i : Nat) (fi : Nat → Int64) (H : Heap) (locs : List Loc) (ls : Array Slot), n - i < n_2 → (i ≤ n) → (∀ j, j < i → fi j = v) → va_P D vwCl [ra_J ar cJ n fi] H → va_D A [ra_J ar cJ n fi] → va_S A s.heap H locs → lv_has ls 5 [(4, .int (nI n)), (3, .int (nI i)), (0, .ref ar), (1, .long v)] → W p l e { frames := 0, cells := 0, slots := 0, locals := 0 } s m ([.ref ar, .long v] : List Value).toArray below meth c H locs 0 0 (MQ below (skV D (skT cI cJ cC cZ cS) (fun (u : va_W) => ∃ (g : Nat → Int64), (∀ j, j < n → g j = v) ∧ u = [ra_J ar cJ n g]) A) ([.ref ar, .long v] : List Value).toArray s 0 0 A) (F0 m 6 ls []) := by
    intro n_2
    induction n_2 with
    | zero => intro i fi H locs ls hm; exact absurd hm (Nat.not_lt_zero _)
    | succ n_2 ih_lp_1 =>
      intro i fi H locs ls hm hi hfi hP hD hS hl
      refine lv_iload_n hx hb dJ7_fill_d0a16_6 rfl (lv_at hl 1 rfl) ?_
      refine lv_iload hx hb dJ7_fill_d0a16_7 (lv_at hl 0 rfl) ?_
      refine lv_icmp_ge (tgt := 22) hx hb dJ7_fill_d0a16_9 (by decide) (fun c_3 => ?_) (fun c_3 => ?_)
      · have c_3 : n ≤ i := (nle n i (by omega) (by omega)).mp c_3
        exact sk_vret hx hb hr hlocks hK hP hD hS (⟨fi, (fun j hj => hfi j (by omega)), rfl⟩) (Nat.le_of_ble_eq_true rfl) (Nat.le_of_ble_eq_true rfl) dJ7_fill_d0a16_22
      · have c_3 : ¬ (n ≤ i) := fun h => c_3 ((nle n i (by omega) (by omega)).mpr h)
        refine lv_aload_n hx hb dJ7_fill_d0a16_12 rfl (lv_at hl 2 rfl) ?_
        refine lv_iload_n hx hb dJ7_fill_d0a16_13 rfl (lv_at hl 1 rfl) ?_
        refine lv_lload_n hx hb dJ7_fill_d0a16_14 rfl (lv_at hl 3 rfl) ?_
        refine sk_lastE (k := i) (ws' := fun f_4 => [ra_J ar cJ n f_4]) hx hb hK hP hD hS 0 1 rfl rfl (by omega) (by omega) (fun _ => rfl) dJ7_fill_d0a16_15 (fun f_4 H locs ef_5 hP hD hS => ?_)
        refine lv_iinc (v := nI (i + 1)) (lv' := [(3, .int (nI (i + 1))), (4, .int (nI n)), (0, .ref ar), (1, .long v)]) hx hb dJ7_fill_d0a16_16 hl (k := 1) rfl (ninc i 1 (by decide)) (by decide) rfl (fun ls hl => ?_)
        refine lv_goto (tgt := 6) hx hb dJ7_fill_d0a16_19 (by decide) ?_
        exact ih_lp_1 (i + 1) f_4 _ _ _ (by omega) (by omega) (kfil_s hfi ef_5) hP hD hS (lv_sub hl [1, 0, 2, 3] rfl)
  exact lp_1 (n - 0 + 1) 0 f _ _ _ (Nat.lt_succ_self _) (by omega) (fun j hj => absurd hj (Nat.not_lt_zero j)) hP hD hS (lv_sub hl [0, 1, 2, 3] rfl)
set_option maxHeartbeats 4000000 in
set_option maxRecDepth 100000 in
theorem c_ucountComings (l : Launch) (D : va_G) (cI cJ cC cZ cS : ClassId) (q : Nat → Nat) (gd : Nat) (gs : Nat) (e1 : Nat → Int32) (e2 : Nat → Int32) (e3 : Nat → Int32) (e5 : Nat → Int64) (Ed : Nat → Nat → Nat → Bool) (hgd : gd ≤ 9) (hgs : gs ≤ 9) (hld : kcLd Ed gd e1 e2) (hlv : kcLv Ed gd 0 e3) : skM l yX1_countComings cX1_countComings 5 none 1 24 0 0 D (skT cI cJ cC cZ cS) [.ref (q 11)] [ro_rrrrrrrnn (q 11) 1 (q 10) (q 67) (q 68) (q 69) (q 70) (q 71) (q 72) gd gs, ra_I (q 67) cI 90 e1, ra_I (q 68) cI 9 e2, ra_I (q 69) cI 10 e3, ra_J (q 71) cJ 100 e5] (skV D (skT cI cJ cC cZ cS) (fun (u : va_W) => ∃ (g5 : Nat → Int64), kcCm Ed gd gs gd g5 ∧ u = [ro_rrrrrrrnn (q 11) 1 (q 10) (q 67) (q 68) (q 69) (q 70) (q 71) (q 72) gd gs, ra_I (q 67) cI 90 e1, ra_I (q 68) cI 9 e2, ra_I (q 69) cI 10 e3, ra_J (q 71) cJ 100 g5])) := by
  refine skM_of pf_X1_countComings (Nat.le_of_ble_eq_true rfl) ?_
  intro p e s m below meth c A ls E hP hD hl
  refine skE_el E (fun hx hb hr hml hlocks hin hown hts hK hA => ?_)
  have hown : s.vm.findClass RX1 = some m.cls := hown
  have hS : va_S A s.heap s.heap [] := va_S.rf
  have hl : lv_has ls 5 [(0, .ref (q 11))] := hl
  refine lv_aload_n hx hb dX1_countComings_0 rfl (lv_at hl 0 rfl) ?_
  refine sk_get (v := .ref (q 71)) (C := RX1) (T := TX1) (N := 9) hx hb hts inlX1 hown hK hP 0 rfl rfl 5 (Nat.le_of_ble_eq_true rfl) w_2_100 rfl dX1_countComings_1 ?_
  refine lv_lconst (v := 0) hx hb dX1_countComings_4 (by decide) ?_
  refine sk_Sv (n := 2) (rest := []) (wr := fmR om_5_1 _) ⟨hx, hb, hml, hown, hts⟩ hl.1 (c_ufillLX l D cI cJ cC cZ cS (q 71) 100 e5 0 (by omega)) w_4_85 w_4_86 w_1_15 w_4_87 hd_J7_fill_d0a16_2 ⟨⟨(Nat.le_of_ble_eq_true rfl), (Nat.le_of_ble_eq_true rfl)⟩, (Nat.le_of_ble_eq_true rfl), (Nat.le_of_ble_eq_true rfl)⟩ hK hP hD hS hA (fmT om_5_1 0) (fmF om_5_1 0) (fm_C1 rfl rfl) (fm_R rfl rfl) (fm_nT om_5_1 0) (fm_nF om_5_1 0) (fm_di om_5_1 0) rfl rfl (Nat.le_of_ble_eq_true rfl) dX1_countComings_5 (fun u H locs hw hP hD hS => ?_)
  refine exE hw (fun g_1 hw1 => anE hw1 (fun hfl_2 eu_3 => ?_))
  clear hw hw1
  refine o_mgE (ws' := [ro_rrrrrrrnn (q 11) 1 (q 10) (q 67) (q 68) (q 69) (q 70) (q 71) (q 72) gd gs, ra_I (q 67) cI 90 e1, ra_I (q 68) cI 9 e2, ra_I (q 69) cI 10 e3, ra_J (q 71) cJ 100 g_1]) eu_3 hP hD rfl (fun hP hD => ?_)
  refine lv_aload_n hx hb dX1_countComings_8 rfl (lv_at hl 0 rfl) ?_
  refine sk_get (v := .ref (q 71)) (C := RX1) (T := TX1) (N := 9) hx hb hts inlX1 hown hK hP 0 rfl rfl 5 (Nat.le_of_ble_eq_true rfl) w_2_100 rfl dX1_countComings_9 ?_
  refine lv_aload_n hx hb dX1_countComings_12 rfl (lv_at hl 0 rfl) ?_
  refine sk_get (v := .int (nI gs)) (C := RX1) (T := TX1) (N := 9) hx hb hts inlX1 hown hK hP 0 rfl rfl 8 (Nat.le_of_ble_eq_true rfl) w_2_103 rfl dX1_countComings_13 ?_
  refine lv_lconst (v := 1) hx hb dX1_countComings_16 (by decide) ?_
  refine sk_lastE (k := gs) (ws' := fun f_4 => [ro_rrrrrrrnn (q 11) 1 (q 10) (q 67) (q 68) (q 69) (q 70) (q 71) (q 72) gd gs, ra_I (q 67) cI 90 e1, ra_I (q 68) cI 9 e2, ra_I (q 69) cI 10 e3, ra_J (q 71) cJ 100 f_4]) hx hb hK hP hD hS 4 1 rfl rfl (by omega) (by omega) (fun _ => rfl) dX1_countComings_17 (fun f_4 H locs ef_5 hP hD hS => ?_)
  refine lv_iconst (v := 0) hx hb dX1_countComings_18 ic_0 ?_
  refine lv_istore_n (lv' := [(1, .int 0), (0, .ref (q 11))]) hx hb dX1_countComings_19 rfl hl (by decide) rfl (fun ls hl => ?_)
  have lp_6 : ∀ (n_7 : Nat) (i : Nat) (a5 : Nat → Int64) (H : Heap) (locs : List Loc) (ls : Array Slot), gd - i < n_7 → (i ≤ gd) → (kcCm Ed gd gs i a5) → va_P D vwCl [ro_rrrrrrrnn (q 11) 1 (q 10) (q 67) (q 68) (q 69) (q 70) (q 71) (q 72) gd gs, ra_I (q 67) cI 90 e1, ra_I (q 68) cI 9 e2, ra_I (q 69) cI 10 e3, ra_J (q 71) cJ 100 a5] H → va_D A [ro_rrrrrrrnn (q 11) 1 (q 10) (q 67) (q 68) (q 69) (q 70) (q 71) (q 72) gd gs, ra_I (q 67) cI 90 e1, ra_I (q 68) cI 9 e2, ra_I (q 69) cI 10 e3, ra_J (q 71) cJ 100 a5] → va_S A s.heap H locs → lv_has ls 5 [(1, .int (nI i)), (0, .ref (q 11))] → W p l e { frames := 1, cells := 0, slots := 0, locals := 24 } s m ([.ref (q 11)] : List Value).toArray below meth c H locs 0 0 (MQ below (skV D (skT cI cJ cC cZ cS) (fun (u : va_W) => ∃ (g5 : Nat → Int64), kcCm Ed gd gs gd g5 ∧ u = [ro_rrrrrrrnn (q 11) 1 (q 10) (q 67) (q 68) (q 69) (q 70) (q 71) (q 72) gd gs, ra_I (q 67) cI 90 e1, ra_I (q 68) cI 9 e2, ra_I (q 69) cI 10 e3, ra_J (q 71) cJ 100 g5]) A) ([.ref (q 11)] : List Value).toArray s 0 0 A) (F0 m 20 ls []) := by
    intro n_7
    induction n_7 with
    | zero => intro i a5 H locs ls hm; exact absurd hm (Nat.not_lt_zero _)
    | succ n_7 ih_lp_6 =>
      intro i a5 H locs ls hm hi hcm_ hP hD hS hl
      refine lv_iload_n hx hb dX1_countComings_20 rfl (lv_at hl 0 rfl) ?_
      refine lv_aload_n hx hb dX1_countComings_21 rfl (lv_at hl 1 rfl) ?_
      refine sk_get (v := .int (nI gd)) (C := RX1) (T := TX1) (N := 9) hx hb hts inlX1 hown hK hP 0 rfl rfl 7 (Nat.le_of_ble_eq_true rfl) w_2_102 rfl dX1_countComings_22 ?_
      refine lv_icmp_ge (tgt := 109) hx hb dX1_countComings_25 (by decide) (fun c_8 => ?_) (fun c_8 => ?_)
      · have c_8 : gd ≤ i := (nle gd i (by omega) (by omega)).mp c_8
        exact sk_vret hx hb hr hlocks hK hP hD hS (⟨a5, (kcm_e hcm_ (by omega)), rfl⟩) (Nat.le_of_ble_eq_true rfl) (Nat.le_of_ble_eq_true rfl) dX1_countComings_109
      · have c_8 : ¬ (gd ≤ i) := fun h => c_8 ((nle gd i (by omega) (by omega)).mpr h)
        refine lv_iconst (v := 0) hx hb dX1_countComings_28 ic_0 ?_
        refine lv_istore_n (lv' := [(2, .int 0), (1, .int (nI i)), (0, .ref (q 11))]) hx hb dX1_countComings_29 rfl hl (by decide) rfl (fun ls hl => ?_)
        have lp_9 : ∀ (n_10 : Nat) (jj : Nat) (b5 : Nat → Int64) (H : Heap) (locs : List Loc) (ls : Array Slot), 10 - jj < n_10 → (jj ≤ 10) → (kcCk Ed gd gs i jj 0 b5) → va_P D vwCl [ro_rrrrrrrnn (q 11) 1 (q 10) (q 67) (q 68) (q 69) (q 70) (q 71) (q 72) gd gs, ra_I (q 67) cI 90 e1, ra_I (q 68) cI 9 e2, ra_I (q 69) cI 10 e3, ra_J (q 71) cJ 100 b5] H → va_D A [ro_rrrrrrrnn (q 11) 1 (q 10) (q 67) (q 68) (q 69) (q 70) (q 71) (q 72) gd gs, ra_I (q 67) cI 90 e1, ra_I (q 68) cI 9 e2, ra_I (q 69) cI 10 e3, ra_J (q 71) cJ 100 b5] → va_S A s.heap H locs → lv_has ls 5 [(2, .int (nI jj)), (1, .int (nI i)), (0, .ref (q 11))] → W p l e { frames := 1, cells := 0, slots := 0, locals := 24 } s m ([.ref (q 11)] : List Value).toArray below meth c H locs 0 0 (MQ below (skV D (skT cI cJ cC cZ cS) (fun (u : va_W) => ∃ (g5 : Nat → Int64), kcCm Ed gd gs gd g5 ∧ u = [ro_rrrrrrrnn (q 11) 1 (q 10) (q 67) (q 68) (q 69) (q 70) (q 71) (q 72) gd gs, ra_I (q 67) cI 90 e1, ra_I (q 68) cI 9 e2, ra_I (q 69) cI 10 e3, ra_J (q 71) cJ 100 g5]) A) ([.ref (q 11)] : List Value).toArray s 0 0 A) (F0 m 30 ls []) := by
          intro n_10
          induction n_10 with
          | zero => intro jj b5 H locs ls hm; exact absurd hm (Nat.not_lt_zero _)
          | succ n_10 ih_lp_9 =>
            intro jj b5 H locs ls hm hjj hcj hP hD hS hl
            refine lv_iload_n hx hb dX1_countComings_30 rfl (lv_at hl 0 rfl) ?_
            refine lv_bipush (v := 10) hx hb dX1_countComings_31 (by decide) ?_
            refine lv_icmp_ge (tgt := 103) hx hb dX1_countComings_33 (by decide) (fun c_11 => ?_) (fun c_11 => ?_)
            · have c_11 : 10 ≤ jj := (nle 10 jj (Nat.le_of_ble_eq_true rfl) (by omega)).mp c_11
              refine lv_iinc (v := nI (i + 1)) (lv' := [(1, .int (nI (i + 1))), (2, .int (nI jj)), (0, .ref (q 11))]) hx hb dX1_countComings_103 hl (k := 1) rfl (ninc i 1 (by decide)) (by decide) rfl (fun ls hl => ?_)
              refine lv_goto (tgt := 20) hx hb dX1_countComings_106 (by decide) ?_
              exact ih_lp_6 (i + 1) b5 _ _ _ (by omega) (by omega) (kck_i hcj (by omega)) hP hD hS (lv_sub hl [0, 2] rfl)
            · have c_11 : ¬ (10 ≤ jj) := fun h => c_11 ((nle 10 jj (Nat.le_of_ble_eq_true rfl) (by omega)).mpr h)
              refine lv_aload_n hx hb dX1_countComings_36 rfl (lv_at hl 2 rfl) ?_
              refine lv_iload_n hx hb dX1_countComings_37 rfl (lv_at hl 1 rfl) ?_
              refine lv_iload_n hx hb dX1_countComings_38 rfl (lv_at hl 0 rfl) ?_
              refine sk_Vi (q0 := 0) (n := 2) (rest := []) (wr := fmR om_5_1e _) ⟨hx, hb, hml, hown, hts⟩ hl.1 (c_knext l D cI cJ cC cZ cS q gd gs e1 e2 e3 i jj Ed hgd (by omega) (by omega) hld (klv_i hlv (by omega))) w_4_57 w_4_59 w_0_20 w_1_13 w_4_60 hd_X1_next_2 ⟨⟨(Nat.le_of_ble_eq_true rfl), (Nat.le_of_ble_eq_true rfl)⟩, (Nat.le_of_ble_eq_true rfl), (Nat.le_of_ble_eq_true rfl)⟩ hK hP hD hS hA (fmT om_5_1e 0) (fmF om_5_1e 0) (fm_C1 rfl rfl) (fm_R rfl rfl) (fm_nT om_5_1e 0) (fm_nF om_5_1e 0) (fm_di om_5_1e 0) rfl rfl rfl rfl (Nat.le_of_ble_eq_true rfl) dX1_countComings_39 (fun r_13 u H locs hw hP hD hS => ?_)
              refine exE hw (fun nq_12 hw1 => anE hw1 (fun hnx_14 hw2 => anE hw2 (fun er_16 eu_15 => ?_)))
              clear hw hw1 hw2
              subst er_16
              refine o_mgE (ws' := [ro_rrrrrrrnn (q 11) 1 (q 10) (q 67) (q 68) (q 69) (q 70) (q 71) (q 72) gd gs, ra_I (q 67) cI 90 e1, ra_I (q 68) cI 9 e2, ra_I (q 69) cI 10 e3, ra_J (q 71) cJ 100 b5]) eu_15 hP hD rfl (fun hP hD => ?_)
              have hl_17 := hnx_14.1
              refine lv_istore_n (lv' := [(3, .int (nI nq_12)), (2, .int (nI jj)), (1, .int (nI i)), (0, .ref (q 11))]) hx hb dX1_countComings_42 rfl hl (by decide) rfl (fun ls hl => ?_)
              refine lv_iconst (v := 0) hx hb dX1_countComings_43 ic_0 ?_
              refine lv_istore (lv' := [(4, .int 0), (3, .int (nI nq_12)), (2, .int (nI jj)), (1, .int (nI i)), (0, .ref (q 11))]) hx hb dX1_countComings_44 hl (by decide) rfl (fun ls hl => ?_)
              have lp_18 : ∀ (n_19 : Nat) (kk : Nat) (c5 : Nat → Int64) (H : Heap) (locs : List Loc) (ls : Array Slot), 10 - kk < n_19 → (kk ≤ 10) → (kcCk Ed gd gs i jj kk c5) → va_P D vwCl [ro_rrrrrrrnn (q 11) 1 (q 10) (q 67) (q 68) (q 69) (q 70) (q 71) (q 72) gd gs, ra_I (q 67) cI 90 e1, ra_I (q 68) cI 9 e2, ra_I (q 69) cI 10 e3, ra_J (q 71) cJ 100 c5] H → va_D A [ro_rrrrrrrnn (q 11) 1 (q 10) (q 67) (q 68) (q 69) (q 70) (q 71) (q 72) gd gs, ra_I (q 67) cI 90 e1, ra_I (q 68) cI 9 e2, ra_I (q 69) cI 10 e3, ra_J (q 71) cJ 100 c5] → va_S A s.heap H locs → lv_has ls 5 [(4, .int (nI kk)), (3, .int (nI nq_12)), (2, .int (nI jj)), (1, .int (nI i)), (0, .ref (q 11))] → W p l e { frames := 1, cells := 0, slots := 0, locals := 24 } s m ([.ref (q 11)] : List Value).toArray below meth c H locs 0 0 (MQ below (skV D (skT cI cJ cC cZ cS) (fun (u : va_W) => ∃ (g5 : Nat → Int64), kcCm Ed gd gs gd g5 ∧ u = [ro_rrrrrrrnn (q 11) 1 (q 10) (q 67) (q 68) (q 69) (q 70) (q 71) (q 72) gd gs, ra_I (q 67) cI 90 e1, ra_I (q 68) cI 9 e2, ra_I (q 69) cI 10 e3, ra_J (q 71) cJ 100 g5]) A) ([.ref (q 11)] : List Value).toArray s 0 0 A) (F0 m 46 ls []) := by
                intro n_19
                induction n_19 with
                | zero => intro kk c5 H locs ls hm; exact absurd hm (Nat.not_lt_zero _)
                | succ n_19 ih_lp_18 =>
                  intro kk c5 H locs ls hm hkk hck hP hD hS hl
                  refine lv_iload hx hb dX1_countComings_46 (lv_at hl 0 rfl) ?_
                  refine lv_bipush (v := 10) hx hb dX1_countComings_48 (by decide) ?_
                  refine lv_icmp_ge (tgt := 97) hx hb dX1_countComings_50 (by decide) (fun c_20 => ?_) (fun c_20 => ?_)
                  · have c_20 : 10 ≤ kk := (nle 10 kk (Nat.le_of_ble_eq_true rfl) (by omega)).mp c_20
                    refine lv_iinc (v := nI (jj + 1)) (lv' := [(2, .int (nI (jj + 1))), (4, .int (nI kk)), (3, .int (nI nq_12)), (1, .int (nI i)), (0, .ref (q 11))]) hx hb dX1_countComings_97 hl (k := 2) rfl (ninc jj 1 (by decide)) (by decide) rfl (fun ls hl => ?_)
                    refine lv_goto (tgt := 30) hx hb dX1_countComings_100 (by decide) ?_
                    exact ih_lp_9 (jj + 1) c5 _ _ _ (by omega) (by omega) (kck_j hck (by omega)) hP hD hS (lv_sub hl [0, 3, 4] rfl)
                  · have c_20 : ¬ (10 ≤ kk) := fun h => c_20 ((nle 10 kk (Nat.le_of_ble_eq_true rfl) (by omega)).mpr h)
                    refine lv_iload_n hx hb dX1_countComings_53 rfl (lv_at hl 1 rfl) ?_
                    refine lv_iload hx hb dX1_countComings_54 (lv_at hl 0 rfl) ?_
                    refine lv_ishr hx hb dX1_countComings_56 ?_
                    refine lv_iconst (v := 1) hx hb dX1_countComings_57 ic_1 ?_
                    refine lv_iand hx hb dX1_countComings_58 ?_
                    refine lv_iconst (v := 1) hx hb dX1_countComings_59 ic_1 ?_
                    refine lv_icmp_ne (tgt := 91) hx hb dX1_countComings_60 (by decide) (fun c_21 => ?_) (fun c_21 => ?_)
                    · skip
                      refine lv_iinc (v := nI (kk + 1)) (lv' := [(4, .int (nI (kk + 1))), (3, .int (nI nq_12)), (2, .int (nI jj)), (1, .int (nI i)), (0, .ref (q 11))]) hx hb dX1_countComings_91 hl (k := 0) rfl (ninc kk 1 (by decide)) (by decide) rfl (fun ls hl => ?_)
                      refine lv_goto (tgt := 46) hx hb dX1_countComings_94 (by decide) ?_
                      exact ih_lp_18 (kk + 1) c5 _ _ _ (by omega) (by omega) (kck_n hck (fun hq => c_21 ((ktb hnx_14.1 (by omega)).mpr ((hnx_14.2 kk (by omega)).mpr hq)))) hP hD hS (lv_sub hl [0, 1, 2, 3, 4] rfl)
                    · skip
                      refine lv_aload_n hx hb dX1_countComings_63 rfl (lv_at hl 4 rfl) ?_
                      refine sk_get (v := .ref (q 71)) (C := RX1) (T := TX1) (N := 9) hx hb hts inlX1 hown hK hP 0 rfl rfl 5 (Nat.le_of_ble_eq_true rfl) w_2_100 rfl dX1_countComings_64 ?_
                      refine lv_iload_n hx hb dX1_countComings_67 rfl (lv_at hl 3 rfl) ?_
                      refine lv_iconst (v := 1) hx hb dX1_countComings_68 ic_1 ?_
                      refine lv_iadd hx hb dX1_countComings_69 ?_
                      refine sk_top (nI (i + 1)) (nI_add i 1) ?_
                      refine lv_bipush (v := 10) hx hb dX1_countComings_70 (by decide) ?_
                      refine lv_imul hx hb dX1_countComings_72 ?_
                      refine sk_top (nI ((i + 1) * 10)) (nmul (i + 1) 10) ?_
                      refine lv_iload hx hb dX1_countComings_73 (lv_at hl 0 rfl) ?_
                      refine lv_iadd hx hb dX1_countComings_75 ?_
                      refine sk_top (nI ((i + 1) * 10 + kk)) (nI_add ((i + 1) * 10) kk) ?_
                      refine lv_dup2_11 hx hb dX1_countComings_76 rfl rfl ?_
                      refine va_lald hx hb hK.1 hP 4 1 rfl rfl (vin ((i + 1) * 10 + kk) 100 (by omega) (Nat.le_of_ble_eq_true rfl)) dX1_countComings_77 ?_
                      refine sk_topl (c5 ((i + 1) * 10 + kk)) (by rw [nI_clamp (by omega)]) ?_
                      refine lv_aload_n hx hb dX1_countComings_78 rfl (lv_at hl 4 rfl) ?_
                      refine sk_get (v := .ref (q 71)) (C := RX1) (T := TX1) (N := 9) hx hb hts inlX1 hown hK hP 0 rfl rfl 5 (Nat.le_of_ble_eq_true rfl) w_2_100 rfl dX1_countComings_79 ?_
                      refine lv_iload_n hx hb dX1_countComings_82 rfl (lv_at hl 3 rfl) ?_
                      refine lv_bipush (v := 10) hx hb dX1_countComings_83 (by decide) ?_
                      refine lv_imul hx hb dX1_countComings_85 ?_
                      refine sk_top (nI (i * 10)) (nmul i 10) ?_
                      refine lv_iload_n hx hb dX1_countComings_86 rfl (lv_at hl 2 rfl) ?_
                      refine lv_iadd hx hb dX1_countComings_87 ?_
                      refine sk_top (nI (i * 10 + jj)) (nI_add (i * 10) jj) ?_
                      refine va_lald hx hb hK.1 hP 4 1 rfl rfl (vin (i * 10 + jj) 100 (by omega) (Nat.le_of_ble_eq_true rfl)) dX1_countComings_88 ?_
                      refine sk_topl (c5 (i * 10 + jj)) (by rw [nI_clamp (by omega)]) ?_
                      refine lv_ladd hx hb dX1_countComings_89 ?_
                      refine sk_lastE (k := ((i + 1) * 10 + kk)) (ws' := fun f_22 => [ro_rrrrrrrnn (q 11) 1 (q 10) (q 67) (q 68) (q 69) (q 70) (q 71) (q 72) gd gs, ra_I (q 67) cI 90 e1, ra_I (q 68) cI 9 e2, ra_I (q 69) cI 10 e3, ra_J (q 71) cJ 100 f_22]) hx hb hK hP hD hS 4 1 rfl rfl (by omega) (by omega) (fun _ => rfl) dX1_countComings_90 (fun f_22 H locs ef_23 hP hD hS => ?_)
                      refine lv_iinc (v := nI (kk + 1)) (lv' := [(4, .int (nI (kk + 1))), (3, .int (nI nq_12)), (2, .int (nI jj)), (1, .int (nI i)), (0, .ref (q 11))]) hx hb dX1_countComings_91 hl (k := 0) rfl (ninc kk 1 (by decide)) (by decide) rfl (fun ls hl => ?_)
                      refine lv_goto (tgt := 46) hx hb dX1_countComings_94 (by decide) ?_
                      exact ih_lp_18 (kk + 1) f_22 _ _ _ (by omega) (by omega) (kck_y hck ef_23 rfl (by omega) (by omega) (by omega) ((hnx_14.2 kk (by omega)).mp ((ktb hnx_14.1 (by omega)).mp c_21))) hP hD hS (lv_sub hl [0, 1, 2, 3, 4] rfl)
              exact lp_18 (10 - 0 + 1) 0 b5 _ _ _ (Nat.lt_succ_self _) (by omega) hcj hP hD hS (lv_sub hl [0, 1, 2, 3, 4] rfl)
        exact lp_9 (10 - 0 + 1) 0 a5 _ _ _ (Nat.lt_succ_self _) (by omega) (kck_0 hcm_) hP hD hS (lv_sub hl [0, 1, 2] rfl)
  exact lp_6 (gd - 0 + 1) 0 f_4 _ _ _ (Nat.lt_succ_self _) (by omega) (kcm_0 hfl_2 ef_5 (by omega) hgd) hP hD hS (lv_sub hl [0, 1] rfl)
set_option maxHeartbeats 4000000 in
set_option maxRecDepth 100000 in
theorem c_utimesOf (l : Launch) (D : va_G) (cI cJ cC cZ cS : ClassId) (q : Nat → Nat) (gd : Nat) (gs : Nat) (e4 : Nat → Int64) (e5 : Nat → Int64) (d : Nat) (ah : Nat) (Ed : Nat → Nat → Nat → Bool) (hgd : gd ≤ 9) (hgs : gs ≤ 9) (hdg : d < gd) (hcm : kcCm Ed gd gs gd e5) (hwy : kcWy Ed gd 0 e4) (hah : ah < 10) : skM l yX1_timesOf cX1_timesOf 4 (some .long) 0 0 0 0 D (skT cI cJ cC cZ cS) [.ref (q 11), .int (nI d), .int (nI ah)] [ro_rrrrrrrnn (q 11) 1 (q 10) (q 67) (q 68) (q 69) (q 70) (q 71) (q 72) gd gs, ra_J (q 70) cJ 100 e4, ra_J (q 71) cJ 100 e5] (skL D (skT cI cJ cC cZ cS) (fun (r : Int64) (u : va_W) => r = Int64.ofNat (kcT2 Ed gd gs d ah) ∧ u = [ro_rrrrrrrnn (q 11) 1 (q 10) (q 67) (q 68) (q 69) (q 70) (q 71) (q 72) gd gs, ra_J (q 70) cJ 100 e4, ra_J (q 71) cJ 100 e5])) := by
  refine skM_of pf_X1_timesOf (Nat.le_of_ble_eq_true rfl) ?_
  intro p e s m below meth c A ls E hP hD hl
  refine skE_el E (fun hx hb hr hml hlocks hin hown hts hK hA => ?_)
  have hown : s.vm.findClass RX1 = some m.cls := hown
  have hS : va_S A s.heap s.heap [] := va_S.rf
  have hl : lv_has ls 4 [(0, .ref (q 11)), (1, .int (nI d)), (2, .int (nI ah))] := hl
  refine lv_iload_n hx hb dX1_timesOf_0 rfl (lv_at hl 1 rfl) ?_
  refine lv_iconst (v := 1) hx hb dX1_timesOf_1 ic_1 ?_
  refine lv_iadd hx hb dX1_timesOf_2 ?_
  refine sk_top (nI (d + 1)) (nI_add d 1) ?_
  refine lv_bipush (v := 10) hx hb dX1_timesOf_3 (by decide) ?_
  refine lv_imul hx hb dX1_timesOf_5 ?_
  refine sk_top (nI ((d + 1) * 10)) (nmul (d + 1) 10) ?_
  refine lv_iload_n hx hb dX1_timesOf_6 rfl (lv_at hl 2 rfl) ?_
  refine lv_iadd hx hb dX1_timesOf_7 ?_
  refine sk_top (nI ((d + 1) * 10 + ah)) (nI_add ((d + 1) * 10) ah) ?_
  refine lv_istore_n (lv' := [(3, .int (nI ((d + 1) * 10 + ah))), (0, .ref (q 11)), (1, .int (nI d)), (2, .int (nI ah))]) hx hb dX1_timesOf_8 rfl hl (by decide) rfl (fun ls hl => ?_)
  refine lv_aload_n hx hb dX1_timesOf_9 rfl (lv_at hl 1 rfl) ?_
  refine sk_get (v := .ref (q 71)) (C := RX1) (T := TX1) (N := 9) hx hb hts inlX1 hown hK hP 0 rfl rfl 5 (Nat.le_of_ble_eq_true rfl) w_2_100 rfl dX1_timesOf_10 ?_
  refine lv_iload_n hx hb dX1_timesOf_13 rfl (lv_at hl 0 rfl) ?_
  refine va_lald hx hb hK.1 hP 2 1 rfl rfl (vin ((d + 1) * 10 + ah) 100 (by omega) (Nat.le_of_ble_eq_true rfl)) dX1_timesOf_14 ?_
  refine sk_topl (e5 ((d + 1) * 10 + ah)) (by rw [nI_clamp (by omega)]) ?_
  refine lv_aload_n hx hb dX1_timesOf_15 rfl (lv_at hl 1 rfl) ?_
  refine sk_get (v := .ref (q 70)) (C := RX1) (T := TX1) (N := 9) hx hb hts inlX1 hown hK hP 0 rfl rfl 4 (Nat.le_of_ble_eq_true rfl) w_2_99 rfl dX1_timesOf_16 ?_
  refine lv_iload_n hx hb dX1_timesOf_19 rfl (lv_at hl 0 rfl) ?_
  refine va_lald hx hb hK.1 hP 1 1 rfl rfl (vin ((d + 1) * 10 + ah) 100 (by omega) (Nat.le_of_ble_eq_true rfl)) dX1_timesOf_20 ?_
  refine sk_topl (e4 ((d + 1) * 10 + ah)) (by rw [nI_clamp (by omega)]) ?_
  refine lv_lmul hx hb dX1_timesOf_21 ?_
  refine sk_topl (Int64.ofNat (kcT2 Ed gd gs d ah)) (kt2_x hcm hwy (by omega) hdg hah) ?_
  exact sk_lret hx hb hr hlocks hK hP hD hS (⟨rfl, rfl⟩) (Nat.le_of_ble_eq_true rfl) (Nat.le_of_ble_eq_true rfl) dX1_timesOf_22
set_option maxHeartbeats 4000000 in
set_option maxRecDepth 100000 in
theorem c_umostLeft (l : Launch) (D : va_G) (cI cJ cC cZ cS : ClassId) (q : Nat → Nat) (gd : Nat) (gs : Nat) (e4 : Nat → Int64) (e5 : Nat → Int64) (d : Nat) (Ed : Nat → Nat → Nat → Bool) (hgd : gd ≤ 9) (hgs : gs ≤ 9) (hdg : d < gd) (hcm : kcCm Ed gd gs gd e5) (hwy : kcWy Ed gd 0 e4) : skM l yX1_mostLeft cX1_mostLeft 5 (some .long) 1 23 0 0 D (skT cI cJ cC cZ cS) [.ref (q 11), .int (nI d)] [ro_rrrrrrrnn (q 11) 1 (q 10) (q 67) (q 68) (q 69) (q 70) (q 71) (q 72) gd gs, ra_J (q 70) cJ 100 e4, ra_J (q 71) cJ 100 e5] (skL D (skT cI cJ cC cZ cS) (fun (r : Int64) (u : va_W) => r = Int64.ofNat (kcMx (kcT2 Ed gd gs d) 10) ∧ u = [ro_rrrrrrrnn (q 11) 1 (q 10) (q 67) (q 68) (q 69) (q 70) (q 71) (q 72) gd gs, ra_J (q 70) cJ 100 e4, ra_J (q 71) cJ 100 e5])) := by
  refine skM_of pf_X1_mostLeft (Nat.le_of_ble_eq_true rfl) ?_
  intro p e s m below meth c A ls E hP hD hl
  refine skE_el E (fun hx hb hr hml hlocks hin hown hts hK hA => ?_)
  have hown : s.vm.findClass RX1 = some m.cls := hown
  have hS : va_S A s.heap s.heap [] := va_S.rf
  have hl : lv_has ls 5 [(0, .ref (q 11)), (1, .int (nI d))] := hl
  refine lv_lconst (v := 0) hx hb dX1_mostLeft_0 (by decide) ?_
  refine lv_lstore_n (lv' := [(2, .long 0), (0, .ref (q 11)), (1, .int (nI d))]) hx hb dX1_mostLeft_1 rfl hl (by decide) rfl (fun ls hl => ?_)
  refine lv_iconst (v := 0) hx hb dX1_mostLeft_2 ic_0 ?_
  refine lv_istore (lv' := [(4, .int 0), (2, .long 0), (0, .ref (q 11)), (1, .int (nI d))]) hx hb dX1_mostLeft_3 hl (by decide) rfl (fun ls hl => ?_)
  have lp_1 : ∀ (n_2 : Nat) (i : Nat) (ml : Int64) (H : Heap) (locs : List Loc) (ls : Array Slot), 10 - i < n_2 → (i ≤ 10) → (ml = Int64.ofNat (kcMx (kcT2 Ed gd gs d) i)) → va_P D vwCl [ro_rrrrrrrnn (q 11) 1 (q 10) (q 67) (q 68) (q 69) (q 70) (q 71) (q 72) gd gs, ra_J (q 70) cJ 100 e4, ra_J (q 71) cJ 100 e5] H → va_D A [ro_rrrrrrrnn (q 11) 1 (q 10) (q 67) (q 68) (q 69) (q 70) (q 71) (q 72) gd gs, ra_J (q 70) cJ 100 e4, ra_J (q 71) cJ 100 e5] → va_S A s.heap H locs → lv_has ls 5 [(4, .int (nI i)), (2, .long ml), (0, .ref (q 11)), (1, .int (nI d))] → W p l e { frames := 1, cells := 0, slots := 0, locals := 23 } s m ([.ref (q 11), .int (nI d)] : List Value).toArray below meth c H locs 0 0 (MQ below (skL D (skT cI cJ cC cZ cS) (fun (r : Int64) (u : va_W) => r = Int64.ofNat (kcMx (kcT2 Ed gd gs d) 10) ∧ u = [ro_rrrrrrrnn (q 11) 1 (q 10) (q 67) (q 68) (q 69) (q 70) (q 71) (q 72) gd gs, ra_J (q 70) cJ 100 e4, ra_J (q 71) cJ 100 e5]) A) ([.ref (q 11), .int (nI d)] : List Value).toArray s 0 0 A) (F0 m 5 ls []) := by
    intro n_2
    induction n_2 with
    | zero => intro i ml H locs ls hm; exact absurd hm (Nat.not_lt_zero _)
    | succ n_2 ih_lp_1 =>
      intro i ml H locs ls hm hi hmlv hP hD hS hl
      refine lv_iload hx hb dX1_mostLeft_5 (lv_at hl 0 rfl) ?_
      refine lv_bipush (v := 10) hx hb dX1_mostLeft_7 (by decide) ?_
      refine lv_icmp_ge (tgt := 30) hx hb dX1_mostLeft_9 (by decide) (fun c_3 => ?_) (fun c_3 => ?_)
      · have c_3 : 10 ≤ i := (nle 10 i (Nat.le_of_ble_eq_true rfl) (by omega)).mp c_3
        have hme : ml = Int64.ofNat (kcMx (kcT2 Ed gd gs d) 10) := by rw [hmlv, show i = 10 by omega]
        subst hme
        refine lv_lload_n hx hb dX1_mostLeft_30 rfl (lv_at hl 1 rfl) ?_
        exact sk_lret hx hb hr hlocks hK hP hD hS (⟨rfl, rfl⟩) (Nat.le_of_ble_eq_true rfl) (Nat.le_of_ble_eq_true rfl) dX1_mostLeft_31
      · have c_3 : ¬ (10 ≤ i) := fun h => c_3 ((nle 10 i (Nat.le_of_ble_eq_true rfl) (by omega)).mpr h)
        refine lv_lload_n hx hb dX1_mostLeft_12 rfl (lv_at hl 1 rfl) ?_
        refine lv_aload_n hx hb dX1_mostLeft_13 rfl (lv_at hl 2 rfl) ?_
        refine lv_iload_n hx hb dX1_mostLeft_14 rfl (lv_at hl 3 rfl) ?_
        refine lv_iload hx hb dX1_mostLeft_15 (lv_at hl 0 rfl) ?_
        refine sk_Vl (q0 := 0) (n := 2) (rest := [.long ml]) (wr := fmR om_3_7 _) ⟨hx, hb, hml, hown, hts⟩ hl.1 (c_utimesOf l D cI cJ cC cZ cS q gd gs e4 e5 d i Ed hgd hgs hdg hcm hwy (by omega)) w_4_234 w_4_89 w_4_90 w_1_13 w_4_91 hd_X1_timesOf_2 ⟨⟨(Nat.le_of_ble_eq_true rfl), (Nat.le_of_ble_eq_true rfl)⟩, (Nat.le_of_ble_eq_true rfl), (Nat.le_of_ble_eq_true rfl)⟩ hK hP hD hS hA (fmT om_3_7 0) (fmF om_3_7 0) (fm_C1 rfl rfl) (fm_R rfl rfl) (fm_nT om_3_7 0) (fm_nF om_3_7 0) (fm_di om_3_7 0) rfl rfl rfl rfl (Nat.le_of_ble_eq_true rfl) dX1_mostLeft_17 (fun r_4 u H locs hw hP hD hS => ?_)
        refine anE hw (fun er_6 eu_5 => ?_)
        clear hw
        subst er_6
        refine o_mgE (ws' := [ro_rrrrrrrnn (q 11) 1 (q 10) (q 67) (q 68) (q 69) (q 70) (q 71) (q 72) gd gs, ra_J (q 70) cJ 100 e4, ra_J (q 71) cJ 100 e5]) eu_5 hP hD rfl (fun hP hD => ?_)
        refine va_mmax_long hx hb (by rw [hml]; exact hl.1.symm) hown (hts _ w_4_165) (hts _ w_4_0) (hts _ w_1_3) (hts _ w_4_1) (Nat.le_of_ble_eq_true rfl) (Nat.le_of_ble_eq_true rfl) (Nat.le_of_ble_eq_true rfl) (Nat.le_of_ble_eq_true rfl) dX1_mostLeft_20 ?_
        have hb1_ := kmx_b Ed (a0 := gs) (n := i) hgd hdg (by omega)
        have hb2_ := kt2_b Ed (a0 := gs) (m := i) hgd hdg (by omega)
        refine sk_topl (Int64.ofNat (kcMx (kcT2 Ed gd gs d) (i + 1))) (kmx_s hmlv (by omega) (by omega)) ?_
        refine lv_lstore_n (lv' := [(2, .long (Int64.ofNat (kcMx (kcT2 Ed gd gs d) (i + 1)))), (4, .int (nI i)), (0, .ref (q 11)), (1, .int (nI d))]) hx hb dX1_mostLeft_23 rfl hl (by decide) rfl (fun ls hl => ?_)
        refine lv_iinc (v := nI (i + 1)) (lv' := [(4, .int (nI (i + 1))), (2, .long (Int64.ofNat (kcMx (kcT2 Ed gd gs d) (i + 1)))), (0, .ref (q 11)), (1, .int (nI d))]) hx hb dX1_mostLeft_24 hl (k := 1) rfl (ninc i 1 (by decide)) (by decide) rfl (fun ls hl => ?_)
        refine lv_goto (tgt := 5) hx hb dX1_mostLeft_27 (by decide) ?_
        exact ih_lp_1 (i + 1) (Int64.ofNat (kcMx (kcT2 Ed gd gs d) (i + 1))) _ _ _ (by omega) (by omega) rfl hP hD hS (lv_sub hl [0, 1, 2, 3] rfl)
  exact lp_1 (10 - 0 + 1) 0 0 _ _ _ (Nat.lt_succ_self _) (by omega) rfl hP hD hS (lv_sub hl [0, 1, 2, 3] rfl)
set_option maxHeartbeats 4000000 in
set_option maxRecDepth 100000 in
theorem c_umoodsOf (l : Launch) (D : va_G) (cI cJ cC cZ cS : ClassId) (q : Nat → Nat) (gd : Nat) (gs : Nat) (e1 : Nat → Int32) (e2 : Nat → Int32) (e3 : Nat → Int32) (d : Nat) (Ed : Nat → Nat → Nat → Bool) (hgd : gd ≤ 9) (hgs : gs ≤ 9) (hld : kcLd Ed gd e1 e2) (hlv : kcLv Ed gd 0 e3) (hd : d < gd) : skM l yX1_moodsOf cX1_moodsOf 6 (some .int) 1 22 0 0 D (skT cI cJ cC cZ cS) [.ref (q 11), .int (nI d)] [ro_rrrrrrrnn (q 11) 1 (q 10) (q 67) (q 68) (q 69) (q 70) (q 71) (q 72) gd gs, ra_I (q 67) cI 90 e1, ra_I (q 68) cI 9 e2, ra_I (q 69) cI 10 e3] (skI D (skT cI cJ cC cZ cS) (fun (r : Int32) (u : va_W) => r = nI (kcMs Ed gd gs d) ∧ u = [ro_rrrrrrrnn (q 11) 1 (q 10) (q 67) (q 68) (q 69) (q 70) (q 71) (q 72) gd gs, ra_I (q 67) cI 90 e1, ra_I (q 68) cI 9 e2, ra_I (q 69) cI 10 e3])) := by
  refine skM_of pf_X1_moodsOf (Nat.le_of_ble_eq_true rfl) ?_
  intro p e s m below meth c A ls E hP hD hl
  refine skE_el E (fun hx hb hr hml hlocks hin hown hts hK hA => ?_)
  have hown : s.vm.findClass RX1 = some m.cls := hown
  have hS : va_S A s.heap s.heap [] := va_S.rf
  have hl : lv_has ls 6 [(0, .ref (q 11)), (1, .int (nI d))] := hl
  refine lv_iconst (v := 1) hx hb dX1_moodsOf_0 ic_1 ?_
  refine lv_aload_n hx hb dX1_moodsOf_1 rfl (lv_at hl 0 rfl) ?_
  refine sk_get (v := .int (nI gs)) (C := RX1) (T := TX1) (N := 9) hx hb hts inlX1 hown hK hP 0 rfl rfl 8 (Nat.le_of_ble_eq_true rfl) w_2_103 rfl dX1_moodsOf_2 ?_
  refine lv_ishl hx hb dX1_moodsOf_5 ?_
  refine sk_top (nI (kcRs Ed gd gs 0)) ((kshl1 (by omega)).1.trans (congrArg nI (krs_0 Ed gd (by omega)).symm)) ?_
  refine lv_istore_n (lv' := [(2, .int (nI (kcRs Ed gd gs 0))), (0, .ref (q 11)), (1, .int (nI d))]) hx hb dX1_moodsOf_6 rfl hl (by decide) rfl (fun ls hl => ?_)
  refine lv_iconst (v := 0) hx hb dX1_moodsOf_7 ic_0 ?_
  refine lv_istore_n (lv' := [(3, .int 0), (2, .int (nI (kcRs Ed gd gs 0))), (0, .ref (q 11)), (1, .int (nI d))]) hx hb dX1_moodsOf_8 rfl hl (by decide) rfl (fun ls hl => ?_)
  have lp_1 : ∀ (n_2 : Nat) (i : Nat) (ms : Nat) (H : Heap) (locs : List Loc) (ls : Array Slot), d + 1 - i < n_2 → (i ≤ d + 1) → (ms = kcRs Ed gd gs i) → va_P D vwCl [ro_rrrrrrrnn (q 11) 1 (q 10) (q 67) (q 68) (q 69) (q 70) (q 71) (q 72) gd gs, ra_I (q 67) cI 90 e1, ra_I (q 68) cI 9 e2, ra_I (q 69) cI 10 e3] H → va_D A [ro_rrrrrrrnn (q 11) 1 (q 10) (q 67) (q 68) (q 69) (q 70) (q 71) (q 72) gd gs, ra_I (q 67) cI 90 e1, ra_I (q 68) cI 9 e2, ra_I (q 69) cI 10 e3] → va_S A s.heap H locs → lv_has ls 6 [(3, .int (nI i)), (2, .int (nI ms)), (0, .ref (q 11)), (1, .int (nI d))] → W p l e { frames := 1, cells := 0, slots := 0, locals := 22 } s m ([.ref (q 11), .int (nI d)] : List Value).toArray below meth c H locs 0 0 (MQ below (skI D (skT cI cJ cC cZ cS) (fun (r : Int32) (u : va_W) => r = nI (kcMs Ed gd gs d) ∧ u = [ro_rrrrrrrnn (q 11) 1 (q 10) (q 67) (q 68) (q 69) (q 70) (q 71) (q 72) gd gs, ra_I (q 67) cI 90 e1, ra_I (q 68) cI 9 e2, ra_I (q 69) cI 10 e3]) A) ([.ref (q 11), .int (nI d)] : List Value).toArray s 0 0 A) (F0 m 9 ls []) := by
    intro n_2
    induction n_2 with
    | zero => intro i ms H locs ls hm; exact absurd hm (Nat.not_lt_zero _)
    | succ n_2 ih_lp_1 =>
      intro i ms H locs ls hm hi hms hP hD hS hl
      refine lv_iload_n hx hb dX1_moodsOf_9 rfl (lv_at hl 0 rfl) ?_
      refine lv_iload_n hx hb dX1_moodsOf_10 rfl (lv_at hl 3 rfl) ?_
      refine lv_icmp_gt (tgt := 64) hx hb dX1_moodsOf_11 (by decide) (fun c_3 => ?_) (fun c_3 => ?_)
      · have c_3 : d < i := (nlt d i (by omega) (by omega)).mp c_3
        have hme : ms = kcMs Ed gd gs d := by rw [hms, show i = d + 1 by omega]; exact krs_m (by omega) hd
        subst hme
        refine lv_iload_n hx hb dX1_moodsOf_64 rfl (lv_at hl 1 rfl) ?_
        exact sk_iret hx hb hr rfl hlocks hK hP hD hS (⟨rfl, rfl⟩) (Nat.le_of_ble_eq_true rfl) (Nat.le_of_ble_eq_true rfl) dX1_moodsOf_65
      · have c_3 : ¬ (d < i) := fun h => c_3 ((nlt d i (by omega) (by omega)).mpr h)
        have hm9 : ms < 1024 := by rw [hms]; exact krs_lt _ _ _ _
        refine lv_iconst (v := 0) hx hb dX1_moodsOf_14 ic_0 ?_
        refine lv_istore (lv' := [(4, .int 0), (3, .int (nI i)), (2, .int (nI ms)), (0, .ref (q 11)), (1, .int (nI d))]) hx hb dX1_moodsOf_15 hl (by decide) rfl (fun ls hl => ?_)
        refine lv_iconst (v := 0) hx hb dX1_moodsOf_17 ic_0 ?_
        refine lv_istore (lv' := [(5, .int 0), (4, .int 0), (3, .int (nI i)), (2, .int (nI ms)), (0, .ref (q 11)), (1, .int (nI d))]) hx hb dX1_moodsOf_18 hl (by decide) rfl (fun ls hl => ?_)
        have lp_4 : ∀ (n_5 : Nat) (jj : Nat) (rc : Nat) (H : Heap) (locs : List Loc) (ls : Array Slot), 10 - jj < n_5 → (jj ≤ 10) → (rc = kcRe Ed gd gs i jj) → va_P D vwCl [ro_rrrrrrrnn (q 11) 1 (q 10) (q 67) (q 68) (q 69) (q 70) (q 71) (q 72) gd gs, ra_I (q 67) cI 90 e1, ra_I (q 68) cI 9 e2, ra_I (q 69) cI 10 e3] H → va_D A [ro_rrrrrrrnn (q 11) 1 (q 10) (q 67) (q 68) (q 69) (q 70) (q 71) (q 72) gd gs, ra_I (q 67) cI 90 e1, ra_I (q 68) cI 9 e2, ra_I (q 69) cI 10 e3] → va_S A s.heap H locs → lv_has ls 6 [(5, .int (nI jj)), (4, .int (nI rc)), (3, .int (nI i)), (2, .int (nI ms)), (0, .ref (q 11)), (1, .int (nI d))] → W p l e { frames := 1, cells := 0, slots := 0, locals := 22 } s m ([.ref (q 11), .int (nI d)] : List Value).toArray below meth c H locs 0 0 (MQ below (skI D (skT cI cJ cC cZ cS) (fun (r : Int32) (u : va_W) => r = nI (kcMs Ed gd gs d) ∧ u = [ro_rrrrrrrnn (q 11) 1 (q 10) (q 67) (q 68) (q 69) (q 70) (q 71) (q 72) gd gs, ra_I (q 67) cI 90 e1, ra_I (q 68) cI 9 e2, ra_I (q 69) cI 10 e3]) A) ([.ref (q 11), .int (nI d)] : List Value).toArray s 0 0 A) (F0 m 20 ls []) := by
          intro n_5
          induction n_5 with
          | zero => intro jj rc H locs ls hm; exact absurd hm (Nat.not_lt_zero _)
          | succ n_5 ih_lp_4 =>
            intro jj rc H locs ls hm hjj hrc hP hD hS hl
            refine lv_iload hx hb dX1_moodsOf_20 (lv_at hl 0 rfl) ?_
            refine lv_bipush (v := 10) hx hb dX1_moodsOf_22 (by decide) ?_
            refine lv_icmp_ge (tgt := 55) hx hb dX1_moodsOf_24 (by decide) (fun c_6 => ?_) (fun c_6 => ?_)
            · have c_6 : 10 ≤ jj := (nle 10 jj (Nat.le_of_ble_eq_true rfl) (by omega)).mp c_6
              refine lv_iload hx hb dX1_moodsOf_55 (lv_at hl 1 rfl) ?_
              refine lv_istore_n (lv' := [(2, .int (nI rc)), (5, .int (nI jj)), (4, .int (nI rc)), (3, .int (nI i)), (0, .ref (q 11)), (1, .int (nI d))]) hx hb dX1_moodsOf_57 rfl hl (by decide) rfl (fun ls hl => ?_)
              refine lv_iinc (v := nI (i + 1)) (lv' := [(3, .int (nI (i + 1))), (2, .int (nI rc)), (5, .int (nI jj)), (4, .int (nI rc)), (0, .ref (q 11)), (1, .int (nI d))]) hx hb dX1_moodsOf_58 hl (k := 3) rfl (ninc i 1 (by decide)) (by decide) rfl (fun ls hl => ?_)
              refine lv_goto (tgt := 9) hx hb dX1_moodsOf_61 (by decide) ?_
              exact ih_lp_1 (i + 1) rc _ _ _ (by omega) (by omega) (by rw [hrc]; exact krs_s (by omega)) hP hD hS (lv_sub hl [0, 1, 4, 5] rfl)
            · have c_6 : ¬ (10 ≤ jj) := fun h => c_6 ((nle 10 jj (Nat.le_of_ble_eq_true rfl) (by omega)).mpr h)
              refine lv_iload_n hx hb dX1_moodsOf_27 rfl (lv_at hl 3 rfl) ?_
              refine lv_iload hx hb dX1_moodsOf_28 (lv_at hl 0 rfl) ?_
              refine lv_ishr hx hb dX1_moodsOf_30 ?_
              refine lv_iconst (v := 1) hx hb dX1_moodsOf_31 ic_1 ?_
              refine lv_iand hx hb dX1_moodsOf_32 ?_
              refine lv_iconst (v := 1) hx hb dX1_moodsOf_33 ic_1 ?_
              refine lv_icmp_ne (tgt := 49) hx hb dX1_moodsOf_34 (by decide) (fun c_7 => ?_) (fun c_7 => ?_)
              · skip
                refine lv_iinc (v := nI (jj + 1)) (lv' := [(5, .int (nI (jj + 1))), (4, .int (nI rc)), (3, .int (nI i)), (2, .int (nI ms)), (0, .ref (q 11)), (1, .int (nI d))]) hx hb dX1_moodsOf_49 hl (k := 0) rfl (ninc jj 1 (by decide)) (by decide) rfl (fun ls hl => ?_)
                refine lv_goto (tgt := 20) hx hb dX1_moodsOf_52 (by decide) ?_
                exact ih_lp_4 (jj + 1) rc _ _ _ (by omega) (by omega) (hrc.trans (kre_n (fun hq => c_7 ((ktb hm9 (by omega)).mpr (by rw [hms]; exact (krs_b (show jj < 10 by omega)).mpr hq))))) hP hD hS (lv_sub hl [0, 1, 2, 3, 4, 5] rfl)
              · skip
                refine lv_iload hx hb dX1_moodsOf_37 (lv_at hl 1 rfl) ?_
                refine lv_aload_n hx hb dX1_moodsOf_39 rfl (lv_at hl 4 rfl) ?_
                refine lv_iload_n hx hb dX1_moodsOf_40 rfl (lv_at hl 2 rfl) ?_
                refine lv_iload hx hb dX1_moodsOf_41 (lv_at hl 0 rfl) ?_
                refine sk_Vi (q0 := 0) (n := 2) (rest := [.int (nI rc)]) (wr := fmR om_4_f _) ⟨hx, hb, hml, hown, hts⟩ hl.1 (c_knext l D cI cJ cC cZ cS q gd gs e1 e2 e3 i jj Ed hgd (by omega) (by omega) hld (klv_i hlv (by omega))) w_4_57 w_4_59 w_0_20 w_1_13 w_4_60 hd_X1_next_2 ⟨⟨(Nat.le_of_ble_eq_true rfl), (Nat.le_of_ble_eq_true rfl)⟩, (Nat.le_of_ble_eq_true rfl), (Nat.le_of_ble_eq_true rfl)⟩ hK hP hD hS hA (fmT om_4_f 0) (fmF om_4_f 0) (fm_C1 rfl rfl) (fm_R rfl rfl) (fm_nT om_4_f 0) (fm_nF om_4_f 0) (fm_di om_4_f 0) rfl rfl rfl rfl (Nat.le_of_ble_eq_true rfl) dX1_moodsOf_43 (fun r_9 u H locs hw hP hD hS => ?_)
                refine exE hw (fun nq_8 hw1 => anE hw1 (fun hnx_10 hw2 => anE hw2 (fun er_12 eu_11 => ?_)))
                clear hw hw1 hw2
                subst er_12
                refine o_mgE (ws' := [ro_rrrrrrrnn (q 11) 1 (q 10) (q 67) (q 68) (q 69) (q 70) (q 71) (q 72) gd gs, ra_I (q 67) cI 90 e1, ra_I (q 68) cI 9 e2, ra_I (q 69) cI 10 e3]) eu_11 hP hD rfl (fun hP hD => ?_)
                refine lv_ior hx hb dX1_moodsOf_46 ?_
                refine sk_top (nI (kcRe Ed gd gs i (jj + 1))) (by rw [hrc]; exact kre_y hnx_10 ((krs_b (E := Ed) (gd := gd) (a0 := gs) (i := i) (show jj < 10 by omega)).mp (by rw [← hms]; exact (ktb hm9 (by omega)).mp c_7))) ?_
                refine lv_istore (lv' := [(4, .int (nI (kcRe Ed gd gs i (jj + 1)))), (5, .int (nI jj)), (3, .int (nI i)), (2, .int (nI ms)), (0, .ref (q 11)), (1, .int (nI d))]) hx hb dX1_moodsOf_47 hl (by decide) rfl (fun ls hl => ?_)
                refine lv_iinc (v := nI (jj + 1)) (lv' := [(5, .int (nI (jj + 1))), (4, .int (nI (kcRe Ed gd gs i (jj + 1)))), (3, .int (nI i)), (2, .int (nI ms)), (0, .ref (q 11)), (1, .int (nI d))]) hx hb dX1_moodsOf_49 hl (k := 1) rfl (ninc jj 1 (by decide)) (by decide) rfl (fun ls hl => ?_)
                refine lv_goto (tgt := 20) hx hb dX1_moodsOf_52 (by decide) ?_
                exact ih_lp_4 (jj + 1) (kcRe Ed gd gs i (jj + 1)) _ _ _ (by omega) (by omega) rfl hP hD hS (lv_sub hl [0, 1, 2, 3, 4, 5] rfl)
        exact lp_4 (10 - 0 + 1) 0 0 _ _ _ (Nat.lt_succ_self _) (by omega) (kre_0 Ed gd gs i).symm hP hD hS (lv_sub hl [0, 1, 2, 3, 4, 5] rfl)
  exact lp_1 (d + 1 - 0 + 1) 0 (kcRs Ed gd gs 0) _ _ _ (Nat.lt_succ_self _) (by omega) rfl hP hD hS (lv_sub hl [0, 1, 2, 3] rfl)
theorem dg_X11_many_0_0 : bqL cX11_many 0 [(0, [42]), (1, [27]), (2, [182, 0, 170]), (5, [153, 0, 10]), (15, [20, 0, 198]), (18, [173]), (8, [28]), (9, [184, 0, 182]), (12, [154, 0, 7]), (19, [42]), (20, [42]), (21, [180, 0, 59]), (24, [182, 0, 208]), (27, [87]), (28, [42]), (29, [180, 0, 85]), (32, [182, 0, 212]), (35, [88]), (36, [42]), (37, [180, 0, 85]), (40, [182, 0, 220]), (43, [42]), (44, [180, 0, 85]), (47, [27]), (48, [28]), (49, [182, 0, 223]), (52, [173])] = true := by decide +kernel
theorem dX11_many_0 : decode cX11_many 0 = .ok (.aload_n 0, 1) := q_aload_n0 (bat_get dg_X11_many_0_0 0 rfl rfl)
theorem dX11_many_1 : decode cX11_many 1 = .ok (.iload_n 1, 1) := q_iload_n1 (bat_get dg_X11_many_0_0 1 rfl rfl)
theorem dX11_many_2 : decode cX11_many 2 = .ok (.invokevirtual 170, 3) := q_invokevirtual (bat_get dg_X11_many_0_0 2 rfl rfl) rfl
theorem dX11_many_5 : decode cX11_many 5 = .ok (.ifCond .eq 10, 3) := q_ifCond_eq (bat_get dg_X11_many_0_0 3 rfl rfl) rfl
theorem dX11_many_15 : decode cX11_many 15 = .ok (.ldc2_w 198, 3) := q_ldc2_w (bat_get dg_X11_many_0_0 4 rfl rfl) rfl
theorem dX11_many_18 : decode cX11_many 18 = .ok (.lreturn, 1) := q_lreturn (bat_get dg_X11_many_0_0 5 rfl rfl)
theorem dX11_many_8 : decode cX11_many 8 = .ok (.iload_n 2, 1) := q_iload_n2 (bat_get dg_X11_many_0_0 6 rfl rfl)
theorem dX11_many_9 : decode cX11_many 9 = .ok (.invokestatic 182, 3) := q_invokestatic (bat_get dg_X11_many_0_0 7 rfl rfl) rfl
theorem dX11_many_12 : decode cX11_many 12 = .ok (.ifCond .ne 7, 3) := q_ifCond_ne (bat_get dg_X11_many_0_0 8 rfl rfl) rfl
theorem dX11_many_19 : decode cX11_many 19 = .ok (.aload_n 0, 1) := q_aload_n0 (bat_get dg_X11_many_0_0 9 rfl rfl)
theorem dX11_many_20 : decode cX11_many 20 = .ok (.aload_n 0, 1) := q_aload_n0 (bat_get dg_X11_many_0_0 10 rfl rfl)
theorem dX11_many_21 : decode cX11_many 21 = .ok (.getfield 59, 3) := q_getfield (bat_get dg_X11_many_0_0 11 rfl rfl) rfl
theorem dX11_many_24 : decode cX11_many 24 = .ok (.invokevirtual 208, 3) := q_invokevirtual (bat_get dg_X11_many_0_0 12 rfl rfl) rfl
theorem dX11_many_27 : decode cX11_many 27 = .ok (.pop, 1) := q_pop (bat_get dg_X11_many_0_0 13 rfl rfl)
theorem dX11_many_28 : decode cX11_many 28 = .ok (.aload_n 0, 1) := q_aload_n0 (bat_get dg_X11_many_0_0 14 rfl rfl)
theorem dX11_many_29 : decode cX11_many 29 = .ok (.getfield 85, 3) := q_getfield (bat_get dg_X11_many_0_0 15 rfl rfl) rfl
theorem dX11_many_32 : decode cX11_many 32 = .ok (.invokevirtual 212, 3) := q_invokevirtual (bat_get dg_X11_many_0_0 16 rfl rfl) rfl
theorem dX11_many_35 : decode cX11_many 35 = .ok (.pop2, 1) := q_pop2 (bat_get dg_X11_many_0_0 17 rfl rfl)
theorem dX11_many_36 : decode cX11_many 36 = .ok (.aload_n 0, 1) := q_aload_n0 (bat_get dg_X11_many_0_0 18 rfl rfl)
theorem dX11_many_37 : decode cX11_many 37 = .ok (.getfield 85, 3) := q_getfield (bat_get dg_X11_many_0_0 19 rfl rfl) rfl
theorem dX11_many_40 : decode cX11_many 40 = .ok (.invokevirtual 220, 3) := q_invokevirtual (bat_get dg_X11_many_0_0 20 rfl rfl) rfl
theorem dX11_many_43 : decode cX11_many 43 = .ok (.aload_n 0, 1) := q_aload_n0 (bat_get dg_X11_many_0_0 21 rfl rfl)
theorem dX11_many_44 : decode cX11_many 44 = .ok (.getfield 85, 3) := q_getfield (bat_get dg_X11_many_0_0 22 rfl rfl) rfl
theorem dX11_many_47 : decode cX11_many 47 = .ok (.iload_n 1, 1) := q_iload_n1 (bat_get dg_X11_many_0_0 23 rfl rfl)
theorem dX11_many_48 : decode cX11_many 48 = .ok (.iload_n 2, 1) := q_iload_n2 (bat_get dg_X11_many_0_0 24 rfl rfl)
theorem dX11_many_49 : decode cX11_many 49 = .ok (.invokevirtual 223, 3) := q_invokevirtual (bat_get dg_X11_many_0_0 25 rfl rfl) rfl
theorem dX11_many_52 : decode cX11_many 52 = .ok (.lreturn, 1) := q_lreturn (bat_get dg_X11_many_0_0 26 rfl rfl)
theorem w_4_88 : (Cond.methodLink RX11 223 yX1_timesOf) ∈ wsL_law := sk_mem (ck_4 _ (List.mem_of_getElem? (i := 88) rfl)) rfl
theorem w_4_80 : (Cond.code yX11_many cX11_many 3 (some .long)) ∈ wsL_law := sk_mem (ck_4 _ (List.mem_of_getElem? (i := 80) rfl)) rfl
def om_25_1e1 : List Bool := false :: false :: false :: false :: false :: false :: false :: false :: false :: false :: false :: false :: false :: false :: false :: false :: true :: true :: true :: true :: false :: false :: false :: false :: true :: []
def om_25_103 : List Bool := false :: false :: false :: false :: false :: false :: false :: false :: false :: false :: false :: false :: false :: false :: false :: false :: true :: false :: false :: false :: false :: false :: false :: true :: true :: []
set_option maxHeartbeats 4000000 in
set_option maxRecDepth 100000 in
theorem c_uy_many (l : Launch) (D : va_G) (cI cJ cC cZ cS : ClassId) (x0 : Nat) (q : Nat → Nat) (hc : Int32) (dr : Int64) (sa : Nat → Nat) (ft : Nat → Int32) (fa : Nat → Int32) (fo : Nat → Int32) (fg : Nat → Int64) (fk : Nat → Int32) (dh : Nat) (mh : Nat) (uh : Int32) (rh : Int32) (nh : Nat) (ch : Nat) (wh : Nat) (y1 : Nat → Int32) (y2 : Nat → Int64) (y3 : Nat → Int64) (y4 : Nat → Int64) (yf : Nat → Int32) (yt : Nat → Int32) (gd : Nat) (gs : Nat) (e1 : Nat → Int32) (e2 : Nat → Int32) (e3 : Nat → Int32) (dy : Nat) (wn : Nat) (mo : Nat) (ke : Nat) (mu : Int32) (fb : Nat → Int32) (fw : Nat → Int32) (Ba : Nat → Nat) (We : Nat → Nat) (L : LkS) (U : Nat → Bool) (e4 : Nat → Int64) (e5 : Nat → Int64) (d : Int32) (o : Int32) (hsa : ∀ j, sa j ≤ 9) (hch : ch ≤ 1600) (hwh : wh ≤ 1) (hdy : dy ≤ 9) (hmo : mo ≤ 9) (hgd : gd ≤ 9) (hgs : gs ≤ 9) (hLk : kcLk L) (hlq : 1 ≤ dy → cdK (lK (lkF L)) ch wh y1 ∧ ∀ v, v < 3 → sgO (lG (lkF L) v) (yf v) (yt v)) (htq : 1 ≤ dy → kcTI L sa ft fa fo fg fk) (hfb : ∀ j, j < 9 → fb j = nI (Ba j)) (hfw : ∀ j, j < 9 → fw j = nI (We j)) (hB9 : ∀ j, Ba j ≤ 9) (hW9 : ∀ j, We j ≤ 9) (hwn : wn ≤ 999) (hU : muO U mu) : skM l yX11_many cX11_many 3 (some .long) 6 149 0 0 D (skT cI cJ cC cZ cS) [.ref x0, .int d, .int o] [ro_rrrrrrrrrrrrrrrirl x0 11 (q 0) (q 1) (q 2) (q 3) (q 4) (q 5) (q 6) (q 7) (q 8) (q 9) (q 10) (q 11) (q 12) (q 13) (q 14) hc (q 16) dr, ro_rrrrrr (q 10) 9 (q 61) (q 62) (q 63) (q 64) (q 65) (q 66), ra_N (q 61) cI 90 sa, ra_I (q 62) cI 900 ft, ra_I (q 63) cI 90 fa, ra_I (q 64) cI 90 fo, ra_J (q 65) cJ 90 fg, ra_I (q 66) cI 9 fk, ro_rrrrrnniin (q 5) 2 (q 44) (q 45) (q 46) (q 47) (q 48) dh mh uh rh nh, ro_rrrrnn (q 44) 0 (q 49) (q 50) (q 51) (q 52) ch wh, ra_I (q 49) cI 1600 y1, ra_J (q 50) cJ 64 y2, ra_J (q 51) cJ 9 y3, ra_J (q 52) cJ 10 y4, ra_I (q 47) cI 3 yf, ra_I (q 48) cI 3 yt, ro_rrrrrrrnn (q 11) 1 (q 10) (q 67) (q 68) (q 69) (q 70) (q 71) (q 72) gd gs, ra_I (q 67) cI 90 e1, ra_I (q 68) cI 9 e2, ra_I (q 69) cI 10 e3, ro_rrnnnin (q 7) 7 (q 33) (q 34) dy wn mo mu ke, ra_I (q 33) cI 9 fb, ra_I (q 34) cI 9 fw, ra_J (q 70) cJ 100 e4, ra_J (q 71) cJ 100 e5] (skL D (skT cI cJ cC cZ cS) (fun (r : Int64) (u : va_W) => ∃ (sa2 : Nat → Nat), ∃ (ft2 : Nat → Int32), ∃ (fa2 : Nat → Int32), ∃ (fo2 : Nat → Int32), ∃ (fg2 : Nat → Int64), ∃ (fk2 : Nat → Int32), ∃ (z2 : Nat → Int64), ∃ (z3 : Nat → Int64), ∃ (g1 : Nat → Int32), ∃ (g2 : Nat → Int32), ∃ (g3 : Nat → Int32), ∃ (gd2 : Nat), ∃ (gs2 : Nat), ∃ (g4 : Nat → Int64), ∃ (g5 : Nat → Int64), (∀ j, sa2 j ≤ 9) ∧ (1 ≤ dy → kcTI L sa2 ft2 fa2 fo2 fg2 fk2) ∧ gd2 ≤ 9 ∧ gs2 ≤ 9 ∧ manyR (kcFo L wn Ba We U 0) dy mo d o r ∧ u = [ro_rrrrrrrrrrrrrrrirl x0 11 (q 0) (q 1) (q 2) (q 3) (q 4) (q 5) (q 6) (q 7) (q 8) (q 9) (q 10) (q 11) (q 12) (q 13) (q 14) hc (q 16) dr, ro_rrrrrr (q 10) 9 (q 61) (q 62) (q 63) (q 64) (q 65) (q 66), ra_N (q 61) cI 90 sa2, ra_I (q 62) cI 900 ft2, ra_I (q 63) cI 90 fa2, ra_I (q 64) cI 90 fo2, ra_J (q 65) cJ 90 fg2, ra_I (q 66) cI 9 fk2, ro_rrrrrnniin (q 5) 2 (q 44) (q 45) (q 46) (q 47) (q 48) dh mh uh rh nh, ro_rrrrnn (q 44) 0 (q 49) (q 50) (q 51) (q 52) ch wh, ra_I (q 49) cI 1600 y1, ra_J (q 50) cJ 64 z2, ra_J (q 51) cJ 9 z3, ra_J (q 52) cJ 10 y4, ra_I (q 47) cI 3 yf, ra_I (q 48) cI 3 yt, ro_rrrrrrrnn (q 11) 1 (q 10) (q 67) (q 68) (q 69) (q 70) (q 71) (q 72) gd2 gs2, ra_I (q 67) cI 90 g1, ra_I (q 68) cI 9 g2, ra_I (q 69) cI 10 g3, ro_rrnnnin (q 7) 7 (q 33) (q 34) dy wn mo mu ke, ra_I (q 33) cI 9 fb, ra_I (q 34) cI 9 fw, ra_J (q 70) cJ 100 g4, ra_J (q 71) cJ 100 g5])) := by
  refine skM_of pf_X11_many (Nat.le_of_ble_eq_true rfl) ?_
  intro p e s m below meth c A ls E hP hD hl
  refine skE_el E (fun hx hb hr hml hlocks hin hown hts hK hA => ?_)
  have hown : s.vm.findClass RX11 = some m.cls := hown
  have hS : va_S A s.heap s.heap [] := va_S.rf
  have hl : lv_has ls 3 [(0, .ref x0), (1, .int d), (2, .int o)] := hl
  refine lv_aload_n hx hb dX11_many_0 rfl (lv_at hl 0 rfl) ?_
  refine lv_iload_n hx hb dX11_many_1 rfl (lv_at hl 1 rfl) ?_
  refine sk_Vi (q0 := 0) (n := 1) (rest := []) (wr := fmR om_25_1000010 _) ⟨hx, hb, hml, hown, hts⟩ hl.1 (c_kx_isDay l D cI cJ cC cZ cS x0 q hc dr dy wn mo ke mu fb fw d hdy) w_3_190 w_3_192 w_0_14 w_1_1 w_3_193 hd_X11_isDay_1 ⟨⟨(Nat.le_of_ble_eq_true rfl), (Nat.le_of_ble_eq_true rfl)⟩, (Nat.le_of_ble_eq_true rfl), (Nat.le_of_ble_eq_true rfl)⟩ hK hP hD hS hA (fmT om_25_1000010 0) (fmF om_25_1000010 0) (fm_C1 rfl rfl) (fm_R rfl rfl) (fm_nT om_25_1000010 0) (fm_nF om_25_1000010 0) (fm_di om_25_1000010 0) rfl rfl rfl rfl (Nat.le_of_ble_eq_true rfl) dX11_many_2 (fun r_2 u H locs hw hP hD hS => ?_)
  refine exE hw (fun b_1 hw1 => anE hw1 (fun hb1_3 hw2 => anE hw2 (fun er_5 eu_4 => ?_)))
  clear hw hw1 hw2
  subst er_5
  refine o_mgE (ws' := [ro_rrrrrrrrrrrrrrrirl x0 11 (q 0) (q 1) (q 2) (q 3) (q 4) (q 5) (q 6) (q 7) (q 8) (q 9) (q 10) (q 11) (q 12) (q 13) (q 14) hc (q 16) dr, ro_rrrrrr (q 10) 9 (q 61) (q 62) (q 63) (q 64) (q 65) (q 66), ra_N (q 61) cI 90 sa, ra_I (q 62) cI 900 ft, ra_I (q 63) cI 90 fa, ra_I (q 64) cI 90 fo, ra_J (q 65) cJ 90 fg, ra_I (q 66) cI 9 fk, ro_rrrrrnniin (q 5) 2 (q 44) (q 45) (q 46) (q 47) (q 48) dh mh uh rh nh, ro_rrrrnn (q 44) 0 (q 49) (q 50) (q 51) (q 52) ch wh, ra_I (q 49) cI 1600 y1, ra_J (q 50) cJ 64 y2, ra_J (q 51) cJ 9 y3, ra_J (q 52) cJ 10 y4, ra_I (q 47) cI 3 yf, ra_I (q 48) cI 3 yt, ro_rrrrrrrnn (q 11) 1 (q 10) (q 67) (q 68) (q 69) (q 70) (q 71) (q 72) gd gs, ra_I (q 67) cI 90 e1, ra_I (q 68) cI 9 e2, ra_I (q 69) cI 10 e3, ro_rrnnnin (q 7) 7 (q 33) (q 34) dy wn mo mu ke, ra_I (q 33) cI 9 fb, ra_I (q 34) cI 9 fw, ra_J (q 70) cJ 100 e4, ra_J (q 71) cJ 100 e5]) eu_4 hP hD rfl (fun hP hD => ?_)
  refine lv_if_eq (tgt := 15) hx hb dX11_many_5 (by decide) (fun c_6 => ?_) (fun c_6 => ?_)
  · have c_6 : b_1 = 0 := (neq b_1 0 (by omega) (Nat.le_of_ble_eq_true rfl)).mp c_6
    refine lv_ldc2 (v := (-1000000000000000)) hx hb hown (hts _ w_4_29) dX11_many_15 ?_
    exact sk_lret hx hb hr hlocks hK hP hD hS (⟨sa, ft, fa, fo, fg, fk, y2, y3, e1, e2, e3, gd, gs, e4, e5, hsa, htq, hgd, hgs, many_0 (rr_0 hb1_3 (by omega)), rfl⟩) (Nat.le_of_ble_eq_true rfl) (Nat.le_of_ble_eq_true rfl) dX11_many_18
  · have c_6 : ¬ (b_1 = 0) := fun h => c_6 ((neq b_1 0 (by omega) (Nat.le_of_ble_eq_true rfl)).mpr h)
    obtain ⟨kd_7, hkd_7, rfl⟩ := rr_1 hb1_3 (by omega)
    refine lv_iload_n hx hb dX11_many_8 rfl (lv_at hl 2 rfl) ?_
    refine sk_Si (n := 1) (rest := []) (wr := [ro_rrrrrrrrrrrrrrrirl x0 11 (q 0) (q 1) (q 2) (q 3) (q 4) (q 5) (q 6) (q 7) (q 8) (q 9) (q 10) (q 11) (q 12) (q 13) (q 14) hc (q 16) dr, ro_rrrrrr (q 10) 9 (q 61) (q 62) (q 63) (q 64) (q 65) (q 66), ra_N (q 61) cI 90 sa, ra_I (q 62) cI 900 ft, ra_I (q 63) cI 90 fa, ra_I (q 64) cI 90 fo, ra_J (q 65) cJ 90 fg, ra_I (q 66) cI 9 fk, ro_rrrrrnniin (q 5) 2 (q 44) (q 45) (q 46) (q 47) (q 48) dh mh uh rh nh, ro_rrrrnn (q 44) 0 (q 49) (q 50) (q 51) (q 52) ch wh, ra_I (q 49) cI 1600 y1, ra_J (q 50) cJ 64 y2, ra_J (q 51) cJ 9 y3, ra_J (q 52) cJ 10 y4, ra_I (q 47) cI 3 yf, ra_I (q 48) cI 3 yt, ro_rrrrrrrnn (q 11) 1 (q 10) (q 67) (q 68) (q 69) (q 70) (q 71) (q 72) gd gs, ra_I (q 67) cI 90 e1, ra_I (q 68) cI 9 e2, ra_I (q 69) cI 10 e3, ro_rrnnnin (q 7) 7 (q 33) (q 34) dy wn mo mu ke, ra_I (q 33) cI 9 fb, ra_I (q 34) cI 9 fw, ra_J (q 70) cJ 100 e4, ra_J (q 71) cJ 100 e5]) ⟨hx, hb, hml, hown, hts⟩ hl.1 (c_kx_isDigit l D cI cJ cC cZ cS o) w_3_202 w_3_203 w_1_1 w_3_204 hd_X11_isDigit_1 ⟨⟨(Nat.le_of_ble_eq_true rfl), (Nat.le_of_ble_eq_true rfl)⟩, (Nat.le_of_ble_eq_true rfl), (Nat.le_of_ble_eq_true rfl)⟩ hK hP hD hS hA [] [0, 1, 2, 3, 4, 5, 6, 7, 8, 9, 10, 11, 12, 13, 14, 15, 16, 17, 18, 19, 20, 21, 22, 23, 24] rfl rfl (by decide +kernel) (by decide +kernel) (by decide +kernel) rfl rfl (Nat.le_of_ble_eq_true rfl) dX11_many_9 (fun r_9 u H locs hw hP hD hS => ?_)
    obtain ⟨b_8, hb1_10, rfl, rfl⟩ := hw
    refine o_re (ws' := [ro_rrrrrrrrrrrrrrrirl x0 11 (q 0) (q 1) (q 2) (q 3) (q 4) (q 5) (q 6) (q 7) (q 8) (q 9) (q 10) (q 11) (q 12) (q 13) (q 14) hc (q 16) dr, ro_rrrrrr (q 10) 9 (q 61) (q 62) (q 63) (q 64) (q 65) (q 66), ra_N (q 61) cI 90 sa, ra_I (q 62) cI 900 ft, ra_I (q 63) cI 90 fa, ra_I (q 64) cI 90 fo, ra_J (q 65) cJ 90 fg, ra_I (q 66) cI 9 fk, ro_rrrrrnniin (q 5) 2 (q 44) (q 45) (q 46) (q 47) (q 48) dh mh uh rh nh, ro_rrrrnn (q 44) 0 (q 49) (q 50) (q 51) (q 52) ch wh, ra_I (q 49) cI 1600 y1, ra_J (q 50) cJ 64 y2, ra_J (q 51) cJ 9 y3, ra_J (q 52) cJ 10 y4, ra_I (q 47) cI 3 yf, ra_I (q 48) cI 3 yt, ro_rrrrrrrnn (q 11) 1 (q 10) (q 67) (q 68) (q 69) (q 70) (q 71) (q 72) gd gs, ra_I (q 67) cI 90 e1, ra_I (q 68) cI 9 e2, ra_I (q 69) cI 10 e3, ro_rrnnnin (q 7) 7 (q 33) (q 34) dy wn mo mu ke, ra_I (q 33) cI 9 fb, ra_I (q 34) cI 9 fw, ra_J (q 70) cJ 100 e4, ra_J (q 71) cJ 100 e5]) hP hD rfl (fun hP hD => ?_)
    refine lv_if_ne (tgt := 19) hx hb dX11_many_12 (by decide) (fun c_11 => ?_) (fun c_11 => ?_)
    · have c_11 : ¬ (b_8 = 0) := fun h => c_11 ((neq b_8 0 (by omega) (Nat.le_of_ble_eq_true rfl)).mpr h)
      obtain ⟨kd_12, hkd_12, rfl⟩ := rr_1 hb1_10 (by omega)
      refine lv_aload_n hx hb dX11_many_19 rfl (lv_at hl 0 rfl) ?_
      refine lv_aload_n hx hb dX11_many_20 rfl (lv_at hl 0 rfl) ?_
      refine sk_get (v := .ref (q 7)) (C := RX11) (T := TX11) (N := 18) hx hb hts inlX11 hown hK hP 0 rfl rfl 7 (Nat.le_of_ble_eq_true rfl) w_2_130 rfl dX11_many_21 ?_
      refine sk_Vi (q0 := 0) (n := 1) (rest := []) (wr := fmR om_25_1fffffc _) ⟨hx, hb, hml, hown, hts⟩ hl.1 (c_kx_lookAt l D cI cJ cC cZ cS x0 q hc dr sa ft fa fo fg fk dh mh uh rh nh ch wh y1 y2 y3 y4 yf yt gd gs e1 e2 e3 (q 7) (q 33) (q 34) dy wn mo ke mu fb fw Ba We L U hsa hch hwh hdy hmo hLk (hlq (by omega)).1 (hlq (by omega)).2 hfb hfw hB9 hW9 hwn hU (htq (by omega))) w_4_43 w_4_45 w_0_19 w_1_1 w_4_46 hd_X11_lookAt_1 ⟨⟨(Nat.le_of_ble_eq_true rfl), (Nat.le_of_ble_eq_true rfl)⟩, (Nat.le_of_ble_eq_true rfl), (Nat.le_of_ble_eq_true rfl)⟩ hK hP hD hS hA (fmT om_25_1fffffc 0) (fmF om_25_1fffffc 0) (fm_C1 rfl rfl) (fm_R rfl rfl) (fm_nT om_25_1fffffc 0) (fm_nF om_25_1fffffc 0) (fm_di om_25_1fffffc 0) rfl rfl rfl rfl (Nat.le_of_ble_eq_true rfl) dX11_many_24 (fun r_25 u H locs hw hP hD hS => ?_)
      refine exE hw (fun sa2_13 hw1 => exE hw1 (fun ft2_14 hw2 => exE hw2 (fun fa2_15 hw3 => exE hw3 (fun fo2_16 hw4 => exE hw4 (fun fg2_17 hw5 => exE hw5 (fun fk2_18 hw6 => exE hw6 (fun z2_19 hw7 => exE hw7 (fun z3_20 hw8 => exE hw8 (fun g1_21 hw9 => exE hw9 (fun g2_22 hw10 => exE hw10 (fun g3_23 hw11 => exE hw11 (fun b_24 hw12 => anE hw12 (fun hsa2_26 hw13 => anE hw13 (fun hti2_27 hw14 => anE hw14 (fun hld2_28 hw15 => anE hw15 (fun hlv2_29 hw16 => anE hw16 (fun hb1_30 hw17 => anE hw17 (fun er_32 eu_31 => ?_))))))))))))))))))
      clear hw hw1 hw2 hw3 hw4 hw5 hw6 hw7 hw8 hw9 hw10 hw11 hw12 hw13 hw14 hw15 hw16 hw17
      subst er_32
      refine o_mgE (ws' := [ro_rrrrrrrrrrrrrrrirl x0 11 (q 0) (q 1) (q 2) (q 3) (q 4) (q 5) (q 6) (q 7) (q 8) (q 9) (q 10) (q 11) (q 12) (q 13) (q 14) hc (q 16) dr, ro_rrrrrr (q 10) 9 (q 61) (q 62) (q 63) (q 64) (q 65) (q 66), ra_N (q 61) cI 90 sa2_13, ra_I (q 62) cI 900 ft2_14, ra_I (q 63) cI 90 fa2_15, ra_I (q 64) cI 90 fo2_16, ra_J (q 65) cJ 90 fg2_17, ra_I (q 66) cI 9 fk2_18, ro_rrrrrnniin (q 5) 2 (q 44) (q 45) (q 46) (q 47) (q 48) dh mh uh rh nh, ro_rrrrnn (q 44) 0 (q 49) (q 50) (q 51) (q 52) ch wh, ra_I (q 49) cI 1600 y1, ra_J (q 50) cJ 64 z2_19, ra_J (q 51) cJ 9 z3_20, ra_J (q 52) cJ 10 y4, ra_I (q 47) cI 3 yf, ra_I (q 48) cI 3 yt, ro_rrrrrrrnn (q 11) 1 (q 10) (q 67) (q 68) (q 69) (q 70) (q 71) (q 72) dy mo, ra_I (q 67) cI 90 g1_21, ra_I (q 68) cI 9 g2_22, ra_I (q 69) cI 10 g3_23, ro_rrnnnin (q 7) 7 (q 33) (q 34) dy wn mo mu ke, ra_I (q 33) cI 9 fb, ra_I (q 34) cI 9 fw, ra_J (q 70) cJ 100 e4, ra_J (q 71) cJ 100 e5]) eu_31 hP hD rfl (fun hP hD => ?_)
      refine lv_pop hx hb dX11_many_27 rfl ?_
      refine lv_aload_n hx hb dX11_many_28 rfl (lv_at hl 0 rfl) ?_
      refine sk_get (v := .ref (q 11)) (C := RX11) (T := TX11) (N := 18) hx hb hts inlX11 hown hK hP 0 rfl rfl 11 (Nat.le_of_ble_eq_true rfl) w_2_134 rfl dX11_many_29 ?_
      refine sk_Vl (q0 := 0) (n := 0) (rest := []) (wr := fmR om_25_1e2 _) ⟨hx, hb, hml, hown, hts⟩ hl.1 (c_kcountWays l D cI cJ cC cZ cS q dy mo g1_21 g2_22 g3_23 e4 (kcFo L wn Ba We U 0) hdy hmo hld2_28 hlv2_29) w_4_61 w_4_62 w_4_63 w_1_13 w_4_64 hd_X1_countWays_0 ⟨⟨(Nat.le_of_ble_eq_true rfl), (Nat.le_of_ble_eq_true rfl)⟩, (Nat.le_of_ble_eq_true rfl), (Nat.le_of_ble_eq_true rfl)⟩ hK hP hD hS hA (fmT om_25_1e2 0) (fmF om_25_1e2 0) (fm_C1 rfl rfl) (fm_R rfl rfl) (fm_nT om_25_1e2 0) (fm_nF om_25_1e2 0) (fm_di om_25_1e2 0) rfl rfl rfl rfl (Nat.le_of_ble_eq_true rfl) dX11_many_32 (fun r_34 u H locs hw hP hD hS => ?_)
      refine exE hw (fun g4_33 hw1 => anE hw1 (fun hwy_35 hw2 => anE hw2 (fun er_37 eu_36 => ?_)))
      clear hw hw1 hw2
      subst er_37
      refine o_mgE (ws' := [ro_rrrrrrrrrrrrrrrirl x0 11 (q 0) (q 1) (q 2) (q 3) (q 4) (q 5) (q 6) (q 7) (q 8) (q 9) (q 10) (q 11) (q 12) (q 13) (q 14) hc (q 16) dr, ro_rrrrrr (q 10) 9 (q 61) (q 62) (q 63) (q 64) (q 65) (q 66), ra_N (q 61) cI 90 sa2_13, ra_I (q 62) cI 900 ft2_14, ra_I (q 63) cI 90 fa2_15, ra_I (q 64) cI 90 fo2_16, ra_J (q 65) cJ 90 fg2_17, ra_I (q 66) cI 9 fk2_18, ro_rrrrrnniin (q 5) 2 (q 44) (q 45) (q 46) (q 47) (q 48) dh mh uh rh nh, ro_rrrrnn (q 44) 0 (q 49) (q 50) (q 51) (q 52) ch wh, ra_I (q 49) cI 1600 y1, ra_J (q 50) cJ 64 z2_19, ra_J (q 51) cJ 9 z3_20, ra_J (q 52) cJ 10 y4, ra_I (q 47) cI 3 yf, ra_I (q 48) cI 3 yt, ro_rrrrrrrnn (q 11) 1 (q 10) (q 67) (q 68) (q 69) (q 70) (q 71) (q 72) dy mo, ra_I (q 67) cI 90 g1_21, ra_I (q 68) cI 9 g2_22, ra_I (q 69) cI 10 g3_23, ro_rrnnnin (q 7) 7 (q 33) (q 34) dy wn mo mu ke, ra_I (q 33) cI 9 fb, ra_I (q 34) cI 9 fw, ra_J (q 70) cJ 100 g4_33, ra_J (q 71) cJ 100 e5]) eu_36 hP hD rfl (fun hP hD => ?_)
      refine lv_pop2_2 hx hb dX11_many_35 rfl ?_
      refine lv_aload_n hx hb dX11_many_36 rfl (lv_at hl 0 rfl) ?_
      refine sk_get (v := .ref (q 11)) (C := RX11) (T := TX11) (N := 18) hx hb hts inlX11 hown hK hP 0 rfl rfl 11 (Nat.le_of_ble_eq_true rfl) w_2_134 rfl dX11_many_37 ?_
      refine sk_Vv (q0 := 0) (n := 0) (rest := []) (wr := fmR om_25_1e1 _) ⟨hx, hb, hml, hown, hts⟩ hl.1 (c_ucountComings l D cI cJ cC cZ cS q dy mo g1_21 g2_22 g3_23 e5 (kcFo L wn Ba We U 0) hdy hmo hld2_28 hlv2_29) w_4_81 w_4_82 w_4_83 w_1_13 w_4_84 hd_X1_countComings_0 ⟨⟨(Nat.le_of_ble_eq_true rfl), (Nat.le_of_ble_eq_true rfl)⟩, (Nat.le_of_ble_eq_true rfl), (Nat.le_of_ble_eq_true rfl)⟩ hK hP hD hS hA (fmT om_25_1e1 0) (fmF om_25_1e1 0) (fm_C1 rfl rfl) (fm_R rfl rfl) (fm_nT om_25_1e1 0) (fm_nF om_25_1e1 0) (fm_di om_25_1e1 0) rfl rfl rfl rfl (Nat.le_of_ble_eq_true rfl) dX11_many_40 (fun u H locs hw hP hD hS => ?_)
      refine exE hw (fun g5_38 hw1 => anE hw1 (fun hcm_39 eu_40 => ?_))
      clear hw hw1
      refine o_mgE (ws' := [ro_rrrrrrrrrrrrrrrirl x0 11 (q 0) (q 1) (q 2) (q 3) (q 4) (q 5) (q 6) (q 7) (q 8) (q 9) (q 10) (q 11) (q 12) (q 13) (q 14) hc (q 16) dr, ro_rrrrrr (q 10) 9 (q 61) (q 62) (q 63) (q 64) (q 65) (q 66), ra_N (q 61) cI 90 sa2_13, ra_I (q 62) cI 900 ft2_14, ra_I (q 63) cI 90 fa2_15, ra_I (q 64) cI 90 fo2_16, ra_J (q 65) cJ 90 fg2_17, ra_I (q 66) cI 9 fk2_18, ro_rrrrrnniin (q 5) 2 (q 44) (q 45) (q 46) (q 47) (q 48) dh mh uh rh nh, ro_rrrrnn (q 44) 0 (q 49) (q 50) (q 51) (q 52) ch wh, ra_I (q 49) cI 1600 y1, ra_J (q 50) cJ 64 z2_19, ra_J (q 51) cJ 9 z3_20, ra_J (q 52) cJ 10 y4, ra_I (q 47) cI 3 yf, ra_I (q 48) cI 3 yt, ro_rrrrrrrnn (q 11) 1 (q 10) (q 67) (q 68) (q 69) (q 70) (q 71) (q 72) dy mo, ra_I (q 67) cI 90 g1_21, ra_I (q 68) cI 9 g2_22, ra_I (q 69) cI 10 g3_23, ro_rrnnnin (q 7) 7 (q 33) (q 34) dy wn mo mu ke, ra_I (q 33) cI 9 fb, ra_I (q 34) cI 9 fw, ra_J (q 70) cJ 100 g4_33, ra_J (q 71) cJ 100 g5_38]) eu_40 hP hD rfl (fun hP hD => ?_)
      refine lv_aload_n hx hb dX11_many_43 rfl (lv_at hl 0 rfl) ?_
      refine sk_get (v := .ref (q 11)) (C := RX11) (T := TX11) (N := 18) hx hb hts inlX11 hown hK hP 0 rfl rfl 11 (Nat.le_of_ble_eq_true rfl) w_2_134 rfl dX11_many_44 ?_
      refine lv_iload_n hx hb dX11_many_47 rfl (lv_at hl 1 rfl) ?_
      refine lv_iload_n hx hb dX11_many_48 rfl (lv_at hl 2 rfl) ?_
      refine sk_Vl (q0 := 0) (n := 2) (rest := []) (wr := fmR om_25_103 _) ⟨hx, hb, hml, hown, hts⟩ hl.1 (c_utimesOf l D cI cJ cC cZ cS q dy mo g4_33 g5_38 kd_7 kd_12 (kcFo L wn Ba We U 0) hdy hmo (by omega) hcm_39 hwy_35 (by omega)) w_4_88 w_4_89 w_4_90 w_1_13 w_4_91 hd_X1_timesOf_2 ⟨⟨(Nat.le_of_ble_eq_true rfl), (Nat.le_of_ble_eq_true rfl)⟩, (Nat.le_of_ble_eq_true rfl), (Nat.le_of_ble_eq_true rfl)⟩ hK hP hD hS hA (fmT om_25_103 0) (fmF om_25_103 0) (fm_C1 rfl rfl) (fm_R rfl rfl) (fm_nT om_25_103 0) (fm_nF om_25_103 0) (fm_di om_25_103 0) rfl rfl rfl rfl (Nat.le_of_ble_eq_true rfl) dX11_many_49 (fun r_41 u H locs hw hP hD hS => ?_)
      refine anE hw (fun er_43 eu_42 => ?_)
      clear hw
      subst er_43
      refine o_mgE (ws' := [ro_rrrrrrrrrrrrrrrirl x0 11 (q 0) (q 1) (q 2) (q 3) (q 4) (q 5) (q 6) (q 7) (q 8) (q 9) (q 10) (q 11) (q 12) (q 13) (q 14) hc (q 16) dr, ro_rrrrrr (q 10) 9 (q 61) (q 62) (q 63) (q 64) (q 65) (q 66), ra_N (q 61) cI 90 sa2_13, ra_I (q 62) cI 900 ft2_14, ra_I (q 63) cI 90 fa2_15, ra_I (q 64) cI 90 fo2_16, ra_J (q 65) cJ 90 fg2_17, ra_I (q 66) cI 9 fk2_18, ro_rrrrrnniin (q 5) 2 (q 44) (q 45) (q 46) (q 47) (q 48) dh mh uh rh nh, ro_rrrrnn (q 44) 0 (q 49) (q 50) (q 51) (q 52) ch wh, ra_I (q 49) cI 1600 y1, ra_J (q 50) cJ 64 z2_19, ra_J (q 51) cJ 9 z3_20, ra_J (q 52) cJ 10 y4, ra_I (q 47) cI 3 yf, ra_I (q 48) cI 3 yt, ro_rrrrrrrnn (q 11) 1 (q 10) (q 67) (q 68) (q 69) (q 70) (q 71) (q 72) dy mo, ra_I (q 67) cI 90 g1_21, ra_I (q 68) cI 9 g2_22, ra_I (q 69) cI 10 g3_23, ro_rrnnnin (q 7) 7 (q 33) (q 34) dy wn mo mu ke, ra_I (q 33) cI 9 fb, ra_I (q 34) cI 9 fw, ra_J (q 70) cJ 100 g4_33, ra_J (q 71) cJ 100 g5_38]) eu_42 hP hD rfl (fun hP hD => ?_)
      exact sk_lret hx hb hr hlocks hK hP hD hS (⟨sa2_13, ft2_14, fa2_15, fo2_16, fg2_17, fk2_18, z2_19, z3_20, g1_21, g2_22, g3_23, dy, mo, g4_33, g5_38, hsa2_26, (fun _ => hti2_27), hdy, hmo, many_2 hkd_7 hkd_12 rfl, rfl⟩) (Nat.le_of_ble_eq_true rfl) (Nat.le_of_ble_eq_true rfl) dX11_many_52
    · have c_11 : b_8 = 0 := (neq b_8 0 (by omega) (Nat.le_of_ble_eq_true rfl)).mp c_11
      refine lv_ldc2 (v := (-1000000000000000)) hx hb hown (hts _ w_4_29) dX11_many_15 ?_
      exact sk_lret hx hb hr hlocks hK hP hD hS (⟨sa, ft, fa, fo, fg, fk, y2, y3, e1, e2, e3, gd, gs, e4, e5, hsa, htq, hgd, hgs, many_1 (rr_0 hb1_10 (by omega)), rfl⟩) (Nat.le_of_ble_eq_true rfl) (Nat.le_of_ble_eq_true rfl) dX11_many_18
/-! unlike -/
def kcDf (f g : Nat → Nat) (n : Nat) : Nat := kcS (fun d => if f d = g d then 0 else 1) n
theorem kdf_y {f g : Nat → Nat} {i : Nat} (h : ¬ f i = g i) : kcDf f g i + 1 = kcDf f g (i + 1) := by
  show kcDf f g i + 1 = kcDf f g i + (if f i = g i then 0 else 1)
  rw [if_neg h]
theorem kdf_n {f g : Nat → Nat} {i : Nat} (h : f i = g i) : kcDf f g i = kcDf f g (i + 1) := by
  show kcDf f g i = kcDf f g i + (if f i = g i then 0 else 1)
  rw [if_pos h]; rfl
def unlikeR (E : Nat → Nat → Nat → Bool) (dy mo : Nat) (k w r : Int32) : Prop := kR (fun x : Nat × Nat => 1 ≤ dy ∧ x.1 < kcC E dy 0 mo ∧ k = nI x.1 ∧ x.2 < kcC E dy 0 mo ∧ w = nI x.2) (r = -1) (fun x => r = nI (kcDf (kcM E dy mo x.1) (kcM E dy mo x.2) dy))
theorem unlikeR_eq {E : Nat → Nat → Nat → Bool} {dy mo : Nat} {k w r q : Int32} (h9 : dy ≤ 9) (h1 : unlikeR E dy mo k w r) (h2 : unlikeR E dy mo k w q) : r = q := by
  have hc := kcC_9 E h9 0 mo
  exact kR_eq h1 h2 (fun x y a b => Prod.ext (kIe a.2.2.1 b.2.2.1 (by have := a.2.1; omega) (by have := b.2.1; omega)) (kIe a.2.2.2.2 b.2.2.2.2 (by have := a.2.2.2.1; omega) (by have := b.2.2.2.1; omega))) (fun a b => a.trans b.symm) (fun _ a b => a.trans b.symm)
theorem unl_0 {E : Nat → Nat → Nat → Bool} {dy mo : Nat} {k w : Int32} (h : dy = 0) : unlikeR E dy mo k w (-1) := kR_0 (fun x q => by have := q.1; omega) rfl
theorem unl_1 {E : Nat → Nat → Nat → Bool} {dy mo : Nat} {k w : Int32} (h : ∀ x, x < kcC E dy 0 mo → ¬ k = nI x) : unlikeR E dy mo k w (-1) := kR_0 (fun x q => h x.1 q.2.1 q.2.2.1) rfl
theorem unl_2 {E : Nat → Nat → Nat → Bool} {dy mo : Nat} {k w : Int32} (h : ∀ x, x < kcC E dy 0 mo → ¬ w = nI x) : unlikeR E dy mo k w (-1) := kR_0 (fun x q => h x.2 q.2.2.2.1 q.2.2.2.2) rfl
theorem unl_3 {E : Nat → Nat → Nat → Bool} {dy mo x y : Nat} {r : Int32} (h : 1 ≤ dy) (hx : x < kcC E dy 0 mo) (hy : y < kcC E dy 0 mo) (hr : r = nI (kcDf (kcM E dy mo x) (kcM E dy mo y) dy)) : unlikeR E dy mo (nI x) (nI y) r := kR_1 (x, y) ⟨h, hx, rfl, hy, rfl⟩ hr
/-! lies -/
def kcLi (L : LkS) (wn : Nat) (Ba We : Nat → Nat) (U : Nat → Bool) (dy mo n : Nat) : Nat := kcK (fun li => decide (0 < kcC (kcFo L wn Ba We U li) dy 0 mo)) n
def liesR (L : LkS) (dy wn mo : Nat) (Ba We : Nat → Nat) (U : Nat → Bool) (r : Int32) : Prop := kB (1 ≤ dy) (r = nI (kcLi L wn Ba We U dy mo 10)) (r = -1)
theorem liesR_eq {L : LkS} {dy wn mo : Nat} {Ba We : Nat → Nat} {U : Nat → Bool} {r q : Int32} (h1 : liesR L dy wn mo Ba We U r) (h2 : liesR L dy wn mo Ba We U q) : r = q := kB_eq h1 h2 (fun a b => a.trans b.symm) (fun a b => a.trans b.symm)
theorem kli_lt (L : LkS) (wn : Nat) (Ba We : Nat → Nat) (U : Nat → Bool) (dy mo : Nat) {n : Nat} (h : n ≤ 10) : kcLi L wn Ba We U dy mo n < 1024 := kK_lt10 _ h
theorem kli_y {L : LkS} {wn : Nat} {Ba We : Nat → Nat} {U : Nat → Bool} {dy mo i : Nat} (h : 0 < kcC (kcFo L wn Ba We U i) dy 0 mo) : kcLi L wn Ba We U dy mo i ||| 2 ^ i = kcLi L wn Ba We U dy mo (i + 1) := kcK_or _ i (decide_eq_true h)
theorem kli_n {L : LkS} {wn : Nat} {Ba We : Nat → Nat} {U : Nat → Bool} {dy mo i : Nat} (h : kcC (kcFo L wn Ba We U i) dy 0 mo = 0) : kcLi L wn Ba We U dy mo i = kcLi L wn Ba We U dy mo (i + 1) := (kcK_no _ i (fun q => by
  have h2 : 0 < kcC (kcFo L wn Ba We U i) dy 0 mo := of_decide_eq_true q
  omega)).symm
/-! later, ring: weeks thought ahead -/
section KAh
variable (L : LkS) (dy : Nat) (Ba We : Nat → Nat) (U : Nat → Bool)
def kAg (wk mo : Nat) : Prop := wk < 999 ∧ 0 < kcC (kcFo L wk Ba We U 0) dy 0 mo
def kAm (wk mo : Nat) : Nat := kcM (kcFo L wk Ba We U 0) dy mo 0 (dy - 1)
def kLt : Nat → Nat → Nat → Nat → Prop
  | 0, _, mo, v => v = mo
  | k + 1, wk, mo, v => kAg L dy Ba We U wk mo ∧ kLt k (wk + 1) (kAm L dy Ba We U wk mo) v
def kRg (m0 : Nat) : Nat → Nat → Nat → Nat → Nat → Prop
  | 0, _, _, _, _ => False
  | f + 1, i, wk, mo, v => kAg L dy Ba We U wk mo ∧ ((kAm L dy Ba We U wk mo = m0 ∧ v = i) ∨ (¬ kAm L dy Ba We U wk mo = m0 ∧ kRg m0 f (i + 1) (wk + 1) (kAm L dy Ba We U wk mo) v))
end KAh
section KAh2
variable {L : LkS} {dy : Nat} {Ba We : Nat → Nat} {U : Nat → Bool}
theorem kLt_u : ∀ k wk mo v w, kLt L dy Ba We U k wk mo v → kLt L dy Ba We U k wk mo w → v = w
  | 0, wk, mo, v, w, h1, h2 => by
    have e1 : v = mo := h1
    have e2 : w = mo := h2
    rw [e1, e2]
  | k + 1, wk, mo, v, w, h1, h2 => kLt_u k _ _ v w h1.2 h2.2
theorem kRg_u {m0 : Nat} : ∀ f i wk mo v w, kRg L dy Ba We U m0 f i wk mo v → kRg L dy Ba We U m0 f i wk mo w → v = w
  | 0, i, wk, mo, v, w, h1, _ => h1.elim
  | f + 1, i, wk, mo, v, w, h1, h2 => by
    rcases h1.2 with ⟨a, b⟩ | ⟨a, b⟩ <;> rcases h2.2 with ⟨c, d⟩ | ⟨c, d⟩
    · rw [b, d]
    · exact absurd a c
    · exact absurd c a
    · exact kRg_u f _ _ _ v w b d
theorem kLt_wk : ∀ k wk mo v, kLt L dy Ba We U k wk mo v → 1 ≤ k → wk + k ≤ 999
  | 0, wk, mo, v, _, h => absurd h (by omega)
  | k + 1, wk, mo, v, h, _ => by
    have h1 : wk < 999 := h.1.1
    by_cases e : k = 0
    · omega
    · have := kLt_wk k (wk + 1) _ v h.2 (by omega); omega
/-- so far: what is to come answers the whole -/
def kLtI (L : LkS) (dy : Nat) (Ba We : Nat → Nat) (U : Nat → Bool) (c i w0 m0 wk mo : Nat) : Prop := ∀ v, kLt L dy Ba We U c w0 m0 v ↔ kLt L dy Ba We U (c - i) wk mo v
theorem kLtI_0 {c w m : Nat} : kLtI L dy Ba We U c 0 w m w m := fun v => Iff.rfl
theorem kLtI_s {c i w0 m0 wk mo wk2 mo2 : Nat} (h : kLtI L dy Ba We U c i w0 m0 wk mo) (hi : i < c) (hg : kAg L dy Ba We U wk mo) (e1 : wk2 = wk + 1) (e2 : mo2 = kAm L dy Ba We U wk mo) : kLtI L dy Ba We U c (i + 1) w0 m0 wk2 mo2 := fun v => by
  rw [h v, show c - i = (c - (i + 1)) + 1 by omega, e1, e2]
  exact ⟨fun q => q.2, fun q => ⟨hg, q⟩⟩
theorem kLtI_n {c i w0 m0 wk mo : Nat} (h : kLtI L dy Ba We U c i w0 m0 wk mo) (hi : i < c) (hg : ¬ kAg L dy Ba We U wk mo) : ∀ v, ¬ kLt L dy Ba We U c w0 m0 v := fun v q => by
  have q2 := (h v).mp q
  rw [show c - i = (c - (i + 1)) + 1 by omega] at q2
  exact hg q2.1
theorem kLtI_e {c i w0 m0 wk mo : Nat} (h : kLtI L dy Ba We U c i w0 m0 wk mo) (hi : c ≤ i) : kLt L dy Ba We U c w0 m0 mo := by
  rw [h mo, show c - i = 0 by omega]
  exact rfl
def kRgI (L : LkS) (dy : Nat) (Ba We : Nat → Nat) (U : Nat → Bool) (m0 i w0 wk mo : Nat) : Prop := ∀ v, kRg L dy Ba We U m0 30 1 w0 m0 v ↔ kRg L dy Ba We U m0 (31 - i) i wk mo v
theorem kRgI_0 {w m : Nat} : kRgI L dy Ba We U m 1 w w m := fun v => Iff.rfl
theorem kRgI_s {m0 i w0 wk mo wk2 mo2 : Nat} (h : kRgI L dy Ba We U m0 i w0 wk mo) (hi : i ≤ 30) (hg : kAg L dy Ba We U wk mo) (e1 : wk2 = wk + 1) (e2 : mo2 = kAm L dy Ba We U wk mo) (hm : ¬ mo2 = m0) : kRgI L dy Ba We U m0 (i + 1) w0 wk2 mo2 := fun v => by
  rw [h v, show 31 - i = (31 - (i + 1)) + 1 by omega, e1]
  rw [e2] at hm ⊢
  constructor
  · intro q
    rcases q.2 with ⟨a, _⟩ | ⟨_, b⟩
    · exact absurd a hm
    · exact b
  · exact fun q => ⟨hg, Or.inr ⟨hm, q⟩⟩
theorem kRgI_n {m0 i w0 wk mo : Nat} (h : kRgI L dy Ba We U m0 i w0 wk mo) (hi : i ≤ 30) (hg : ¬ kAg L dy Ba We U wk mo) : ∀ v, ¬ kRg L dy Ba We U m0 30 1 w0 m0 v := fun v q => by
  have q2 := (h v).mp q
  rw [show 31 - i = (31 - (i + 1)) + 1 by omega] at q2
  exact hg q2.1
theorem kRgI_y {m0 i w0 wk mo mo2 : Nat} (h : kRgI L dy Ba We U m0 i w0 wk mo) (hi : i ≤ 30) (hg : kAg L dy Ba We U wk mo) (e2 : mo2 = kAm L dy Ba We U wk mo) (hm : mo2 = m0) : kRg L dy Ba We U m0 30 1 w0 m0 i := by
  rw [h i, show 31 - i = (31 - (i + 1)) + 1 by omega]
  exact ⟨hg, Or.inl ⟨e2.symm.trans hm, rfl⟩⟩
theorem kRgI_e {m0 i w0 wk mo : Nat} (h : kRgI L dy Ba We U m0 i w0 wk mo) (hi : 30 < i) : ∀ v, ¬ kRg L dy Ba We U m0 30 1 w0 m0 v := fun v q => by
  have q2 := (h v).mp q
  rw [show 31 - i = 0 by omega] at q2
  exact q2
end KAh2
def laterR (L : LkS) (dy wn mo : Nat) (Ba We : Nat → Nat) (U : Nat → Bool) (n r : Int32) : Prop := kR (fun x : Nat × Nat => 1 ≤ dy ∧ x.1 ≤ 30 ∧ n = nI x.1 ∧ kLt L dy Ba We U x.1 wn mo x.2) (r = -1) (fun x => r = nI x.2)
theorem laterR_eq {L : LkS} {dy wn mo : Nat} {Ba We : Nat → Nat} {U : Nat → Bool} {n r q : Int32} (h1 : laterR L dy wn mo Ba We U n r) (h2 : laterR L dy wn mo Ba We U n q) : r = q :=
  kR_eq h1 h2 (fun x y a b => by
    have e := kIe a.2.2.1 b.2.2.1 (by have := a.2.1; omega) (by have := b.2.1; omega)
    obtain ⟨x1, x2⟩ := x
    obtain ⟨y1, y2⟩ := y
    have e' : x1 = y1 := e
    subst e'
    exact Prod.ext rfl (kLt_u _ _ _ _ _ a.2.2.2 b.2.2.2)) (fun a b => a.trans b.symm) (fun _ a b => a.trans b.symm)
def ringR (L : LkS) (dy wn mo : Nat) (Ba We : Nat → Nat) (U : Nat → Bool) (r : Int32) : Prop := kR (fun v : Nat => 1 ≤ dy ∧ kRg L dy Ba We U mo 30 1 wn mo v) (r = -1) (fun v => r = nI v)
theorem ringR_eq {L : LkS} {dy wn mo : Nat} {Ba We : Nat → Nat} {U : Nat → Bool} {r q : Int32} (h1 : ringR L dy wn mo Ba We U r) (h2 : ringR L dy wn mo Ba We U q) : r = q :=
  kR_eq h1 h2 (fun x y a b => kRg_u _ _ _ _ _ _ a.2 b.2) (fun a b => a.trans b.symm) (fun _ a b => a.trans b.symm)
theorem lat_0 {L : LkS} {dy wn mo : Nat} {Ba We : Nat → Nat} {U : Nat → Bool} {n : Int32} (h : dy = 0) : laterR L dy wn mo Ba We U n (-1) := kR_0 (fun x q => by have := q.1; omega) rfl
theorem lat_1 {L : LkS} {dy wn mo : Nat} {Ba We : Nat → Nat} {U : Nat → Bool} {n : Int32} (h : ¬ kIn n 31) : laterR L dy wn mo Ba We U n (-1) := kR_0 (fun x q => h ⟨x.1, by have := q.2.1; omega, q.2.2.1⟩) rfl
theorem lat_2 {L : LkS} {dy wn mo c : Nat} {Ba We : Nat → Nat} {U : Nat → Bool} (hc : c ≤ 30) (h : ∀ v, ¬ kLt L dy Ba We U c wn mo v) : laterR L dy wn mo Ba We U (nI c) (-1) := kR_0 (fun x q => by
  have e := kIe q.2.2.1 rfl (by have := q.2.1; omega) (show c < 2147483648 by omega)
  have q2 := q.2.2.2
  rw [e] at q2
  exact h _ q2) rfl
theorem lat_3 {L : LkS} {dy wn mo c v : Nat} {Ba We : Nat → Nat} {U : Nat → Bool} (h1 : 1 ≤ dy) (hc : c ≤ 30) (h : kLt L dy Ba We U c wn mo v) : laterR L dy wn mo Ba We U (nI c) (nI v) := kR_1 (c, v) ⟨h1, hc, rfl, h⟩ rfl
theorem rin_0 {L : LkS} {dy wn mo : Nat} {Ba We : Nat → Nat} {U : Nat → Bool} (h : dy = 0) : ringR L dy wn mo Ba We U (-1) := kR_0 (fun x q => by have := q.1; omega) rfl
theorem rin_1 {L : LkS} {dy wn mo : Nat} {Ba We : Nat → Nat} {U : Nat → Bool} (h : ∀ v, ¬ kRg L dy Ba We U mo 30 1 wn mo v) : ringR L dy wn mo Ba We U (-1) := kR_0 (fun x q => h x q.2) rfl
theorem rin_2 {L : LkS} {dy wn mo v : Nat} {Ba We : Nat → Nat} {U : Nat → Bool} (h1 : 1 ≤ dy) (h : kRg L dy Ba We U mo 30 1 wn mo v) : ringR L dy wn mo Ba We U (nI v) := kR_1 v ⟨h1, h⟩ rfl
/-! frees -/
def kArg (f : Nat → Nat) : Nat → Nat
  | 0 => 0
  | n + 1 => if f (kArg f n) < f n then n else kArg f n
def frS (f : Nat → Nat) (i be : Nat) (ms : Int64) : Prop := be = kArg f i ∧ ((i = 0 ∧ ms = -1000000000000000) ∨ (1 ≤ i ∧ ms = Int64.ofNat (f (kArg f i))))
theorem kArg_lt (f : Nat → Nat) : ∀ n, 1 ≤ n → kArg f n < n
  | 0, h => absurd h (by omega)
  | n + 1, _ => by
    show (if f (kArg f n) < f n then n else kArg f n) < n + 1
    by_cases c : f (kArg f n) < f n
    · rw [if_pos c]; omega
    · rw [if_neg c]
      by_cases e : n = 0
      · subst e; exact Nat.zero_lt_one
      · have := kArg_lt f n (by omega); omega
theorem kNOT_lt {x : Nat} (h : x < 9223372036854775808) : (-1000000000000000 : Int64) < Int64.ofNat x := by
  rw [Int64.lt_iff_toInt_lt, kofn_int h]
  have e : (-1000000000000000 : Int64).toInt = -1000000000000000 := by decide
  omega
theorem frS_y {f : Nat → Nat} {i be : Nat} {ms : Int64} (h : frS f i be ms) (hb : ∀ v, f v ≤ 1000000000) (hc : ¬ lg_cmp (Int64.ofNat (f i)) ms ≤ 0) : frS f (i + 1) i (Int64.ofNat (f i)) := by
  have b1 := hb i
  have e : i = kArg f (i + 1) := by
    show i = if f (kArg f i) < f i then i else kArg f i
    rcases h.2 with ⟨h1, h2⟩ | ⟨h1, h2⟩
    · subst h1
      split <;> rfl
    · have b2 := hb (kArg f i)
      have h3 : ms < Int64.ofNat (f i) := (lg_cmp_gt _ _).mp (Int32.not_le.mp hc)
      rw [h2, klt (by omega) (by omega)] at h3
      rw [if_pos h3]
  exact ⟨e, Or.inr ⟨by omega, by rw [← e]⟩⟩
theorem frS_n {f : Nat → Nat} {i be : Nat} {ms : Int64} (h : frS f i be ms) (hb : ∀ v, f v ≤ 1000000000) (hc : lg_cmp (Int64.ofNat (f i)) ms ≤ 0) : frS f (i + 1) be ms := by
  have b1 := hb i
  have h3 : ¬ ms < Int64.ofNat (f i) := fun q => Int32.not_le.mpr ((lg_cmp_gt _ _).mpr q) hc
  rcases h.2 with ⟨h1, h2⟩ | ⟨h1, h2⟩
  · rw [h2] at h3
    exact absurd (kNOT_lt (by omega)) h3
  · have b2 := hb (kArg f i)
    rw [h2, klt (by omega) (by omega)] at h3
    have e : kArg f i = kArg f (i + 1) := by
      show kArg f i = if f (kArg f i) < f i then i else kArg f i
      rw [if_neg h3]
    exact ⟨h.1.trans e, Or.inr ⟨by omega, by rw [← e]; exact h2⟩⟩
def kFr (L : LkS) (dy wn mo : Nat) (Ba We : Nat → Nat) (U : Nat → Bool) (d : Nat) : Nat → Nat → Nat
  | 0, v => kcC (kcFo L wn (updG Ba d v) We U 0) dy 0 mo
  | _ + 1, v => kcC (kcFo L wn Ba (updG We d v) U 0) dy 0 mo
theorem kFr_9 {L : LkS} {dy wn mo : Nat} {Ba We : Nat → Nat} {U : Nat → Bool} {d : Nat} (h : dy ≤ 9) : ∀ w v, kFr L dy wn mo Ba We U d w v ≤ 1000000000
  | 0, v => kcC_9 _ h 0 mo
  | _ + 1, v => kcC_9 _ h 0 mo
def freesR (L : LkS) (dy wn mo : Nat) (Ba We : Nat → Nat) (U : Nat → Bool) (d w r : Int32) : Prop := kR (fun x : Nat × Nat => x.1 < dy ∧ d = nI x.1 ∧ x.2 < 2 ∧ w = nI x.2) (r = -1) (fun x => r = nI (kArg (kFr L dy wn mo Ba We U x.1 x.2) 10))
theorem freesR_eq {L : LkS} {dy wn mo : Nat} {Ba We : Nat → Nat} {U : Nat → Bool} {d w r q : Int32} (h9 : dy ≤ 9) (h1 : freesR L dy wn mo Ba We U d w r) (h2 : freesR L dy wn mo Ba We U d w q) : r = q :=
  kR_eq h1 h2 (fun x y a b => Prod.ext (kIe a.2.1 b.2.1 (by omega) (by omega)) (kIe a.2.2.2 b.2.2.2 (by omega) (by omega))) (fun a b => a.trans b.symm) (fun _ a b => a.trans b.symm)
theorem fre_0 {L : LkS} {dy wn mo : Nat} {Ba We : Nat → Nat} {U : Nat → Bool} {d w : Int32} (h : ¬ kIn d dy) : freesR L dy wn mo Ba We U d w (-1) := kR_0 (fun x q => h ⟨x.1, q.1, q.2.1⟩) rfl
theorem fre_1 {L : LkS} {dy wn mo : Nat} {Ba We : Nat → Nat} {U : Nat → Bool} {d w : Int32} (h : ¬ kIn w 2) : freesR L dy wn mo Ba We U d w (-1) := kR_0 (fun x q => h ⟨x.2, q.2.2.1, q.2.2.2⟩) rfl
theorem fre_2 {L : LkS} {dy wn mo k j i be : Nat} {Ba We : Nat → Nat} {U : Nat → Bool} {ms : Int64} (hk : k < dy) (hj : j < 2) (h : frS (kFr L dy wn mo Ba We U k j) i be ms) (hi : i = 10) : freesR L dy wn mo Ba We U (nI k) (nI j) (nI be) := kR_1 (k, j) ⟨hk, rfl, hj, rfl⟩ (by rw [h.1, hi])
theorem updG_2 {α : Type} {f : Nat → α} {d : Nat} {x y : α} : updG (updG f d x) d y = updG f d y := by
  funext j
  unfold updG
  by_cases e : j = d
  · rw [if_pos e, if_pos e]
  · rw [if_neg e, if_neg e, if_neg e]
theorem kcM_10 {E : Nat → Nat → Nat → Bool} {n a0 x d : Nat} (ha : a0 < 10) (hx : x < kcC E n 0 a0) (hd : d < n) : kcM E n a0 x d < 10 := (kcA_ok ha hx (d + 1) (by omega)).1
theorem dg_X11_unlike_0_0 : bqL cX11_unlike 0 [(0, [42]), (1, [182, 0, 204]), (4, [153, 0, 27]), (31, [2]), (32, [172]), (7, [42]), (8, [27]), (9, [42]), (10, [180, 0, 89]), (13, [182, 0, 216]), (16, [153, 0, 15]), (19, [42]), (20, [28]), (21, [42]), (22, [180, 0, 93]), (25, [182, 0, 216]), (28, [154, 0, 5]), (33, [3]), (34, [62]), (35, [3]), (36, [54, 4]), (38, [21, 4]), (40, [42]), (41, [180, 0, 59]), (44, [180, 0, 144]), (47, [162, 0, 29]), (76, [29]), (77, [172]), (50, [42]), (51, [180, 0, 89]), (54, [21, 4]), (56, [46]), (57, [42]), (58, [180, 0, 93]), (61, [21, 4]), (63, [46]), (64, [159, 0, 6]), (70, [132, 4, 1]), (73, [167, 255, 221]), (67, [132, 3, 1])] = true := by decide +kernel
theorem dX11_unlike_0 : decode cX11_unlike 0 = .ok (.aload_n 0, 1) := q_aload_n0 (bat_get dg_X11_unlike_0_0 0 rfl rfl)
theorem dX11_unlike_1 : decode cX11_unlike 1 = .ok (.invokevirtual 204, 3) := q_invokevirtual (bat_get dg_X11_unlike_0_0 1 rfl rfl) rfl
theorem dX11_unlike_4 : decode cX11_unlike 4 = .ok (.ifCond .eq 27, 3) := q_ifCond_eq (bat_get dg_X11_unlike_0_0 2 rfl rfl) rfl
theorem dX11_unlike_31 : decode cX11_unlike 31 = .ok (.iconst (-1), 1) := q_iconstm1 (bat_get dg_X11_unlike_0_0 3 rfl rfl)
theorem dX11_unlike_32 : decode cX11_unlike 32 = .ok (.ireturn, 1) := q_ireturn (bat_get dg_X11_unlike_0_0 4 rfl rfl)
theorem dX11_unlike_7 : decode cX11_unlike 7 = .ok (.aload_n 0, 1) := q_aload_n0 (bat_get dg_X11_unlike_0_0 5 rfl rfl)
theorem dX11_unlike_8 : decode cX11_unlike 8 = .ok (.iload_n 1, 1) := q_iload_n1 (bat_get dg_X11_unlike_0_0 6 rfl rfl)
theorem dX11_unlike_9 : decode cX11_unlike 9 = .ok (.aload_n 0, 1) := q_aload_n0 (bat_get dg_X11_unlike_0_0 7 rfl rfl)
theorem dX11_unlike_10 : decode cX11_unlike 10 = .ok (.getfield 89, 3) := q_getfield (bat_get dg_X11_unlike_0_0 8 rfl rfl) rfl
theorem dX11_unlike_13 : decode cX11_unlike 13 = .ok (.invokevirtual 216, 3) := q_invokevirtual (bat_get dg_X11_unlike_0_0 9 rfl rfl) rfl
theorem dX11_unlike_16 : decode cX11_unlike 16 = .ok (.ifCond .eq 15, 3) := q_ifCond_eq (bat_get dg_X11_unlike_0_0 10 rfl rfl) rfl
theorem dX11_unlike_19 : decode cX11_unlike 19 = .ok (.aload_n 0, 1) := q_aload_n0 (bat_get dg_X11_unlike_0_0 11 rfl rfl)
theorem dX11_unlike_20 : decode cX11_unlike 20 = .ok (.iload_n 2, 1) := q_iload_n2 (bat_get dg_X11_unlike_0_0 12 rfl rfl)
theorem dX11_unlike_21 : decode cX11_unlike 21 = .ok (.aload_n 0, 1) := q_aload_n0 (bat_get dg_X11_unlike_0_0 13 rfl rfl)
theorem dX11_unlike_22 : decode cX11_unlike 22 = .ok (.getfield 93, 3) := q_getfield (bat_get dg_X11_unlike_0_0 14 rfl rfl) rfl
theorem dX11_unlike_25 : decode cX11_unlike 25 = .ok (.invokevirtual 216, 3) := q_invokevirtual (bat_get dg_X11_unlike_0_0 15 rfl rfl) rfl
theorem dX11_unlike_28 : decode cX11_unlike 28 = .ok (.ifCond .ne 5, 3) := q_ifCond_ne (bat_get dg_X11_unlike_0_0 16 rfl rfl) rfl
theorem dX11_unlike_33 : decode cX11_unlike 33 = .ok (.iconst 0, 1) := q_iconst0 (bat_get dg_X11_unlike_0_0 17 rfl rfl)
theorem dX11_unlike_34 : decode cX11_unlike 34 = .ok (.istore_n 3, 1) := q_istore_n3 (bat_get dg_X11_unlike_0_0 18 rfl rfl)
theorem dX11_unlike_35 : decode cX11_unlike 35 = .ok (.iconst 0, 1) := q_iconst0 (bat_get dg_X11_unlike_0_0 19 rfl rfl)
theorem dX11_unlike_36 : decode cX11_unlike 36 = .ok (.istore 4, 2) := q_istore (bat_get dg_X11_unlike_0_0 20 rfl rfl)
theorem dX11_unlike_38 : decode cX11_unlike 38 = .ok (.iload 4, 2) := q_iload (bat_get dg_X11_unlike_0_0 21 rfl rfl)
theorem dX11_unlike_40 : decode cX11_unlike 40 = .ok (.aload_n 0, 1) := q_aload_n0 (bat_get dg_X11_unlike_0_0 22 rfl rfl)
theorem dX11_unlike_41 : decode cX11_unlike 41 = .ok (.getfield 59, 3) := q_getfield (bat_get dg_X11_unlike_0_0 23 rfl rfl) rfl
theorem dX11_unlike_44 : decode cX11_unlike 44 = .ok (.getfield 144, 3) := q_getfield (bat_get dg_X11_unlike_0_0 24 rfl rfl) rfl
theorem dX11_unlike_47 : decode cX11_unlike 47 = .ok (.if_icmp .ge 29, 3) := q_if_icmp_ge (bat_get dg_X11_unlike_0_0 25 rfl rfl) rfl
theorem dX11_unlike_76 : decode cX11_unlike 76 = .ok (.iload_n 3, 1) := q_iload_n3 (bat_get dg_X11_unlike_0_0 26 rfl rfl)
theorem dX11_unlike_77 : decode cX11_unlike 77 = .ok (.ireturn, 1) := q_ireturn (bat_get dg_X11_unlike_0_0 27 rfl rfl)
theorem dX11_unlike_50 : decode cX11_unlike 50 = .ok (.aload_n 0, 1) := q_aload_n0 (bat_get dg_X11_unlike_0_0 28 rfl rfl)
theorem dX11_unlike_51 : decode cX11_unlike 51 = .ok (.getfield 89, 3) := q_getfield (bat_get dg_X11_unlike_0_0 29 rfl rfl) rfl
theorem dX11_unlike_54 : decode cX11_unlike 54 = .ok (.iload 4, 2) := q_iload (bat_get dg_X11_unlike_0_0 30 rfl rfl)
theorem dX11_unlike_56 : decode cX11_unlike 56 = .ok (.iaload, 1) := q_iaload (bat_get dg_X11_unlike_0_0 31 rfl rfl)
theorem dX11_unlike_57 : decode cX11_unlike 57 = .ok (.aload_n 0, 1) := q_aload_n0 (bat_get dg_X11_unlike_0_0 32 rfl rfl)
theorem dX11_unlike_58 : decode cX11_unlike 58 = .ok (.getfield 93, 3) := q_getfield (bat_get dg_X11_unlike_0_0 33 rfl rfl) rfl
theorem dX11_unlike_61 : decode cX11_unlike 61 = .ok (.iload 4, 2) := q_iload (bat_get dg_X11_unlike_0_0 34 rfl rfl)
theorem dX11_unlike_63 : decode cX11_unlike 63 = .ok (.iaload, 1) := q_iaload (bat_get dg_X11_unlike_0_0 35 rfl rfl)
theorem dX11_unlike_64 : decode cX11_unlike 64 = .ok (.if_icmp .eq 6, 3) := q_if_icmp_eq (bat_get dg_X11_unlike_0_0 36 rfl rfl) rfl
theorem dX11_unlike_70 : decode cX11_unlike 70 = .ok (.iinc 4 1, 3) := q_iinc (bat_get dg_X11_unlike_0_0 37 rfl rfl) rfl
theorem dX11_unlike_73 : decode cX11_unlike 73 = .ok (.goto (-35), 3) := q_goto (bat_get dg_X11_unlike_0_0 38 rfl rfl) rfl
theorem dX11_unlike_67 : decode cX11_unlike 67 = .ok (.iinc 3 1, 3) := q_iinc (bat_get dg_X11_unlike_0_0 39 rfl rfl) rfl
theorem w_4_181 : (Cond.code yX11_unlike cX11_unlike 5 (some .int)) ∈ wsL_law := sk_mem (ck_4 _ (List.mem_of_getElem? (i := 181) rfl)) rfl
def om_26_2000020 : List Bool := true :: false :: false :: false :: false :: false :: false :: false :: false :: false :: false :: false :: false :: false :: false :: false :: false :: false :: false :: false :: true :: false :: false :: false :: false :: false :: []
def om_26_3fffffe : List Bool := true :: true :: true :: true :: true :: true :: true :: true :: true :: true :: true :: true :: true :: true :: true :: true :: true :: true :: true :: true :: true :: true :: true :: true :: true :: false :: []
def om_26_3fffffd : List Bool := true :: true :: true :: true :: true :: true :: true :: true :: true :: true :: true :: true :: true :: true :: true :: true :: true :: true :: true :: true :: true :: true :: true :: true :: false :: true :: []
set_option maxHeartbeats 4000000 in
set_option maxRecDepth 100000 in
theorem c_uy_unlike (l : Launch) (D : va_G) (cI cJ cC cZ cS : ClassId) (x0 : Nat) (q : Nat → Nat) (hc : Int32) (dr : Int64) (sa : Nat → Nat) (ft : Nat → Int32) (fa : Nat → Int32) (fo : Nat → Int32) (fg : Nat → Int64) (fk : Nat → Int32) (dh : Nat) (mh : Nat) (uh : Int32) (rh : Int32) (nh : Nat) (ch : Nat) (wh : Nat) (y1 : Nat → Int32) (y2 : Nat → Int64) (y3 : Nat → Int64) (y4 : Nat → Int64) (yf : Nat → Int32) (yt : Nat → Int32) (gd : Nat) (gs : Nat) (e1 : Nat → Int32) (e2 : Nat → Int32) (e3 : Nat → Int32) (dy : Nat) (wn : Nat) (mo : Nat) (ke : Nat) (mu : Int32) (fb : Nat → Int32) (fw : Nat → Int32) (Ba : Nat → Nat) (We : Nat → Nat) (L : LkS) (U : Nat → Bool) (e4 : Nat → Int64) (ra : Nat → Int32) (rc : Nat → Int32) (k : Int32) (w : Int32) (hsa : ∀ j, sa j ≤ 9) (hch : ch ≤ 1600) (hwh : wh ≤ 1) (hdy : dy ≤ 9) (hmo : mo ≤ 9) (hgd : gd ≤ 9) (hgs : gs ≤ 9) (hLk : kcLk L) (hlq : 1 ≤ dy → cdK (lK (lkF L)) ch wh y1 ∧ ∀ v, v < 3 → sgO (lG (lkF L) v) (yf v) (yt v)) (htq : 1 ≤ dy → kcTI L sa ft fa fo fg fk) (hfb : ∀ j, j < 9 → fb j = nI (Ba j)) (hfw : ∀ j, j < 9 → fw j = nI (We j)) (hB9 : ∀ j, Ba j ≤ 9) (hW9 : ∀ j, We j ≤ 9) (hwn : wn ≤ 999) (hU : muO U mu) : skM l yX11_unlike cX11_unlike 5 (some .int) 7 171 0 0 D (skT cI cJ cC cZ cS) [.ref x0, .int k, .int w] [ro_rrrrrrrrrrrrrrrirl x0 11 (q 0) (q 1) (q 2) (q 3) (q 4) (q 5) (q 6) (q 7) (q 8) (q 9) (q 10) (q 11) (q 12) (q 13) (q 14) hc (q 16) dr, ro_rrrrrr (q 10) 9 (q 61) (q 62) (q 63) (q 64) (q 65) (q 66), ra_N (q 61) cI 90 sa, ra_I (q 62) cI 900 ft, ra_I (q 63) cI 90 fa, ra_I (q 64) cI 90 fo, ra_J (q 65) cJ 90 fg, ra_I (q 66) cI 9 fk, ro_rrrrrnniin (q 5) 2 (q 44) (q 45) (q 46) (q 47) (q 48) dh mh uh rh nh, ro_rrrrnn (q 44) 0 (q 49) (q 50) (q 51) (q 52) ch wh, ra_I (q 49) cI 1600 y1, ra_J (q 50) cJ 64 y2, ra_J (q 51) cJ 9 y3, ra_J (q 52) cJ 10 y4, ra_I (q 47) cI 3 yf, ra_I (q 48) cI 3 yt, ro_rrrrrrrnn (q 11) 1 (q 10) (q 67) (q 68) (q 69) (q 70) (q 71) (q 72) gd gs, ra_I (q 67) cI 90 e1, ra_I (q 68) cI 9 e2, ra_I (q 69) cI 10 e3, ro_rrnnnin (q 7) 7 (q 33) (q 34) dy wn mo mu ke, ra_I (q 33) cI 9 fb, ra_I (q 34) cI 9 fw, ra_J (q 70) cJ 100 e4, ra_I (q 12) cI 9 ra, ra_I (q 13) cI 9 rc] (skI D (skT cI cJ cC cZ cS) (fun (r : Int32) (u : va_W) => ∃ (sa2 : Nat → Nat), ∃ (ft2 : Nat → Int32), ∃ (fa2 : Nat → Int32), ∃ (fo2 : Nat → Int32), ∃ (fg2 : Nat → Int64), ∃ (fk2 : Nat → Int32), ∃ (z2 : Nat → Int64), ∃ (z3 : Nat → Int64), ∃ (g1 : Nat → Int32), ∃ (g2 : Nat → Int32), ∃ (g3 : Nat → Int32), ∃ (gd2 : Nat), ∃ (gs2 : Nat), ∃ (g4 : Nat → Int64), ∃ (ra2 : Nat → Int32), ∃ (rc2 : Nat → Int32), (∀ j, sa2 j ≤ 9) ∧ (1 ≤ dy → kcTI L sa2 ft2 fa2 fo2 fg2 fk2) ∧ gd2 ≤ 9 ∧ gs2 ≤ 9 ∧ unlikeR (kcFo L wn Ba We U 0) dy mo k w r ∧ u = [ro_rrrrrrrrrrrrrrrirl x0 11 (q 0) (q 1) (q 2) (q 3) (q 4) (q 5) (q 6) (q 7) (q 8) (q 9) (q 10) (q 11) (q 12) (q 13) (q 14) hc (q 16) dr, ro_rrrrrr (q 10) 9 (q 61) (q 62) (q 63) (q 64) (q 65) (q 66), ra_N (q 61) cI 90 sa2, ra_I (q 62) cI 900 ft2, ra_I (q 63) cI 90 fa2, ra_I (q 64) cI 90 fo2, ra_J (q 65) cJ 90 fg2, ra_I (q 66) cI 9 fk2, ro_rrrrrnniin (q 5) 2 (q 44) (q 45) (q 46) (q 47) (q 48) dh mh uh rh nh, ro_rrrrnn (q 44) 0 (q 49) (q 50) (q 51) (q 52) ch wh, ra_I (q 49) cI 1600 y1, ra_J (q 50) cJ 64 z2, ra_J (q 51) cJ 9 z3, ra_J (q 52) cJ 10 y4, ra_I (q 47) cI 3 yf, ra_I (q 48) cI 3 yt, ro_rrrrrrrnn (q 11) 1 (q 10) (q 67) (q 68) (q 69) (q 70) (q 71) (q 72) gd2 gs2, ra_I (q 67) cI 90 g1, ra_I (q 68) cI 9 g2, ra_I (q 69) cI 10 g3, ro_rrnnnin (q 7) 7 (q 33) (q 34) dy wn mo mu ke, ra_I (q 33) cI 9 fb, ra_I (q 34) cI 9 fw, ra_J (q 70) cJ 100 g4, ra_I (q 12) cI 9 ra2, ra_I (q 13) cI 9 rc2])) := by
  refine skM_of pf_X11_unlike (Nat.le_of_ble_eq_true rfl) ?_
  intro p e s m below meth c A ls E hP hD hl
  refine skE_el E (fun hx hb hr hml hlocks hin hown hts hK hA => ?_)
  have hown : s.vm.findClass RX11 = some m.cls := hown
  have hS : va_S A s.heap s.heap [] := va_S.rf
  have hl : lv_has ls 5 [(0, .ref x0), (1, .int k), (2, .int w)] := hl
  refine lv_aload_n hx hb dX11_unlike_0 rfl (lv_at hl 0 rfl) ?_
  refine sk_Vi (q0 := 0) (n := 0) (rest := []) (wr := fmR om_26_2000020 _) ⟨hx, hb, hml, hown, hts⟩ hl.1 (c_kx_isLocked l D cI cJ cC cZ cS x0 q hc dr dy wn mo ke mu fb fw hdy) w_4_39 w_4_41 w_0_18 w_1_1 w_4_42 hd_X11_isLocked_0 ⟨⟨(Nat.le_of_ble_eq_true rfl), (Nat.le_of_ble_eq_true rfl)⟩, (Nat.le_of_ble_eq_true rfl), (Nat.le_of_ble_eq_true rfl)⟩ hK hP hD hS hA (fmT om_26_2000020 0) (fmF om_26_2000020 0) (fm_C1 rfl rfl) (fm_R rfl rfl) (fm_nT om_26_2000020 0) (fm_nF om_26_2000020 0) (fm_di om_26_2000020 0) rfl rfl rfl rfl (Nat.le_of_ble_eq_true rfl) dX11_unlike_1 (fun r_2 u H locs hw hP hD hS => ?_)
  refine exE hw (fun b_1 hw1 => anE hw1 (fun hb1_3 hw2 => anE hw2 (fun er_5 eu_4 => ?_)))
  clear hw hw1 hw2
  subst er_5
  refine o_mgE (ws' := [ro_rrrrrrrrrrrrrrrirl x0 11 (q 0) (q 1) (q 2) (q 3) (q 4) (q 5) (q 6) (q 7) (q 8) (q 9) (q 10) (q 11) (q 12) (q 13) (q 14) hc (q 16) dr, ro_rrrrrr (q 10) 9 (q 61) (q 62) (q 63) (q 64) (q 65) (q 66), ra_N (q 61) cI 90 sa, ra_I (q 62) cI 900 ft, ra_I (q 63) cI 90 fa, ra_I (q 64) cI 90 fo, ra_J (q 65) cJ 90 fg, ra_I (q 66) cI 9 fk, ro_rrrrrnniin (q 5) 2 (q 44) (q 45) (q 46) (q 47) (q 48) dh mh uh rh nh, ro_rrrrnn (q 44) 0 (q 49) (q 50) (q 51) (q 52) ch wh, ra_I (q 49) cI 1600 y1, ra_J (q 50) cJ 64 y2, ra_J (q 51) cJ 9 y3, ra_J (q 52) cJ 10 y4, ra_I (q 47) cI 3 yf, ra_I (q 48) cI 3 yt, ro_rrrrrrrnn (q 11) 1 (q 10) (q 67) (q 68) (q 69) (q 70) (q 71) (q 72) gd gs, ra_I (q 67) cI 90 e1, ra_I (q 68) cI 9 e2, ra_I (q 69) cI 10 e3, ro_rrnnnin (q 7) 7 (q 33) (q 34) dy wn mo mu ke, ra_I (q 33) cI 9 fb, ra_I (q 34) cI 9 fw, ra_J (q 70) cJ 100 e4, ra_I (q 12) cI 9 ra, ra_I (q 13) cI 9 rc]) eu_4 hP hD rfl (fun hP hD => ?_)
  refine lv_if_eq (tgt := 31) hx hb dX11_unlike_4 (by decide) (fun c_6 => ?_) (fun c_6 => ?_)
  · have c_6 : b_1 = 0 := (neq b_1 0 (by omega) (Nat.le_of_ble_eq_true rfl)).mp c_6
    refine lv_iconst (v := (-1)) hx hb dX11_unlike_31 (by decide) ?_
    exact sk_iret hx hb hr rfl hlocks hK hP hD hS (⟨sa, ft, fa, fo, fg, fk, y2, y3, e1, e2, e3, gd, gs, e4, ra, rc, hsa, htq, hgd, hgs, unl_0 (by omega), rfl⟩) (Nat.le_of_ble_eq_true rfl) (Nat.le_of_ble_eq_true rfl) dX11_unlike_32
  · have c_6 : ¬ (b_1 = 0) := fun h => c_6 ((neq b_1 0 (by omega) (Nat.le_of_ble_eq_true rfl)).mpr h)
    refine lv_aload_n hx hb dX11_unlike_7 rfl (lv_at hl 0 rfl) ?_
    refine lv_iload_n hx hb dX11_unlike_8 rfl (lv_at hl 1 rfl) ?_
    refine lv_aload_n hx hb dX11_unlike_9 rfl (lv_at hl 0 rfl) ?_
    refine sk_get (v := .ref (q 12)) (C := RX11) (T := TX11) (N := 18) hx hb hts inlX11 hown hK hP 0 rfl rfl 12 (Nat.le_of_ble_eq_true rfl) w_2_135 rfl dX11_unlike_10 ?_
    refine sk_Vi (q0 := 0) (n := 2) (rest := []) (wr := fmR om_26_3fffffe _) ⟨hx, hb, hml, hown, hts⟩ hl.1 (c_kx_takeWeek l D cI cJ cC cZ cS x0 q hc dr sa ft fa fo fg fk dh mh uh rh nh ch wh y1 y2 y3 y4 yf yt gd gs e1 e2 e3 dy wn mo ke mu fb fw Ba We L U e4 (q 12) ra k hsa hch hwh hdy hmo hLk (hlq (by omega)).1 (hlq (by omega)).2 hfb hfw hB9 hW9 hwn hU (htq (by omega))) w_4_69 w_4_71 w_0_21 w_1_1 w_4_72 hd_X11_takeWeek_2 ⟨⟨(Nat.le_of_ble_eq_true rfl), (Nat.le_of_ble_eq_true rfl)⟩, (Nat.le_of_ble_eq_true rfl), (Nat.le_of_ble_eq_true rfl)⟩ hK hP hD hS hA (fmT om_26_3fffffe 0) (fmF om_26_3fffffe 0) (fm_C1 rfl rfl) (fm_R rfl rfl) (fm_nT om_26_3fffffe 0) (fm_nF om_26_3fffffe 0) (fm_di om_26_3fffffe 0) rfl rfl rfl rfl (Nat.le_of_ble_eq_true rfl) dX11_unlike_13 (fun r_21 u H locs hw hP hD hS => ?_)
    refine exE hw (fun sa2_7 hw1 => exE hw1 (fun ft2_8 hw2 => exE hw2 (fun fa2_9 hw3 => exE hw3 (fun fo2_10 hw4 => exE hw4 (fun fg2_11 hw5 => exE hw5 (fun fk2_12 hw6 => exE hw6 (fun z2_13 hw7 => exE hw7 (fun z3_14 hw8 => exE hw8 (fun g1_15 hw9 => exE hw9 (fun g2_16 hw10 => exE hw10 (fun g3_17 hw11 => exE hw11 (fun g4_18 hw12 => exE hw12 (fun ra2_19 hw13 => exE hw13 (fun b_20 hw14 => anE hw14 (fun hsa2_22 hw15 => anE hw15 (fun hti2_23 hw16 => anE hw16 (fun htw_24 hw17 => anE hw17 (fun er_26 eu_25 => ?_))))))))))))))))))
    clear hw hw1 hw2 hw3 hw4 hw5 hw6 hw7 hw8 hw9 hw10 hw11 hw12 hw13 hw14 hw15 hw16 hw17
    subst er_26
    refine o_mgE (ws' := [ro_rrrrrrrrrrrrrrrirl x0 11 (q 0) (q 1) (q 2) (q 3) (q 4) (q 5) (q 6) (q 7) (q 8) (q 9) (q 10) (q 11) (q 12) (q 13) (q 14) hc (q 16) dr, ro_rrrrrr (q 10) 9 (q 61) (q 62) (q 63) (q 64) (q 65) (q 66), ra_N (q 61) cI 90 sa2_7, ra_I (q 62) cI 900 ft2_8, ra_I (q 63) cI 90 fa2_9, ra_I (q 64) cI 90 fo2_10, ra_J (q 65) cJ 90 fg2_11, ra_I (q 66) cI 9 fk2_12, ro_rrrrrnniin (q 5) 2 (q 44) (q 45) (q 46) (q 47) (q 48) dh mh uh rh nh, ro_rrrrnn (q 44) 0 (q 49) (q 50) (q 51) (q 52) ch wh, ra_I (q 49) cI 1600 y1, ra_J (q 50) cJ 64 z2_13, ra_J (q 51) cJ 9 z3_14, ra_J (q 52) cJ 10 y4, ra_I (q 47) cI 3 yf, ra_I (q 48) cI 3 yt, ro_rrrrrrrnn (q 11) 1 (q 10) (q 67) (q 68) (q 69) (q 70) (q 71) (q 72) dy mo, ra_I (q 67) cI 90 g1_15, ra_I (q 68) cI 9 g2_16, ra_I (q 69) cI 10 g3_17, ro_rrnnnin (q 7) 7 (q 33) (q 34) dy wn mo mu ke, ra_I (q 33) cI 9 fb, ra_I (q 34) cI 9 fw, ra_J (q 70) cJ 100 g4_18, ra_I (q 12) cI 9 ra2_19, ra_I (q 13) cI 9 rc]) eu_25 hP hD rfl (fun hP hD => ?_)
    refine lv_if_eq (tgt := 31) hx hb dX11_unlike_16 (by decide) (fun c_27 => ?_) (fun c_27 => ?_)
    · have c_27 : b_20 = 0 := (neq b_20 0 (by omega) (Nat.le_of_ble_eq_true rfl)).mp c_27
      refine lv_iconst (v := (-1)) hx hb dX11_unlike_31 (by decide) ?_
      exact sk_iret hx hb hr rfl hlocks hK hP hD hS (⟨sa2_7, ft2_8, fa2_9, fo2_10, fg2_11, fk2_12, z2_13, z3_14, g1_15, g2_16, g3_17, dy, mo, g4_18, ra2_19, rc, hsa2_22, (fun _ => hti2_23), hdy, hmo, unl_1 (rr_0 htw_24 (by omega)), rfl⟩) (Nat.le_of_ble_eq_true rfl) (Nat.le_of_ble_eq_true rfl) dX11_unlike_32
    · have c_27 : ¬ (b_20 = 0) := fun h => c_27 ((neq b_20 0 (by omega) (Nat.le_of_ble_eq_true rfl)).mpr h)
      obtain ⟨kx_28, hkx_28, rfl, rkx_28⟩ := rr_1 htw_24 (by omega)
      refine lv_aload_n hx hb dX11_unlike_19 rfl (lv_at hl 0 rfl) ?_
      refine lv_iload_n hx hb dX11_unlike_20 rfl (lv_at hl 2 rfl) ?_
      refine lv_aload_n hx hb dX11_unlike_21 rfl (lv_at hl 0 rfl) ?_
      refine sk_get (v := .ref (q 13)) (C := RX11) (T := TX11) (N := 18) hx hb hts inlX11 hown hK hP 0 rfl rfl 13 (Nat.le_of_ble_eq_true rfl) w_2_136 rfl dX11_unlike_22 ?_
      refine sk_Vi (q0 := 0) (n := 2) (rest := []) (wr := fmR om_26_3fffffd _) ⟨hx, hb, hml, hown, hts⟩ hl.1 (c_kx_takeWeek l D cI cJ cC cZ cS x0 q hc dr sa2_7 ft2_8 fa2_9 fo2_10 fg2_11 fk2_12 dh mh uh rh nh ch wh y1 z2_13 z3_14 y4 yf yt dy mo g1_15 g2_16 g3_17 dy wn mo ke mu fb fw Ba We L U g4_18 (q 13) rc w hsa2_22 hch hwh hdy hmo hLk (hlq (by omega)).1 (hlq (by omega)).2 hfb hfw hB9 hW9 hwn hU hti2_23) w_4_69 w_4_71 w_0_21 w_1_1 w_4_72 hd_X11_takeWeek_2 ⟨⟨(Nat.le_of_ble_eq_true rfl), (Nat.le_of_ble_eq_true rfl)⟩, (Nat.le_of_ble_eq_true rfl), (Nat.le_of_ble_eq_true rfl)⟩ hK hP hD hS hA (fmT om_26_3fffffd 0) (fmF om_26_3fffffd 0) (fm_C1 rfl rfl) (fm_R rfl rfl) (fm_nT om_26_3fffffd 0) (fm_nF om_26_3fffffd 0) (fm_di om_26_3fffffd 0) rfl rfl rfl rfl (Nat.le_of_ble_eq_true rfl) dX11_unlike_25 (fun r_43 u H locs hw hP hD hS => ?_)
      refine exE hw (fun sa2_29 hw1 => exE hw1 (fun ft2_30 hw2 => exE hw2 (fun fa2_31 hw3 => exE hw3 (fun fo2_32 hw4 => exE hw4 (fun fg2_33 hw5 => exE hw5 (fun fk2_34 hw6 => exE hw6 (fun z2_35 hw7 => exE hw7 (fun z3_36 hw8 => exE hw8 (fun g1_37 hw9 => exE hw9 (fun g2_38 hw10 => exE hw10 (fun g3_39 hw11 => exE hw11 (fun g4_40 hw12 => exE hw12 (fun ra2_41 hw13 => exE hw13 (fun b_42 hw14 => anE hw14 (fun hsa2_44 hw15 => anE hw15 (fun hti2_45 hw16 => anE hw16 (fun htw_46 hw17 => anE hw17 (fun er_48 eu_47 => ?_))))))))))))))))))
      clear hw hw1 hw2 hw3 hw4 hw5 hw6 hw7 hw8 hw9 hw10 hw11 hw12 hw13 hw14 hw15 hw16 hw17
      subst er_48
      refine o_mgE (ws' := [ro_rrrrrrrrrrrrrrrirl x0 11 (q 0) (q 1) (q 2) (q 3) (q 4) (q 5) (q 6) (q 7) (q 8) (q 9) (q 10) (q 11) (q 12) (q 13) (q 14) hc (q 16) dr, ro_rrrrrr (q 10) 9 (q 61) (q 62) (q 63) (q 64) (q 65) (q 66), ra_N (q 61) cI 90 sa2_29, ra_I (q 62) cI 900 ft2_30, ra_I (q 63) cI 90 fa2_31, ra_I (q 64) cI 90 fo2_32, ra_J (q 65) cJ 90 fg2_33, ra_I (q 66) cI 9 fk2_34, ro_rrrrrnniin (q 5) 2 (q 44) (q 45) (q 46) (q 47) (q 48) dh mh uh rh nh, ro_rrrrnn (q 44) 0 (q 49) (q 50) (q 51) (q 52) ch wh, ra_I (q 49) cI 1600 y1, ra_J (q 50) cJ 64 z2_35, ra_J (q 51) cJ 9 z3_36, ra_J (q 52) cJ 10 y4, ra_I (q 47) cI 3 yf, ra_I (q 48) cI 3 yt, ro_rrrrrrrnn (q 11) 1 (q 10) (q 67) (q 68) (q 69) (q 70) (q 71) (q 72) dy mo, ra_I (q 67) cI 90 g1_37, ra_I (q 68) cI 9 g2_38, ra_I (q 69) cI 10 g3_39, ro_rrnnnin (q 7) 7 (q 33) (q 34) dy wn mo mu ke, ra_I (q 33) cI 9 fb, ra_I (q 34) cI 9 fw, ra_J (q 70) cJ 100 g4_40, ra_I (q 12) cI 9 ra2_19, ra_I (q 13) cI 9 ra2_41]) eu_47 hP hD rfl (fun hP hD => ?_)
      refine lv_if_ne (tgt := 33) hx hb dX11_unlike_28 (by decide) (fun c_49 => ?_) (fun c_49 => ?_)
      · have c_49 : ¬ (b_42 = 0) := fun h => c_49 ((neq b_42 0 (by omega) (Nat.le_of_ble_eq_true rfl)).mpr h)
        obtain ⟨kx_50, hkx_50, rfl, rkx_50⟩ := rr_1 htw_46 (by omega)
        refine lv_iconst (v := 0) hx hb dX11_unlike_33 ic_0 ?_
        refine lv_istore_n (lv' := [(3, .int 0), (0, .ref x0), (1, .int (nI kx_28)), (2, .int (nI kx_50))]) hx hb dX11_unlike_34 rfl hl (by decide) rfl (fun ls hl => ?_)
        refine lv_iconst (v := 0) hx hb dX11_unlike_35 ic_0 ?_
        refine lv_istore (lv' := [(4, .int 0), (3, .int 0), (0, .ref x0), (1, .int (nI kx_28)), (2, .int (nI kx_50))]) hx hb dX11_unlike_36 hl (by decide) rfl (fun ls hl => ?_)
        have lp_51 : ∀ (n_52 : Nat) (i : Nat) (un : Nat) (H : Heap) (locs : List Loc) (ls : Array Slot), dy - i < n_52 → (i ≤ dy) → (un = kcDf (kcM (kcFo L wn Ba We U 0) dy mo kx_28) (kcM (kcFo L wn Ba We U 0) dy mo kx_50) i) → va_P D vwCl [ro_rrrrrrrrrrrrrrrirl x0 11 (q 0) (q 1) (q 2) (q 3) (q 4) (q 5) (q 6) (q 7) (q 8) (q 9) (q 10) (q 11) (q 12) (q 13) (q 14) hc (q 16) dr, ro_rrrrrr (q 10) 9 (q 61) (q 62) (q 63) (q 64) (q 65) (q 66), ra_N (q 61) cI 90 sa2_29, ra_I (q 62) cI 900 ft2_30, ra_I (q 63) cI 90 fa2_31, ra_I (q 64) cI 90 fo2_32, ra_J (q 65) cJ 90 fg2_33, ra_I (q 66) cI 9 fk2_34, ro_rrrrrnniin (q 5) 2 (q 44) (q 45) (q 46) (q 47) (q 48) dh mh uh rh nh, ro_rrrrnn (q 44) 0 (q 49) (q 50) (q 51) (q 52) ch wh, ra_I (q 49) cI 1600 y1, ra_J (q 50) cJ 64 z2_35, ra_J (q 51) cJ 9 z3_36, ra_J (q 52) cJ 10 y4, ra_I (q 47) cI 3 yf, ra_I (q 48) cI 3 yt, ro_rrrrrrrnn (q 11) 1 (q 10) (q 67) (q 68) (q 69) (q 70) (q 71) (q 72) dy mo, ra_I (q 67) cI 90 g1_37, ra_I (q 68) cI 9 g2_38, ra_I (q 69) cI 10 g3_39, ro_rrnnnin (q 7) 7 (q 33) (q 34) dy wn mo mu ke, ra_I (q 33) cI 9 fb, ra_I (q 34) cI 9 fw, ra_J (q 70) cJ 100 g4_40, ra_I (q 12) cI 9 ra2_19, ra_I (q 13) cI 9 ra2_41] H → va_D A [ro_rrrrrrrrrrrrrrrirl x0 11 (q 0) (q 1) (q 2) (q 3) (q 4) (q 5) (q 6) (q 7) (q 8) (q 9) (q 10) (q 11) (q 12) (q 13) (q 14) hc (q 16) dr, ro_rrrrrr (q 10) 9 (q 61) (q 62) (q 63) (q 64) (q 65) (q 66), ra_N (q 61) cI 90 sa2_29, ra_I (q 62) cI 900 ft2_30, ra_I (q 63) cI 90 fa2_31, ra_I (q 64) cI 90 fo2_32, ra_J (q 65) cJ 90 fg2_33, ra_I (q 66) cI 9 fk2_34, ro_rrrrrnniin (q 5) 2 (q 44) (q 45) (q 46) (q 47) (q 48) dh mh uh rh nh, ro_rrrrnn (q 44) 0 (q 49) (q 50) (q 51) (q 52) ch wh, ra_I (q 49) cI 1600 y1, ra_J (q 50) cJ 64 z2_35, ra_J (q 51) cJ 9 z3_36, ra_J (q 52) cJ 10 y4, ra_I (q 47) cI 3 yf, ra_I (q 48) cI 3 yt, ro_rrrrrrrnn (q 11) 1 (q 10) (q 67) (q 68) (q 69) (q 70) (q 71) (q 72) dy mo, ra_I (q 67) cI 90 g1_37, ra_I (q 68) cI 9 g2_38, ra_I (q 69) cI 10 g3_39, ro_rrnnnin (q 7) 7 (q 33) (q 34) dy wn mo mu ke, ra_I (q 33) cI 9 fb, ra_I (q 34) cI 9 fw, ra_J (q 70) cJ 100 g4_40, ra_I (q 12) cI 9 ra2_19, ra_I (q 13) cI 9 ra2_41] → va_S A s.heap H locs → lv_has ls 5 [(4, .int (nI i)), (3, .int (nI un)), (0, .ref x0), (1, .int (nI kx_28)), (2, .int (nI kx_50))] → W p l e { frames := 7, cells := 0, slots := 0, locals := 171 } s m ([.ref x0, .int (nI kx_28), .int (nI kx_50)] : List Value).toArray below meth c H locs 0 0 (MQ below (skI D (skT cI cJ cC cZ cS) (fun (r : Int32) (u : va_W) => ∃ (sa2 : Nat → Nat), ∃ (ft2 : Nat → Int32), ∃ (fa2 : Nat → Int32), ∃ (fo2 : Nat → Int32), ∃ (fg2 : Nat → Int64), ∃ (fk2 : Nat → Int32), ∃ (z2 : Nat → Int64), ∃ (z3 : Nat → Int64), ∃ (g1 : Nat → Int32), ∃ (g2 : Nat → Int32), ∃ (g3 : Nat → Int32), ∃ (gd2 : Nat), ∃ (gs2 : Nat), ∃ (g4 : Nat → Int64), ∃ (ra2 : Nat → Int32), ∃ (rc2 : Nat → Int32), (∀ j, sa2 j ≤ 9) ∧ (1 ≤ dy → kcTI L sa2 ft2 fa2 fo2 fg2 fk2) ∧ gd2 ≤ 9 ∧ gs2 ≤ 9 ∧ unlikeR (kcFo L wn Ba We U 0) dy mo (nI kx_28) (nI kx_50) r ∧ u = [ro_rrrrrrrrrrrrrrrirl x0 11 (q 0) (q 1) (q 2) (q 3) (q 4) (q 5) (q 6) (q 7) (q 8) (q 9) (q 10) (q 11) (q 12) (q 13) (q 14) hc (q 16) dr, ro_rrrrrr (q 10) 9 (q 61) (q 62) (q 63) (q 64) (q 65) (q 66), ra_N (q 61) cI 90 sa2, ra_I (q 62) cI 900 ft2, ra_I (q 63) cI 90 fa2, ra_I (q 64) cI 90 fo2, ra_J (q 65) cJ 90 fg2, ra_I (q 66) cI 9 fk2, ro_rrrrrnniin (q 5) 2 (q 44) (q 45) (q 46) (q 47) (q 48) dh mh uh rh nh, ro_rrrrnn (q 44) 0 (q 49) (q 50) (q 51) (q 52) ch wh, ra_I (q 49) cI 1600 y1, ra_J (q 50) cJ 64 z2, ra_J (q 51) cJ 9 z3, ra_J (q 52) cJ 10 y4, ra_I (q 47) cI 3 yf, ra_I (q 48) cI 3 yt, ro_rrrrrrrnn (q 11) 1 (q 10) (q 67) (q 68) (q 69) (q 70) (q 71) (q 72) gd2 gs2, ra_I (q 67) cI 90 g1, ra_I (q 68) cI 9 g2, ra_I (q 69) cI 10 g3, ro_rrnnnin (q 7) 7 (q 33) (q 34) dy wn mo mu ke, ra_I (q 33) cI 9 fb, ra_I (q 34) cI 9 fw, ra_J (q 70) cJ 100 g4, ra_I (q 12) cI 9 ra2, ra_I (q 13) cI 9 rc2]) A) ([.ref x0, .int (nI kx_28), .int (nI kx_50)] : List Value).toArray s 0 0 A) (F0 m 38 ls []) := by
          intro n_52
          induction n_52 with
          | zero => intro i un H locs ls hm; exact absurd hm (Nat.not_lt_zero _)
          | succ n_52 ih_lp_51 =>
            intro i un H locs ls hm hi hun hP hD hS hl
            refine lv_iload hx hb dX11_unlike_38 (lv_at hl 0 rfl) ?_
            refine lv_aload_n hx hb dX11_unlike_40 rfl (lv_at hl 2 rfl) ?_
            refine sk_get (v := .ref (q 7)) (C := RX11) (T := TX11) (N := 18) hx hb hts inlX11 hown hK hP 0 rfl rfl 7 (Nat.le_of_ble_eq_true rfl) w_2_130 rfl dX11_unlike_41 ?_
            refine sk_get (v := .int (nI dy)) (C := RX7) (T := TX7) (N := 7) hx hb hts inlX7 hown hK hP 20 rfl rfl 2 (Nat.le_of_ble_eq_true rfl) w_2_1 rfl dX11_unlike_44 ?_
            refine lv_icmp_ge (tgt := 76) hx hb dX11_unlike_47 (by decide) (fun c_53 => ?_) (fun c_53 => ?_)
            · have c_53 : dy ≤ i := (nle dy i (by omega) (by omega)).mp c_53
              refine lv_iload_n hx hb dX11_unlike_76 rfl (lv_at hl 1 rfl) ?_
              exact sk_iret hx hb hr rfl hlocks hK hP hD hS (⟨sa2_29, ft2_30, fa2_31, fo2_32, fg2_33, fk2_34, z2_35, z3_36, g1_37, g2_38, g3_39, dy, mo, g4_40, ra2_19, ra2_41, hsa2_44, (fun _ => hti2_45), hdy, hmo, unl_3 (by omega) hkx_28 hkx_50 (by rw [hun, show i = dy by omega]), rfl⟩) (Nat.le_of_ble_eq_true rfl) (Nat.le_of_ble_eq_true rfl) dX11_unlike_77
            · have c_53 : ¬ (dy ≤ i) := fun h => c_53 ((nle dy i (by omega) (by omega)).mpr h)
              refine lv_aload_n hx hb dX11_unlike_50 rfl (lv_at hl 2 rfl) ?_
              refine sk_get (v := .ref (q 12)) (C := RX11) (T := TX11) (N := 18) hx hb hts inlX11 hown hK hP 0 rfl rfl 12 (Nat.le_of_ble_eq_true rfl) w_2_135 rfl dX11_unlike_51 ?_
              refine lv_iload hx hb dX11_unlike_54 (lv_at hl 0 rfl) ?_
              refine va_iald hx hb hK.1 hP 24 0 rfl rfl (vin i 9 (by omega) (Nat.le_of_ble_eq_true rfl)) dX11_unlike_56 ?_
              have hb_54 := kcM_10 (d := i) (show mo < 10 by omega) hkx_28 (by omega)
              refine sk_top (nI (kcM (kcFo L wn Ba We U 0) dy mo kx_28 i)) (by rw [nI_clamp (by omega)]; exact rkx_28 i (by omega)) ?_
              refine lv_aload_n hx hb dX11_unlike_57 rfl (lv_at hl 2 rfl) ?_
              refine sk_get (v := .ref (q 13)) (C := RX11) (T := TX11) (N := 18) hx hb hts inlX11 hown hK hP 0 rfl rfl 13 (Nat.le_of_ble_eq_true rfl) w_2_136 rfl dX11_unlike_58 ?_
              refine lv_iload hx hb dX11_unlike_61 (lv_at hl 0 rfl) ?_
              refine va_iald hx hb hK.1 hP 25 0 rfl rfl (vin i 9 (by omega) (Nat.le_of_ble_eq_true rfl)) dX11_unlike_63 ?_
              have hb_55 := kcM_10 (d := i) (show mo < 10 by omega) hkx_50 (by omega)
              refine sk_top (nI (kcM (kcFo L wn Ba We U 0) dy mo kx_50 i)) (by rw [nI_clamp (by omega)]; exact rkx_50 i (by omega)) ?_
              refine lv_icmp_eq (tgt := 70) hx hb dX11_unlike_64 (by decide) (fun c_56 => ?_) (fun c_56 => ?_)
              · have c_56 : kcM (kcFo L wn Ba We U 0) dy mo kx_28 i = kcM (kcFo L wn Ba We U 0) dy mo kx_50 i := (neq (kcM (kcFo L wn Ba We U 0) dy mo kx_28 i) (kcM (kcFo L wn Ba We U 0) dy mo kx_50 i) (by omega) (by omega)).mp c_56
                refine lv_iinc (v := nI (i + 1)) (lv' := [(4, .int (nI (i + 1))), (3, .int (nI un)), (0, .ref x0), (1, .int (nI kx_28)), (2, .int (nI kx_50))]) hx hb dX11_unlike_70 hl (k := 0) rfl (ninc i 1 (by decide)) (by decide) rfl (fun ls hl => ?_)
                refine lv_goto (tgt := 38) hx hb dX11_unlike_73 (by decide) ?_
                exact ih_lp_51 (i + 1) un _ _ _ (by omega) (by omega) (hun.trans (kdf_n c_56)) hP hD hS (lv_sub hl [0, 1, 2, 3, 4] rfl)
              · have c_56 : ¬ (kcM (kcFo L wn Ba We U 0) dy mo kx_28 i = kcM (kcFo L wn Ba We U 0) dy mo kx_50 i) := fun h => c_56 ((neq (kcM (kcFo L wn Ba We U 0) dy mo kx_28 i) (kcM (kcFo L wn Ba We U 0) dy mo kx_50 i) (by omega) (by omega)).mpr h)
                refine lv_iinc (v := nI (un + 1)) (lv' := [(3, .int (nI (un + 1))), (4, .int (nI i)), (0, .ref x0), (1, .int (nI kx_28)), (2, .int (nI kx_50))]) hx hb dX11_unlike_67 hl (k := 1) rfl (ninc un 1 (by decide)) (by decide) rfl (fun ls hl => ?_)
                refine lv_iinc (v := nI (i + 1)) (lv' := [(4, .int (nI (i + 1))), (3, .int (nI (un + 1))), (0, .ref x0), (1, .int (nI kx_28)), (2, .int (nI kx_50))]) hx hb dX11_unlike_70 hl (k := 1) rfl (ninc i 1 (by decide)) (by decide) rfl (fun ls hl => ?_)
                refine lv_goto (tgt := 38) hx hb dX11_unlike_73 (by decide) ?_
                exact ih_lp_51 (i + 1) (un + 1) _ _ _ (by omega) (by omega) (by rw [hun]; exact kdf_y c_56) hP hD hS (lv_sub hl [0, 1, 2, 3, 4] rfl)
        exact lp_51 (dy - 0 + 1) 0 0 _ _ _ (Nat.lt_succ_self _) (by omega) rfl hP hD hS (lv_sub hl [0, 1, 2, 3, 4] rfl)
      · have c_49 : b_42 = 0 := (neq b_42 0 (by omega) (Nat.le_of_ble_eq_true rfl)).mp c_49
        refine lv_iconst (v := (-1)) hx hb dX11_unlike_31 (by decide) ?_
        exact sk_iret hx hb hr rfl hlocks hK hP hD hS (⟨sa2_29, ft2_30, fa2_31, fo2_32, fg2_33, fk2_34, z2_35, z3_36, g1_37, g2_38, g3_39, dy, mo, g4_40, ra2_19, ra2_41, hsa2_44, (fun _ => hti2_45), hdy, hmo, unl_2 (rr_0 htw_46 (by omega)), rfl⟩) (Nat.le_of_ble_eq_true rfl) (Nat.le_of_ble_eq_true rfl) dX11_unlike_32
theorem dg_X11_lies_0_0 : bqL cX11_lies 0 [(0, [42]), (1, [182, 0, 204]), (4, [154, 0, 5]), (9, [42]), (10, [180, 0, 76]), (13, [42]), (14, [180, 0, 49]), (17, [42]), (18, [180, 0, 59]), (21, [182, 0, 185]), (24, [3]), (25, [60]), (26, [3]), (27, [61]), (28, [28]), (29, [16, 10]), (31, [162, 0, 44]), (75, [27]), (76, [172]), (34, [42]), (35, [180, 0, 85]), (38, [42]), (39, [180, 0, 59]), (42, [42]), (43, [180, 0, 59]), (46, [180, 0, 153]), (49, [28]), (50, [182, 0, 230]), (53, [42]), (54, [180, 0, 85]), (57, [182, 0, 234]), (60, [153, 0, 9]), (69, [132, 2, 1]), (72, [167, 255, 212]), (63, [27]), (64, [4]), (65, [28]), (66, [120]), (67, [128]), (68, [60])] = true := by decide +kernel
theorem dX11_lies_0 : decode cX11_lies 0 = .ok (.aload_n 0, 1) := q_aload_n0 (bat_get dg_X11_lies_0_0 0 rfl rfl)
theorem dX11_lies_1 : decode cX11_lies 1 = .ok (.invokevirtual 204, 3) := q_invokevirtual (bat_get dg_X11_lies_0_0 1 rfl rfl) rfl
theorem dX11_lies_4 : decode cX11_lies 4 = .ok (.ifCond .ne 5, 3) := q_ifCond_ne (bat_get dg_X11_lies_0_0 2 rfl rfl) rfl
theorem dX11_lies_9 : decode cX11_lies 9 = .ok (.aload_n 0, 1) := q_aload_n0 (bat_get dg_X11_lies_0_0 3 rfl rfl)
theorem dX11_lies_10 : decode cX11_lies 10 = .ok (.getfield 76, 3) := q_getfield (bat_get dg_X11_lies_0_0 4 rfl rfl) rfl
theorem dX11_lies_13 : decode cX11_lies 13 = .ok (.aload_n 0, 1) := q_aload_n0 (bat_get dg_X11_lies_0_0 5 rfl rfl)
theorem dX11_lies_14 : decode cX11_lies 14 = .ok (.getfield 49, 3) := q_getfield (bat_get dg_X11_lies_0_0 6 rfl rfl) rfl
theorem dX11_lies_17 : decode cX11_lies 17 = .ok (.aload_n 0, 1) := q_aload_n0 (bat_get dg_X11_lies_0_0 7 rfl rfl)
theorem dX11_lies_18 : decode cX11_lies 18 = .ok (.getfield 59, 3) := q_getfield (bat_get dg_X11_lies_0_0 8 rfl rfl) rfl
theorem dX11_lies_21 : decode cX11_lies 21 = .ok (.invokevirtual 185, 3) := q_invokevirtual (bat_get dg_X11_lies_0_0 9 rfl rfl) rfl
theorem dX11_lies_24 : decode cX11_lies 24 = .ok (.iconst 0, 1) := q_iconst0 (bat_get dg_X11_lies_0_0 10 rfl rfl)
theorem dX11_lies_25 : decode cX11_lies 25 = .ok (.istore_n 1, 1) := q_istore_n1 (bat_get dg_X11_lies_0_0 11 rfl rfl)
theorem dX11_lies_26 : decode cX11_lies 26 = .ok (.iconst 0, 1) := q_iconst0 (bat_get dg_X11_lies_0_0 12 rfl rfl)
theorem dX11_lies_27 : decode cX11_lies 27 = .ok (.istore_n 2, 1) := q_istore_n2 (bat_get dg_X11_lies_0_0 13 rfl rfl)
theorem dX11_lies_28 : decode cX11_lies 28 = .ok (.iload_n 2, 1) := q_iload_n2 (bat_get dg_X11_lies_0_0 14 rfl rfl)
theorem dX11_lies_29 : decode cX11_lies 29 = .ok (.bipush 10, 2) := q_bipush (bat_get dg_X11_lies_0_0 15 rfl rfl) rfl
theorem dX11_lies_31 : decode cX11_lies 31 = .ok (.if_icmp .ge 44, 3) := q_if_icmp_ge (bat_get dg_X11_lies_0_0 16 rfl rfl) rfl
theorem dX11_lies_75 : decode cX11_lies 75 = .ok (.iload_n 1, 1) := q_iload_n1 (bat_get dg_X11_lies_0_0 17 rfl rfl)
theorem dX11_lies_76 : decode cX11_lies 76 = .ok (.ireturn, 1) := q_ireturn (bat_get dg_X11_lies_0_0 18 rfl rfl)
theorem dX11_lies_34 : decode cX11_lies 34 = .ok (.aload_n 0, 1) := q_aload_n0 (bat_get dg_X11_lies_0_0 19 rfl rfl)
theorem dX11_lies_35 : decode cX11_lies 35 = .ok (.getfield 85, 3) := q_getfield (bat_get dg_X11_lies_0_0 20 rfl rfl) rfl
theorem dX11_lies_38 : decode cX11_lies 38 = .ok (.aload_n 0, 1) := q_aload_n0 (bat_get dg_X11_lies_0_0 21 rfl rfl)
theorem dX11_lies_39 : decode cX11_lies 39 = .ok (.getfield 59, 3) := q_getfield (bat_get dg_X11_lies_0_0 22 rfl rfl) rfl
theorem dX11_lies_42 : decode cX11_lies 42 = .ok (.aload_n 0, 1) := q_aload_n0 (bat_get dg_X11_lies_0_0 23 rfl rfl)
theorem dX11_lies_43 : decode cX11_lies 43 = .ok (.getfield 59, 3) := q_getfield (bat_get dg_X11_lies_0_0 24 rfl rfl) rfl
theorem dX11_lies_46 : decode cX11_lies 46 = .ok (.getfield 153, 3) := q_getfield (bat_get dg_X11_lies_0_0 25 rfl rfl) rfl
theorem dX11_lies_49 : decode cX11_lies 49 = .ok (.iload_n 2, 1) := q_iload_n2 (bat_get dg_X11_lies_0_0 26 rfl rfl)
theorem dX11_lies_50 : decode cX11_lies 50 = .ok (.invokevirtual 230, 3) := q_invokevirtual (bat_get dg_X11_lies_0_0 27 rfl rfl) rfl
theorem dX11_lies_53 : decode cX11_lies 53 = .ok (.aload_n 0, 1) := q_aload_n0 (bat_get dg_X11_lies_0_0 28 rfl rfl)
theorem dX11_lies_54 : decode cX11_lies 54 = .ok (.getfield 85, 3) := q_getfield (bat_get dg_X11_lies_0_0 29 rfl rfl) rfl
theorem dX11_lies_57 : decode cX11_lies 57 = .ok (.invokevirtual 234, 3) := q_invokevirtual (bat_get dg_X11_lies_0_0 30 rfl rfl) rfl
theorem dX11_lies_60 : decode cX11_lies 60 = .ok (.ifCond .eq 9, 3) := q_ifCond_eq (bat_get dg_X11_lies_0_0 31 rfl rfl) rfl
theorem dX11_lies_69 : decode cX11_lies 69 = .ok (.iinc 2 1, 3) := q_iinc (bat_get dg_X11_lies_0_0 32 rfl rfl) rfl
theorem dX11_lies_72 : decode cX11_lies 72 = .ok (.goto (-44), 3) := q_goto (bat_get dg_X11_lies_0_0 33 rfl rfl) rfl
theorem dX11_lies_63 : decode cX11_lies 63 = .ok (.iload_n 1, 1) := q_iload_n1 (bat_get dg_X11_lies_0_0 34 rfl rfl)
theorem dX11_lies_64 : decode cX11_lies 64 = .ok (.iconst 1, 1) := q_iconst1 (bat_get dg_X11_lies_0_0 35 rfl rfl)
theorem dX11_lies_65 : decode cX11_lies 65 = .ok (.iload_n 2, 1) := q_iload_n2 (bat_get dg_X11_lies_0_0 36 rfl rfl)
theorem dX11_lies_66 : decode cX11_lies 66 = .ok (.ishl, 1) := q_ishl (bat_get dg_X11_lies_0_0 37 rfl rfl)
theorem dX11_lies_67 : decode cX11_lies 67 = .ok (.ior, 1) := q_ior (bat_get dg_X11_lies_0_0 38 rfl rfl)
theorem dX11_lies_68 : decode cX11_lies 68 = .ok (.istore_n 1, 1) := q_istore_n1 (bat_get dg_X11_lies_0_0 39 rfl rfl)
theorem dg_X11_lies_7_7 : bqL cX11_lies 7 [(0, [2]), (1, [172])] = true := by decide +kernel
theorem dX11_lies_7 : decode cX11_lies 7 = .ok (.iconst (-1), 1) := q_iconstm1 (bat_get dg_X11_lies_7_7 0 rfl rfl)
theorem dX11_lies_8 : decode cX11_lies 8 = .ok (.ireturn, 1) := q_ireturn (bat_get dg_X11_lies_7_7 1 rfl rfl)
theorem w_4_127 : (Cond.code yX11_lies cX11_lies 3 (some .int)) ∈ wsL_law := sk_mem (ck_4 _ (List.mem_of_getElem? (i := 127) rfl)) rfl
set_option maxHeartbeats 4000000 in
set_option maxRecDepth 100000 in
theorem c_uy_lies (l : Launch) (D : va_G) (cI cJ cC cZ cS : ClassId) (x0 : Nat) (q : Nat → Nat) (hc : Int32) (dr : Int64) (sa : Nat → Nat) (ft : Nat → Int32) (fa : Nat → Int32) (fo : Nat → Int32) (fg : Nat → Int64) (fk : Nat → Int32) (dh : Nat) (mh : Nat) (uh : Int32) (rh : Int32) (nh : Nat) (ch : Nat) (wh : Nat) (y1 : Nat → Int32) (y2 : Nat → Int64) (y3 : Nat → Int64) (y4 : Nat → Int64) (yf : Nat → Int32) (yt : Nat → Int32) (gd : Nat) (gs : Nat) (e1 : Nat → Int32) (e2 : Nat → Int32) (e3 : Nat → Int32) (dy : Nat) (wn : Nat) (mo : Nat) (ke : Nat) (mu : Int32) (fb : Nat → Int32) (fw : Nat → Int32) (Ba : Nat → Nat) (We : Nat → Nat) (L : LkS) (U : Nat → Bool) (hsa : ∀ j, sa j ≤ 9) (hch : ch ≤ 1600) (hwh : wh ≤ 1) (hdy : dy ≤ 9) (hmo : mo ≤ 9) (hgd : gd ≤ 9) (hgs : gs ≤ 9) (hLk : kcLk L) (hlq : 1 ≤ dy → cdK (lK (lkF L)) ch wh y1 ∧ ∀ v, v < 3 → sgO (lG (lkF L) v) (yf v) (yt v)) (htq : 1 ≤ dy → kcTI L sa ft fa fo fg fk) (hfb : ∀ j, j < 9 → fb j = nI (Ba j)) (hfw : ∀ j, j < 9 → fw j = nI (We j)) (hB9 : ∀ j, Ba j ≤ 9) (hW9 : ∀ j, We j ≤ 9) (hwn : wn ≤ 999) (hU : muO U mu) : skM l yX11_lies cX11_lies 3 (some .int) 5 128 0 0 D (skT cI cJ cC cZ cS) [.ref x0] [ro_rrrrrrrrrrrrrrrirl x0 11 (q 0) (q 1) (q 2) (q 3) (q 4) (q 5) (q 6) (q 7) (q 8) (q 9) (q 10) (q 11) (q 12) (q 13) (q 14) hc (q 16) dr, ro_rrrrrr (q 10) 9 (q 61) (q 62) (q 63) (q 64) (q 65) (q 66), ra_N (q 61) cI 90 sa, ra_I (q 62) cI 900 ft, ra_I (q 63) cI 90 fa, ra_I (q 64) cI 90 fo, ra_J (q 65) cJ 90 fg, ra_I (q 66) cI 9 fk, ro_rrrrrnniin (q 5) 2 (q 44) (q 45) (q 46) (q 47) (q 48) dh mh uh rh nh, ro_rrrrnn (q 44) 0 (q 49) (q 50) (q 51) (q 52) ch wh, ra_I (q 49) cI 1600 y1, ra_J (q 50) cJ 64 y2, ra_J (q 51) cJ 9 y3, ra_J (q 52) cJ 10 y4, ra_I (q 47) cI 3 yf, ra_I (q 48) cI 3 yt, ro_rrrrrrrnn (q 11) 1 (q 10) (q 67) (q 68) (q 69) (q 70) (q 71) (q 72) gd gs, ra_I (q 67) cI 90 e1, ra_I (q 68) cI 9 e2, ra_I (q 69) cI 10 e3, ro_rrnnnin (q 7) 7 (q 33) (q 34) dy wn mo mu ke, ra_I (q 33) cI 9 fb, ra_I (q 34) cI 9 fw] (skI D (skT cI cJ cC cZ cS) (fun (r : Int32) (u : va_W) => ∃ (sa2 : Nat → Nat), ∃ (ft2 : Nat → Int32), ∃ (fa2 : Nat → Int32), ∃ (fo2 : Nat → Int32), ∃ (fg2 : Nat → Int64), ∃ (fk2 : Nat → Int32), ∃ (z2 : Nat → Int64), ∃ (z3 : Nat → Int64), ∃ (g1 : Nat → Int32), ∃ (g2 : Nat → Int32), ∃ (g3 : Nat → Int32), ∃ (gd2 : Nat), ∃ (gs2 : Nat), (∀ j, sa2 j ≤ 9) ∧ (1 ≤ dy → kcTI L sa2 ft2 fa2 fo2 fg2 fk2) ∧ gd2 ≤ 9 ∧ gs2 ≤ 9 ∧ liesR L dy wn mo Ba We U r ∧ u = [ro_rrrrrrrrrrrrrrrirl x0 11 (q 0) (q 1) (q 2) (q 3) (q 4) (q 5) (q 6) (q 7) (q 8) (q 9) (q 10) (q 11) (q 12) (q 13) (q 14) hc (q 16) dr, ro_rrrrrr (q 10) 9 (q 61) (q 62) (q 63) (q 64) (q 65) (q 66), ra_N (q 61) cI 90 sa2, ra_I (q 62) cI 900 ft2, ra_I (q 63) cI 90 fa2, ra_I (q 64) cI 90 fo2, ra_J (q 65) cJ 90 fg2, ra_I (q 66) cI 9 fk2, ro_rrrrrnniin (q 5) 2 (q 44) (q 45) (q 46) (q 47) (q 48) dh mh uh rh nh, ro_rrrrnn (q 44) 0 (q 49) (q 50) (q 51) (q 52) ch wh, ra_I (q 49) cI 1600 y1, ra_J (q 50) cJ 64 z2, ra_J (q 51) cJ 9 z3, ra_J (q 52) cJ 10 y4, ra_I (q 47) cI 3 yf, ra_I (q 48) cI 3 yt, ro_rrrrrrrnn (q 11) 1 (q 10) (q 67) (q 68) (q 69) (q 70) (q 71) (q 72) gd2 gs2, ra_I (q 67) cI 90 g1, ra_I (q 68) cI 9 g2, ra_I (q 69) cI 10 g3, ro_rrnnnin (q 7) 7 (q 33) (q 34) dy wn mo mu ke, ra_I (q 33) cI 9 fb, ra_I (q 34) cI 9 fw])) := by
  refine skM_of pf_X11_lies (Nat.le_of_ble_eq_true rfl) ?_
  intro p e s m below meth c A ls E hP hD hl
  refine skE_el E (fun hx hb hr hml hlocks hin hown hts hK hA => ?_)
  have hown : s.vm.findClass RX11 = some m.cls := hown
  have hS : va_S A s.heap s.heap [] := va_S.rf
  have hl : lv_has ls 3 [(0, .ref x0)] := hl
  refine lv_aload_n hx hb dX11_lies_0 rfl (lv_at hl 0 rfl) ?_
  refine sk_Vi (q0 := 0) (n := 0) (rest := []) (wr := fmR om_23_400004 _) ⟨hx, hb, hml, hown, hts⟩ hl.1 (c_kx_isLocked l D cI cJ cC cZ cS x0 q hc dr dy wn mo ke mu fb fw hdy) w_4_39 w_4_41 w_0_18 w_1_1 w_4_42 hd_X11_isLocked_0 ⟨⟨(Nat.le_of_ble_eq_true rfl), (Nat.le_of_ble_eq_true rfl)⟩, (Nat.le_of_ble_eq_true rfl), (Nat.le_of_ble_eq_true rfl)⟩ hK hP hD hS hA (fmT om_23_400004 0) (fmF om_23_400004 0) (fm_C1 rfl rfl) (fm_R rfl rfl) (fm_nT om_23_400004 0) (fm_nF om_23_400004 0) (fm_di om_23_400004 0) rfl rfl rfl rfl (Nat.le_of_ble_eq_true rfl) dX11_lies_1 (fun r_2 u H locs hw hP hD hS => ?_)
  refine exE hw (fun b_1 hw1 => anE hw1 (fun hb1_3 hw2 => anE hw2 (fun er_5 eu_4 => ?_)))
  clear hw hw1 hw2
  subst er_5
  refine o_mgE (ws' := [ro_rrrrrrrrrrrrrrrirl x0 11 (q 0) (q 1) (q 2) (q 3) (q 4) (q 5) (q 6) (q 7) (q 8) (q 9) (q 10) (q 11) (q 12) (q 13) (q 14) hc (q 16) dr, ro_rrrrrr (q 10) 9 (q 61) (q 62) (q 63) (q 64) (q 65) (q 66), ra_N (q 61) cI 90 sa, ra_I (q 62) cI 900 ft, ra_I (q 63) cI 90 fa, ra_I (q 64) cI 90 fo, ra_J (q 65) cJ 90 fg, ra_I (q 66) cI 9 fk, ro_rrrrrnniin (q 5) 2 (q 44) (q 45) (q 46) (q 47) (q 48) dh mh uh rh nh, ro_rrrrnn (q 44) 0 (q 49) (q 50) (q 51) (q 52) ch wh, ra_I (q 49) cI 1600 y1, ra_J (q 50) cJ 64 y2, ra_J (q 51) cJ 9 y3, ra_J (q 52) cJ 10 y4, ra_I (q 47) cI 3 yf, ra_I (q 48) cI 3 yt, ro_rrrrrrrnn (q 11) 1 (q 10) (q 67) (q 68) (q 69) (q 70) (q 71) (q 72) gd gs, ra_I (q 67) cI 90 e1, ra_I (q 68) cI 9 e2, ra_I (q 69) cI 10 e3, ro_rrnnnin (q 7) 7 (q 33) (q 34) dy wn mo mu ke, ra_I (q 33) cI 9 fb, ra_I (q 34) cI 9 fw]) eu_4 hP hD rfl (fun hP hD => ?_)
  refine lv_if_ne (tgt := 9) hx hb dX11_lies_4 (by decide) (fun c_6 => ?_) (fun c_6 => ?_)
  · have c_6 : ¬ (b_1 = 0) := fun h => c_6 ((neq b_1 0 (by omega) (Nat.le_of_ble_eq_true rfl)).mpr h)
    refine lv_aload_n hx hb dX11_lies_9 rfl (lv_at hl 0 rfl) ?_
    refine sk_get (v := .ref (q 10)) (C := RX11) (T := TX11) (N := 18) hx hb hts inlX11 hown hK hP 0 rfl rfl 10 (Nat.le_of_ble_eq_true rfl) w_2_133 rfl dX11_lies_10 ?_
    refine lv_aload_n hx hb dX11_lies_13 rfl (lv_at hl 0 rfl) ?_
    refine sk_get (v := .ref (q 5)) (C := RX11) (T := TX11) (N := 18) hx hb hts inlX11 hown hK hP 0 rfl rfl 5 (Nat.le_of_ble_eq_true rfl) w_2_128 rfl dX11_lies_14 ?_
    refine lv_aload_n hx hb dX11_lies_17 rfl (lv_at hl 0 rfl) ?_
    refine sk_get (v := .ref (q 7)) (C := RX11) (T := TX11) (N := 18) hx hb hts inlX11 hown hK hP 0 rfl rfl 7 (Nat.le_of_ble_eq_true rfl) w_2_130 rfl dX11_lies_18 ?_
    refine sk_Vv (q0 := 0) (n := 2) (rest := []) (wr := fmR om_23_3fff87 _) ⟨hx, hb, hml, hown, hts⟩ hl.1 (c_kfit l D cI cJ cC cZ cS q dh mh uh rh nh ch wh y1 y2 y3 y4 yf yt sa ft fa fo fg fk (q 7) (q 33) (q 34) dy wn mo ke mu fb fw Ba We L hsa hch hwh hdy hmo hLk (hlq (by omega)).1 (hlq (by omega)).2 hfb hfw hB9 hW9 hwn (htq (by omega))) w_3_205 w_3_206 w_3_207 w_1_12 w_3_208 hd_X9_fit_2 ⟨⟨(Nat.le_of_ble_eq_true rfl), (Nat.le_of_ble_eq_true rfl)⟩, (Nat.le_of_ble_eq_true rfl), (Nat.le_of_ble_eq_true rfl)⟩ hK hP hD hS hA (fmT om_23_3fff87 0) (fmF om_23_3fff87 0) (fm_C1 rfl rfl) (fm_R rfl rfl) (fm_nT om_23_3fff87 0) (fm_nF om_23_3fff87 0) (fm_di om_23_3fff87 0) rfl rfl rfl rfl (Nat.le_of_ble_eq_true rfl) dX11_lies_21 (fun u H locs hw hP hD hS => ?_)
    refine exE hw (fun sa2_7 hw1 => exE hw1 (fun ft2_8 hw2 => exE hw2 (fun fa2_9 hw3 => exE hw3 (fun fo2_10 hw4 => exE hw4 (fun fg2_11 hw5 => exE hw5 (fun fk2_12 hw6 => exE hw6 (fun z2_13 hw7 => exE hw7 (fun z3_14 hw8 => anE hw8 (fun hsa2_15 hw9 => anE hw9 (fun hti2_16 hw10 => anE hw10 (fun hrows_17 eu_18 => ?_)))))))))))
    clear hw hw1 hw2 hw3 hw4 hw5 hw6 hw7 hw8 hw9 hw10
    refine o_mgE (ws' := [ro_rrrrrrrrrrrrrrrirl x0 11 (q 0) (q 1) (q 2) (q 3) (q 4) (q 5) (q 6) (q 7) (q 8) (q 9) (q 10) (q 11) (q 12) (q 13) (q 14) hc (q 16) dr, ro_rrrrrr (q 10) 9 (q 61) (q 62) (q 63) (q 64) (q 65) (q 66), ra_N (q 61) cI 90 sa2_7, ra_I (q 62) cI 900 ft2_8, ra_I (q 63) cI 90 fa2_9, ra_I (q 64) cI 90 fo2_10, ra_J (q 65) cJ 90 fg2_11, ra_I (q 66) cI 9 fk2_12, ro_rrrrrnniin (q 5) 2 (q 44) (q 45) (q 46) (q 47) (q 48) dh mh uh rh nh, ro_rrrrnn (q 44) 0 (q 49) (q 50) (q 51) (q 52) ch wh, ra_I (q 49) cI 1600 y1, ra_J (q 50) cJ 64 z2_13, ra_J (q 51) cJ 9 z3_14, ra_J (q 52) cJ 10 y4, ra_I (q 47) cI 3 yf, ra_I (q 48) cI 3 yt, ro_rrrrrrrnn (q 11) 1 (q 10) (q 67) (q 68) (q 69) (q 70) (q 71) (q 72) gd gs, ra_I (q 67) cI 90 e1, ra_I (q 68) cI 9 e2, ra_I (q 69) cI 10 e3, ro_rrnnnin (q 7) 7 (q 33) (q 34) dy wn mo mu ke, ra_I (q 33) cI 9 fb, ra_I (q 34) cI 9 fw]) eu_18 hP hD rfl (fun hP hD => ?_)
    refine lv_iconst (v := 0) hx hb dX11_lies_24 ic_0 ?_
    refine lv_istore_n (lv' := [(1, .int 0), (0, .ref x0)]) hx hb dX11_lies_25 rfl hl (by decide) rfl (fun ls hl => ?_)
    refine lv_iconst (v := 0) hx hb dX11_lies_26 ic_0 ?_
    refine lv_istore_n (lv' := [(2, .int 0), (1, .int 0), (0, .ref x0)]) hx hb dX11_lies_27 rfl hl (by decide) rfl (fun ls hl => ?_)
    have lp_19 : ∀ (n_20 : Nat) (i : Nat) (bt : Nat) (zd : Nat) (zs : Nat) (b1 : Nat → Int32) (b2 : Nat → Int32) (b3 : Nat → Int32) (H : Heap) (locs : List Loc) (ls : Array Slot), 10 - i < n_20 → (i ≤ 10) → (zd ≤ 9) → (zs ≤ 9) → (bt = kcLi L wn Ba We U dy mo i) → va_P D vwCl [ro_rrrrrrrrrrrrrrrirl x0 11 (q 0) (q 1) (q 2) (q 3) (q 4) (q 5) (q 6) (q 7) (q 8) (q 9) (q 10) (q 11) (q 12) (q 13) (q 14) hc (q 16) dr, ro_rrrrrr (q 10) 9 (q 61) (q 62) (q 63) (q 64) (q 65) (q 66), ra_N (q 61) cI 90 sa2_7, ra_I (q 62) cI 900 ft2_8, ra_I (q 63) cI 90 fa2_9, ra_I (q 64) cI 90 fo2_10, ra_J (q 65) cJ 90 fg2_11, ra_I (q 66) cI 9 fk2_12, ro_rrrrrnniin (q 5) 2 (q 44) (q 45) (q 46) (q 47) (q 48) dh mh uh rh nh, ro_rrrrnn (q 44) 0 (q 49) (q 50) (q 51) (q 52) ch wh, ra_I (q 49) cI 1600 y1, ra_J (q 50) cJ 64 z2_13, ra_J (q 51) cJ 9 z3_14, ra_J (q 52) cJ 10 y4, ra_I (q 47) cI 3 yf, ra_I (q 48) cI 3 yt, ro_rrrrrrrnn (q 11) 1 (q 10) (q 67) (q 68) (q 69) (q 70) (q 71) (q 72) zd zs, ra_I (q 67) cI 90 b1, ra_I (q 68) cI 9 b2, ra_I (q 69) cI 10 b3, ro_rrnnnin (q 7) 7 (q 33) (q 34) dy wn mo mu ke, ra_I (q 33) cI 9 fb, ra_I (q 34) cI 9 fw] H → va_D A [ro_rrrrrrrrrrrrrrrirl x0 11 (q 0) (q 1) (q 2) (q 3) (q 4) (q 5) (q 6) (q 7) (q 8) (q 9) (q 10) (q 11) (q 12) (q 13) (q 14) hc (q 16) dr, ro_rrrrrr (q 10) 9 (q 61) (q 62) (q 63) (q 64) (q 65) (q 66), ra_N (q 61) cI 90 sa2_7, ra_I (q 62) cI 900 ft2_8, ra_I (q 63) cI 90 fa2_9, ra_I (q 64) cI 90 fo2_10, ra_J (q 65) cJ 90 fg2_11, ra_I (q 66) cI 9 fk2_12, ro_rrrrrnniin (q 5) 2 (q 44) (q 45) (q 46) (q 47) (q 48) dh mh uh rh nh, ro_rrrrnn (q 44) 0 (q 49) (q 50) (q 51) (q 52) ch wh, ra_I (q 49) cI 1600 y1, ra_J (q 50) cJ 64 z2_13, ra_J (q 51) cJ 9 z3_14, ra_J (q 52) cJ 10 y4, ra_I (q 47) cI 3 yf, ra_I (q 48) cI 3 yt, ro_rrrrrrrnn (q 11) 1 (q 10) (q 67) (q 68) (q 69) (q 70) (q 71) (q 72) zd zs, ra_I (q 67) cI 90 b1, ra_I (q 68) cI 9 b2, ra_I (q 69) cI 10 b3, ro_rrnnnin (q 7) 7 (q 33) (q 34) dy wn mo mu ke, ra_I (q 33) cI 9 fb, ra_I (q 34) cI 9 fw] → va_S A s.heap H locs → lv_has ls 3 [(2, .int (nI i)), (1, .int (nI bt)), (0, .ref x0)] → W p l e { frames := 5, cells := 0, slots := 0, locals := 128 } s m ([.ref x0] : List Value).toArray below meth c H locs 0 0 (MQ below (skI D (skT cI cJ cC cZ cS) (fun (r : Int32) (u : va_W) => ∃ (sa2 : Nat → Nat), ∃ (ft2 : Nat → Int32), ∃ (fa2 : Nat → Int32), ∃ (fo2 : Nat → Int32), ∃ (fg2 : Nat → Int64), ∃ (fk2 : Nat → Int32), ∃ (z2 : Nat → Int64), ∃ (z3 : Nat → Int64), ∃ (g1 : Nat → Int32), ∃ (g2 : Nat → Int32), ∃ (g3 : Nat → Int32), ∃ (gd2 : Nat), ∃ (gs2 : Nat), (∀ j, sa2 j ≤ 9) ∧ (1 ≤ dy → kcTI L sa2 ft2 fa2 fo2 fg2 fk2) ∧ gd2 ≤ 9 ∧ gs2 ≤ 9 ∧ liesR L dy wn mo Ba We U r ∧ u = [ro_rrrrrrrrrrrrrrrirl x0 11 (q 0) (q 1) (q 2) (q 3) (q 4) (q 5) (q 6) (q 7) (q 8) (q 9) (q 10) (q 11) (q 12) (q 13) (q 14) hc (q 16) dr, ro_rrrrrr (q 10) 9 (q 61) (q 62) (q 63) (q 64) (q 65) (q 66), ra_N (q 61) cI 90 sa2, ra_I (q 62) cI 900 ft2, ra_I (q 63) cI 90 fa2, ra_I (q 64) cI 90 fo2, ra_J (q 65) cJ 90 fg2, ra_I (q 66) cI 9 fk2, ro_rrrrrnniin (q 5) 2 (q 44) (q 45) (q 46) (q 47) (q 48) dh mh uh rh nh, ro_rrrrnn (q 44) 0 (q 49) (q 50) (q 51) (q 52) ch wh, ra_I (q 49) cI 1600 y1, ra_J (q 50) cJ 64 z2, ra_J (q 51) cJ 9 z3, ra_J (q 52) cJ 10 y4, ra_I (q 47) cI 3 yf, ra_I (q 48) cI 3 yt, ro_rrrrrrrnn (q 11) 1 (q 10) (q 67) (q 68) (q 69) (q 70) (q 71) (q 72) gd2 gs2, ra_I (q 67) cI 90 g1, ra_I (q 68) cI 9 g2, ra_I (q 69) cI 10 g3, ro_rrnnnin (q 7) 7 (q 33) (q 34) dy wn mo mu ke, ra_I (q 33) cI 9 fb, ra_I (q 34) cI 9 fw]) A) ([.ref x0] : List Value).toArray s 0 0 A) (F0 m 28 ls []) := by
      intro n_20
      induction n_20 with
      | zero => intro i bt zd zs b1 b2 b3 H locs ls hm; exact absurd hm (Nat.not_lt_zero _)
      | succ n_20 ih_lp_19 =>
        intro i bt zd zs b1 b2 b3 H locs ls hm hi hzd hzs hbt hP hD hS hl
        refine lv_iload_n hx hb dX11_lies_28 rfl (lv_at hl 0 rfl) ?_
        refine lv_bipush (v := 10) hx hb dX11_lies_29 (by decide) ?_
        refine lv_icmp_ge (tgt := 75) hx hb dX11_lies_31 (by decide) (fun c_21 => ?_) (fun c_21 => ?_)
        · have c_21 : 10 ≤ i := (nle 10 i (Nat.le_of_ble_eq_true rfl) (by omega)).mp c_21
          refine lv_iload_n hx hb dX11_lies_75 rfl (lv_at hl 1 rfl) ?_
          exact sk_iret hx hb hr rfl hlocks hK hP hD hS (⟨sa2_7, ft2_8, fa2_9, fo2_10, fg2_11, fk2_12, z2_13, z3_14, b1, b2, b3, zd, zs, hsa2_15, (fun _ => hti2_16), hzd, hzs, (kB_1 (by omega) (by rw [hbt, show i = 10 by omega])), rfl⟩) (Nat.le_of_ble_eq_true rfl) (Nat.le_of_ble_eq_true rfl) dX11_lies_76
        · have c_21 : ¬ (10 ≤ i) := fun h => c_21 ((nle 10 i (Nat.le_of_ble_eq_true rfl) (by omega)).mpr h)
          refine lv_aload_n hx hb dX11_lies_34 rfl (lv_at hl 2 rfl) ?_
          refine sk_get (v := .ref (q 11)) (C := RX11) (T := TX11) (N := 18) hx hb hts inlX11 hown hK hP 0 rfl rfl 11 (Nat.le_of_ble_eq_true rfl) w_2_134 rfl dX11_lies_35 ?_
          refine lv_aload_n hx hb dX11_lies_38 rfl (lv_at hl 2 rfl) ?_
          refine sk_get (v := .ref (q 7)) (C := RX11) (T := TX11) (N := 18) hx hb hts inlX11 hown hK hP 0 rfl rfl 7 (Nat.le_of_ble_eq_true rfl) w_2_130 rfl dX11_lies_39 ?_
          refine lv_aload_n hx hb dX11_lies_42 rfl (lv_at hl 2 rfl) ?_
          refine sk_get (v := .ref (q 7)) (C := RX11) (T := TX11) (N := 18) hx hb hts inlX11 hown hK hP 0 rfl rfl 7 (Nat.le_of_ble_eq_true rfl) w_2_130 rfl dX11_lies_43 ?_
          refine sk_get (v := .int mu) (C := RX7) (T := TX7) (N := 7) hx hb hts inlX7 hown hK hP 20 rfl rfl 5 (Nat.le_of_ble_eq_true rfl) w_2_12 rfl dX11_lies_46 ?_
          refine lv_iload_n hx hb dX11_lies_49 rfl (lv_at hl 0 rfl) ?_
          refine sk_Vv (q0 := 0) (n := 3) (rest := []) (wr := fmR om_23_3e0074 _) ⟨hx, hb, hml, hown, hts⟩ hl.1 (c_klay l D cI cJ cC cZ cS q zd zs b1 b2 sa2_7 ft2_8 fa2_9 fo2_10 (q 7) (q 33) (q 34) dy wn mo ke mu fb fw Ba We L i U mu fg2_11 hsa2_15 hdy hmo (by omega) hU hrows_17) w_4_47 w_4_48 w_4_49 w_1_13 w_4_50 hd_X1_lay_3 ⟨⟨(Nat.le_of_ble_eq_true rfl), (Nat.le_of_ble_eq_true rfl)⟩, (Nat.le_of_ble_eq_true rfl), (Nat.le_of_ble_eq_true rfl)⟩ hK hP hD hS hA [16, 17, 18, 1, 2, 3, 4, 5, 20] (fmF om_23_3e0074 0) rfl (fm_R rfl rfl) (by decide +kernel) (fm_nF om_23_3e0074 0) (by decide +kernel) rfl rfl rfl rfl (Nat.le_of_ble_eq_true rfl) dX11_lies_50 (fun u H locs hw hP hD hS => ?_)
          refine exE hw (fun g1_22 hw1 => exE hw1 (fun g2_23 hw2 => anE hw2 (fun hld2_24 eu_25 => ?_)))
          clear hw hw1 hw2
          refine o_mgqE (ux := [ro_rrrrrr (q 10) 9 (q 61) (q 62) (q 63) (q 64) (q 65) (q 66), ra_N (q 61) cI 90 sa2_7, ra_I (q 62) cI 900 ft2_8, ra_I (q 63) cI 90 fa2_9, ra_I (q 64) cI 90 fo2_10, ro_rrrrrrrnn (q 11) 1 (q 10) (q 67) (q 68) (q 69) (q 70) (q 71) (q 72) dy mo, ra_I (q 67) cI 90 g1_22, ra_I (q 68) cI 9 g2_23, ro_rrnnnin (q 7) 7 (q 33) (q 34) dy wn mo mu ke]) (ws' := [ro_rrrrrrrrrrrrrrrirl x0 11 (q 0) (q 1) (q 2) (q 3) (q 4) (q 5) (q 6) (q 7) (q 8) (q 9) (q 10) (q 11) (q 12) (q 13) (q 14) hc (q 16) dr, ro_rrrrrr (q 10) 9 (q 61) (q 62) (q 63) (q 64) (q 65) (q 66), ra_N (q 61) cI 90 sa2_7, ra_I (q 62) cI 900 ft2_8, ra_I (q 63) cI 90 fa2_9, ra_I (q 64) cI 90 fo2_10, ra_J (q 65) cJ 90 fg2_11, ra_I (q 66) cI 9 fk2_12, ro_rrrrrnniin (q 5) 2 (q 44) (q 45) (q 46) (q 47) (q 48) dh mh uh rh nh, ro_rrrrnn (q 44) 0 (q 49) (q 50) (q 51) (q 52) ch wh, ra_I (q 49) cI 1600 y1, ra_J (q 50) cJ 64 z2_13, ra_J (q 51) cJ 9 z3_14, ra_J (q 52) cJ 10 y4, ra_I (q 47) cI 3 yf, ra_I (q 48) cI 3 yt, ro_rrrrrrrnn (q 11) 1 (q 10) (q 67) (q 68) (q 69) (q 70) (q 71) (q 72) dy mo, ra_I (q 67) cI 90 g1_22, ra_I (q 68) cI 9 g2_23, ra_I (q 69) cI 10 b3, ro_rrnnnin (q 7) 7 (q 33) (q 34) dy wn mo mu ke, ra_I (q 33) cI 9 fb, ra_I (q 34) cI 9 fw]) eu_25 [3, 4, 5, 6, 7, 0, 1, 2, 8] (by decide +kernel) rfl hP hD rfl (fun hP hD => ?_)
          refine lv_aload_n hx hb dX11_lies_53 rfl (lv_at hl 2 rfl) ?_
          refine sk_get (v := .ref (q 11)) (C := RX11) (T := TX11) (N := 18) hx hb hts inlX11 hown hK hP 0 rfl rfl 11 (Nat.le_of_ble_eq_true rfl) w_2_134 rfl dX11_lies_54 ?_
          refine sk_Vi (q0 := 0) (n := 0) (rest := []) (wr := fmR om_23_78 _) ⟨hx, hb, hml, hown, hts⟩ hl.1 (c_ksettle l D cI cJ cC cZ cS q dy mo g1_22 g2_23 b3 (kcFo L wn Ba We U i) hdy hmo hld2_24) w_4_53 w_4_54 w_4_55 w_1_13 w_4_56 hd_X1_settle_0 ⟨⟨(Nat.le_of_ble_eq_true rfl), (Nat.le_of_ble_eq_true rfl)⟩, (Nat.le_of_ble_eq_true rfl), (Nat.le_of_ble_eq_true rfl)⟩ hK hP hD hS hA (fmT om_23_78 0) (fmF om_23_78 0) (fm_C1 rfl rfl) (fm_R rfl rfl) (fm_nT om_23_78 0) (fm_nF om_23_78 0) (fm_di om_23_78 0) rfl rfl rfl rfl (Nat.le_of_ble_eq_true rfl) dX11_lies_57 (fun r_28 u H locs hw hP hD hS => ?_)
          refine exE hw (fun b_26 hw1 => exE hw1 (fun g3_27 hw2 => anE hw2 (fun hb1_29 hw3 => anE hw3 (fun hlv2_30 hw4 => anE hw4 (fun er_32 eu_31 => ?_)))))
          clear hw hw1 hw2 hw3 hw4
          subst er_32
          refine o_mgE (ws' := [ro_rrrrrrrrrrrrrrrirl x0 11 (q 0) (q 1) (q 2) (q 3) (q 4) (q 5) (q 6) (q 7) (q 8) (q 9) (q 10) (q 11) (q 12) (q 13) (q 14) hc (q 16) dr, ro_rrrrrr (q 10) 9 (q 61) (q 62) (q 63) (q 64) (q 65) (q 66), ra_N (q 61) cI 90 sa2_7, ra_I (q 62) cI 900 ft2_8, ra_I (q 63) cI 90 fa2_9, ra_I (q 64) cI 90 fo2_10, ra_J (q 65) cJ 90 fg2_11, ra_I (q 66) cI 9 fk2_12, ro_rrrrrnniin (q 5) 2 (q 44) (q 45) (q 46) (q 47) (q 48) dh mh uh rh nh, ro_rrrrnn (q 44) 0 (q 49) (q 50) (q 51) (q 52) ch wh, ra_I (q 49) cI 1600 y1, ra_J (q 50) cJ 64 z2_13, ra_J (q 51) cJ 9 z3_14, ra_J (q 52) cJ 10 y4, ra_I (q 47) cI 3 yf, ra_I (q 48) cI 3 yt, ro_rrrrrrrnn (q 11) 1 (q 10) (q 67) (q 68) (q 69) (q 70) (q 71) (q 72) dy mo, ra_I (q 67) cI 90 g1_22, ra_I (q 68) cI 9 g2_23, ra_I (q 69) cI 10 g3_27, ro_rrnnnin (q 7) 7 (q 33) (q 34) dy wn mo mu ke, ra_I (q 33) cI 9 fb, ra_I (q 34) cI 9 fw]) eu_31 hP hD rfl (fun hP hD => ?_)
          refine lv_if_eq (tgt := 69) hx hb dX11_lies_60 (by decide) (fun c_33 => ?_) (fun c_33 => ?_)
          · have c_33 : b_26 = 0 := (neq b_26 0 (by omega) (Nat.le_of_ble_eq_true rfl)).mp c_33
            refine lv_iinc (v := nI (i + 1)) (lv' := [(2, .int (nI (i + 1))), (1, .int (nI bt)), (0, .ref x0)]) hx hb dX11_lies_69 hl (k := 0) rfl (ninc i 1 (by decide)) (by decide) rfl (fun ls hl => ?_)
            refine lv_goto (tgt := 28) hx hb dX11_lies_72 (by decide) ?_
            exact ih_lp_19 (i + 1) bt dy mo g1_22 g2_23 g3_27 _ _ _ (by omega) (by omega) hdy hmo (hbt.trans (kli_n (rr_0 hb1_29 c_33))) hP hD hS (lv_sub hl [0, 1, 2] rfl)
          · have c_33 : ¬ (b_26 = 0) := fun h => c_33 ((neq b_26 0 (by omega) (Nat.le_of_ble_eq_true rfl)).mpr h)
            refine lv_iload_n hx hb dX11_lies_63 rfl (lv_at hl 1 rfl) ?_
            refine lv_iconst (v := 1) hx hb dX11_lies_64 ic_1 ?_
            refine lv_iload_n hx hb dX11_lies_65 rfl (lv_at hl 0 rfl) ?_
            refine lv_ishl hx hb dX11_lies_66 ?_
            refine lv_ior hx hb dX11_lies_67 ?_
            have hbl_ := kli_lt L wn Ba We U dy mo (show i ≤ 10 by omega)
            rw [← hbt] at hbl_
            refine sk_top (nI (bt ||| 2 ^ i)) (kor_10 (by omega) (by omega)) ?_
            refine lv_istore_n (lv' := [(1, .int (nI (bt ||| 2 ^ i))), (2, .int (nI i)), (0, .ref x0)]) hx hb dX11_lies_68 rfl hl (by decide) rfl (fun ls hl => ?_)
            refine lv_iinc (v := nI (i + 1)) (lv' := [(2, .int (nI (i + 1))), (1, .int (nI (bt ||| 2 ^ i))), (0, .ref x0)]) hx hb dX11_lies_69 hl (k := 1) rfl (ninc i 1 (by decide)) (by decide) rfl (fun ls hl => ?_)
            refine lv_goto (tgt := 28) hx hb dX11_lies_72 (by decide) ?_
            exact ih_lp_19 (i + 1) (bt ||| 2 ^ i) dy mo g1_22 g2_23 g3_27 _ _ _ (by omega) (by omega) hdy hmo (by rw [hbt]; exact kli_y (rr_1 hb1_29 (by omega))) hP hD hS (lv_sub hl [0, 1, 2] rfl)
    exact lp_19 (10 - 0 + 1) 0 0 gd gs e1 e2 e3 _ _ _ (Nat.lt_succ_self _) (by omega) hgd hgs rfl hP hD hS (lv_sub hl [0, 1, 2] rfl)
  · have c_6 : b_1 = 0 := (neq b_1 0 (by omega) (Nat.le_of_ble_eq_true rfl)).mp c_6
    refine lv_iconst (v := (-1)) hx hb dX11_lies_7 (by decide) ?_
    exact sk_iret hx hb hr rfl hlocks hK hP hD hS (⟨sa, ft, fa, fo, fg, fk, y2, y3, e1, e2, e3, gd, gs, hsa, htq, hgd, hgs, (kB_0 (by omega) rfl), rfl⟩) (Nat.le_of_ble_eq_true rfl) (Nat.le_of_ble_eq_true rfl) dX11_lies_8
theorem dg_X11_later_0_0 : bqL cX11_later 0 [(0, [42]), (1, [182, 0, 204]), (4, [153, 0, 13]), (17, [2]), (18, [172]), (7, [27]), (8, [155, 0, 9]), (11, [27]), (12, [16, 30]), (14, [164, 0, 5]), (19, [42]), (20, [180, 0, 63]), (23, [42]), (24, [180, 0, 59]), (27, [182, 0, 237]), (30, [3]), (31, [61]), (32, [28]), (33, [27]), (34, [162, 0, 18]), (52, [42]), (53, [180, 0, 63]), (56, [180, 0, 150]), (59, [172]), (37, [42]), (38, [182, 0, 241]), (41, [154, 0, 5]), (46, [132, 2, 1]), (49, [167, 255, 239]), (44, [2]), (45, [172])] = true := by decide +kernel
theorem dX11_later_0 : decode cX11_later 0 = .ok (.aload_n 0, 1) := q_aload_n0 (bat_get dg_X11_later_0_0 0 rfl rfl)
theorem dX11_later_1 : decode cX11_later 1 = .ok (.invokevirtual 204, 3) := q_invokevirtual (bat_get dg_X11_later_0_0 1 rfl rfl) rfl
theorem dX11_later_4 : decode cX11_later 4 = .ok (.ifCond .eq 13, 3) := q_ifCond_eq (bat_get dg_X11_later_0_0 2 rfl rfl) rfl
theorem dX11_later_17 : decode cX11_later 17 = .ok (.iconst (-1), 1) := q_iconstm1 (bat_get dg_X11_later_0_0 3 rfl rfl)
theorem dX11_later_18 : decode cX11_later 18 = .ok (.ireturn, 1) := q_ireturn (bat_get dg_X11_later_0_0 4 rfl rfl)
theorem dX11_later_7 : decode cX11_later 7 = .ok (.iload_n 1, 1) := q_iload_n1 (bat_get dg_X11_later_0_0 5 rfl rfl)
theorem dX11_later_8 : decode cX11_later 8 = .ok (.ifCond .lt 9, 3) := q_ifCond_lt (bat_get dg_X11_later_0_0 6 rfl rfl) rfl
theorem dX11_later_11 : decode cX11_later 11 = .ok (.iload_n 1, 1) := q_iload_n1 (bat_get dg_X11_later_0_0 7 rfl rfl)
theorem dX11_later_12 : decode cX11_later 12 = .ok (.bipush 30, 2) := q_bipush (bat_get dg_X11_later_0_0 8 rfl rfl) rfl
theorem dX11_later_14 : decode cX11_later 14 = .ok (.if_icmp .le 5, 3) := q_if_icmp_le (bat_get dg_X11_later_0_0 9 rfl rfl) rfl
theorem dX11_later_19 : decode cX11_later 19 = .ok (.aload_n 0, 1) := q_aload_n0 (bat_get dg_X11_later_0_0 10 rfl rfl)
theorem dX11_later_20 : decode cX11_later 20 = .ok (.getfield 63, 3) := q_getfield (bat_get dg_X11_later_0_0 11 rfl rfl) rfl
theorem dX11_later_23 : decode cX11_later 23 = .ok (.aload_n 0, 1) := q_aload_n0 (bat_get dg_X11_later_0_0 12 rfl rfl)
theorem dX11_later_24 : decode cX11_later 24 = .ok (.getfield 59, 3) := q_getfield (bat_get dg_X11_later_0_0 13 rfl rfl) rfl
theorem dX11_later_27 : decode cX11_later 27 = .ok (.invokevirtual 237, 3) := q_invokevirtual (bat_get dg_X11_later_0_0 14 rfl rfl) rfl
theorem dX11_later_30 : decode cX11_later 30 = .ok (.iconst 0, 1) := q_iconst0 (bat_get dg_X11_later_0_0 15 rfl rfl)
theorem dX11_later_31 : decode cX11_later 31 = .ok (.istore_n 2, 1) := q_istore_n2 (bat_get dg_X11_later_0_0 16 rfl rfl)
theorem dX11_later_32 : decode cX11_later 32 = .ok (.iload_n 2, 1) := q_iload_n2 (bat_get dg_X11_later_0_0 17 rfl rfl)
theorem dX11_later_33 : decode cX11_later 33 = .ok (.iload_n 1, 1) := q_iload_n1 (bat_get dg_X11_later_0_0 18 rfl rfl)
theorem dX11_later_34 : decode cX11_later 34 = .ok (.if_icmp .ge 18, 3) := q_if_icmp_ge (bat_get dg_X11_later_0_0 19 rfl rfl) rfl
theorem dX11_later_52 : decode cX11_later 52 = .ok (.aload_n 0, 1) := q_aload_n0 (bat_get dg_X11_later_0_0 20 rfl rfl)
theorem dX11_later_53 : decode cX11_later 53 = .ok (.getfield 63, 3) := q_getfield (bat_get dg_X11_later_0_0 21 rfl rfl) rfl
theorem dX11_later_56 : decode cX11_later 56 = .ok (.getfield 150, 3) := q_getfield (bat_get dg_X11_later_0_0 22 rfl rfl) rfl
theorem dX11_later_59 : decode cX11_later 59 = .ok (.ireturn, 1) := q_ireturn (bat_get dg_X11_later_0_0 23 rfl rfl)
theorem dX11_later_37 : decode cX11_later 37 = .ok (.aload_n 0, 1) := q_aload_n0 (bat_get dg_X11_later_0_0 24 rfl rfl)
theorem dX11_later_38 : decode cX11_later 38 = .ok (.invokevirtual 241, 3) := q_invokevirtual (bat_get dg_X11_later_0_0 25 rfl rfl) rfl
theorem dX11_later_41 : decode cX11_later 41 = .ok (.ifCond .ne 5, 3) := q_ifCond_ne (bat_get dg_X11_later_0_0 26 rfl rfl) rfl
theorem dX11_later_46 : decode cX11_later 46 = .ok (.iinc 2 1, 3) := q_iinc (bat_get dg_X11_later_0_0 27 rfl rfl) rfl
theorem dX11_later_49 : decode cX11_later 49 = .ok (.goto (-17), 3) := q_goto (bat_get dg_X11_later_0_0 28 rfl rfl) rfl
theorem dX11_later_44 : decode cX11_later 44 = .ok (.iconst (-1), 1) := q_iconstm1 (bat_get dg_X11_later_0_0 29 rfl rfl)
theorem dX11_later_45 : decode cX11_later 45 = .ok (.ireturn, 1) := q_ireturn (bat_get dg_X11_later_0_0 30 rfl rfl)
theorem w_4_132 : (Cond.methodLink RX11 237 yX7_copy) ∈ wsL_law := sk_mem (ck_4 _ (List.mem_of_getElem? (i := 132) rfl)) rfl
theorem w_4_136 : (Cond.methodLink RX11 241 yX11_stepAhead) ∈ wsL_law := sk_mem (ck_4 _ (List.mem_of_getElem? (i := 136) rfl)) rfl
theorem w_4_138 : (Cond.instanceMethod yX11_stepAhead) ∈ wsL_law := sk_mem (ck_4 _ (List.mem_of_getElem? (i := 138) rfl)) rfl
theorem w_0_25 : (Cond.selects RX11 yX11_stepAhead yX11_stepAhead) ∈ wsL_law := sk_mem (ck_0 _ (List.mem_of_getElem? (i := 25) rfl)) rfl
theorem w_4_131 : (Cond.code yX11_later cX11_later 3 (some .int)) ∈ wsL_law := sk_mem (ck_4 _ (List.mem_of_getElem? (i := 131) rfl)) rfl
def om_27_4000040 : List Bool := true :: false :: false :: false :: false :: false :: false :: false :: false :: false :: false :: false :: false :: false :: false :: false :: false :: false :: false :: false :: true :: false :: false :: false :: false :: false :: false :: []
def om_27_7e : List Bool := false :: false :: false :: false :: false :: false :: false :: false :: false :: false :: false :: false :: false :: false :: false :: false :: false :: false :: false :: false :: true :: true :: true :: true :: true :: true :: false :: []
def om_27_7ffff8f : List Bool := true :: true :: true :: true :: true :: true :: true :: true :: true :: true :: true :: true :: true :: true :: true :: true :: true :: true :: true :: true :: false :: false :: false :: true :: true :: true :: true :: []
theorem hd_X11_stepAhead_0 : skD yX11_stepAhead 0 := by decide +kernel
set_option maxHeartbeats 4000000 in
set_option maxRecDepth 100000 in
theorem c_uy_later (l : Launch) (D : va_G) (cI cJ cC cZ cS : ClassId) (x0 : Nat) (q : Nat → Nat) (hc : Int32) (dr : Int64) (sa : Nat → Nat) (ft : Nat → Int32) (fa : Nat → Int32) (fo : Nat → Int32) (fg : Nat → Int64) (fk : Nat → Int32) (dh : Nat) (mh : Nat) (uh : Int32) (rh : Int32) (nh : Nat) (ch : Nat) (wh : Nat) (y1 : Nat → Int32) (y2 : Nat → Int64) (y3 : Nat → Int64) (y4 : Nat → Int64) (yf : Nat → Int32) (yt : Nat → Int32) (gd : Nat) (gs : Nat) (e1 : Nat → Int32) (e2 : Nat → Int32) (e3 : Nat → Int32) (dy : Nat) (wn : Nat) (mo : Nat) (ke : Nat) (mu : Int32) (fb : Nat → Int32) (fw : Nat → Int32) (Ba : Nat → Nat) (We : Nat → Nat) (L : LkS) (U : Nat → Bool) (dt : Nat) (kt : Nat) (mt : Nat) (et : Nat) (ut : Int32) (bt_ : Nat → Int32) (wt_ : Nat → Int32) (ra : Nat → Int32) (n : Int32) (hsa : ∀ j, sa j ≤ 9) (hch : ch ≤ 1600) (hwh : wh ≤ 1) (hdy : dy ≤ 9) (hmo : mo ≤ 9) (hgd : gd ≤ 9) (hgs : gs ≤ 9) (hLk : kcLk L) (hlq : 1 ≤ dy → cdK (lK (lkF L)) ch wh y1 ∧ ∀ v, v < 3 → sgO (lG (lkF L) v) (yf v) (yt v)) (htq : 1 ≤ dy → kcTI L sa ft fa fo fg fk) (hfb : ∀ j, j < 9 → fb j = nI (Ba j)) (hfw : ∀ j, j < 9 → fw j = nI (We j)) (hB9 : ∀ j, Ba j ≤ 9) (hW9 : ∀ j, We j ≤ 9) (hwn : wn ≤ 999) (hU : muO U mu) (hdt : dt ≤ 9) (hmt : mt ≤ 9) (hkt : kt ≤ 999) : skM l yX11_later cX11_later 3 (some .int) 7 169 0 0 D (skT cI cJ cC cZ cS) [.ref x0, .int n] [ro_rrrrrrrrrrrrrrrirl x0 11 (q 0) (q 1) (q 2) (q 3) (q 4) (q 5) (q 6) (q 7) (q 8) (q 9) (q 10) (q 11) (q 12) (q 13) (q 14) hc (q 16) dr, ro_rrrrrr (q 10) 9 (q 61) (q 62) (q 63) (q 64) (q 65) (q 66), ra_N (q 61) cI 90 sa, ra_I (q 62) cI 900 ft, ra_I (q 63) cI 90 fa, ra_I (q 64) cI 90 fo, ra_J (q 65) cJ 90 fg, ra_I (q 66) cI 9 fk, ro_rrrrrnniin (q 5) 2 (q 44) (q 45) (q 46) (q 47) (q 48) dh mh uh rh nh, ro_rrrrnn (q 44) 0 (q 49) (q 50) (q 51) (q 52) ch wh, ra_I (q 49) cI 1600 y1, ra_J (q 50) cJ 64 y2, ra_J (q 51) cJ 9 y3, ra_J (q 52) cJ 10 y4, ra_I (q 47) cI 3 yf, ra_I (q 48) cI 3 yt, ro_rrrrrrrnn (q 11) 1 (q 10) (q 67) (q 68) (q 69) (q 70) (q 71) (q 72) gd gs, ra_I (q 67) cI 90 e1, ra_I (q 68) cI 9 e2, ra_I (q 69) cI 10 e3, ro_rrnnnin (q 7) 7 (q 33) (q 34) dy wn mo mu ke, ra_I (q 33) cI 9 fb, ra_I (q 34) cI 9 fw, ro_rrnnnin (q 8) 7 (q 53) (q 54) dt kt mt ut et, ra_I (q 53) cI 9 bt_, ra_I (q 54) cI 9 wt_, ra_I (q 12) cI 9 ra] (skI D (skT cI cJ cC cZ cS) (fun (r : Int32) (u : va_W) => ∃ (sa2 : Nat → Nat), ∃ (ft2 : Nat → Int32), ∃ (fa2 : Nat → Int32), ∃ (fo2 : Nat → Int32), ∃ (fg2 : Nat → Int64), ∃ (fk2 : Nat → Int32), ∃ (z2 : Nat → Int64), ∃ (z3 : Nat → Int64), ∃ (g1 : Nat → Int32), ∃ (g2 : Nat → Int32), ∃ (g3 : Nat → Int32), ∃ (gd2 : Nat), ∃ (gs2 : Nat), ∃ (dt2 : Nat), ∃ (kt2 : Nat), ∃ (mt2 : Nat), ∃ (et2 : Nat), ∃ (ut2 : Int32), ∃ (bu_ : Nat → Int32), ∃ (wu_ : Nat → Int32), ∃ (ra2 : Nat → Int32), (∀ j, sa2 j ≤ 9) ∧ (1 ≤ dy → kcTI L sa2 ft2 fa2 fo2 fg2 fk2) ∧ gd2 ≤ 9 ∧ gs2 ≤ 9 ∧ dt2 ≤ 9 ∧ mt2 ≤ 9 ∧ kt2 ≤ 999 ∧ laterR L dy wn mo Ba We U n r ∧ u = [ro_rrrrrrrrrrrrrrrirl x0 11 (q 0) (q 1) (q 2) (q 3) (q 4) (q 5) (q 6) (q 7) (q 8) (q 9) (q 10) (q 11) (q 12) (q 13) (q 14) hc (q 16) dr, ro_rrrrrr (q 10) 9 (q 61) (q 62) (q 63) (q 64) (q 65) (q 66), ra_N (q 61) cI 90 sa2, ra_I (q 62) cI 900 ft2, ra_I (q 63) cI 90 fa2, ra_I (q 64) cI 90 fo2, ra_J (q 65) cJ 90 fg2, ra_I (q 66) cI 9 fk2, ro_rrrrrnniin (q 5) 2 (q 44) (q 45) (q 46) (q 47) (q 48) dh mh uh rh nh, ro_rrrrnn (q 44) 0 (q 49) (q 50) (q 51) (q 52) ch wh, ra_I (q 49) cI 1600 y1, ra_J (q 50) cJ 64 z2, ra_J (q 51) cJ 9 z3, ra_J (q 52) cJ 10 y4, ra_I (q 47) cI 3 yf, ra_I (q 48) cI 3 yt, ro_rrrrrrrnn (q 11) 1 (q 10) (q 67) (q 68) (q 69) (q 70) (q 71) (q 72) gd2 gs2, ra_I (q 67) cI 90 g1, ra_I (q 68) cI 9 g2, ra_I (q 69) cI 10 g3, ro_rrnnnin (q 7) 7 (q 33) (q 34) dy wn mo mu ke, ra_I (q 33) cI 9 fb, ra_I (q 34) cI 9 fw, ro_rrnnnin (q 8) 7 (q 53) (q 54) dt2 kt2 mt2 ut2 et2, ra_I (q 53) cI 9 bu_, ra_I (q 54) cI 9 wu_, ra_I (q 12) cI 9 ra2])) := by
  refine skM_of pf_X11_later (Nat.le_of_ble_eq_true rfl) ?_
  intro p e s m below meth c A ls E hP hD hl
  refine skE_el E (fun hx hb hr hml hlocks hin hown hts hK hA => ?_)
  have hown : s.vm.findClass RX11 = some m.cls := hown
  have hS : va_S A s.heap s.heap [] := va_S.rf
  have hl : lv_has ls 3 [(0, .ref x0), (1, .int n)] := hl
  refine lv_aload_n hx hb dX11_later_0 rfl (lv_at hl 0 rfl) ?_
  refine sk_Vi (q0 := 0) (n := 0) (rest := []) (wr := fmR om_27_4000040 _) ⟨hx, hb, hml, hown, hts⟩ hl.1 (c_kx_isLocked l D cI cJ cC cZ cS x0 q hc dr dy wn mo ke mu fb fw hdy) w_4_39 w_4_41 w_0_18 w_1_1 w_4_42 hd_X11_isLocked_0 ⟨⟨(Nat.le_of_ble_eq_true rfl), (Nat.le_of_ble_eq_true rfl)⟩, (Nat.le_of_ble_eq_true rfl), (Nat.le_of_ble_eq_true rfl)⟩ hK hP hD hS hA (fmT om_27_4000040 0) (fmF om_27_4000040 0) (fm_C1 rfl rfl) (fm_R rfl rfl) (fm_nT om_27_4000040 0) (fm_nF om_27_4000040 0) (fm_di om_27_4000040 0) rfl rfl rfl rfl (Nat.le_of_ble_eq_true rfl) dX11_later_1 (fun r_2 u H locs hw hP hD hS => ?_)
  refine exE hw (fun b_1 hw1 => anE hw1 (fun hb1_3 hw2 => anE hw2 (fun er_5 eu_4 => ?_)))
  clear hw hw1 hw2
  subst er_5
  refine o_mgE (ws' := [ro_rrrrrrrrrrrrrrrirl x0 11 (q 0) (q 1) (q 2) (q 3) (q 4) (q 5) (q 6) (q 7) (q 8) (q 9) (q 10) (q 11) (q 12) (q 13) (q 14) hc (q 16) dr, ro_rrrrrr (q 10) 9 (q 61) (q 62) (q 63) (q 64) (q 65) (q 66), ra_N (q 61) cI 90 sa, ra_I (q 62) cI 900 ft, ra_I (q 63) cI 90 fa, ra_I (q 64) cI 90 fo, ra_J (q 65) cJ 90 fg, ra_I (q 66) cI 9 fk, ro_rrrrrnniin (q 5) 2 (q 44) (q 45) (q 46) (q 47) (q 48) dh mh uh rh nh, ro_rrrrnn (q 44) 0 (q 49) (q 50) (q 51) (q 52) ch wh, ra_I (q 49) cI 1600 y1, ra_J (q 50) cJ 64 y2, ra_J (q 51) cJ 9 y3, ra_J (q 52) cJ 10 y4, ra_I (q 47) cI 3 yf, ra_I (q 48) cI 3 yt, ro_rrrrrrrnn (q 11) 1 (q 10) (q 67) (q 68) (q 69) (q 70) (q 71) (q 72) gd gs, ra_I (q 67) cI 90 e1, ra_I (q 68) cI 9 e2, ra_I (q 69) cI 10 e3, ro_rrnnnin (q 7) 7 (q 33) (q 34) dy wn mo mu ke, ra_I (q 33) cI 9 fb, ra_I (q 34) cI 9 fw, ro_rrnnnin (q 8) 7 (q 53) (q 54) dt kt mt ut et, ra_I (q 53) cI 9 bt_, ra_I (q 54) cI 9 wt_, ra_I (q 12) cI 9 ra]) eu_4 hP hD rfl (fun hP hD => ?_)
  refine lv_if_eq (tgt := 17) hx hb dX11_later_4 (by decide) (fun c_6 => ?_) (fun c_6 => ?_)
  · have c_6 : b_1 = 0 := (neq b_1 0 (by omega) (Nat.le_of_ble_eq_true rfl)).mp c_6
    refine lv_iconst (v := (-1)) hx hb dX11_later_17 (by decide) ?_
    exact sk_iret hx hb hr rfl hlocks hK hP hD hS (⟨sa, ft, fa, fo, fg, fk, y2, y3, e1, e2, e3, gd, gs, dt, kt, mt, et, ut, bt_, wt_, ra, hsa, htq, hgd, hgs, hdt, hmt, hkt, lat_0 (by omega), rfl⟩) (Nat.le_of_ble_eq_true rfl) (Nat.le_of_ble_eq_true rfl) dX11_later_18
  · have c_6 : ¬ (b_1 = 0) := fun h => c_6 ((neq b_1 0 (by omega) (Nat.le_of_ble_eq_true rfl)).mpr h)
    refine lv_iload_n hx hb dX11_later_7 rfl (lv_at hl 1 rfl) ?_
    refine lv_if_lt (tgt := 17) hx hb dX11_later_8 (by decide) (fun c_7 => ?_) (fun c_7 => ?_)
    · skip
      refine lv_iconst (v := (-1)) hx hb dX11_later_17 (by decide) ?_
      exact sk_iret hx hb hr rfl hlocks hK hP hD hS (⟨sa, ft, fa, fo, fg, fk, y2, y3, e1, e2, e3, gd, gs, dt, kt, mt, et, ut, bt_, wt_, ra, hsa, htq, hgd, hgs, hdt, hmt, hkt, lat_1 (kIn_neg c_7 (by decide)), rfl⟩) (Nat.le_of_ble_eq_true rfl) (Nat.le_of_ble_eq_true rfl) dX11_later_18
    · obtain ⟨k_8, hk_8, rfl⟩ := nof n c_7
      refine lv_iload_n hx hb dX11_later_11 rfl (lv_at hl 1 rfl) ?_
      refine lv_bipush (v := 30) hx hb dX11_later_12 (by decide) ?_
      refine lv_icmp_le (tgt := 19) hx hb dX11_later_14 (by decide) (fun c_9 => ?_) (fun c_9 => ?_)
      · have c_9 : k_8 ≤ 30 := (nle k_8 30 (by omega) (Nat.le_of_ble_eq_true rfl)).mp c_9
        refine lv_aload_n hx hb dX11_later_19 rfl (lv_at hl 0 rfl) ?_
        refine sk_get (v := .ref (q 8)) (C := RX11) (T := TX11) (N := 18) hx hb hts inlX11 hown hK hP 0 rfl rfl 8 (Nat.le_of_ble_eq_true rfl) w_2_131 rfl dX11_later_20 ?_
        refine lv_aload_n hx hb dX11_later_23 rfl (lv_at hl 0 rfl) ?_
        refine sk_get (v := .ref (q 7)) (C := RX11) (T := TX11) (N := 18) hx hb hts inlX11 hown hK hP 0 rfl rfl 7 (Nat.le_of_ble_eq_true rfl) w_2_130 rfl dX11_later_24 ?_
        refine sk_Vv (q0 := 0) (n := 1) (rest := []) (wr := fmR om_27_7e _) ⟨hx, hb, hml, hown, hts⟩ hl.1 (c_kState_copy l D cI cJ cC cZ cS (q 8) (q 53) (q 54) dt mt (nI kt) ut (nI et) bt_ wt_ (q 7) (q 33) (q 34) dy mo (nI wn) mu (nI ke) fb fw) w_4_132 w_4_133 w_4_134 w_1_10 w_4_135 hd_X7_copy_1 ⟨⟨(Nat.le_of_ble_eq_true rfl), (Nat.le_of_ble_eq_true rfl)⟩, (Nat.le_of_ble_eq_true rfl), (Nat.le_of_ble_eq_true rfl)⟩ hK hP hD hS hA [23, 24, 25, 20, 21, 22] (fmF om_27_7e 0) rfl (fm_R rfl rfl) (by decide +kernel) (fm_nF om_27_7e 0) (by decide +kernel) rfl rfl rfl rfl (Nat.le_of_ble_eq_true rfl) dX11_later_27 (fun u H locs hw hP hD hS => ?_)
        refine exE hw (fun g1_10 hw1 => exE hw1 (fun g2_11 hw2 => anE hw2 (fun hc1_12 hw3 => anE hw3 (fun hc2_13 eu_14 => ?_))))
        clear hw hw1 hw2 hw3
        refine o_mgqE (ux := [ro_rrnnnin (q 7) 7 (q 33) (q 34) dy wn mo mu ke, ra_I (q 33) cI 9 fb, ra_I (q 34) cI 9 fw, ro_rrnnnin (q 8) 7 (q 53) (q 54) dy wn mo mu ke, ra_I (q 53) cI 9 g1_10, ra_I (q 54) cI 9 g2_11]) (ws' := [ro_rrrrrrrrrrrrrrrirl x0 11 (q 0) (q 1) (q 2) (q 3) (q 4) (q 5) (q 6) (q 7) (q 8) (q 9) (q 10) (q 11) (q 12) (q 13) (q 14) hc (q 16) dr, ro_rrrrrr (q 10) 9 (q 61) (q 62) (q 63) (q 64) (q 65) (q 66), ra_N (q 61) cI 90 sa, ra_I (q 62) cI 900 ft, ra_I (q 63) cI 90 fa, ra_I (q 64) cI 90 fo, ra_J (q 65) cJ 90 fg, ra_I (q 66) cI 9 fk, ro_rrrrrnniin (q 5) 2 (q 44) (q 45) (q 46) (q 47) (q 48) dh mh uh rh nh, ro_rrrrnn (q 44) 0 (q 49) (q 50) (q 51) (q 52) ch wh, ra_I (q 49) cI 1600 y1, ra_J (q 50) cJ 64 y2, ra_J (q 51) cJ 9 y3, ra_J (q 52) cJ 10 y4, ra_I (q 47) cI 3 yf, ra_I (q 48) cI 3 yt, ro_rrrrrrrnn (q 11) 1 (q 10) (q 67) (q 68) (q 69) (q 70) (q 71) (q 72) gd gs, ra_I (q 67) cI 90 e1, ra_I (q 68) cI 9 e2, ra_I (q 69) cI 10 e3, ro_rrnnnin (q 7) 7 (q 33) (q 34) dy wn mo mu ke, ra_I (q 33) cI 9 fb, ra_I (q 34) cI 9 fw, ro_rrnnnin (q 8) 7 (q 53) (q 54) dy wn mo mu ke, ra_I (q 53) cI 9 g1_10, ra_I (q 54) cI 9 g2_11, ra_I (q 12) cI 9 ra]) eu_14 [3, 4, 5, 0, 1, 2] (by decide +kernel) rfl hP hD rfl (fun hP hD => ?_)
        refine lv_iconst (v := 0) hx hb dX11_later_30 ic_0 ?_
        refine lv_istore_n (lv' := [(2, .int 0), (0, .ref x0), (1, .int (nI k_8))]) hx hb dX11_later_31 rfl hl (by decide) rfl (fun ls hl => ?_)
        have lp_15 : ∀ (n_16 : Nat) (i : Nat) (ca : Nat → Nat) (ct : Nat → Int32) (cb : Nat → Int32) (co : Nat → Int32) (cg : Nat → Int64) (ck : Nat → Int32) (cy : Nat → Int64) (cz : Nat → Int64) (zd : Nat) (zs : Nat) (d1_ : Nat → Int32) (d2_ : Nat → Int32) (d3_ : Nat → Int32) (zk_ : Nat) (zm : Nat) (cr : Nat → Int32) (H : Heap) (locs : List Loc) (ls : Array Slot), 31 - i < n_16 → (∀ j, ca j ≤ 9) → (zd ≤ 9) → (zs ≤ 9) → (kcTI L ca ct cb co cg ck) → (zm ≤ 9) → (zk_ ≤ 999) → (i ≤ 30) → (kLtI L dy Ba We U k_8 i wn mo zk_ zm) → va_P D vwCl [ro_rrrrrrrrrrrrrrrirl x0 11 (q 0) (q 1) (q 2) (q 3) (q 4) (q 5) (q 6) (q 7) (q 8) (q 9) (q 10) (q 11) (q 12) (q 13) (q 14) hc (q 16) dr, ro_rrrrrr (q 10) 9 (q 61) (q 62) (q 63) (q 64) (q 65) (q 66), ra_N (q 61) cI 90 ca, ra_I (q 62) cI 900 ct, ra_I (q 63) cI 90 cb, ra_I (q 64) cI 90 co, ra_J (q 65) cJ 90 cg, ra_I (q 66) cI 9 ck, ro_rrrrrnniin (q 5) 2 (q 44) (q 45) (q 46) (q 47) (q 48) dh mh uh rh nh, ro_rrrrnn (q 44) 0 (q 49) (q 50) (q 51) (q 52) ch wh, ra_I (q 49) cI 1600 y1, ra_J (q 50) cJ 64 cy, ra_J (q 51) cJ 9 cz, ra_J (q 52) cJ 10 y4, ra_I (q 47) cI 3 yf, ra_I (q 48) cI 3 yt, ro_rrrrrrrnn (q 11) 1 (q 10) (q 67) (q 68) (q 69) (q 70) (q 71) (q 72) zd zs, ra_I (q 67) cI 90 d1_, ra_I (q 68) cI 9 d2_, ra_I (q 69) cI 10 d3_, ro_rrnnnin (q 7) 7 (q 33) (q 34) dy wn mo mu ke, ra_I (q 33) cI 9 fb, ra_I (q 34) cI 9 fw, ro_rrnnnin (q 8) 7 (q 53) (q 54) dy zk_ zm mu ke, ra_I (q 53) cI 9 g1_10, ra_I (q 54) cI 9 g2_11, ra_I (q 12) cI 9 cr] H → va_D A [ro_rrrrrrrrrrrrrrrirl x0 11 (q 0) (q 1) (q 2) (q 3) (q 4) (q 5) (q 6) (q 7) (q 8) (q 9) (q 10) (q 11) (q 12) (q 13) (q 14) hc (q 16) dr, ro_rrrrrr (q 10) 9 (q 61) (q 62) (q 63) (q 64) (q 65) (q 66), ra_N (q 61) cI 90 ca, ra_I (q 62) cI 900 ct, ra_I (q 63) cI 90 cb, ra_I (q 64) cI 90 co, ra_J (q 65) cJ 90 cg, ra_I (q 66) cI 9 ck, ro_rrrrrnniin (q 5) 2 (q 44) (q 45) (q 46) (q 47) (q 48) dh mh uh rh nh, ro_rrrrnn (q 44) 0 (q 49) (q 50) (q 51) (q 52) ch wh, ra_I (q 49) cI 1600 y1, ra_J (q 50) cJ 64 cy, ra_J (q 51) cJ 9 cz, ra_J (q 52) cJ 10 y4, ra_I (q 47) cI 3 yf, ra_I (q 48) cI 3 yt, ro_rrrrrrrnn (q 11) 1 (q 10) (q 67) (q 68) (q 69) (q 70) (q 71) (q 72) zd zs, ra_I (q 67) cI 90 d1_, ra_I (q 68) cI 9 d2_, ra_I (q 69) cI 10 d3_, ro_rrnnnin (q 7) 7 (q 33) (q 34) dy wn mo mu ke, ra_I (q 33) cI 9 fb, ra_I (q 34) cI 9 fw, ro_rrnnnin (q 8) 7 (q 53) (q 54) dy zk_ zm mu ke, ra_I (q 53) cI 9 g1_10, ra_I (q 54) cI 9 g2_11, ra_I (q 12) cI 9 cr] → va_S A s.heap H locs → lv_has ls 3 [(2, .int (nI i)), (0, .ref x0), (1, .int (nI k_8))] → W p l e { frames := 7, cells := 0, slots := 0, locals := 169 } s m ([.ref x0, .int (nI k_8)] : List Value).toArray below meth c H locs 0 0 (MQ below (skI D (skT cI cJ cC cZ cS) (fun (r : Int32) (u : va_W) => ∃ (sa2 : Nat → Nat), ∃ (ft2 : Nat → Int32), ∃ (fa2 : Nat → Int32), ∃ (fo2 : Nat → Int32), ∃ (fg2 : Nat → Int64), ∃ (fk2 : Nat → Int32), ∃ (z2 : Nat → Int64), ∃ (z3 : Nat → Int64), ∃ (g1 : Nat → Int32), ∃ (g2 : Nat → Int32), ∃ (g3 : Nat → Int32), ∃ (gd2 : Nat), ∃ (gs2 : Nat), ∃ (dt2 : Nat), ∃ (kt2 : Nat), ∃ (mt2 : Nat), ∃ (et2 : Nat), ∃ (ut2 : Int32), ∃ (bu_ : Nat → Int32), ∃ (wu_ : Nat → Int32), ∃ (ra2 : Nat → Int32), (∀ j, sa2 j ≤ 9) ∧ (1 ≤ dy → kcTI L sa2 ft2 fa2 fo2 fg2 fk2) ∧ gd2 ≤ 9 ∧ gs2 ≤ 9 ∧ dt2 ≤ 9 ∧ mt2 ≤ 9 ∧ kt2 ≤ 999 ∧ laterR L dy wn mo Ba We U (nI k_8) r ∧ u = [ro_rrrrrrrrrrrrrrrirl x0 11 (q 0) (q 1) (q 2) (q 3) (q 4) (q 5) (q 6) (q 7) (q 8) (q 9) (q 10) (q 11) (q 12) (q 13) (q 14) hc (q 16) dr, ro_rrrrrr (q 10) 9 (q 61) (q 62) (q 63) (q 64) (q 65) (q 66), ra_N (q 61) cI 90 sa2, ra_I (q 62) cI 900 ft2, ra_I (q 63) cI 90 fa2, ra_I (q 64) cI 90 fo2, ra_J (q 65) cJ 90 fg2, ra_I (q 66) cI 9 fk2, ro_rrrrrnniin (q 5) 2 (q 44) (q 45) (q 46) (q 47) (q 48) dh mh uh rh nh, ro_rrrrnn (q 44) 0 (q 49) (q 50) (q 51) (q 52) ch wh, ra_I (q 49) cI 1600 y1, ra_J (q 50) cJ 64 z2, ra_J (q 51) cJ 9 z3, ra_J (q 52) cJ 10 y4, ra_I (q 47) cI 3 yf, ra_I (q 48) cI 3 yt, ro_rrrrrrrnn (q 11) 1 (q 10) (q 67) (q 68) (q 69) (q 70) (q 71) (q 72) gd2 gs2, ra_I (q 67) cI 90 g1, ra_I (q 68) cI 9 g2, ra_I (q 69) cI 10 g3, ro_rrnnnin (q 7) 7 (q 33) (q 34) dy wn mo mu ke, ra_I (q 33) cI 9 fb, ra_I (q 34) cI 9 fw, ro_rrnnnin (q 8) 7 (q 53) (q 54) dt2 kt2 mt2 ut2 et2, ra_I (q 53) cI 9 bu_, ra_I (q 54) cI 9 wu_, ra_I (q 12) cI 9 ra2]) A) ([.ref x0, .int (nI k_8)] : List Value).toArray s 0 0 A) (F0 m 32 ls []) := by
          intro n_16
          induction n_16 with
          | zero => intro i ca ct cb co cg ck cy cz zd zs d1_ d2_ d3_ zk_ zm cr H locs ls hm; exact absurd hm (Nat.not_lt_zero _)
          | succ n_16 ih_lp_15 =>
            intro i ca ct cb co cg ck cy cz zd zs d1_ d2_ d3_ zk_ zm cr H locs ls hm hca hzd hzs hzti hzm hzk hi hlt hP hD hS hl
            refine lv_iload_n hx hb dX11_later_32 rfl (lv_at hl 0 rfl) ?_
            refine lv_iload_n hx hb dX11_later_33 rfl (lv_at hl 2 rfl) ?_
            refine lv_icmp_ge (tgt := 52) hx hb dX11_later_34 (by decide) (fun c_17 => ?_) (fun c_17 => ?_)
            · have c_17 : k_8 ≤ i := (nle k_8 i (by omega) (by omega)).mp c_17
              refine lv_aload_n hx hb dX11_later_52 rfl (lv_at hl 1 rfl) ?_
              refine sk_get (v := .ref (q 8)) (C := RX11) (T := TX11) (N := 18) hx hb hts inlX11 hown hK hP 0 rfl rfl 8 (Nat.le_of_ble_eq_true rfl) w_2_131 rfl dX11_later_53 ?_
              refine sk_get (v := .int (nI zm)) (C := RX7) (T := TX7) (N := 7) hx hb hts inlX7 hown hK hP 23 rfl rfl 4 (Nat.le_of_ble_eq_true rfl) w_2_10 rfl dX11_later_56 ?_
              exact sk_iret hx hb hr rfl hlocks hK hP hD hS (⟨ca, ct, cb, co, cg, ck, cy, cz, d1_, d2_, d3_, zd, zs, dy, zk_, zm, ke, mu, g1_10, g2_11, cr, hca, (fun _ => hzti), hzd, hzs, hdy, hzm, hzk, lat_3 (by omega) (by omega) (kLtI_e hlt (by omega)), rfl⟩) (Nat.le_of_ble_eq_true rfl) (Nat.le_of_ble_eq_true rfl) dX11_later_59
            · have c_17 : ¬ (k_8 ≤ i) := fun h => c_17 ((nle k_8 i (by omega) (by omega)).mpr h)
              refine lv_aload_n hx hb dX11_later_37 rfl (lv_at hl 1 rfl) ?_
              refine sk_Vi (q0 := 0) (n := 0) (rest := []) (wr := fmR om_27_7ffff8f _) ⟨hx, hb, hml, hown, hts⟩ hl.1 (c_kx_stepAhead l D cI cJ cC cZ cS x0 q hc dr ca ct cb co cg ck dh mh uh rh nh ch wh y1 cy cz y4 yf yt zd zs d1_ d2_ d3_ dy zk_ zm ke mu g1_10 g2_11 Ba We L U cr hca hch hwh hzd hzs hLk (hlq (by omega)).1 (hlq (by omega)).2 (by omega) hdy hzm hzk (fun j hj => (hc1_12 j hj).trans (hfb j hj)) (fun j hj => (hc2_13 j hj).trans (hfw j hj)) hB9 hW9 hU hzti) w_4_136 w_4_138 w_0_25 w_1_1 w_4_139 hd_X11_stepAhead_0 ⟨⟨(Nat.le_of_ble_eq_true rfl), (Nat.le_of_ble_eq_true rfl)⟩, (Nat.le_of_ble_eq_true rfl), (Nat.le_of_ble_eq_true rfl)⟩ hK hP hD hS hA (fmT om_27_7ffff8f 0) (fmF om_27_7ffff8f 0) (fm_C1 rfl rfl) (fm_R rfl rfl) (fm_nT om_27_7ffff8f 0) (fm_nF om_27_7ffff8f 0) (fm_di om_27_7ffff8f 0) rfl rfl rfl rfl (Nat.le_of_ble_eq_true rfl) dX11_later_38 (fun r_35 u H locs hw hP hD hS => ?_)
              refine exE hw (fun sa2_18 hw1 => exE hw1 (fun ft2_19 hw2 => exE hw2 (fun fa2_20 hw3 => exE hw3 (fun fo2_21 hw4 => exE hw4 (fun fg2_22 hw5 => exE hw5 (fun fk2_23 hw6 => exE hw6 (fun z2_24 hw7 => exE hw7 (fun z3_25 hw8 => exE hw8 (fun g1_26 hw9 => exE hw9 (fun g2_27 hw10 => exE hw10 (fun g3_28 hw11 => exE hw11 (fun gd2_29 hw12 => exE hw12 (fun gs2_30 hw13 => exE hw13 (fun mt2_31 hw14 => exE hw14 (fun kt2_32 hw15 => exE hw15 (fun b_33 hw16 => exE hw16 (fun ra2_34 hw17 => anE hw17 (fun hsa2_36 hw18 => anE hw18 (fun hti2_37 hw19 => anE hw19 (fun hgd2_38 hw20 => anE hw20 (fun hgs2_39 hw21 => anE hw21 (fun hmt2_40 hw22 => anE hw22 (fun hkt2_41 hw23 => anE hw23 (fun hsp_42 hw24 => anE hw24 (fun er_44 eu_43 => ?_)))))))))))))))))))))))))
              clear hw hw1 hw2 hw3 hw4 hw5 hw6 hw7 hw8 hw9 hw10 hw11 hw12 hw13 hw14 hw15 hw16 hw17 hw18 hw19 hw20 hw21 hw22 hw23 hw24
              subst er_44
              refine o_mgE (ws' := [ro_rrrrrrrrrrrrrrrirl x0 11 (q 0) (q 1) (q 2) (q 3) (q 4) (q 5) (q 6) (q 7) (q 8) (q 9) (q 10) (q 11) (q 12) (q 13) (q 14) hc (q 16) dr, ro_rrrrrr (q 10) 9 (q 61) (q 62) (q 63) (q 64) (q 65) (q 66), ra_N (q 61) cI 90 sa2_18, ra_I (q 62) cI 900 ft2_19, ra_I (q 63) cI 90 fa2_20, ra_I (q 64) cI 90 fo2_21, ra_J (q 65) cJ 90 fg2_22, ra_I (q 66) cI 9 fk2_23, ro_rrrrrnniin (q 5) 2 (q 44) (q 45) (q 46) (q 47) (q 48) dh mh uh rh nh, ro_rrrrnn (q 44) 0 (q 49) (q 50) (q 51) (q 52) ch wh, ra_I (q 49) cI 1600 y1, ra_J (q 50) cJ 64 z2_24, ra_J (q 51) cJ 9 z3_25, ra_J (q 52) cJ 10 y4, ra_I (q 47) cI 3 yf, ra_I (q 48) cI 3 yt, ro_rrrrrrrnn (q 11) 1 (q 10) (q 67) (q 68) (q 69) (q 70) (q 71) (q 72) gd2_29 gs2_30, ra_I (q 67) cI 90 g1_26, ra_I (q 68) cI 9 g2_27, ra_I (q 69) cI 10 g3_28, ro_rrnnnin (q 7) 7 (q 33) (q 34) dy wn mo mu ke, ra_I (q 33) cI 9 fb, ra_I (q 34) cI 9 fw, ro_rrnnnin (q 8) 7 (q 53) (q 54) dy kt2_32 mt2_31 mu ke, ra_I (q 53) cI 9 g1_10, ra_I (q 54) cI 9 g2_11, ra_I (q 12) cI 9 ra2_34]) eu_43 hP hD rfl (fun hP hD => ?_)
              refine lv_if_ne (tgt := 46) hx hb dX11_later_41 (by decide) (fun c_45 => ?_) (fun c_45 => ?_)
              · have c_45 : ¬ (b_33 = 0) := fun h => c_45 ((neq b_33 0 (by omega) (Nat.le_of_ble_eq_true rfl)).mpr h)
                have hg_46 := rr_1 hsp_42 (by omega)
                refine lv_iinc (v := nI (i + 1)) (lv' := [(2, .int (nI (i + 1))), (0, .ref x0), (1, .int (nI k_8))]) hx hb dX11_later_46 hl (k := 0) rfl (ninc i 1 (by decide)) (by decide) rfl (fun ls hl => ?_)
                refine lv_goto (tgt := 32) hx hb dX11_later_49 (by decide) ?_
                exact ih_lp_15 (i + 1) sa2_18 ft2_19 fa2_20 fo2_21 fg2_22 fk2_23 z2_24 z3_25 gd2_29 gs2_30 g1_26 g2_27 g3_28 kt2_32 mt2_31 ra2_34 _ _ _ (by omega) hsa2_36 hgd2_38 hgs2_39 hti2_37 hmt2_40 hkt2_41 (by omega) (kLtI_s hlt (by omega) hg_46.1 hg_46.2.1 hg_46.2.2) hP hD hS (lv_sub hl [0, 1, 2] rfl)
              · have c_45 : b_33 = 0 := (neq b_33 0 (by omega) (Nat.le_of_ble_eq_true rfl)).mp c_45
                refine lv_iconst (v := (-1)) hx hb dX11_later_44 (by decide) ?_
                exact sk_iret hx hb hr rfl hlocks hK hP hD hS (⟨sa2_18, ft2_19, fa2_20, fo2_21, fg2_22, fk2_23, z2_24, z3_25, g1_26, g2_27, g3_28, gd2_29, gs2_30, dy, kt2_32, mt2_31, ke, mu, g1_10, g2_11, ra2_34, hsa2_36, (fun _ => hti2_37), hgd2_38, hgs2_39, hdy, hmt2_40, hkt2_41, lat_2 (by omega) (kLtI_n hlt (by omega) (rr_0 hsp_42 c_45).2.2), rfl⟩) (Nat.le_of_ble_eq_true rfl) (Nat.le_of_ble_eq_true rfl) dX11_later_45
        exact lp_15 (31 - 0 + 1) 0 sa ft fa fo fg fk y2 y3 gd gs e1 e2 e3 wn mo ra _ _ _ (Nat.lt_succ_self _) hsa hgd hgs (htq (by omega)) hmo hwn (by omega) kLtI_0 hP hD hS (lv_sub hl [0, 1, 2] rfl)
      · have c_9 : ¬ (k_8 ≤ 30) := fun h => c_9 ((nle k_8 30 (by omega) (Nat.le_of_ble_eq_true rfl)).mpr h)
        refine lv_iconst (v := (-1)) hx hb dX11_later_17 (by decide) ?_
        exact sk_iret hx hb hr rfl hlocks hK hP hD hS (⟨sa, ft, fa, fo, fg, fk, y2, y3, e1, e2, e3, gd, gs, dt, kt, mt, et, ut, bt_, wt_, ra, hsa, htq, hgd, hgs, hdt, hmt, hkt, lat_1 (kIn_ge (by omega) (by omega)), rfl⟩) (Nat.le_of_ble_eq_true rfl) (Nat.le_of_ble_eq_true rfl) dX11_later_18
theorem dg_X11_ring_0_0 : bqL cX11_ring 0 [(0, [42]), (1, [182, 0, 204]), (4, [154, 0, 5]), (9, [42]), (10, [180, 0, 63]), (13, [42]), (14, [180, 0, 59]), (17, [182, 0, 237]), (20, [4]), (21, [60]), (22, [27]), (23, [16, 30]), (25, [163, 0, 37]), (62, [2]), (63, [172]), (28, [42]), (29, [182, 0, 241]), (32, [154, 0, 5]), (37, [42]), (38, [180, 0, 63]), (41, [180, 0, 150]), (44, [42]), (45, [180, 0, 59]), (48, [180, 0, 150]), (51, [160, 0, 5]), (56, [132, 1, 1]), (59, [167, 255, 219]), (54, [27]), (55, [172]), (35, [2]), (36, [172]), (7, [2]), (8, [172])] = true := by decide +kernel
theorem dX11_ring_0 : decode cX11_ring 0 = .ok (.aload_n 0, 1) := q_aload_n0 (bat_get dg_X11_ring_0_0 0 rfl rfl)
theorem dX11_ring_1 : decode cX11_ring 1 = .ok (.invokevirtual 204, 3) := q_invokevirtual (bat_get dg_X11_ring_0_0 1 rfl rfl) rfl
theorem dX11_ring_4 : decode cX11_ring 4 = .ok (.ifCond .ne 5, 3) := q_ifCond_ne (bat_get dg_X11_ring_0_0 2 rfl rfl) rfl
theorem dX11_ring_9 : decode cX11_ring 9 = .ok (.aload_n 0, 1) := q_aload_n0 (bat_get dg_X11_ring_0_0 3 rfl rfl)
theorem dX11_ring_10 : decode cX11_ring 10 = .ok (.getfield 63, 3) := q_getfield (bat_get dg_X11_ring_0_0 4 rfl rfl) rfl
theorem dX11_ring_13 : decode cX11_ring 13 = .ok (.aload_n 0, 1) := q_aload_n0 (bat_get dg_X11_ring_0_0 5 rfl rfl)
theorem dX11_ring_14 : decode cX11_ring 14 = .ok (.getfield 59, 3) := q_getfield (bat_get dg_X11_ring_0_0 6 rfl rfl) rfl
theorem dX11_ring_17 : decode cX11_ring 17 = .ok (.invokevirtual 237, 3) := q_invokevirtual (bat_get dg_X11_ring_0_0 7 rfl rfl) rfl
theorem dX11_ring_20 : decode cX11_ring 20 = .ok (.iconst 1, 1) := q_iconst1 (bat_get dg_X11_ring_0_0 8 rfl rfl)
theorem dX11_ring_21 : decode cX11_ring 21 = .ok (.istore_n 1, 1) := q_istore_n1 (bat_get dg_X11_ring_0_0 9 rfl rfl)
theorem dX11_ring_22 : decode cX11_ring 22 = .ok (.iload_n 1, 1) := q_iload_n1 (bat_get dg_X11_ring_0_0 10 rfl rfl)
theorem dX11_ring_23 : decode cX11_ring 23 = .ok (.bipush 30, 2) := q_bipush (bat_get dg_X11_ring_0_0 11 rfl rfl) rfl
theorem dX11_ring_25 : decode cX11_ring 25 = .ok (.if_icmp .gt 37, 3) := q_if_icmp_gt (bat_get dg_X11_ring_0_0 12 rfl rfl) rfl
theorem dX11_ring_62 : decode cX11_ring 62 = .ok (.iconst (-1), 1) := q_iconstm1 (bat_get dg_X11_ring_0_0 13 rfl rfl)
theorem dX11_ring_63 : decode cX11_ring 63 = .ok (.ireturn, 1) := q_ireturn (bat_get dg_X11_ring_0_0 14 rfl rfl)
theorem dX11_ring_28 : decode cX11_ring 28 = .ok (.aload_n 0, 1) := q_aload_n0 (bat_get dg_X11_ring_0_0 15 rfl rfl)
theorem dX11_ring_29 : decode cX11_ring 29 = .ok (.invokevirtual 241, 3) := q_invokevirtual (bat_get dg_X11_ring_0_0 16 rfl rfl) rfl
theorem dX11_ring_32 : decode cX11_ring 32 = .ok (.ifCond .ne 5, 3) := q_ifCond_ne (bat_get dg_X11_ring_0_0 17 rfl rfl) rfl
theorem dX11_ring_37 : decode cX11_ring 37 = .ok (.aload_n 0, 1) := q_aload_n0 (bat_get dg_X11_ring_0_0 18 rfl rfl)
theorem dX11_ring_38 : decode cX11_ring 38 = .ok (.getfield 63, 3) := q_getfield (bat_get dg_X11_ring_0_0 19 rfl rfl) rfl
theorem dX11_ring_41 : decode cX11_ring 41 = .ok (.getfield 150, 3) := q_getfield (bat_get dg_X11_ring_0_0 20 rfl rfl) rfl
theorem dX11_ring_44 : decode cX11_ring 44 = .ok (.aload_n 0, 1) := q_aload_n0 (bat_get dg_X11_ring_0_0 21 rfl rfl)
theorem dX11_ring_45 : decode cX11_ring 45 = .ok (.getfield 59, 3) := q_getfield (bat_get dg_X11_ring_0_0 22 rfl rfl) rfl
theorem dX11_ring_48 : decode cX11_ring 48 = .ok (.getfield 150, 3) := q_getfield (bat_get dg_X11_ring_0_0 23 rfl rfl) rfl
theorem dX11_ring_51 : decode cX11_ring 51 = .ok (.if_icmp .ne 5, 3) := q_if_icmp_ne (bat_get dg_X11_ring_0_0 24 rfl rfl) rfl
theorem dX11_ring_56 : decode cX11_ring 56 = .ok (.iinc 1 1, 3) := q_iinc (bat_get dg_X11_ring_0_0 25 rfl rfl) rfl
theorem dX11_ring_59 : decode cX11_ring 59 = .ok (.goto (-37), 3) := q_goto (bat_get dg_X11_ring_0_0 26 rfl rfl) rfl
theorem dX11_ring_54 : decode cX11_ring 54 = .ok (.iload_n 1, 1) := q_iload_n1 (bat_get dg_X11_ring_0_0 27 rfl rfl)
theorem dX11_ring_55 : decode cX11_ring 55 = .ok (.ireturn, 1) := q_ireturn (bat_get dg_X11_ring_0_0 28 rfl rfl)
theorem dX11_ring_35 : decode cX11_ring 35 = .ok (.iconst (-1), 1) := q_iconstm1 (bat_get dg_X11_ring_0_0 29 rfl rfl)
theorem dX11_ring_36 : decode cX11_ring 36 = .ok (.ireturn, 1) := q_ireturn (bat_get dg_X11_ring_0_0 30 rfl rfl)
theorem dX11_ring_7 : decode cX11_ring 7 = .ok (.iconst (-1), 1) := q_iconstm1 (bat_get dg_X11_ring_0_0 31 rfl rfl)
theorem dX11_ring_8 : decode cX11_ring 8 = .ok (.ireturn, 1) := q_ireturn (bat_get dg_X11_ring_0_0 32 rfl rfl)
theorem w_4_143 : (Cond.code yX11_ring cX11_ring 2 (some .int)) ∈ wsL_law := sk_mem (ck_4 _ (List.mem_of_getElem? (i := 143) rfl)) rfl
set_option maxHeartbeats 4000000 in
set_option maxRecDepth 100000 in
theorem c_uy_ring (l : Launch) (D : va_G) (cI cJ cC cZ cS : ClassId) (x0 : Nat) (q : Nat → Nat) (hc : Int32) (dr : Int64) (sa : Nat → Nat) (ft : Nat → Int32) (fa : Nat → Int32) (fo : Nat → Int32) (fg : Nat → Int64) (fk : Nat → Int32) (dh : Nat) (mh : Nat) (uh : Int32) (rh : Int32) (nh : Nat) (ch : Nat) (wh : Nat) (y1 : Nat → Int32) (y2 : Nat → Int64) (y3 : Nat → Int64) (y4 : Nat → Int64) (yf : Nat → Int32) (yt : Nat → Int32) (gd : Nat) (gs : Nat) (e1 : Nat → Int32) (e2 : Nat → Int32) (e3 : Nat → Int32) (dy : Nat) (wn : Nat) (mo : Nat) (ke : Nat) (mu : Int32) (fb : Nat → Int32) (fw : Nat → Int32) (Ba : Nat → Nat) (We : Nat → Nat) (L : LkS) (U : Nat → Bool) (dt : Nat) (kt : Nat) (mt : Nat) (et : Nat) (ut : Int32) (bt_ : Nat → Int32) (wt_ : Nat → Int32) (ra : Nat → Int32) (hsa : ∀ j, sa j ≤ 9) (hch : ch ≤ 1600) (hwh : wh ≤ 1) (hdy : dy ≤ 9) (hmo : mo ≤ 9) (hgd : gd ≤ 9) (hgs : gs ≤ 9) (hLk : kcLk L) (hlq : 1 ≤ dy → cdK (lK (lkF L)) ch wh y1 ∧ ∀ v, v < 3 → sgO (lG (lkF L) v) (yf v) (yt v)) (htq : 1 ≤ dy → kcTI L sa ft fa fo fg fk) (hfb : ∀ j, j < 9 → fb j = nI (Ba j)) (hfw : ∀ j, j < 9 → fw j = nI (We j)) (hB9 : ∀ j, Ba j ≤ 9) (hW9 : ∀ j, We j ≤ 9) (hwn : wn ≤ 999) (hU : muO U mu) (hdt : dt ≤ 9) (hmt : mt ≤ 9) (hkt : kt ≤ 999) : skM l yX11_ring cX11_ring 2 (some .int) 7 169 0 0 D (skT cI cJ cC cZ cS) [.ref x0] [ro_rrrrrrrrrrrrrrrirl x0 11 (q 0) (q 1) (q 2) (q 3) (q 4) (q 5) (q 6) (q 7) (q 8) (q 9) (q 10) (q 11) (q 12) (q 13) (q 14) hc (q 16) dr, ro_rrrrrr (q 10) 9 (q 61) (q 62) (q 63) (q 64) (q 65) (q 66), ra_N (q 61) cI 90 sa, ra_I (q 62) cI 900 ft, ra_I (q 63) cI 90 fa, ra_I (q 64) cI 90 fo, ra_J (q 65) cJ 90 fg, ra_I (q 66) cI 9 fk, ro_rrrrrnniin (q 5) 2 (q 44) (q 45) (q 46) (q 47) (q 48) dh mh uh rh nh, ro_rrrrnn (q 44) 0 (q 49) (q 50) (q 51) (q 52) ch wh, ra_I (q 49) cI 1600 y1, ra_J (q 50) cJ 64 y2, ra_J (q 51) cJ 9 y3, ra_J (q 52) cJ 10 y4, ra_I (q 47) cI 3 yf, ra_I (q 48) cI 3 yt, ro_rrrrrrrnn (q 11) 1 (q 10) (q 67) (q 68) (q 69) (q 70) (q 71) (q 72) gd gs, ra_I (q 67) cI 90 e1, ra_I (q 68) cI 9 e2, ra_I (q 69) cI 10 e3, ro_rrnnnin (q 7) 7 (q 33) (q 34) dy wn mo mu ke, ra_I (q 33) cI 9 fb, ra_I (q 34) cI 9 fw, ro_rrnnnin (q 8) 7 (q 53) (q 54) dt kt mt ut et, ra_I (q 53) cI 9 bt_, ra_I (q 54) cI 9 wt_, ra_I (q 12) cI 9 ra] (skI D (skT cI cJ cC cZ cS) (fun (r : Int32) (u : va_W) => ∃ (sa2 : Nat → Nat), ∃ (ft2 : Nat → Int32), ∃ (fa2 : Nat → Int32), ∃ (fo2 : Nat → Int32), ∃ (fg2 : Nat → Int64), ∃ (fk2 : Nat → Int32), ∃ (z2 : Nat → Int64), ∃ (z3 : Nat → Int64), ∃ (g1 : Nat → Int32), ∃ (g2 : Nat → Int32), ∃ (g3 : Nat → Int32), ∃ (gd2 : Nat), ∃ (gs2 : Nat), ∃ (dt2 : Nat), ∃ (kt2 : Nat), ∃ (mt2 : Nat), ∃ (et2 : Nat), ∃ (ut2 : Int32), ∃ (bu_ : Nat → Int32), ∃ (wu_ : Nat → Int32), ∃ (ra2 : Nat → Int32), (∀ j, sa2 j ≤ 9) ∧ (1 ≤ dy → kcTI L sa2 ft2 fa2 fo2 fg2 fk2) ∧ gd2 ≤ 9 ∧ gs2 ≤ 9 ∧ dt2 ≤ 9 ∧ mt2 ≤ 9 ∧ kt2 ≤ 999 ∧ ringR L dy wn mo Ba We U r ∧ u = [ro_rrrrrrrrrrrrrrrirl x0 11 (q 0) (q 1) (q 2) (q 3) (q 4) (q 5) (q 6) (q 7) (q 8) (q 9) (q 10) (q 11) (q 12) (q 13) (q 14) hc (q 16) dr, ro_rrrrrr (q 10) 9 (q 61) (q 62) (q 63) (q 64) (q 65) (q 66), ra_N (q 61) cI 90 sa2, ra_I (q 62) cI 900 ft2, ra_I (q 63) cI 90 fa2, ra_I (q 64) cI 90 fo2, ra_J (q 65) cJ 90 fg2, ra_I (q 66) cI 9 fk2, ro_rrrrrnniin (q 5) 2 (q 44) (q 45) (q 46) (q 47) (q 48) dh mh uh rh nh, ro_rrrrnn (q 44) 0 (q 49) (q 50) (q 51) (q 52) ch wh, ra_I (q 49) cI 1600 y1, ra_J (q 50) cJ 64 z2, ra_J (q 51) cJ 9 z3, ra_J (q 52) cJ 10 y4, ra_I (q 47) cI 3 yf, ra_I (q 48) cI 3 yt, ro_rrrrrrrnn (q 11) 1 (q 10) (q 67) (q 68) (q 69) (q 70) (q 71) (q 72) gd2 gs2, ra_I (q 67) cI 90 g1, ra_I (q 68) cI 9 g2, ra_I (q 69) cI 10 g3, ro_rrnnnin (q 7) 7 (q 33) (q 34) dy wn mo mu ke, ra_I (q 33) cI 9 fb, ra_I (q 34) cI 9 fw, ro_rrnnnin (q 8) 7 (q 53) (q 54) dt2 kt2 mt2 ut2 et2, ra_I (q 53) cI 9 bu_, ra_I (q 54) cI 9 wu_, ra_I (q 12) cI 9 ra2])) := by
  refine skM_of pf_X11_ring (Nat.le_of_ble_eq_true rfl) ?_
  intro p e s m below meth c A ls E hP hD hl
  refine skE_el E (fun hx hb hr hml hlocks hin hown hts hK hA => ?_)
  have hown : s.vm.findClass RX11 = some m.cls := hown
  have hS : va_S A s.heap s.heap [] := va_S.rf
  have hl : lv_has ls 2 [(0, .ref x0)] := hl
  refine lv_aload_n hx hb dX11_ring_0 rfl (lv_at hl 0 rfl) ?_
  refine sk_Vi (q0 := 0) (n := 0) (rest := []) (wr := fmR om_27_4000040 _) ⟨hx, hb, hml, hown, hts⟩ hl.1 (c_kx_isLocked l D cI cJ cC cZ cS x0 q hc dr dy wn mo ke mu fb fw hdy) w_4_39 w_4_41 w_0_18 w_1_1 w_4_42 hd_X11_isLocked_0 ⟨⟨(Nat.le_of_ble_eq_true rfl), (Nat.le_of_ble_eq_true rfl)⟩, (Nat.le_of_ble_eq_true rfl), (Nat.le_of_ble_eq_true rfl)⟩ hK hP hD hS hA (fmT om_27_4000040 0) (fmF om_27_4000040 0) (fm_C1 rfl rfl) (fm_R rfl rfl) (fm_nT om_27_4000040 0) (fm_nF om_27_4000040 0) (fm_di om_27_4000040 0) rfl rfl rfl rfl (Nat.le_of_ble_eq_true rfl) dX11_ring_1 (fun r_2 u H locs hw hP hD hS => ?_)
  refine exE hw (fun b_1 hw1 => anE hw1 (fun hb1_3 hw2 => anE hw2 (fun er_5 eu_4 => ?_)))
  clear hw hw1 hw2
  subst er_5
  refine o_mgE (ws' := [ro_rrrrrrrrrrrrrrrirl x0 11 (q 0) (q 1) (q 2) (q 3) (q 4) (q 5) (q 6) (q 7) (q 8) (q 9) (q 10) (q 11) (q 12) (q 13) (q 14) hc (q 16) dr, ro_rrrrrr (q 10) 9 (q 61) (q 62) (q 63) (q 64) (q 65) (q 66), ra_N (q 61) cI 90 sa, ra_I (q 62) cI 900 ft, ra_I (q 63) cI 90 fa, ra_I (q 64) cI 90 fo, ra_J (q 65) cJ 90 fg, ra_I (q 66) cI 9 fk, ro_rrrrrnniin (q 5) 2 (q 44) (q 45) (q 46) (q 47) (q 48) dh mh uh rh nh, ro_rrrrnn (q 44) 0 (q 49) (q 50) (q 51) (q 52) ch wh, ra_I (q 49) cI 1600 y1, ra_J (q 50) cJ 64 y2, ra_J (q 51) cJ 9 y3, ra_J (q 52) cJ 10 y4, ra_I (q 47) cI 3 yf, ra_I (q 48) cI 3 yt, ro_rrrrrrrnn (q 11) 1 (q 10) (q 67) (q 68) (q 69) (q 70) (q 71) (q 72) gd gs, ra_I (q 67) cI 90 e1, ra_I (q 68) cI 9 e2, ra_I (q 69) cI 10 e3, ro_rrnnnin (q 7) 7 (q 33) (q 34) dy wn mo mu ke, ra_I (q 33) cI 9 fb, ra_I (q 34) cI 9 fw, ro_rrnnnin (q 8) 7 (q 53) (q 54) dt kt mt ut et, ra_I (q 53) cI 9 bt_, ra_I (q 54) cI 9 wt_, ra_I (q 12) cI 9 ra]) eu_4 hP hD rfl (fun hP hD => ?_)
  refine lv_if_ne (tgt := 9) hx hb dX11_ring_4 (by decide) (fun c_6 => ?_) (fun c_6 => ?_)
  · have c_6 : ¬ (b_1 = 0) := fun h => c_6 ((neq b_1 0 (by omega) (Nat.le_of_ble_eq_true rfl)).mpr h)
    refine lv_aload_n hx hb dX11_ring_9 rfl (lv_at hl 0 rfl) ?_
    refine sk_get (v := .ref (q 8)) (C := RX11) (T := TX11) (N := 18) hx hb hts inlX11 hown hK hP 0 rfl rfl 8 (Nat.le_of_ble_eq_true rfl) w_2_131 rfl dX11_ring_10 ?_
    refine lv_aload_n hx hb dX11_ring_13 rfl (lv_at hl 0 rfl) ?_
    refine sk_get (v := .ref (q 7)) (C := RX11) (T := TX11) (N := 18) hx hb hts inlX11 hown hK hP 0 rfl rfl 7 (Nat.le_of_ble_eq_true rfl) w_2_130 rfl dX11_ring_14 ?_
    refine sk_Vv (q0 := 0) (n := 1) (rest := []) (wr := fmR om_27_7e _) ⟨hx, hb, hml, hown, hts⟩ hl.1 (c_kState_copy l D cI cJ cC cZ cS (q 8) (q 53) (q 54) dt mt (nI kt) ut (nI et) bt_ wt_ (q 7) (q 33) (q 34) dy mo (nI wn) mu (nI ke) fb fw) w_4_132 w_4_133 w_4_134 w_1_10 w_4_135 hd_X7_copy_1 ⟨⟨(Nat.le_of_ble_eq_true rfl), (Nat.le_of_ble_eq_true rfl)⟩, (Nat.le_of_ble_eq_true rfl), (Nat.le_of_ble_eq_true rfl)⟩ hK hP hD hS hA [23, 24, 25, 20, 21, 22] (fmF om_27_7e 0) rfl (fm_R rfl rfl) (by decide +kernel) (fm_nF om_27_7e 0) (by decide +kernel) rfl rfl rfl rfl (Nat.le_of_ble_eq_true rfl) dX11_ring_17 (fun u H locs hw hP hD hS => ?_)
    refine exE hw (fun g1_7 hw1 => exE hw1 (fun g2_8 hw2 => anE hw2 (fun hc1_9 hw3 => anE hw3 (fun hc2_10 eu_11 => ?_))))
    clear hw hw1 hw2 hw3
    refine o_mgqE (ux := [ro_rrnnnin (q 7) 7 (q 33) (q 34) dy wn mo mu ke, ra_I (q 33) cI 9 fb, ra_I (q 34) cI 9 fw, ro_rrnnnin (q 8) 7 (q 53) (q 54) dy wn mo mu ke, ra_I (q 53) cI 9 g1_7, ra_I (q 54) cI 9 g2_8]) (ws' := [ro_rrrrrrrrrrrrrrrirl x0 11 (q 0) (q 1) (q 2) (q 3) (q 4) (q 5) (q 6) (q 7) (q 8) (q 9) (q 10) (q 11) (q 12) (q 13) (q 14) hc (q 16) dr, ro_rrrrrr (q 10) 9 (q 61) (q 62) (q 63) (q 64) (q 65) (q 66), ra_N (q 61) cI 90 sa, ra_I (q 62) cI 900 ft, ra_I (q 63) cI 90 fa, ra_I (q 64) cI 90 fo, ra_J (q 65) cJ 90 fg, ra_I (q 66) cI 9 fk, ro_rrrrrnniin (q 5) 2 (q 44) (q 45) (q 46) (q 47) (q 48) dh mh uh rh nh, ro_rrrrnn (q 44) 0 (q 49) (q 50) (q 51) (q 52) ch wh, ra_I (q 49) cI 1600 y1, ra_J (q 50) cJ 64 y2, ra_J (q 51) cJ 9 y3, ra_J (q 52) cJ 10 y4, ra_I (q 47) cI 3 yf, ra_I (q 48) cI 3 yt, ro_rrrrrrrnn (q 11) 1 (q 10) (q 67) (q 68) (q 69) (q 70) (q 71) (q 72) gd gs, ra_I (q 67) cI 90 e1, ra_I (q 68) cI 9 e2, ra_I (q 69) cI 10 e3, ro_rrnnnin (q 7) 7 (q 33) (q 34) dy wn mo mu ke, ra_I (q 33) cI 9 fb, ra_I (q 34) cI 9 fw, ro_rrnnnin (q 8) 7 (q 53) (q 54) dy wn mo mu ke, ra_I (q 53) cI 9 g1_7, ra_I (q 54) cI 9 g2_8, ra_I (q 12) cI 9 ra]) eu_11 [3, 4, 5, 0, 1, 2] (by decide +kernel) rfl hP hD rfl (fun hP hD => ?_)
    refine lv_iconst (v := 1) hx hb dX11_ring_20 ic_1 ?_
    refine lv_istore_n (lv' := [(1, .int 1), (0, .ref x0)]) hx hb dX11_ring_21 rfl hl (by decide) rfl (fun ls hl => ?_)
    have lp_12 : ∀ (n_13 : Nat) (i : Nat) (ca : Nat → Nat) (ct : Nat → Int32) (cb : Nat → Int32) (co : Nat → Int32) (cg : Nat → Int64) (ck : Nat → Int32) (cy : Nat → Int64) (cz : Nat → Int64) (zd : Nat) (zs : Nat) (d1_ : Nat → Int32) (d2_ : Nat → Int32) (d3_ : Nat → Int32) (zk_ : Nat) (zm : Nat) (cr : Nat → Int32) (H : Heap) (locs : List Loc) (ls : Array Slot), 31 - i < n_13 → (∀ j, ca j ≤ 9) → (zd ≤ 9) → (zs ≤ 9) → (kcTI L ca ct cb co cg ck) → (zm ≤ 9) → (zk_ ≤ 999) → (i ≤ 31) → (1 ≤ i) → (kRgI L dy Ba We U mo i wn zk_ zm) → va_P D vwCl [ro_rrrrrrrrrrrrrrrirl x0 11 (q 0) (q 1) (q 2) (q 3) (q 4) (q 5) (q 6) (q 7) (q 8) (q 9) (q 10) (q 11) (q 12) (q 13) (q 14) hc (q 16) dr, ro_rrrrrr (q 10) 9 (q 61) (q 62) (q 63) (q 64) (q 65) (q 66), ra_N (q 61) cI 90 ca, ra_I (q 62) cI 900 ct, ra_I (q 63) cI 90 cb, ra_I (q 64) cI 90 co, ra_J (q 65) cJ 90 cg, ra_I (q 66) cI 9 ck, ro_rrrrrnniin (q 5) 2 (q 44) (q 45) (q 46) (q 47) (q 48) dh mh uh rh nh, ro_rrrrnn (q 44) 0 (q 49) (q 50) (q 51) (q 52) ch wh, ra_I (q 49) cI 1600 y1, ra_J (q 50) cJ 64 cy, ra_J (q 51) cJ 9 cz, ra_J (q 52) cJ 10 y4, ra_I (q 47) cI 3 yf, ra_I (q 48) cI 3 yt, ro_rrrrrrrnn (q 11) 1 (q 10) (q 67) (q 68) (q 69) (q 70) (q 71) (q 72) zd zs, ra_I (q 67) cI 90 d1_, ra_I (q 68) cI 9 d2_, ra_I (q 69) cI 10 d3_, ro_rrnnnin (q 7) 7 (q 33) (q 34) dy wn mo mu ke, ra_I (q 33) cI 9 fb, ra_I (q 34) cI 9 fw, ro_rrnnnin (q 8) 7 (q 53) (q 54) dy zk_ zm mu ke, ra_I (q 53) cI 9 g1_7, ra_I (q 54) cI 9 g2_8, ra_I (q 12) cI 9 cr] H → va_D A [ro_rrrrrrrrrrrrrrrirl x0 11 (q 0) (q 1) (q 2) (q 3) (q 4) (q 5) (q 6) (q 7) (q 8) (q 9) (q 10) (q 11) (q 12) (q 13) (q 14) hc (q 16) dr, ro_rrrrrr (q 10) 9 (q 61) (q 62) (q 63) (q 64) (q 65) (q 66), ra_N (q 61) cI 90 ca, ra_I (q 62) cI 900 ct, ra_I (q 63) cI 90 cb, ra_I (q 64) cI 90 co, ra_J (q 65) cJ 90 cg, ra_I (q 66) cI 9 ck, ro_rrrrrnniin (q 5) 2 (q 44) (q 45) (q 46) (q 47) (q 48) dh mh uh rh nh, ro_rrrrnn (q 44) 0 (q 49) (q 50) (q 51) (q 52) ch wh, ra_I (q 49) cI 1600 y1, ra_J (q 50) cJ 64 cy, ra_J (q 51) cJ 9 cz, ra_J (q 52) cJ 10 y4, ra_I (q 47) cI 3 yf, ra_I (q 48) cI 3 yt, ro_rrrrrrrnn (q 11) 1 (q 10) (q 67) (q 68) (q 69) (q 70) (q 71) (q 72) zd zs, ra_I (q 67) cI 90 d1_, ra_I (q 68) cI 9 d2_, ra_I (q 69) cI 10 d3_, ro_rrnnnin (q 7) 7 (q 33) (q 34) dy wn mo mu ke, ra_I (q 33) cI 9 fb, ra_I (q 34) cI 9 fw, ro_rrnnnin (q 8) 7 (q 53) (q 54) dy zk_ zm mu ke, ra_I (q 53) cI 9 g1_7, ra_I (q 54) cI 9 g2_8, ra_I (q 12) cI 9 cr] → va_S A s.heap H locs → lv_has ls 2 [(1, .int (nI i)), (0, .ref x0)] → W p l e { frames := 7, cells := 0, slots := 0, locals := 169 } s m ([.ref x0] : List Value).toArray below meth c H locs 0 0 (MQ below (skI D (skT cI cJ cC cZ cS) (fun (r : Int32) (u : va_W) => ∃ (sa2 : Nat → Nat), ∃ (ft2 : Nat → Int32), ∃ (fa2 : Nat → Int32), ∃ (fo2 : Nat → Int32), ∃ (fg2 : Nat → Int64), ∃ (fk2 : Nat → Int32), ∃ (z2 : Nat → Int64), ∃ (z3 : Nat → Int64), ∃ (g1 : Nat → Int32), ∃ (g2 : Nat → Int32), ∃ (g3 : Nat → Int32), ∃ (gd2 : Nat), ∃ (gs2 : Nat), ∃ (dt2 : Nat), ∃ (kt2 : Nat), ∃ (mt2 : Nat), ∃ (et2 : Nat), ∃ (ut2 : Int32), ∃ (bu_ : Nat → Int32), ∃ (wu_ : Nat → Int32), ∃ (ra2 : Nat → Int32), (∀ j, sa2 j ≤ 9) ∧ (1 ≤ dy → kcTI L sa2 ft2 fa2 fo2 fg2 fk2) ∧ gd2 ≤ 9 ∧ gs2 ≤ 9 ∧ dt2 ≤ 9 ∧ mt2 ≤ 9 ∧ kt2 ≤ 999 ∧ ringR L dy wn mo Ba We U r ∧ u = [ro_rrrrrrrrrrrrrrrirl x0 11 (q 0) (q 1) (q 2) (q 3) (q 4) (q 5) (q 6) (q 7) (q 8) (q 9) (q 10) (q 11) (q 12) (q 13) (q 14) hc (q 16) dr, ro_rrrrrr (q 10) 9 (q 61) (q 62) (q 63) (q 64) (q 65) (q 66), ra_N (q 61) cI 90 sa2, ra_I (q 62) cI 900 ft2, ra_I (q 63) cI 90 fa2, ra_I (q 64) cI 90 fo2, ra_J (q 65) cJ 90 fg2, ra_I (q 66) cI 9 fk2, ro_rrrrrnniin (q 5) 2 (q 44) (q 45) (q 46) (q 47) (q 48) dh mh uh rh nh, ro_rrrrnn (q 44) 0 (q 49) (q 50) (q 51) (q 52) ch wh, ra_I (q 49) cI 1600 y1, ra_J (q 50) cJ 64 z2, ra_J (q 51) cJ 9 z3, ra_J (q 52) cJ 10 y4, ra_I (q 47) cI 3 yf, ra_I (q 48) cI 3 yt, ro_rrrrrrrnn (q 11) 1 (q 10) (q 67) (q 68) (q 69) (q 70) (q 71) (q 72) gd2 gs2, ra_I (q 67) cI 90 g1, ra_I (q 68) cI 9 g2, ra_I (q 69) cI 10 g3, ro_rrnnnin (q 7) 7 (q 33) (q 34) dy wn mo mu ke, ra_I (q 33) cI 9 fb, ra_I (q 34) cI 9 fw, ro_rrnnnin (q 8) 7 (q 53) (q 54) dt2 kt2 mt2 ut2 et2, ra_I (q 53) cI 9 bu_, ra_I (q 54) cI 9 wu_, ra_I (q 12) cI 9 ra2]) A) ([.ref x0] : List Value).toArray s 0 0 A) (F0 m 22 ls []) := by
      intro n_13
      induction n_13 with
      | zero => intro i ca ct cb co cg ck cy cz zd zs d1_ d2_ d3_ zk_ zm cr H locs ls hm; exact absurd hm (Nat.not_lt_zero _)
      | succ n_13 ih_lp_12 =>
        intro i ca ct cb co cg ck cy cz zd zs d1_ d2_ d3_ zk_ zm cr H locs ls hm hca hzd hzs hzti hzm hzk hi hi1 hri hP hD hS hl
        refine lv_iload_n hx hb dX11_ring_22 rfl (lv_at hl 0 rfl) ?_
        refine lv_bipush (v := 30) hx hb dX11_ring_23 (by decide) ?_
        refine lv_icmp_gt (tgt := 62) hx hb dX11_ring_25 (by decide) (fun c_14 => ?_) (fun c_14 => ?_)
        · have c_14 : 30 < i := (nlt 30 i (Nat.le_of_ble_eq_true rfl) (by omega)).mp c_14
          refine lv_iconst (v := (-1)) hx hb dX11_ring_62 (by decide) ?_
          exact sk_iret hx hb hr rfl hlocks hK hP hD hS (⟨ca, ct, cb, co, cg, ck, cy, cz, d1_, d2_, d3_, zd, zs, dy, zk_, zm, ke, mu, g1_7, g2_8, cr, hca, (fun _ => hzti), hzd, hzs, hdy, hzm, hzk, rin_1 (kRgI_e hri (by omega)), rfl⟩) (Nat.le_of_ble_eq_true rfl) (Nat.le_of_ble_eq_true rfl) dX11_ring_63
        · have c_14 : ¬ (30 < i) := fun h => c_14 ((nlt 30 i (Nat.le_of_ble_eq_true rfl) (by omega)).mpr h)
          refine lv_aload_n hx hb dX11_ring_28 rfl (lv_at hl 1 rfl) ?_
          refine sk_Vi (q0 := 0) (n := 0) (rest := []) (wr := fmR om_27_7ffff8f _) ⟨hx, hb, hml, hown, hts⟩ hl.1 (c_kx_stepAhead l D cI cJ cC cZ cS x0 q hc dr ca ct cb co cg ck dh mh uh rh nh ch wh y1 cy cz y4 yf yt zd zs d1_ d2_ d3_ dy zk_ zm ke mu g1_7 g2_8 Ba We L U cr hca hch hwh hzd hzs hLk (hlq (by omega)).1 (hlq (by omega)).2 (by omega) hdy hzm hzk (fun j hj => (hc1_9 j hj).trans (hfb j hj)) (fun j hj => (hc2_10 j hj).trans (hfw j hj)) hB9 hW9 hU hzti) w_4_136 w_4_138 w_0_25 w_1_1 w_4_139 hd_X11_stepAhead_0 ⟨⟨(Nat.le_of_ble_eq_true rfl), (Nat.le_of_ble_eq_true rfl)⟩, (Nat.le_of_ble_eq_true rfl), (Nat.le_of_ble_eq_true rfl)⟩ hK hP hD hS hA (fmT om_27_7ffff8f 0) (fmF om_27_7ffff8f 0) (fm_C1 rfl rfl) (fm_R rfl rfl) (fm_nT om_27_7ffff8f 0) (fm_nF om_27_7ffff8f 0) (fm_di om_27_7ffff8f 0) rfl rfl rfl rfl (Nat.le_of_ble_eq_true rfl) dX11_ring_29 (fun r_32 u H locs hw hP hD hS => ?_)
          refine exE hw (fun sa2_15 hw1 => exE hw1 (fun ft2_16 hw2 => exE hw2 (fun fa2_17 hw3 => exE hw3 (fun fo2_18 hw4 => exE hw4 (fun fg2_19 hw5 => exE hw5 (fun fk2_20 hw6 => exE hw6 (fun z2_21 hw7 => exE hw7 (fun z3_22 hw8 => exE hw8 (fun g1_23 hw9 => exE hw9 (fun g2_24 hw10 => exE hw10 (fun g3_25 hw11 => exE hw11 (fun gd2_26 hw12 => exE hw12 (fun gs2_27 hw13 => exE hw13 (fun mt2_28 hw14 => exE hw14 (fun kt2_29 hw15 => exE hw15 (fun b_30 hw16 => exE hw16 (fun ra2_31 hw17 => anE hw17 (fun hsa2_33 hw18 => anE hw18 (fun hti2_34 hw19 => anE hw19 (fun hgd2_35 hw20 => anE hw20 (fun hgs2_36 hw21 => anE hw21 (fun hmt2_37 hw22 => anE hw22 (fun hkt2_38 hw23 => anE hw23 (fun hsp_39 hw24 => anE hw24 (fun er_41 eu_40 => ?_)))))))))))))))))))))))))
          clear hw hw1 hw2 hw3 hw4 hw5 hw6 hw7 hw8 hw9 hw10 hw11 hw12 hw13 hw14 hw15 hw16 hw17 hw18 hw19 hw20 hw21 hw22 hw23 hw24
          subst er_41
          refine o_mgE (ws' := [ro_rrrrrrrrrrrrrrrirl x0 11 (q 0) (q 1) (q 2) (q 3) (q 4) (q 5) (q 6) (q 7) (q 8) (q 9) (q 10) (q 11) (q 12) (q 13) (q 14) hc (q 16) dr, ro_rrrrrr (q 10) 9 (q 61) (q 62) (q 63) (q 64) (q 65) (q 66), ra_N (q 61) cI 90 sa2_15, ra_I (q 62) cI 900 ft2_16, ra_I (q 63) cI 90 fa2_17, ra_I (q 64) cI 90 fo2_18, ra_J (q 65) cJ 90 fg2_19, ra_I (q 66) cI 9 fk2_20, ro_rrrrrnniin (q 5) 2 (q 44) (q 45) (q 46) (q 47) (q 48) dh mh uh rh nh, ro_rrrrnn (q 44) 0 (q 49) (q 50) (q 51) (q 52) ch wh, ra_I (q 49) cI 1600 y1, ra_J (q 50) cJ 64 z2_21, ra_J (q 51) cJ 9 z3_22, ra_J (q 52) cJ 10 y4, ra_I (q 47) cI 3 yf, ra_I (q 48) cI 3 yt, ro_rrrrrrrnn (q 11) 1 (q 10) (q 67) (q 68) (q 69) (q 70) (q 71) (q 72) gd2_26 gs2_27, ra_I (q 67) cI 90 g1_23, ra_I (q 68) cI 9 g2_24, ra_I (q 69) cI 10 g3_25, ro_rrnnnin (q 7) 7 (q 33) (q 34) dy wn mo mu ke, ra_I (q 33) cI 9 fb, ra_I (q 34) cI 9 fw, ro_rrnnnin (q 8) 7 (q 53) (q 54) dy kt2_29 mt2_28 mu ke, ra_I (q 53) cI 9 g1_7, ra_I (q 54) cI 9 g2_8, ra_I (q 12) cI 9 ra2_31]) eu_40 hP hD rfl (fun hP hD => ?_)
          refine lv_if_ne (tgt := 37) hx hb dX11_ring_32 (by decide) (fun c_42 => ?_) (fun c_42 => ?_)
          · have c_42 : ¬ (b_30 = 0) := fun h => c_42 ((neq b_30 0 (by omega) (Nat.le_of_ble_eq_true rfl)).mpr h)
            have hg_43 := rr_1 hsp_39 (by omega)
            refine lv_aload_n hx hb dX11_ring_37 rfl (lv_at hl 1 rfl) ?_
            refine sk_get (v := .ref (q 8)) (C := RX11) (T := TX11) (N := 18) hx hb hts inlX11 hown hK hP 0 rfl rfl 8 (Nat.le_of_ble_eq_true rfl) w_2_131 rfl dX11_ring_38 ?_
            refine sk_get (v := .int (nI mt2_28)) (C := RX7) (T := TX7) (N := 7) hx hb hts inlX7 hown hK hP 23 rfl rfl 4 (Nat.le_of_ble_eq_true rfl) w_2_10 rfl dX11_ring_41 ?_
            refine lv_aload_n hx hb dX11_ring_44 rfl (lv_at hl 1 rfl) ?_
            refine sk_get (v := .ref (q 7)) (C := RX11) (T := TX11) (N := 18) hx hb hts inlX11 hown hK hP 0 rfl rfl 7 (Nat.le_of_ble_eq_true rfl) w_2_130 rfl dX11_ring_45 ?_
            refine sk_get (v := .int (nI mo)) (C := RX7) (T := TX7) (N := 7) hx hb hts inlX7 hown hK hP 20 rfl rfl 4 (Nat.le_of_ble_eq_true rfl) w_2_10 rfl dX11_ring_48 ?_
            refine lv_icmp_ne (tgt := 56) hx hb dX11_ring_51 (by decide) (fun c_44 => ?_) (fun c_44 => ?_)
            · have c_44 : ¬ (mt2_28 = mo) := fun h => c_44 ((neq mt2_28 mo (by omega) (by omega)).mpr h)
              refine lv_iinc (v := nI (i + 1)) (lv' := [(1, .int (nI (i + 1))), (0, .ref x0)]) hx hb dX11_ring_56 hl (k := 0) rfl (ninc i 1 (by decide)) (by decide) rfl (fun ls hl => ?_)
              refine lv_goto (tgt := 22) hx hb dX11_ring_59 (by decide) ?_
              exact ih_lp_12 (i + 1) sa2_15 ft2_16 fa2_17 fo2_18 fg2_19 fk2_20 z2_21 z3_22 gd2_26 gs2_27 g1_23 g2_24 g3_25 kt2_29 mt2_28 ra2_31 _ _ _ (by omega) hsa2_33 hgd2_35 hgs2_36 hti2_34 hmt2_37 hkt2_38 (by omega) (by omega) (kRgI_s hri (by omega) hg_43.1 hg_43.2.1 hg_43.2.2 c_44) hP hD hS (lv_sub hl [0, 1] rfl)
            · have c_44 : mt2_28 = mo := (neq mt2_28 mo (by omega) (by omega)).mp c_44
              refine lv_iload_n hx hb dX11_ring_54 rfl (lv_at hl 0 rfl) ?_
              exact sk_iret hx hb hr rfl hlocks hK hP hD hS (⟨sa2_15, ft2_16, fa2_17, fo2_18, fg2_19, fk2_20, z2_21, z3_22, g1_23, g2_24, g3_25, gd2_26, gs2_27, dy, kt2_29, mt2_28, ke, mu, g1_7, g2_8, ra2_31, hsa2_33, (fun _ => hti2_34), hgd2_35, hgs2_36, hdy, hmt2_37, hkt2_38, rin_2 (by omega) (kRgI_y hri (by omega) hg_43.1 hg_43.2.2 c_44), rfl⟩) (Nat.le_of_ble_eq_true rfl) (Nat.le_of_ble_eq_true rfl) dX11_ring_55
          · have c_42 : b_30 = 0 := (neq b_30 0 (by omega) (Nat.le_of_ble_eq_true rfl)).mp c_42
            refine lv_iconst (v := (-1)) hx hb dX11_ring_35 (by decide) ?_
            exact sk_iret hx hb hr rfl hlocks hK hP hD hS (⟨sa2_15, ft2_16, fa2_17, fo2_18, fg2_19, fk2_20, z2_21, z3_22, g1_23, g2_24, g3_25, gd2_26, gs2_27, dy, kt2_29, mt2_28, ke, mu, g1_7, g2_8, ra2_31, hsa2_33, (fun _ => hti2_34), hgd2_35, hgs2_36, hdy, hmt2_37, hkt2_38, rin_1 (kRgI_n hri (by omega) (rr_0 hsp_39 c_42).2.2), rfl⟩) (Nat.le_of_ble_eq_true rfl) (Nat.le_of_ble_eq_true rfl) dX11_ring_36
    exact lp_12 (31 - 1 + 1) 1 sa ft fa fo fg fk y2 y3 gd gs e1 e2 e3 wn mo ra _ _ _ (Nat.lt_succ_self _) hsa hgd hgs (htq (by omega)) hmo hwn (by omega) (by omega) kRgI_0 hP hD hS (lv_sub hl [0, 1] rfl)
  · have c_6 : b_1 = 0 := (neq b_1 0 (by omega) (Nat.le_of_ble_eq_true rfl)).mp c_6
    refine lv_iconst (v := (-1)) hx hb dX11_ring_7 (by decide) ?_
    exact sk_iret hx hb hr rfl hlocks hK hP hD hS (⟨sa, ft, fa, fo, fg, fk, y2, y3, e1, e2, e3, gd, gs, dt, kt, mt, et, ut, bt_, wt_, ra, hsa, htq, hgd, hgs, hdt, hmt, hkt, rin_0 (by omega), rfl⟩) (Nat.le_of_ble_eq_true rfl) (Nat.le_of_ble_eq_true rfl) dX11_ring_8
theorem dg_X11_frees_0_0 : bqL cX11_frees 0 [(0, [42]), (1, [27]), (2, [182, 0, 170]), (5, [153, 0, 12]), (17, [2]), (18, [172]), (8, [28]), (9, [155, 0, 8]), (12, [28]), (13, [4]), (14, [164, 0, 5]), (19, [42]), (20, [180, 0, 63]), (23, [42]), (24, [180, 0, 59]), (27, [182, 0, 237]), (30, [3]), (31, [62]), (32, [20, 0, 198]), (35, [55, 4]), (37, [3]), (38, [54, 6]), (40, [21, 6]), (42, [16, 10]), (44, [162, 0, 53]), (97, [29]), (98, [172]), (47, [42]), (48, [180, 0, 63]), (51, [27]), (52, [28]), (53, [21, 6]), (55, [182, 0, 244]), (58, [42]), (59, [42]), (60, [180, 0, 63]), (63, [182, 0, 208]), (66, [87]), (67, [42]), (68, [180, 0, 85])] = true := by decide +kernel
theorem dX11_frees_0 : decode cX11_frees 0 = .ok (.aload_n 0, 1) := q_aload_n0 (bat_get dg_X11_frees_0_0 0 rfl rfl)
theorem dX11_frees_1 : decode cX11_frees 1 = .ok (.iload_n 1, 1) := q_iload_n1 (bat_get dg_X11_frees_0_0 1 rfl rfl)
theorem dX11_frees_2 : decode cX11_frees 2 = .ok (.invokevirtual 170, 3) := q_invokevirtual (bat_get dg_X11_frees_0_0 2 rfl rfl) rfl
theorem dX11_frees_5 : decode cX11_frees 5 = .ok (.ifCond .eq 12, 3) := q_ifCond_eq (bat_get dg_X11_frees_0_0 3 rfl rfl) rfl
theorem dX11_frees_17 : decode cX11_frees 17 = .ok (.iconst (-1), 1) := q_iconstm1 (bat_get dg_X11_frees_0_0 4 rfl rfl)
theorem dX11_frees_18 : decode cX11_frees 18 = .ok (.ireturn, 1) := q_ireturn (bat_get dg_X11_frees_0_0 5 rfl rfl)
theorem dX11_frees_8 : decode cX11_frees 8 = .ok (.iload_n 2, 1) := q_iload_n2 (bat_get dg_X11_frees_0_0 6 rfl rfl)
theorem dX11_frees_9 : decode cX11_frees 9 = .ok (.ifCond .lt 8, 3) := q_ifCond_lt (bat_get dg_X11_frees_0_0 7 rfl rfl) rfl
theorem dX11_frees_12 : decode cX11_frees 12 = .ok (.iload_n 2, 1) := q_iload_n2 (bat_get dg_X11_frees_0_0 8 rfl rfl)
theorem dX11_frees_13 : decode cX11_frees 13 = .ok (.iconst 1, 1) := q_iconst1 (bat_get dg_X11_frees_0_0 9 rfl rfl)
theorem dX11_frees_14 : decode cX11_frees 14 = .ok (.if_icmp .le 5, 3) := q_if_icmp_le (bat_get dg_X11_frees_0_0 10 rfl rfl) rfl
theorem dX11_frees_19 : decode cX11_frees 19 = .ok (.aload_n 0, 1) := q_aload_n0 (bat_get dg_X11_frees_0_0 11 rfl rfl)
theorem dX11_frees_20 : decode cX11_frees 20 = .ok (.getfield 63, 3) := q_getfield (bat_get dg_X11_frees_0_0 12 rfl rfl) rfl
theorem dX11_frees_23 : decode cX11_frees 23 = .ok (.aload_n 0, 1) := q_aload_n0 (bat_get dg_X11_frees_0_0 13 rfl rfl)
theorem dX11_frees_24 : decode cX11_frees 24 = .ok (.getfield 59, 3) := q_getfield (bat_get dg_X11_frees_0_0 14 rfl rfl) rfl
theorem dX11_frees_27 : decode cX11_frees 27 = .ok (.invokevirtual 237, 3) := q_invokevirtual (bat_get dg_X11_frees_0_0 15 rfl rfl) rfl
theorem dX11_frees_30 : decode cX11_frees 30 = .ok (.iconst 0, 1) := q_iconst0 (bat_get dg_X11_frees_0_0 16 rfl rfl)
theorem dX11_frees_31 : decode cX11_frees 31 = .ok (.istore_n 3, 1) := q_istore_n3 (bat_get dg_X11_frees_0_0 17 rfl rfl)
theorem dX11_frees_32 : decode cX11_frees 32 = .ok (.ldc2_w 198, 3) := q_ldc2_w (bat_get dg_X11_frees_0_0 18 rfl rfl) rfl
theorem dX11_frees_35 : decode cX11_frees 35 = .ok (.lstore 4, 2) := q_lstore (bat_get dg_X11_frees_0_0 19 rfl rfl)
theorem dX11_frees_37 : decode cX11_frees 37 = .ok (.iconst 0, 1) := q_iconst0 (bat_get dg_X11_frees_0_0 20 rfl rfl)
theorem dX11_frees_38 : decode cX11_frees 38 = .ok (.istore 6, 2) := q_istore (bat_get dg_X11_frees_0_0 21 rfl rfl)
theorem dX11_frees_40 : decode cX11_frees 40 = .ok (.iload 6, 2) := q_iload (bat_get dg_X11_frees_0_0 22 rfl rfl)
theorem dX11_frees_42 : decode cX11_frees 42 = .ok (.bipush 10, 2) := q_bipush (bat_get dg_X11_frees_0_0 23 rfl rfl) rfl
theorem dX11_frees_44 : decode cX11_frees 44 = .ok (.if_icmp .ge 53, 3) := q_if_icmp_ge (bat_get dg_X11_frees_0_0 24 rfl rfl) rfl
theorem dX11_frees_97 : decode cX11_frees 97 = .ok (.iload_n 3, 1) := q_iload_n3 (bat_get dg_X11_frees_0_0 25 rfl rfl)
theorem dX11_frees_98 : decode cX11_frees 98 = .ok (.ireturn, 1) := q_ireturn (bat_get dg_X11_frees_0_0 26 rfl rfl)
theorem dX11_frees_47 : decode cX11_frees 47 = .ok (.aload_n 0, 1) := q_aload_n0 (bat_get dg_X11_frees_0_0 27 rfl rfl)
theorem dX11_frees_48 : decode cX11_frees 48 = .ok (.getfield 63, 3) := q_getfield (bat_get dg_X11_frees_0_0 28 rfl rfl) rfl
theorem dX11_frees_51 : decode cX11_frees 51 = .ok (.iload_n 1, 1) := q_iload_n1 (bat_get dg_X11_frees_0_0 29 rfl rfl)
theorem dX11_frees_52 : decode cX11_frees 52 = .ok (.iload_n 2, 1) := q_iload_n2 (bat_get dg_X11_frees_0_0 30 rfl rfl)
theorem dX11_frees_53 : decode cX11_frees 53 = .ok (.iload 6, 2) := q_iload (bat_get dg_X11_frees_0_0 31 rfl rfl)
theorem dX11_frees_55 : decode cX11_frees 55 = .ok (.invokevirtual 244, 3) := q_invokevirtual (bat_get dg_X11_frees_0_0 32 rfl rfl) rfl
theorem dX11_frees_58 : decode cX11_frees 58 = .ok (.aload_n 0, 1) := q_aload_n0 (bat_get dg_X11_frees_0_0 33 rfl rfl)
theorem dX11_frees_59 : decode cX11_frees 59 = .ok (.aload_n 0, 1) := q_aload_n0 (bat_get dg_X11_frees_0_0 34 rfl rfl)
theorem dX11_frees_60 : decode cX11_frees 60 = .ok (.getfield 63, 3) := q_getfield (bat_get dg_X11_frees_0_0 35 rfl rfl) rfl
theorem dX11_frees_63 : decode cX11_frees 63 = .ok (.invokevirtual 208, 3) := q_invokevirtual (bat_get dg_X11_frees_0_0 36 rfl rfl) rfl
theorem dX11_frees_66 : decode cX11_frees 66 = .ok (.pop, 1) := q_pop (bat_get dg_X11_frees_0_0 37 rfl rfl)
theorem dX11_frees_67 : decode cX11_frees 67 = .ok (.aload_n 0, 1) := q_aload_n0 (bat_get dg_X11_frees_0_0 38 rfl rfl)
theorem dX11_frees_68 : decode cX11_frees 68 = .ok (.getfield 85, 3) := q_getfield (bat_get dg_X11_frees_0_0 39 rfl rfl) rfl
theorem dg_X11_frees_71_71 : bqL cX11_frees 71 [(0, [182, 0, 212]), (3, [55, 7]), (5, [22, 7]), (7, [22, 4]), (9, [148]), (10, [158, 0, 10]), (20, [132, 6, 1]), (23, [167, 255, 202]), (13, [22, 7]), (15, [55, 4]), (17, [21, 6]), (19, [62])] = true := by decide +kernel
theorem dX11_frees_71 : decode cX11_frees 71 = .ok (.invokevirtual 212, 3) := q_invokevirtual (bat_get dg_X11_frees_71_71 0 rfl rfl) rfl
theorem dX11_frees_74 : decode cX11_frees 74 = .ok (.lstore 7, 2) := q_lstore (bat_get dg_X11_frees_71_71 1 rfl rfl)
theorem dX11_frees_76 : decode cX11_frees 76 = .ok (.lload 7, 2) := q_lload (bat_get dg_X11_frees_71_71 2 rfl rfl)
theorem dX11_frees_78 : decode cX11_frees 78 = .ok (.lload 4, 2) := q_lload (bat_get dg_X11_frees_71_71 3 rfl rfl)
theorem dX11_frees_80 : decode cX11_frees 80 = .ok (.lcmp, 1) := q_lcmp (bat_get dg_X11_frees_71_71 4 rfl rfl)
theorem dX11_frees_81 : decode cX11_frees 81 = .ok (.ifCond .le 10, 3) := q_ifCond_le (bat_get dg_X11_frees_71_71 5 rfl rfl) rfl
theorem dX11_frees_91 : decode cX11_frees 91 = .ok (.iinc 6 1, 3) := q_iinc (bat_get dg_X11_frees_71_71 6 rfl rfl) rfl
theorem dX11_frees_94 : decode cX11_frees 94 = .ok (.goto (-54), 3) := q_goto (bat_get dg_X11_frees_71_71 7 rfl rfl) rfl
theorem dX11_frees_84 : decode cX11_frees 84 = .ok (.lload 7, 2) := q_lload (bat_get dg_X11_frees_71_71 8 rfl rfl)
theorem dX11_frees_86 : decode cX11_frees 86 = .ok (.lstore 4, 2) := q_lstore (bat_get dg_X11_frees_71_71 9 rfl rfl)
theorem dX11_frees_88 : decode cX11_frees 88 = .ok (.iload 6, 2) := q_iload (bat_get dg_X11_frees_71_71 10 rfl rfl)
theorem dX11_frees_90 : decode cX11_frees 90 = .ok (.istore_n 3, 1) := q_istore_n3 (bat_get dg_X11_frees_71_71 11 rfl rfl)
theorem w_4_147 : (Cond.code yX11_frees cX11_frees 9 (some .int)) ∈ wsL_law := sk_mem (ck_4 _ (List.mem_of_getElem? (i := 147) rfl)) rfl
def om_27_e : List Bool := false :: false :: false :: false :: false :: false :: false :: false :: false :: false :: false :: false :: false :: false :: false :: false :: false :: false :: false :: false :: false :: false :: false :: true :: true :: true :: false :: []
def om_27_7ffff8e : List Bool := true :: true :: true :: true :: true :: true :: true :: true :: true :: true :: true :: true :: true :: true :: true :: true :: true :: true :: true :: true :: false :: false :: false :: true :: true :: true :: false :: []
def om_27_781 : List Bool := false :: false :: false :: false :: false :: false :: false :: false :: false :: false :: false :: false :: false :: false :: false :: false :: true :: true :: true :: true :: false :: false :: false :: false :: false :: false :: true :: []
set_option maxHeartbeats 4000000 in
set_option maxRecDepth 100000 in
theorem c_uy_frees (l : Launch) (D : va_G) (cI cJ cC cZ cS : ClassId) (x0 : Nat) (q : Nat → Nat) (hc : Int32) (dr : Int64) (sa : Nat → Nat) (ft : Nat → Int32) (fa : Nat → Int32) (fo : Nat → Int32) (fg : Nat → Int64) (fk : Nat → Int32) (dh : Nat) (mh : Nat) (uh : Int32) (rh : Int32) (nh : Nat) (ch : Nat) (wh : Nat) (y1 : Nat → Int32) (y2 : Nat → Int64) (y3 : Nat → Int64) (y4 : Nat → Int64) (yf : Nat → Int32) (yt : Nat → Int32) (gd : Nat) (gs : Nat) (e1 : Nat → Int32) (e2 : Nat → Int32) (e3 : Nat → Int32) (dy : Nat) (wn : Nat) (mo : Nat) (ke : Nat) (mu : Int32) (fb : Nat → Int32) (fw : Nat → Int32) (Ba : Nat → Nat) (We : Nat → Nat) (L : LkS) (U : Nat → Bool) (dt : Nat) (kt : Nat) (mt : Nat) (et : Nat) (ut : Int32) (bt_ : Nat → Int32) (wt_ : Nat → Int32) (e4 : Nat → Int64) (d : Int32) (w : Int32) (hsa : ∀ j, sa j ≤ 9) (hch : ch ≤ 1600) (hwh : wh ≤ 1) (hdy : dy ≤ 9) (hmo : mo ≤ 9) (hgd : gd ≤ 9) (hgs : gs ≤ 9) (hLk : kcLk L) (hlq : 1 ≤ dy → cdK (lK (lkF L)) ch wh y1 ∧ ∀ v, v < 3 → sgO (lG (lkF L) v) (yf v) (yt v)) (htq : 1 ≤ dy → kcTI L sa ft fa fo fg fk) (hfb : ∀ j, j < 9 → fb j = nI (Ba j)) (hfw : ∀ j, j < 9 → fw j = nI (We j)) (hB9 : ∀ j, Ba j ≤ 9) (hW9 : ∀ j, We j ≤ 9) (hwn : wn ≤ 999) (hU : muO U mu) (hdt : dt ≤ 9) (hmt : mt ≤ 9) (hkt : kt ≤ 999) : skM l yX11_frees cX11_frees 9 (some .int) 6 149 0 0 D (skT cI cJ cC cZ cS) [.ref x0, .int d, .int w] [ro_rrrrrrrrrrrrrrrirl x0 11 (q 0) (q 1) (q 2) (q 3) (q 4) (q 5) (q 6) (q 7) (q 8) (q 9) (q 10) (q 11) (q 12) (q 13) (q 14) hc (q 16) dr, ro_rrrrrr (q 10) 9 (q 61) (q 62) (q 63) (q 64) (q 65) (q 66), ra_N (q 61) cI 90 sa, ra_I (q 62) cI 900 ft, ra_I (q 63) cI 90 fa, ra_I (q 64) cI 90 fo, ra_J (q 65) cJ 90 fg, ra_I (q 66) cI 9 fk, ro_rrrrrnniin (q 5) 2 (q 44) (q 45) (q 46) (q 47) (q 48) dh mh uh rh nh, ro_rrrrnn (q 44) 0 (q 49) (q 50) (q 51) (q 52) ch wh, ra_I (q 49) cI 1600 y1, ra_J (q 50) cJ 64 y2, ra_J (q 51) cJ 9 y3, ra_J (q 52) cJ 10 y4, ra_I (q 47) cI 3 yf, ra_I (q 48) cI 3 yt, ro_rrrrrrrnn (q 11) 1 (q 10) (q 67) (q 68) (q 69) (q 70) (q 71) (q 72) gd gs, ra_I (q 67) cI 90 e1, ra_I (q 68) cI 9 e2, ra_I (q 69) cI 10 e3, ro_rrnnnin (q 7) 7 (q 33) (q 34) dy wn mo mu ke, ra_I (q 33) cI 9 fb, ra_I (q 34) cI 9 fw, ro_rrnnnin (q 8) 7 (q 53) (q 54) dt kt mt ut et, ra_I (q 53) cI 9 bt_, ra_I (q 54) cI 9 wt_, ra_J (q 70) cJ 100 e4] (skI D (skT cI cJ cC cZ cS) (fun (r : Int32) (u : va_W) => ∃ (sa2 : Nat → Nat), ∃ (ft2 : Nat → Int32), ∃ (fa2 : Nat → Int32), ∃ (fo2 : Nat → Int32), ∃ (fg2 : Nat → Int64), ∃ (fk2 : Nat → Int32), ∃ (z2 : Nat → Int64), ∃ (z3 : Nat → Int64), ∃ (g1 : Nat → Int32), ∃ (g2 : Nat → Int32), ∃ (g3 : Nat → Int32), ∃ (gd2 : Nat), ∃ (gs2 : Nat), ∃ (dt2 : Nat), ∃ (kt2 : Nat), ∃ (mt2 : Nat), ∃ (et2 : Nat), ∃ (ut2 : Int32), ∃ (bu_ : Nat → Int32), ∃ (wu_ : Nat → Int32), ∃ (g4 : Nat → Int64), (∀ j, sa2 j ≤ 9) ∧ (1 ≤ dy → kcTI L sa2 ft2 fa2 fo2 fg2 fk2) ∧ gd2 ≤ 9 ∧ gs2 ≤ 9 ∧ dt2 ≤ 9 ∧ mt2 ≤ 9 ∧ kt2 ≤ 999 ∧ freesR L dy wn mo Ba We U d w r ∧ u = [ro_rrrrrrrrrrrrrrrirl x0 11 (q 0) (q 1) (q 2) (q 3) (q 4) (q 5) (q 6) (q 7) (q 8) (q 9) (q 10) (q 11) (q 12) (q 13) (q 14) hc (q 16) dr, ro_rrrrrr (q 10) 9 (q 61) (q 62) (q 63) (q 64) (q 65) (q 66), ra_N (q 61) cI 90 sa2, ra_I (q 62) cI 900 ft2, ra_I (q 63) cI 90 fa2, ra_I (q 64) cI 90 fo2, ra_J (q 65) cJ 90 fg2, ra_I (q 66) cI 9 fk2, ro_rrrrrnniin (q 5) 2 (q 44) (q 45) (q 46) (q 47) (q 48) dh mh uh rh nh, ro_rrrrnn (q 44) 0 (q 49) (q 50) (q 51) (q 52) ch wh, ra_I (q 49) cI 1600 y1, ra_J (q 50) cJ 64 z2, ra_J (q 51) cJ 9 z3, ra_J (q 52) cJ 10 y4, ra_I (q 47) cI 3 yf, ra_I (q 48) cI 3 yt, ro_rrrrrrrnn (q 11) 1 (q 10) (q 67) (q 68) (q 69) (q 70) (q 71) (q 72) gd2 gs2, ra_I (q 67) cI 90 g1, ra_I (q 68) cI 9 g2, ra_I (q 69) cI 10 g3, ro_rrnnnin (q 7) 7 (q 33) (q 34) dy wn mo mu ke, ra_I (q 33) cI 9 fb, ra_I (q 34) cI 9 fw, ro_rrnnnin (q 8) 7 (q 53) (q 54) dt2 kt2 mt2 ut2 et2, ra_I (q 53) cI 9 bu_, ra_I (q 54) cI 9 wu_, ra_J (q 70) cJ 100 g4])) := by
  refine skM_of pf_X11_frees (Nat.le_of_ble_eq_true rfl) ?_
  intro p e s m below meth c A ls E hP hD hl
  refine skE_el E (fun hx hb hr hml hlocks hin hown hts hK hA => ?_)
  have hown : s.vm.findClass RX11 = some m.cls := hown
  have hS : va_S A s.heap s.heap [] := va_S.rf
  have hl : lv_has ls 9 [(0, .ref x0), (1, .int d), (2, .int w)] := hl
  refine lv_aload_n hx hb dX11_frees_0 rfl (lv_at hl 0 rfl) ?_
  refine lv_iload_n hx hb dX11_frees_1 rfl (lv_at hl 1 rfl) ?_
  refine sk_Vi (q0 := 0) (n := 1) (rest := []) (wr := fmR om_27_4000040 _) ⟨hx, hb, hml, hown, hts⟩ hl.1 (c_kx_isDay l D cI cJ cC cZ cS x0 q hc dr dy wn mo ke mu fb fw d hdy) w_3_190 w_3_192 w_0_14 w_1_1 w_3_193 hd_X11_isDay_1 ⟨⟨(Nat.le_of_ble_eq_true rfl), (Nat.le_of_ble_eq_true rfl)⟩, (Nat.le_of_ble_eq_true rfl), (Nat.le_of_ble_eq_true rfl)⟩ hK hP hD hS hA (fmT om_27_4000040 0) (fmF om_27_4000040 0) (fm_C1 rfl rfl) (fm_R rfl rfl) (fm_nT om_27_4000040 0) (fm_nF om_27_4000040 0) (fm_di om_27_4000040 0) rfl rfl rfl rfl (Nat.le_of_ble_eq_true rfl) dX11_frees_2 (fun r_2 u H locs hw hP hD hS => ?_)
  refine exE hw (fun b_1 hw1 => anE hw1 (fun hb1_3 hw2 => anE hw2 (fun er_5 eu_4 => ?_)))
  clear hw hw1 hw2
  subst er_5
  refine o_mgE (ws' := [ro_rrrrrrrrrrrrrrrirl x0 11 (q 0) (q 1) (q 2) (q 3) (q 4) (q 5) (q 6) (q 7) (q 8) (q 9) (q 10) (q 11) (q 12) (q 13) (q 14) hc (q 16) dr, ro_rrrrrr (q 10) 9 (q 61) (q 62) (q 63) (q 64) (q 65) (q 66), ra_N (q 61) cI 90 sa, ra_I (q 62) cI 900 ft, ra_I (q 63) cI 90 fa, ra_I (q 64) cI 90 fo, ra_J (q 65) cJ 90 fg, ra_I (q 66) cI 9 fk, ro_rrrrrnniin (q 5) 2 (q 44) (q 45) (q 46) (q 47) (q 48) dh mh uh rh nh, ro_rrrrnn (q 44) 0 (q 49) (q 50) (q 51) (q 52) ch wh, ra_I (q 49) cI 1600 y1, ra_J (q 50) cJ 64 y2, ra_J (q 51) cJ 9 y3, ra_J (q 52) cJ 10 y4, ra_I (q 47) cI 3 yf, ra_I (q 48) cI 3 yt, ro_rrrrrrrnn (q 11) 1 (q 10) (q 67) (q 68) (q 69) (q 70) (q 71) (q 72) gd gs, ra_I (q 67) cI 90 e1, ra_I (q 68) cI 9 e2, ra_I (q 69) cI 10 e3, ro_rrnnnin (q 7) 7 (q 33) (q 34) dy wn mo mu ke, ra_I (q 33) cI 9 fb, ra_I (q 34) cI 9 fw, ro_rrnnnin (q 8) 7 (q 53) (q 54) dt kt mt ut et, ra_I (q 53) cI 9 bt_, ra_I (q 54) cI 9 wt_, ra_J (q 70) cJ 100 e4]) eu_4 hP hD rfl (fun hP hD => ?_)
  refine lv_if_eq (tgt := 17) hx hb dX11_frees_5 (by decide) (fun c_6 => ?_) (fun c_6 => ?_)
  · have c_6 : b_1 = 0 := (neq b_1 0 (by omega) (Nat.le_of_ble_eq_true rfl)).mp c_6
    refine lv_iconst (v := (-1)) hx hb dX11_frees_17 (by decide) ?_
    exact sk_iret hx hb hr rfl hlocks hK hP hD hS (⟨sa, ft, fa, fo, fg, fk, y2, y3, e1, e2, e3, gd, gs, dt, kt, mt, et, ut, bt_, wt_, e4, hsa, htq, hgd, hgs, hdt, hmt, hkt, fre_0 (rr_0 hb1_3 (by omega)), rfl⟩) (Nat.le_of_ble_eq_true rfl) (Nat.le_of_ble_eq_true rfl) dX11_frees_18
  · have c_6 : ¬ (b_1 = 0) := fun h => c_6 ((neq b_1 0 (by omega) (Nat.le_of_ble_eq_true rfl)).mpr h)
    obtain ⟨kd_7, hkd_7, rfl⟩ := rr_1 hb1_3 (by omega)
    refine lv_iload_n hx hb dX11_frees_8 rfl (lv_at hl 2 rfl) ?_
    refine lv_if_lt (tgt := 17) hx hb dX11_frees_9 (by decide) (fun c_8 => ?_) (fun c_8 => ?_)
    · skip
      refine lv_iconst (v := (-1)) hx hb dX11_frees_17 (by decide) ?_
      exact sk_iret hx hb hr rfl hlocks hK hP hD hS (⟨sa, ft, fa, fo, fg, fk, y2, y3, e1, e2, e3, gd, gs, dt, kt, mt, et, ut, bt_, wt_, e4, hsa, htq, hgd, hgs, hdt, hmt, hkt, fre_1 (kIn_neg c_8 (by decide)), rfl⟩) (Nat.le_of_ble_eq_true rfl) (Nat.le_of_ble_eq_true rfl) dX11_frees_18
    · obtain ⟨k_9, hk_9, rfl⟩ := nof w c_8
      refine lv_iload_n hx hb dX11_frees_12 rfl (lv_at hl 2 rfl) ?_
      refine lv_iconst (v := 1) hx hb dX11_frees_13 ic_1 ?_
      refine lv_icmp_le (tgt := 19) hx hb dX11_frees_14 (by decide) (fun c_10 => ?_) (fun c_10 => ?_)
      · have c_10 : k_9 ≤ 1 := (nle k_9 1 (by omega) (Nat.le_of_ble_eq_true rfl)).mp c_10
        refine lv_aload_n hx hb dX11_frees_19 rfl (lv_at hl 0 rfl) ?_
        refine sk_get (v := .ref (q 8)) (C := RX11) (T := TX11) (N := 18) hx hb hts inlX11 hown hK hP 0 rfl rfl 8 (Nat.le_of_ble_eq_true rfl) w_2_131 rfl dX11_frees_20 ?_
        refine lv_aload_n hx hb dX11_frees_23 rfl (lv_at hl 0 rfl) ?_
        refine sk_get (v := .ref (q 7)) (C := RX11) (T := TX11) (N := 18) hx hb hts inlX11 hown hK hP 0 rfl rfl 7 (Nat.le_of_ble_eq_true rfl) w_2_130 rfl dX11_frees_24 ?_
        refine sk_Vv (q0 := 0) (n := 1) (rest := []) (wr := fmR om_27_7e _) ⟨hx, hb, hml, hown, hts⟩ hl.1 (c_kState_copy l D cI cJ cC cZ cS (q 8) (q 53) (q 54) dt mt (nI kt) ut (nI et) bt_ wt_ (q 7) (q 33) (q 34) dy mo (nI wn) mu (nI ke) fb fw) w_4_132 w_4_133 w_4_134 w_1_10 w_4_135 hd_X7_copy_1 ⟨⟨(Nat.le_of_ble_eq_true rfl), (Nat.le_of_ble_eq_true rfl)⟩, (Nat.le_of_ble_eq_true rfl), (Nat.le_of_ble_eq_true rfl)⟩ hK hP hD hS hA [23, 24, 25, 20, 21, 22] (fmF om_27_7e 0) rfl (fm_R rfl rfl) (by decide +kernel) (fm_nF om_27_7e 0) (by decide +kernel) rfl rfl rfl rfl (Nat.le_of_ble_eq_true rfl) dX11_frees_27 (fun u H locs hw hP hD hS => ?_)
        refine exE hw (fun g1_11 hw1 => exE hw1 (fun g2_12 hw2 => anE hw2 (fun hc1_13 hw3 => anE hw3 (fun hc2_14 eu_15 => ?_))))
        clear hw hw1 hw2 hw3
        refine o_mgqE (ux := [ro_rrnnnin (q 7) 7 (q 33) (q 34) dy wn mo mu ke, ra_I (q 33) cI 9 fb, ra_I (q 34) cI 9 fw, ro_rrnnnin (q 8) 7 (q 53) (q 54) dy wn mo mu ke, ra_I (q 53) cI 9 g1_11, ra_I (q 54) cI 9 g2_12]) (ws' := [ro_rrrrrrrrrrrrrrrirl x0 11 (q 0) (q 1) (q 2) (q 3) (q 4) (q 5) (q 6) (q 7) (q 8) (q 9) (q 10) (q 11) (q 12) (q 13) (q 14) hc (q 16) dr, ro_rrrrrr (q 10) 9 (q 61) (q 62) (q 63) (q 64) (q 65) (q 66), ra_N (q 61) cI 90 sa, ra_I (q 62) cI 900 ft, ra_I (q 63) cI 90 fa, ra_I (q 64) cI 90 fo, ra_J (q 65) cJ 90 fg, ra_I (q 66) cI 9 fk, ro_rrrrrnniin (q 5) 2 (q 44) (q 45) (q 46) (q 47) (q 48) dh mh uh rh nh, ro_rrrrnn (q 44) 0 (q 49) (q 50) (q 51) (q 52) ch wh, ra_I (q 49) cI 1600 y1, ra_J (q 50) cJ 64 y2, ra_J (q 51) cJ 9 y3, ra_J (q 52) cJ 10 y4, ra_I (q 47) cI 3 yf, ra_I (q 48) cI 3 yt, ro_rrrrrrrnn (q 11) 1 (q 10) (q 67) (q 68) (q 69) (q 70) (q 71) (q 72) gd gs, ra_I (q 67) cI 90 e1, ra_I (q 68) cI 9 e2, ra_I (q 69) cI 10 e3, ro_rrnnnin (q 7) 7 (q 33) (q 34) dy wn mo mu ke, ra_I (q 33) cI 9 fb, ra_I (q 34) cI 9 fw, ro_rrnnnin (q 8) 7 (q 53) (q 54) dy wn mo mu ke, ra_I (q 53) cI 9 g1_11, ra_I (q 54) cI 9 g2_12, ra_J (q 70) cJ 100 e4]) eu_15 [3, 4, 5, 0, 1, 2] (by decide +kernel) rfl hP hD rfl (fun hP hD => ?_)
        rcases (show k_9 = 0 ∨ k_9 = 1 by omega) with rfl | rfl
        · skip
          refine lv_iconst (v := 0) hx hb dX11_frees_30 ic_0 ?_
          refine lv_istore_n (lv' := [(3, .int 0), (0, .ref x0), (1, .int (nI kd_7)), (2, .int 0)]) hx hb dX11_frees_31 rfl hl (by decide) rfl (fun ls hl => ?_)
          refine lv_ldc2 (v := (-1000000000000000)) hx hb hown (hts _ w_4_29) dX11_frees_32 ?_
          refine lv_lstore (lv' := [(4, .long (-1000000000000000)), (3, .int 0), (0, .ref x0), (1, .int (nI kd_7)), (2, .int 0)]) hx hb dX11_frees_35 hl (by decide) rfl (fun ls hl => ?_)
          refine lv_iconst (v := 0) hx hb dX11_frees_37 ic_0 ?_
          refine lv_istore (lv' := [(6, .int 0), (4, .long (-1000000000000000)), (3, .int 0), (0, .ref x0), (1, .int (nI kd_7)), (2, .int 0)]) hx hb dX11_frees_38 hl (by decide) rfl (fun ls hl => ?_)
          have lp_16 : ∀ (n_17 : Nat) (i : Nat) (ms : Int64) (be : Nat) (ca : Nat → Nat) (ct : Nat → Int32) (cb : Nat → Int32) (co : Nat → Int32) (cg : Nat → Int64) (ck : Nat → Int32) (cy : Nat → Int64) (cz : Nat → Int64) (zd : Nat) (zs : Nat) (d1_ : Nat → Int32) (d2_ : Nat → Int32) (d3_ : Nat → Int32) (tb1 : Nat → Int32) (cw4 : Nat → Int64) (BB : Nat → Nat) (H : Heap) (locs : List Loc) (ls : Array Slot), 10 - i < n_17 → (∀ j, ca j ≤ 9) → (zd ≤ 9) → (zs ≤ 9) → (kcTI L ca ct cb co cg ck) → (i ≤ 10) → (∀ j, j < 9 → tb1 j = nI (BB j)) → (∀ j, BB j ≤ 9) → (∀ v, updG BB kd_7 v = updG Ba kd_7 v) → (frS (kFr L dy wn mo Ba We U kd_7 0) i be ms) → va_P D vwCl [ro_rrrrrrrrrrrrrrrirl x0 11 (q 0) (q 1) (q 2) (q 3) (q 4) (q 5) (q 6) (q 7) (q 8) (q 9) (q 10) (q 11) (q 12) (q 13) (q 14) hc (q 16) dr, ro_rrrrrr (q 10) 9 (q 61) (q 62) (q 63) (q 64) (q 65) (q 66), ra_N (q 61) cI 90 ca, ra_I (q 62) cI 900 ct, ra_I (q 63) cI 90 cb, ra_I (q 64) cI 90 co, ra_J (q 65) cJ 90 cg, ra_I (q 66) cI 9 ck, ro_rrrrrnniin (q 5) 2 (q 44) (q 45) (q 46) (q 47) (q 48) dh mh uh rh nh, ro_rrrrnn (q 44) 0 (q 49) (q 50) (q 51) (q 52) ch wh, ra_I (q 49) cI 1600 y1, ra_J (q 50) cJ 64 cy, ra_J (q 51) cJ 9 cz, ra_J (q 52) cJ 10 y4, ra_I (q 47) cI 3 yf, ra_I (q 48) cI 3 yt, ro_rrrrrrrnn (q 11) 1 (q 10) (q 67) (q 68) (q 69) (q 70) (q 71) (q 72) zd zs, ra_I (q 67) cI 90 d1_, ra_I (q 68) cI 9 d2_, ra_I (q 69) cI 10 d3_, ro_rrnnnin (q 7) 7 (q 33) (q 34) dy wn mo mu ke, ra_I (q 33) cI 9 fb, ra_I (q 34) cI 9 fw, ro_rrnnnin (q 8) 7 (q 53) (q 54) dy wn mo mu ke, ra_I (q 53) cI 9 tb1, ra_I (q 54) cI 9 g2_12, ra_J (q 70) cJ 100 cw4] H → va_D A [ro_rrrrrrrrrrrrrrrirl x0 11 (q 0) (q 1) (q 2) (q 3) (q 4) (q 5) (q 6) (q 7) (q 8) (q 9) (q 10) (q 11) (q 12) (q 13) (q 14) hc (q 16) dr, ro_rrrrrr (q 10) 9 (q 61) (q 62) (q 63) (q 64) (q 65) (q 66), ra_N (q 61) cI 90 ca, ra_I (q 62) cI 900 ct, ra_I (q 63) cI 90 cb, ra_I (q 64) cI 90 co, ra_J (q 65) cJ 90 cg, ra_I (q 66) cI 9 ck, ro_rrrrrnniin (q 5) 2 (q 44) (q 45) (q 46) (q 47) (q 48) dh mh uh rh nh, ro_rrrrnn (q 44) 0 (q 49) (q 50) (q 51) (q 52) ch wh, ra_I (q 49) cI 1600 y1, ra_J (q 50) cJ 64 cy, ra_J (q 51) cJ 9 cz, ra_J (q 52) cJ 10 y4, ra_I (q 47) cI 3 yf, ra_I (q 48) cI 3 yt, ro_rrrrrrrnn (q 11) 1 (q 10) (q 67) (q 68) (q 69) (q 70) (q 71) (q 72) zd zs, ra_I (q 67) cI 90 d1_, ra_I (q 68) cI 9 d2_, ra_I (q 69) cI 10 d3_, ro_rrnnnin (q 7) 7 (q 33) (q 34) dy wn mo mu ke, ra_I (q 33) cI 9 fb, ra_I (q 34) cI 9 fw, ro_rrnnnin (q 8) 7 (q 53) (q 54) dy wn mo mu ke, ra_I (q 53) cI 9 tb1, ra_I (q 54) cI 9 g2_12, ra_J (q 70) cJ 100 cw4] → va_S A s.heap H locs → lv_has ls 9 [(6, .int (nI i)), (4, .long ms), (3, .int (nI be)), (0, .ref x0), (1, .int (nI kd_7)), (2, .int 0)] → W p l e { frames := 6, cells := 0, slots := 0, locals := 149 } s m ([.ref x0, .int (nI kd_7), .int (nI 0)] : List Value).toArray below meth c H locs 0 0 (MQ below (skI D (skT cI cJ cC cZ cS) (fun (r : Int32) (u : va_W) => ∃ (sa2 : Nat → Nat), ∃ (ft2 : Nat → Int32), ∃ (fa2 : Nat → Int32), ∃ (fo2 : Nat → Int32), ∃ (fg2 : Nat → Int64), ∃ (fk2 : Nat → Int32), ∃ (z2 : Nat → Int64), ∃ (z3 : Nat → Int64), ∃ (g1 : Nat → Int32), ∃ (g2 : Nat → Int32), ∃ (g3 : Nat → Int32), ∃ (gd2 : Nat), ∃ (gs2 : Nat), ∃ (dt2 : Nat), ∃ (kt2 : Nat), ∃ (mt2 : Nat), ∃ (et2 : Nat), ∃ (ut2 : Int32), ∃ (bu_ : Nat → Int32), ∃ (wu_ : Nat → Int32), ∃ (g4 : Nat → Int64), (∀ j, sa2 j ≤ 9) ∧ (1 ≤ dy → kcTI L sa2 ft2 fa2 fo2 fg2 fk2) ∧ gd2 ≤ 9 ∧ gs2 ≤ 9 ∧ dt2 ≤ 9 ∧ mt2 ≤ 9 ∧ kt2 ≤ 999 ∧ freesR L dy wn mo Ba We U (nI kd_7) (nI 0) r ∧ u = [ro_rrrrrrrrrrrrrrrirl x0 11 (q 0) (q 1) (q 2) (q 3) (q 4) (q 5) (q 6) (q 7) (q 8) (q 9) (q 10) (q 11) (q 12) (q 13) (q 14) hc (q 16) dr, ro_rrrrrr (q 10) 9 (q 61) (q 62) (q 63) (q 64) (q 65) (q 66), ra_N (q 61) cI 90 sa2, ra_I (q 62) cI 900 ft2, ra_I (q 63) cI 90 fa2, ra_I (q 64) cI 90 fo2, ra_J (q 65) cJ 90 fg2, ra_I (q 66) cI 9 fk2, ro_rrrrrnniin (q 5) 2 (q 44) (q 45) (q 46) (q 47) (q 48) dh mh uh rh nh, ro_rrrrnn (q 44) 0 (q 49) (q 50) (q 51) (q 52) ch wh, ra_I (q 49) cI 1600 y1, ra_J (q 50) cJ 64 z2, ra_J (q 51) cJ 9 z3, ra_J (q 52) cJ 10 y4, ra_I (q 47) cI 3 yf, ra_I (q 48) cI 3 yt, ro_rrrrrrrnn (q 11) 1 (q 10) (q 67) (q 68) (q 69) (q 70) (q 71) (q 72) gd2 gs2, ra_I (q 67) cI 90 g1, ra_I (q 68) cI 9 g2, ra_I (q 69) cI 10 g3, ro_rrnnnin (q 7) 7 (q 33) (q 34) dy wn mo mu ke, ra_I (q 33) cI 9 fb, ra_I (q 34) cI 9 fw, ro_rrnnnin (q 8) 7 (q 53) (q 54) dt2 kt2 mt2 ut2 et2, ra_I (q 53) cI 9 bu_, ra_I (q 54) cI 9 wu_, ra_J (q 70) cJ 100 g4]) A) ([.ref x0, .int (nI kd_7), .int (nI 0)] : List Value).toArray s 0 0 A) (F0 m 40 ls []) := by
            intro n_17
            induction n_17 with
            | zero => intro i ms be ca ct cb co cg ck cy cz zd zs d1_ d2_ d3_ tb1 cw4 BB H locs ls hm; exact absurd hm (Nat.not_lt_zero _)
            | succ n_17 ih_lp_16 =>
              intro i ms be ca ct cb co cg ck cy cz zd zs d1_ d2_ d3_ tb1 cw4 BB H locs ls hm hca hzd hzs hzti hi hzb hzB9 hBB hfr hP hD hS hl
              refine lv_iload hx hb dX11_frees_40 (lv_at hl 0 rfl) ?_
              refine lv_bipush (v := 10) hx hb dX11_frees_42 (by decide) ?_
              refine lv_icmp_ge (tgt := 97) hx hb dX11_frees_44 (by decide) (fun c_18 => ?_) (fun c_18 => ?_)
              · have c_18 : 10 ≤ i := (nle 10 i (Nat.le_of_ble_eq_true rfl) (by omega)).mp c_18
                refine lv_iload_n hx hb dX11_frees_97 rfl (lv_at hl 2 rfl) ?_
                exact sk_iret hx hb hr rfl hlocks hK hP hD hS (⟨ca, ct, cb, co, cg, ck, cy, cz, d1_, d2_, d3_, zd, zs, dy, wn, mo, ke, mu, tb1, g2_12, cw4, hca, (fun _ => hzti), hzd, hzs, hdy, hmo, hwn, fre_2 hkd_7 (by decide) hfr (by omega), rfl⟩) (Nat.le_of_ble_eq_true rfl) (Nat.le_of_ble_eq_true rfl) dX11_frees_98
              · have c_18 : ¬ (10 ≤ i) := fun h => c_18 ((nle 10 i (Nat.le_of_ble_eq_true rfl) (by omega)).mpr h)
                refine lv_aload_n hx hb dX11_frees_47 rfl (lv_at hl 3 rfl) ?_
                refine sk_get (v := .ref (q 8)) (C := RX11) (T := TX11) (N := 18) hx hb hts inlX11 hown hK hP 0 rfl rfl 8 (Nat.le_of_ble_eq_true rfl) w_2_131 rfl dX11_frees_48 ?_
                refine lv_iload_n hx hb dX11_frees_51 rfl (lv_at hl 4 rfl) ?_
                refine lv_iload_n hx hb dX11_frees_52 rfl (lv_at hl 5 rfl) ?_
                refine lv_iload hx hb dX11_frees_53 (lv_at hl 0 rfl) ?_
                refine sk_Vv (q0 := 0) (n := 3) (rest := []) (wr := fmR om_27_e _) ⟨hx, hb, hml, hown, hts⟩ hl.1 (c_kState_put0 l D cI cJ cC cZ cS (q 8) (q 53) (q 54) dy mo (nI wn) mu (nI ke) tb1 g2_12 kd_7 (nI i) (by omega)) w_4_148 w_4_149 w_4_150 w_1_10 w_4_151 hd_X7_put_3 ⟨⟨(Nat.le_of_ble_eq_true rfl), (Nat.le_of_ble_eq_true rfl)⟩, (Nat.le_of_ble_eq_true rfl), (Nat.le_of_ble_eq_true rfl)⟩ hK hP hD hS hA (fmT om_27_e 0) (fmF om_27_e 0) (fm_C1 rfl rfl) (fm_R rfl rfl) (fm_nT om_27_e 0) (fm_nF om_27_e 0) (fm_di om_27_e 0) rfl rfl rfl rfl (Nat.le_of_ble_eq_true rfl) dX11_frees_55 (fun u H locs hw hP hD hS => ?_)
                refine exE hw (fun g1_19 hw1 => anE hw1 (fun hg1_20 eu_21 => ?_))
                clear hw hw1
                refine o_mgE (ws' := [ro_rrrrrrrrrrrrrrrirl x0 11 (q 0) (q 1) (q 2) (q 3) (q 4) (q 5) (q 6) (q 7) (q 8) (q 9) (q 10) (q 11) (q 12) (q 13) (q 14) hc (q 16) dr, ro_rrrrrr (q 10) 9 (q 61) (q 62) (q 63) (q 64) (q 65) (q 66), ra_N (q 61) cI 90 ca, ra_I (q 62) cI 900 ct, ra_I (q 63) cI 90 cb, ra_I (q 64) cI 90 co, ra_J (q 65) cJ 90 cg, ra_I (q 66) cI 9 ck, ro_rrrrrnniin (q 5) 2 (q 44) (q 45) (q 46) (q 47) (q 48) dh mh uh rh nh, ro_rrrrnn (q 44) 0 (q 49) (q 50) (q 51) (q 52) ch wh, ra_I (q 49) cI 1600 y1, ra_J (q 50) cJ 64 cy, ra_J (q 51) cJ 9 cz, ra_J (q 52) cJ 10 y4, ra_I (q 47) cI 3 yf, ra_I (q 48) cI 3 yt, ro_rrrrrrrnn (q 11) 1 (q 10) (q 67) (q 68) (q 69) (q 70) (q 71) (q 72) zd zs, ra_I (q 67) cI 90 d1_, ra_I (q 68) cI 9 d2_, ra_I (q 69) cI 10 d3_, ro_rrnnnin (q 7) 7 (q 33) (q 34) dy wn mo mu ke, ra_I (q 33) cI 9 fb, ra_I (q 34) cI 9 fw, ro_rrnnnin (q 8) 7 (q 53) (q 54) dy wn mo mu ke, ra_I (q 53) cI 9 g1_19, ra_I (q 54) cI 9 g2_12, ra_J (q 70) cJ 100 cw4]) eu_21 hP hD rfl (fun hP hD => ?_)
                refine lv_aload_n hx hb dX11_frees_58 rfl (lv_at hl 3 rfl) ?_
                refine lv_aload_n hx hb dX11_frees_59 rfl (lv_at hl 3 rfl) ?_
                refine sk_get (v := .ref (q 8)) (C := RX11) (T := TX11) (N := 18) hx hb hts inlX11 hown hK hP 0 rfl rfl 8 (Nat.le_of_ble_eq_true rfl) w_2_131 rfl dX11_frees_60 ?_
                refine sk_Vi (q0 := 0) (n := 1) (rest := []) (wr := fmR om_27_7ffff8e _) ⟨hx, hb, hml, hown, hts⟩ hl.1 (c_kx_lookAt l D cI cJ cC cZ cS x0 q hc dr ca ct cb co cg ck dh mh uh rh nh ch wh y1 cy cz y4 yf yt zd zs d1_ d2_ d3_ (q 8) (q 53) (q 54) dy wn mo ke mu g1_19 g2_12 (updG BB kd_7 i) We L U hca hch hwh hdy hmo hLk (hlq (by omega)).1 (hlq (by omega)).2 (fb_up hzb hg1_20) (fun j hj => (hc2_14 j hj).trans (hfw j hj)) (updG_le hzB9 (by omega)) hW9 hwn hU hzti) w_4_43 w_4_45 w_0_19 w_1_1 w_4_46 hd_X11_lookAt_1 ⟨⟨(Nat.le_of_ble_eq_true rfl), (Nat.le_of_ble_eq_true rfl)⟩, (Nat.le_of_ble_eq_true rfl), (Nat.le_of_ble_eq_true rfl)⟩ hK hP hD hS hA (fmT om_27_7ffff8e 0) (fmF om_27_7ffff8e 0) (fm_C1 rfl rfl) (fm_R rfl rfl) (fm_nT om_27_7ffff8e 0) (fm_nF om_27_7ffff8e 0) (fm_di om_27_7ffff8e 0) rfl rfl rfl rfl (Nat.le_of_ble_eq_true rfl) dX11_frees_63 (fun r_34 u H locs hw hP hD hS => ?_)
                refine exE hw (fun sa2_22 hw1 => exE hw1 (fun ft2_23 hw2 => exE hw2 (fun fa2_24 hw3 => exE hw3 (fun fo2_25 hw4 => exE hw4 (fun fg2_26 hw5 => exE hw5 (fun fk2_27 hw6 => exE hw6 (fun z2_28 hw7 => exE hw7 (fun z3_29 hw8 => exE hw8 (fun g1_30 hw9 => exE hw9 (fun g2_31 hw10 => exE hw10 (fun g3_32 hw11 => exE hw11 (fun b_33 hw12 => anE hw12 (fun hsa2_35 hw13 => anE hw13 (fun hti2_36 hw14 => anE hw14 (fun hld2_37 hw15 => anE hw15 (fun hlv2_38 hw16 => anE hw16 (fun hb1_39 hw17 => anE hw17 (fun er_41 eu_40 => ?_))))))))))))))))))
                clear hw hw1 hw2 hw3 hw4 hw5 hw6 hw7 hw8 hw9 hw10 hw11 hw12 hw13 hw14 hw15 hw16 hw17
                subst er_41
                refine o_mgE (ws' := [ro_rrrrrrrrrrrrrrrirl x0 11 (q 0) (q 1) (q 2) (q 3) (q 4) (q 5) (q 6) (q 7) (q 8) (q 9) (q 10) (q 11) (q 12) (q 13) (q 14) hc (q 16) dr, ro_rrrrrr (q 10) 9 (q 61) (q 62) (q 63) (q 64) (q 65) (q 66), ra_N (q 61) cI 90 sa2_22, ra_I (q 62) cI 900 ft2_23, ra_I (q 63) cI 90 fa2_24, ra_I (q 64) cI 90 fo2_25, ra_J (q 65) cJ 90 fg2_26, ra_I (q 66) cI 9 fk2_27, ro_rrrrrnniin (q 5) 2 (q 44) (q 45) (q 46) (q 47) (q 48) dh mh uh rh nh, ro_rrrrnn (q 44) 0 (q 49) (q 50) (q 51) (q 52) ch wh, ra_I (q 49) cI 1600 y1, ra_J (q 50) cJ 64 z2_28, ra_J (q 51) cJ 9 z3_29, ra_J (q 52) cJ 10 y4, ra_I (q 47) cI 3 yf, ra_I (q 48) cI 3 yt, ro_rrrrrrrnn (q 11) 1 (q 10) (q 67) (q 68) (q 69) (q 70) (q 71) (q 72) dy mo, ra_I (q 67) cI 90 g1_30, ra_I (q 68) cI 9 g2_31, ra_I (q 69) cI 10 g3_32, ro_rrnnnin (q 7) 7 (q 33) (q 34) dy wn mo mu ke, ra_I (q 33) cI 9 fb, ra_I (q 34) cI 9 fw, ro_rrnnnin (q 8) 7 (q 53) (q 54) dy wn mo mu ke, ra_I (q 53) cI 9 g1_19, ra_I (q 54) cI 9 g2_12, ra_J (q 70) cJ 100 cw4]) eu_40 hP hD rfl (fun hP hD => ?_)
                refine lv_pop hx hb dX11_frees_66 rfl ?_
                refine lv_aload_n hx hb dX11_frees_67 rfl (lv_at hl 3 rfl) ?_
                refine sk_get (v := .ref (q 11)) (C := RX11) (T := TX11) (N := 18) hx hb hts inlX11 hown hK hP 0 rfl rfl 11 (Nat.le_of_ble_eq_true rfl) w_2_134 rfl dX11_frees_68 ?_
                refine sk_Vl (q0 := 0) (n := 0) (rest := []) (wr := fmR om_27_781 _) ⟨hx, hb, hml, hown, hts⟩ hl.1 (c_kcountWays l D cI cJ cC cZ cS q dy mo g1_30 g2_31 g3_32 cw4 (kcFo L wn (updG BB kd_7 i) We U 0) hdy hmo hld2_37 hlv2_38) w_4_61 w_4_62 w_4_63 w_1_13 w_4_64 hd_X1_countWays_0 ⟨⟨(Nat.le_of_ble_eq_true rfl), (Nat.le_of_ble_eq_true rfl)⟩, (Nat.le_of_ble_eq_true rfl), (Nat.le_of_ble_eq_true rfl)⟩ hK hP hD hS hA (fmT om_27_781 0) (fmF om_27_781 0) (fm_C1 rfl rfl) (fm_R rfl rfl) (fm_nT om_27_781 0) (fm_nF om_27_781 0) (fm_di om_27_781 0) rfl rfl rfl rfl (Nat.le_of_ble_eq_true rfl) dX11_frees_71 (fun r_43 u H locs hw hP hD hS => ?_)
                refine exE hw (fun g4_42 hw1 => anE hw1 (fun hwy_44 hw2 => anE hw2 (fun er_46 eu_45 => ?_)))
                clear hw hw1 hw2
                subst er_46
                refine o_mgE (ws' := [ro_rrrrrrrrrrrrrrrirl x0 11 (q 0) (q 1) (q 2) (q 3) (q 4) (q 5) (q 6) (q 7) (q 8) (q 9) (q 10) (q 11) (q 12) (q 13) (q 14) hc (q 16) dr, ro_rrrrrr (q 10) 9 (q 61) (q 62) (q 63) (q 64) (q 65) (q 66), ra_N (q 61) cI 90 sa2_22, ra_I (q 62) cI 900 ft2_23, ra_I (q 63) cI 90 fa2_24, ra_I (q 64) cI 90 fo2_25, ra_J (q 65) cJ 90 fg2_26, ra_I (q 66) cI 9 fk2_27, ro_rrrrrnniin (q 5) 2 (q 44) (q 45) (q 46) (q 47) (q 48) dh mh uh rh nh, ro_rrrrnn (q 44) 0 (q 49) (q 50) (q 51) (q 52) ch wh, ra_I (q 49) cI 1600 y1, ra_J (q 50) cJ 64 z2_28, ra_J (q 51) cJ 9 z3_29, ra_J (q 52) cJ 10 y4, ra_I (q 47) cI 3 yf, ra_I (q 48) cI 3 yt, ro_rrrrrrrnn (q 11) 1 (q 10) (q 67) (q 68) (q 69) (q 70) (q 71) (q 72) dy mo, ra_I (q 67) cI 90 g1_30, ra_I (q 68) cI 9 g2_31, ra_I (q 69) cI 10 g3_32, ro_rrnnnin (q 7) 7 (q 33) (q 34) dy wn mo mu ke, ra_I (q 33) cI 9 fb, ra_I (q 34) cI 9 fw, ro_rrnnnin (q 8) 7 (q 53) (q 54) dy wn mo mu ke, ra_I (q 53) cI 9 g1_19, ra_I (q 54) cI 9 g2_12, ra_J (q 70) cJ 100 g4_42]) eu_45 hP hD rfl (fun hP hD => ?_)
                refine sk_topl (Int64.ofNat (kFr L dy wn mo Ba We U kd_7 0 i)) (congrArg (fun B => Int64.ofNat (kcC (kcFo L wn B We U 0) dy 0 mo)) (hBB i)) ?_
                refine lv_lstore (lv' := [(7, .long (Int64.ofNat (kFr L dy wn mo Ba We U kd_7 0 i))), (6, .int (nI i)), (4, .long ms), (3, .int (nI be)), (0, .ref x0), (1, .int (nI kd_7)), (2, .int 0)]) hx hb dX11_frees_74 hl (by decide) rfl (fun ls hl => ?_)
                refine lv_lload hx hb dX11_frees_76 (lv_at hl 0 rfl) ?_
                refine lv_lload hx hb dX11_frees_78 (lv_at hl 2 rfl) ?_
                refine W.lcmp hx hb dX11_frees_80 ?_
                refine lv_if_le (tgt := 91) hx hb dX11_frees_81 (by decide) (fun c_47 => ?_) (fun c_47 => ?_)
                · skip
                  refine lv_iinc (v := nI (i + 1)) (lv' := [(6, .int (nI (i + 1))), (7, .long (Int64.ofNat (kFr L dy wn mo Ba We U kd_7 0 i))), (4, .long ms), (3, .int (nI be)), (0, .ref x0), (1, .int (nI kd_7)), (2, .int 0)]) hx hb dX11_frees_91 hl (k := 1) rfl (ninc i 1 (by decide)) (by decide) rfl (fun ls hl => ?_)
                  refine lv_goto (tgt := 40) hx hb dX11_frees_94 (by decide) ?_
                  exact ih_lp_16 (i + 1) ms be sa2_22 ft2_23 fa2_24 fo2_25 fg2_26 fk2_27 z2_28 z3_29 dy mo g1_30 g2_31 g3_32 g1_19 g4_42 (updG BB kd_7 i) _ _ _ (by omega) hsa2_35 hdy hmo hti2_36 (by omega) (fb_up hzb hg1_20) (updG_le hzB9 (by omega)) (fun v => updG_2.trans (hBB v)) (frS_n hfr (kFr_9 (by omega) _) c_47) hP hD hS (lv_sub hl [0, 2, 3, 4, 5, 6] rfl)
                · skip
                  refine lv_lload hx hb dX11_frees_84 (lv_at hl 0 rfl) ?_
                  refine lv_lstore (lv' := [(4, .long (Int64.ofNat (kFr L dy wn mo Ba We U kd_7 0 i))), (7, .long (Int64.ofNat (kFr L dy wn mo Ba We U kd_7 0 i))), (6, .int (nI i)), (3, .int (nI be)), (0, .ref x0), (1, .int (nI kd_7)), (2, .int 0)]) hx hb dX11_frees_86 hl (by decide) rfl (fun ls hl => ?_)
                  refine lv_iload hx hb dX11_frees_88 (lv_at hl 2 rfl) ?_
                  refine lv_istore_n (lv' := [(3, .int (nI i)), (4, .long (Int64.ofNat (kFr L dy wn mo Ba We U kd_7 0 i))), (7, .long (Int64.ofNat (kFr L dy wn mo Ba We U kd_7 0 i))), (6, .int (nI i)), (0, .ref x0), (1, .int (nI kd_7)), (2, .int 0)]) hx hb dX11_frees_90 rfl hl (by decide) rfl (fun ls hl => ?_)
                  refine lv_iinc (v := nI (i + 1)) (lv' := [(6, .int (nI (i + 1))), (3, .int (nI i)), (4, .long (Int64.ofNat (kFr L dy wn mo Ba We U kd_7 0 i))), (7, .long (Int64.ofNat (kFr L dy wn mo Ba We U kd_7 0 i))), (0, .ref x0), (1, .int (nI kd_7)), (2, .int 0)]) hx hb dX11_frees_91 hl (k := 3) rfl (ninc i 1 (by decide)) (by decide) rfl (fun ls hl => ?_)
                  refine lv_goto (tgt := 40) hx hb dX11_frees_94 (by decide) ?_
                  exact ih_lp_16 (i + 1) (Int64.ofNat (kFr L dy wn mo Ba We U kd_7 0 i)) i sa2_22 ft2_23 fa2_24 fo2_25 fg2_26 fk2_27 z2_28 z3_29 dy mo g1_30 g2_31 g3_32 g1_19 g4_42 (updG BB kd_7 i) _ _ _ (by omega) hsa2_35 hdy hmo hti2_36 (by omega) (fb_up hzb hg1_20) (updG_le hzB9 (by omega)) (fun v => updG_2.trans (hBB v)) (frS_y hfr (kFr_9 (by omega) _) c_47) hP hD hS (lv_sub hl [0, 2, 1, 4, 5, 6] rfl)
          exact lp_16 (10 - 0 + 1) 0 (-1000000000000000) 0 sa ft fa fo fg fk y2 y3 gd gs e1 e2 e3 g1_11 e4 Ba _ _ _ (Nat.lt_succ_self _) hsa hgd hgs (htq (by omega)) (by omega) (fun j hj => (hc1_13 j hj).trans (hfb j hj)) hB9 (fun _ => rfl) ⟨rfl, Or.inl ⟨rfl, rfl⟩⟩ hP hD hS (lv_sub hl [0, 1, 2, 3, 4, 5] rfl)
        · skip
          refine lv_iconst (v := 0) hx hb dX11_frees_30 ic_0 ?_
          refine lv_istore_n (lv' := [(3, .int 0), (0, .ref x0), (1, .int (nI kd_7)), (2, .int 1)]) hx hb dX11_frees_31 rfl hl (by decide) rfl (fun ls hl => ?_)
          refine lv_ldc2 (v := (-1000000000000000)) hx hb hown (hts _ w_4_29) dX11_frees_32 ?_
          refine lv_lstore (lv' := [(4, .long (-1000000000000000)), (3, .int 0), (0, .ref x0), (1, .int (nI kd_7)), (2, .int 1)]) hx hb dX11_frees_35 hl (by decide) rfl (fun ls hl => ?_)
          refine lv_iconst (v := 0) hx hb dX11_frees_37 ic_0 ?_
          refine lv_istore (lv' := [(6, .int 0), (4, .long (-1000000000000000)), (3, .int 0), (0, .ref x0), (1, .int (nI kd_7)), (2, .int 1)]) hx hb dX11_frees_38 hl (by decide) rfl (fun ls hl => ?_)
          have lp_48 : ∀ (n_49 : Nat) (i : Nat) (ms : Int64) (be : Nat) (ca : Nat → Nat) (ct : Nat → Int32) (cb : Nat → Int32) (co : Nat → Int32) (cg : Nat → Int64) (ck : Nat → Int32) (cy : Nat → Int64) (cz : Nat → Int64) (zd : Nat) (zs : Nat) (d1_ : Nat → Int32) (d2_ : Nat → Int32) (d3_ : Nat → Int32) (tb1 : Nat → Int32) (cw4 : Nat → Int64) (BB : Nat → Nat) (H : Heap) (locs : List Loc) (ls : Array Slot), 10 - i < n_49 → (∀ j, ca j ≤ 9) → (zd ≤ 9) → (zs ≤ 9) → (kcTI L ca ct cb co cg ck) → (i ≤ 10) → (∀ j, j < 9 → tb1 j = nI (BB j)) → (∀ j, BB j ≤ 9) → (∀ v, updG BB kd_7 v = updG We kd_7 v) → (frS (kFr L dy wn mo Ba We U kd_7 1) i be ms) → va_P D vwCl [ro_rrrrrrrrrrrrrrrirl x0 11 (q 0) (q 1) (q 2) (q 3) (q 4) (q 5) (q 6) (q 7) (q 8) (q 9) (q 10) (q 11) (q 12) (q 13) (q 14) hc (q 16) dr, ro_rrrrrr (q 10) 9 (q 61) (q 62) (q 63) (q 64) (q 65) (q 66), ra_N (q 61) cI 90 ca, ra_I (q 62) cI 900 ct, ra_I (q 63) cI 90 cb, ra_I (q 64) cI 90 co, ra_J (q 65) cJ 90 cg, ra_I (q 66) cI 9 ck, ro_rrrrrnniin (q 5) 2 (q 44) (q 45) (q 46) (q 47) (q 48) dh mh uh rh nh, ro_rrrrnn (q 44) 0 (q 49) (q 50) (q 51) (q 52) ch wh, ra_I (q 49) cI 1600 y1, ra_J (q 50) cJ 64 cy, ra_J (q 51) cJ 9 cz, ra_J (q 52) cJ 10 y4, ra_I (q 47) cI 3 yf, ra_I (q 48) cI 3 yt, ro_rrrrrrrnn (q 11) 1 (q 10) (q 67) (q 68) (q 69) (q 70) (q 71) (q 72) zd zs, ra_I (q 67) cI 90 d1_, ra_I (q 68) cI 9 d2_, ra_I (q 69) cI 10 d3_, ro_rrnnnin (q 7) 7 (q 33) (q 34) dy wn mo mu ke, ra_I (q 33) cI 9 fb, ra_I (q 34) cI 9 fw, ro_rrnnnin (q 8) 7 (q 53) (q 54) dy wn mo mu ke, ra_I (q 53) cI 9 g1_11, ra_I (q 54) cI 9 tb1, ra_J (q 70) cJ 100 cw4] H → va_D A [ro_rrrrrrrrrrrrrrrirl x0 11 (q 0) (q 1) (q 2) (q 3) (q 4) (q 5) (q 6) (q 7) (q 8) (q 9) (q 10) (q 11) (q 12) (q 13) (q 14) hc (q 16) dr, ro_rrrrrr (q 10) 9 (q 61) (q 62) (q 63) (q 64) (q 65) (q 66), ra_N (q 61) cI 90 ca, ra_I (q 62) cI 900 ct, ra_I (q 63) cI 90 cb, ra_I (q 64) cI 90 co, ra_J (q 65) cJ 90 cg, ra_I (q 66) cI 9 ck, ro_rrrrrnniin (q 5) 2 (q 44) (q 45) (q 46) (q 47) (q 48) dh mh uh rh nh, ro_rrrrnn (q 44) 0 (q 49) (q 50) (q 51) (q 52) ch wh, ra_I (q 49) cI 1600 y1, ra_J (q 50) cJ 64 cy, ra_J (q 51) cJ 9 cz, ra_J (q 52) cJ 10 y4, ra_I (q 47) cI 3 yf, ra_I (q 48) cI 3 yt, ro_rrrrrrrnn (q 11) 1 (q 10) (q 67) (q 68) (q 69) (q 70) (q 71) (q 72) zd zs, ra_I (q 67) cI 90 d1_, ra_I (q 68) cI 9 d2_, ra_I (q 69) cI 10 d3_, ro_rrnnnin (q 7) 7 (q 33) (q 34) dy wn mo mu ke, ra_I (q 33) cI 9 fb, ra_I (q 34) cI 9 fw, ro_rrnnnin (q 8) 7 (q 53) (q 54) dy wn mo mu ke, ra_I (q 53) cI 9 g1_11, ra_I (q 54) cI 9 tb1, ra_J (q 70) cJ 100 cw4] → va_S A s.heap H locs → lv_has ls 9 [(6, .int (nI i)), (4, .long ms), (3, .int (nI be)), (0, .ref x0), (1, .int (nI kd_7)), (2, .int 1)] → W p l e { frames := 6, cells := 0, slots := 0, locals := 149 } s m ([.ref x0, .int (nI kd_7), .int (nI 1)] : List Value).toArray below meth c H locs 0 0 (MQ below (skI D (skT cI cJ cC cZ cS) (fun (r : Int32) (u : va_W) => ∃ (sa2 : Nat → Nat), ∃ (ft2 : Nat → Int32), ∃ (fa2 : Nat → Int32), ∃ (fo2 : Nat → Int32), ∃ (fg2 : Nat → Int64), ∃ (fk2 : Nat → Int32), ∃ (z2 : Nat → Int64), ∃ (z3 : Nat → Int64), ∃ (g1 : Nat → Int32), ∃ (g2 : Nat → Int32), ∃ (g3 : Nat → Int32), ∃ (gd2 : Nat), ∃ (gs2 : Nat), ∃ (dt2 : Nat), ∃ (kt2 : Nat), ∃ (mt2 : Nat), ∃ (et2 : Nat), ∃ (ut2 : Int32), ∃ (bu_ : Nat → Int32), ∃ (wu_ : Nat → Int32), ∃ (g4 : Nat → Int64), (∀ j, sa2 j ≤ 9) ∧ (1 ≤ dy → kcTI L sa2 ft2 fa2 fo2 fg2 fk2) ∧ gd2 ≤ 9 ∧ gs2 ≤ 9 ∧ dt2 ≤ 9 ∧ mt2 ≤ 9 ∧ kt2 ≤ 999 ∧ freesR L dy wn mo Ba We U (nI kd_7) (nI 1) r ∧ u = [ro_rrrrrrrrrrrrrrrirl x0 11 (q 0) (q 1) (q 2) (q 3) (q 4) (q 5) (q 6) (q 7) (q 8) (q 9) (q 10) (q 11) (q 12) (q 13) (q 14) hc (q 16) dr, ro_rrrrrr (q 10) 9 (q 61) (q 62) (q 63) (q 64) (q 65) (q 66), ra_N (q 61) cI 90 sa2, ra_I (q 62) cI 900 ft2, ra_I (q 63) cI 90 fa2, ra_I (q 64) cI 90 fo2, ra_J (q 65) cJ 90 fg2, ra_I (q 66) cI 9 fk2, ro_rrrrrnniin (q 5) 2 (q 44) (q 45) (q 46) (q 47) (q 48) dh mh uh rh nh, ro_rrrrnn (q 44) 0 (q 49) (q 50) (q 51) (q 52) ch wh, ra_I (q 49) cI 1600 y1, ra_J (q 50) cJ 64 z2, ra_J (q 51) cJ 9 z3, ra_J (q 52) cJ 10 y4, ra_I (q 47) cI 3 yf, ra_I (q 48) cI 3 yt, ro_rrrrrrrnn (q 11) 1 (q 10) (q 67) (q 68) (q 69) (q 70) (q 71) (q 72) gd2 gs2, ra_I (q 67) cI 90 g1, ra_I (q 68) cI 9 g2, ra_I (q 69) cI 10 g3, ro_rrnnnin (q 7) 7 (q 33) (q 34) dy wn mo mu ke, ra_I (q 33) cI 9 fb, ra_I (q 34) cI 9 fw, ro_rrnnnin (q 8) 7 (q 53) (q 54) dt2 kt2 mt2 ut2 et2, ra_I (q 53) cI 9 bu_, ra_I (q 54) cI 9 wu_, ra_J (q 70) cJ 100 g4]) A) ([.ref x0, .int (nI kd_7), .int (nI 1)] : List Value).toArray s 0 0 A) (F0 m 40 ls []) := by
            intro n_49
            induction n_49 with
            | zero => intro i ms be ca ct cb co cg ck cy cz zd zs d1_ d2_ d3_ tb1 cw4 BB H locs ls hm; exact absurd hm (Nat.not_lt_zero _)
            | succ n_49 ih_lp_48 =>
              intro i ms be ca ct cb co cg ck cy cz zd zs d1_ d2_ d3_ tb1 cw4 BB H locs ls hm hca hzd hzs hzti hi hzb hzB9 hBB hfr hP hD hS hl
              refine lv_iload hx hb dX11_frees_40 (lv_at hl 0 rfl) ?_
              refine lv_bipush (v := 10) hx hb dX11_frees_42 (by decide) ?_
              refine lv_icmp_ge (tgt := 97) hx hb dX11_frees_44 (by decide) (fun c_50 => ?_) (fun c_50 => ?_)
              · have c_50 : 10 ≤ i := (nle 10 i (Nat.le_of_ble_eq_true rfl) (by omega)).mp c_50
                refine lv_iload_n hx hb dX11_frees_97 rfl (lv_at hl 2 rfl) ?_
                exact sk_iret hx hb hr rfl hlocks hK hP hD hS (⟨ca, ct, cb, co, cg, ck, cy, cz, d1_, d2_, d3_, zd, zs, dy, wn, mo, ke, mu, g1_11, tb1, cw4, hca, (fun _ => hzti), hzd, hzs, hdy, hmo, hwn, fre_2 hkd_7 (by decide) hfr (by omega), rfl⟩) (Nat.le_of_ble_eq_true rfl) (Nat.le_of_ble_eq_true rfl) dX11_frees_98
              · have c_50 : ¬ (10 ≤ i) := fun h => c_50 ((nle 10 i (Nat.le_of_ble_eq_true rfl) (by omega)).mpr h)
                refine lv_aload_n hx hb dX11_frees_47 rfl (lv_at hl 3 rfl) ?_
                refine sk_get (v := .ref (q 8)) (C := RX11) (T := TX11) (N := 18) hx hb hts inlX11 hown hK hP 0 rfl rfl 8 (Nat.le_of_ble_eq_true rfl) w_2_131 rfl dX11_frees_48 ?_
                refine lv_iload_n hx hb dX11_frees_51 rfl (lv_at hl 4 rfl) ?_
                refine lv_iload_n hx hb dX11_frees_52 rfl (lv_at hl 5 rfl) ?_
                refine lv_iload hx hb dX11_frees_53 (lv_at hl 0 rfl) ?_
                refine sk_Vv (q0 := 0) (n := 3) (rest := []) (wr := fmR om_27_e _) ⟨hx, hb, hml, hown, hts⟩ hl.1 (c_kState_put1 l D cI cJ cC cZ cS (q 8) (q 53) (q 54) dy mo (nI wn) mu (nI ke) g1_11 tb1 kd_7 (nI i) (by omega)) w_4_148 w_4_149 w_4_150 w_1_10 w_4_151 hd_X7_put_3 ⟨⟨(Nat.le_of_ble_eq_true rfl), (Nat.le_of_ble_eq_true rfl)⟩, (Nat.le_of_ble_eq_true rfl), (Nat.le_of_ble_eq_true rfl)⟩ hK hP hD hS hA (fmT om_27_e 0) (fmF om_27_e 0) (fm_C1 rfl rfl) (fm_R rfl rfl) (fm_nT om_27_e 0) (fm_nF om_27_e 0) (fm_di om_27_e 0) rfl rfl rfl rfl (Nat.le_of_ble_eq_true rfl) dX11_frees_55 (fun u H locs hw hP hD hS => ?_)
                refine exE hw (fun g1_51 hw1 => anE hw1 (fun hg1_52 eu_53 => ?_))
                clear hw hw1
                refine o_mgE (ws' := [ro_rrrrrrrrrrrrrrrirl x0 11 (q 0) (q 1) (q 2) (q 3) (q 4) (q 5) (q 6) (q 7) (q 8) (q 9) (q 10) (q 11) (q 12) (q 13) (q 14) hc (q 16) dr, ro_rrrrrr (q 10) 9 (q 61) (q 62) (q 63) (q 64) (q 65) (q 66), ra_N (q 61) cI 90 ca, ra_I (q 62) cI 900 ct, ra_I (q 63) cI 90 cb, ra_I (q 64) cI 90 co, ra_J (q 65) cJ 90 cg, ra_I (q 66) cI 9 ck, ro_rrrrrnniin (q 5) 2 (q 44) (q 45) (q 46) (q 47) (q 48) dh mh uh rh nh, ro_rrrrnn (q 44) 0 (q 49) (q 50) (q 51) (q 52) ch wh, ra_I (q 49) cI 1600 y1, ra_J (q 50) cJ 64 cy, ra_J (q 51) cJ 9 cz, ra_J (q 52) cJ 10 y4, ra_I (q 47) cI 3 yf, ra_I (q 48) cI 3 yt, ro_rrrrrrrnn (q 11) 1 (q 10) (q 67) (q 68) (q 69) (q 70) (q 71) (q 72) zd zs, ra_I (q 67) cI 90 d1_, ra_I (q 68) cI 9 d2_, ra_I (q 69) cI 10 d3_, ro_rrnnnin (q 7) 7 (q 33) (q 34) dy wn mo mu ke, ra_I (q 33) cI 9 fb, ra_I (q 34) cI 9 fw, ro_rrnnnin (q 8) 7 (q 53) (q 54) dy wn mo mu ke, ra_I (q 53) cI 9 g1_11, ra_I (q 54) cI 9 g1_51, ra_J (q 70) cJ 100 cw4]) eu_53 hP hD rfl (fun hP hD => ?_)
                refine lv_aload_n hx hb dX11_frees_58 rfl (lv_at hl 3 rfl) ?_
                refine lv_aload_n hx hb dX11_frees_59 rfl (lv_at hl 3 rfl) ?_
                refine sk_get (v := .ref (q 8)) (C := RX11) (T := TX11) (N := 18) hx hb hts inlX11 hown hK hP 0 rfl rfl 8 (Nat.le_of_ble_eq_true rfl) w_2_131 rfl dX11_frees_60 ?_
                refine sk_Vi (q0 := 0) (n := 1) (rest := []) (wr := fmR om_27_7ffff8e _) ⟨hx, hb, hml, hown, hts⟩ hl.1 (c_kx_lookAt l D cI cJ cC cZ cS x0 q hc dr ca ct cb co cg ck dh mh uh rh nh ch wh y1 cy cz y4 yf yt zd zs d1_ d2_ d3_ (q 8) (q 53) (q 54) dy wn mo ke mu g1_11 g1_51 Ba (updG BB kd_7 i) L U hca hch hwh hdy hmo hLk (hlq (by omega)).1 (hlq (by omega)).2 (fun j hj => (hc1_13 j hj).trans (hfb j hj)) (fb_up hzb hg1_52) hB9 (updG_le hzB9 (by omega)) hwn hU hzti) w_4_43 w_4_45 w_0_19 w_1_1 w_4_46 hd_X11_lookAt_1 ⟨⟨(Nat.le_of_ble_eq_true rfl), (Nat.le_of_ble_eq_true rfl)⟩, (Nat.le_of_ble_eq_true rfl), (Nat.le_of_ble_eq_true rfl)⟩ hK hP hD hS hA (fmT om_27_7ffff8e 0) (fmF om_27_7ffff8e 0) (fm_C1 rfl rfl) (fm_R rfl rfl) (fm_nT om_27_7ffff8e 0) (fm_nF om_27_7ffff8e 0) (fm_di om_27_7ffff8e 0) rfl rfl rfl rfl (Nat.le_of_ble_eq_true rfl) dX11_frees_63 (fun r_66 u H locs hw hP hD hS => ?_)
                refine exE hw (fun sa2_54 hw1 => exE hw1 (fun ft2_55 hw2 => exE hw2 (fun fa2_56 hw3 => exE hw3 (fun fo2_57 hw4 => exE hw4 (fun fg2_58 hw5 => exE hw5 (fun fk2_59 hw6 => exE hw6 (fun z2_60 hw7 => exE hw7 (fun z3_61 hw8 => exE hw8 (fun g1_62 hw9 => exE hw9 (fun g2_63 hw10 => exE hw10 (fun g3_64 hw11 => exE hw11 (fun b_65 hw12 => anE hw12 (fun hsa2_67 hw13 => anE hw13 (fun hti2_68 hw14 => anE hw14 (fun hld2_69 hw15 => anE hw15 (fun hlv2_70 hw16 => anE hw16 (fun hb1_71 hw17 => anE hw17 (fun er_73 eu_72 => ?_))))))))))))))))))
                clear hw hw1 hw2 hw3 hw4 hw5 hw6 hw7 hw8 hw9 hw10 hw11 hw12 hw13 hw14 hw15 hw16 hw17
                subst er_73
                refine o_mgE (ws' := [ro_rrrrrrrrrrrrrrrirl x0 11 (q 0) (q 1) (q 2) (q 3) (q 4) (q 5) (q 6) (q 7) (q 8) (q 9) (q 10) (q 11) (q 12) (q 13) (q 14) hc (q 16) dr, ro_rrrrrr (q 10) 9 (q 61) (q 62) (q 63) (q 64) (q 65) (q 66), ra_N (q 61) cI 90 sa2_54, ra_I (q 62) cI 900 ft2_55, ra_I (q 63) cI 90 fa2_56, ra_I (q 64) cI 90 fo2_57, ra_J (q 65) cJ 90 fg2_58, ra_I (q 66) cI 9 fk2_59, ro_rrrrrnniin (q 5) 2 (q 44) (q 45) (q 46) (q 47) (q 48) dh mh uh rh nh, ro_rrrrnn (q 44) 0 (q 49) (q 50) (q 51) (q 52) ch wh, ra_I (q 49) cI 1600 y1, ra_J (q 50) cJ 64 z2_60, ra_J (q 51) cJ 9 z3_61, ra_J (q 52) cJ 10 y4, ra_I (q 47) cI 3 yf, ra_I (q 48) cI 3 yt, ro_rrrrrrrnn (q 11) 1 (q 10) (q 67) (q 68) (q 69) (q 70) (q 71) (q 72) dy mo, ra_I (q 67) cI 90 g1_62, ra_I (q 68) cI 9 g2_63, ra_I (q 69) cI 10 g3_64, ro_rrnnnin (q 7) 7 (q 33) (q 34) dy wn mo mu ke, ra_I (q 33) cI 9 fb, ra_I (q 34) cI 9 fw, ro_rrnnnin (q 8) 7 (q 53) (q 54) dy wn mo mu ke, ra_I (q 53) cI 9 g1_11, ra_I (q 54) cI 9 g1_51, ra_J (q 70) cJ 100 cw4]) eu_72 hP hD rfl (fun hP hD => ?_)
                refine lv_pop hx hb dX11_frees_66 rfl ?_
                refine lv_aload_n hx hb dX11_frees_67 rfl (lv_at hl 3 rfl) ?_
                refine sk_get (v := .ref (q 11)) (C := RX11) (T := TX11) (N := 18) hx hb hts inlX11 hown hK hP 0 rfl rfl 11 (Nat.le_of_ble_eq_true rfl) w_2_134 rfl dX11_frees_68 ?_
                refine sk_Vl (q0 := 0) (n := 0) (rest := []) (wr := fmR om_27_781 _) ⟨hx, hb, hml, hown, hts⟩ hl.1 (c_kcountWays l D cI cJ cC cZ cS q dy mo g1_62 g2_63 g3_64 cw4 (kcFo L wn Ba (updG BB kd_7 i) U 0) hdy hmo hld2_69 hlv2_70) w_4_61 w_4_62 w_4_63 w_1_13 w_4_64 hd_X1_countWays_0 ⟨⟨(Nat.le_of_ble_eq_true rfl), (Nat.le_of_ble_eq_true rfl)⟩, (Nat.le_of_ble_eq_true rfl), (Nat.le_of_ble_eq_true rfl)⟩ hK hP hD hS hA (fmT om_27_781 0) (fmF om_27_781 0) (fm_C1 rfl rfl) (fm_R rfl rfl) (fm_nT om_27_781 0) (fm_nF om_27_781 0) (fm_di om_27_781 0) rfl rfl rfl rfl (Nat.le_of_ble_eq_true rfl) dX11_frees_71 (fun r_75 u H locs hw hP hD hS => ?_)
                refine exE hw (fun g4_74 hw1 => anE hw1 (fun hwy_76 hw2 => anE hw2 (fun er_78 eu_77 => ?_)))
                clear hw hw1 hw2
                subst er_78
                refine o_mgE (ws' := [ro_rrrrrrrrrrrrrrrirl x0 11 (q 0) (q 1) (q 2) (q 3) (q 4) (q 5) (q 6) (q 7) (q 8) (q 9) (q 10) (q 11) (q 12) (q 13) (q 14) hc (q 16) dr, ro_rrrrrr (q 10) 9 (q 61) (q 62) (q 63) (q 64) (q 65) (q 66), ra_N (q 61) cI 90 sa2_54, ra_I (q 62) cI 900 ft2_55, ra_I (q 63) cI 90 fa2_56, ra_I (q 64) cI 90 fo2_57, ra_J (q 65) cJ 90 fg2_58, ra_I (q 66) cI 9 fk2_59, ro_rrrrrnniin (q 5) 2 (q 44) (q 45) (q 46) (q 47) (q 48) dh mh uh rh nh, ro_rrrrnn (q 44) 0 (q 49) (q 50) (q 51) (q 52) ch wh, ra_I (q 49) cI 1600 y1, ra_J (q 50) cJ 64 z2_60, ra_J (q 51) cJ 9 z3_61, ra_J (q 52) cJ 10 y4, ra_I (q 47) cI 3 yf, ra_I (q 48) cI 3 yt, ro_rrrrrrrnn (q 11) 1 (q 10) (q 67) (q 68) (q 69) (q 70) (q 71) (q 72) dy mo, ra_I (q 67) cI 90 g1_62, ra_I (q 68) cI 9 g2_63, ra_I (q 69) cI 10 g3_64, ro_rrnnnin (q 7) 7 (q 33) (q 34) dy wn mo mu ke, ra_I (q 33) cI 9 fb, ra_I (q 34) cI 9 fw, ro_rrnnnin (q 8) 7 (q 53) (q 54) dy wn mo mu ke, ra_I (q 53) cI 9 g1_11, ra_I (q 54) cI 9 g1_51, ra_J (q 70) cJ 100 g4_74]) eu_77 hP hD rfl (fun hP hD => ?_)
                refine sk_topl (Int64.ofNat (kFr L dy wn mo Ba We U kd_7 1 i)) (congrArg (fun B => Int64.ofNat (kcC (kcFo L wn Ba B U 0) dy 0 mo)) (hBB i)) ?_
                refine lv_lstore (lv' := [(7, .long (Int64.ofNat (kFr L dy wn mo Ba We U kd_7 1 i))), (6, .int (nI i)), (4, .long ms), (3, .int (nI be)), (0, .ref x0), (1, .int (nI kd_7)), (2, .int 1)]) hx hb dX11_frees_74 hl (by decide) rfl (fun ls hl => ?_)
                refine lv_lload hx hb dX11_frees_76 (lv_at hl 0 rfl) ?_
                refine lv_lload hx hb dX11_frees_78 (lv_at hl 2 rfl) ?_
                refine W.lcmp hx hb dX11_frees_80 ?_
                refine lv_if_le (tgt := 91) hx hb dX11_frees_81 (by decide) (fun c_79 => ?_) (fun c_79 => ?_)
                · skip
                  refine lv_iinc (v := nI (i + 1)) (lv' := [(6, .int (nI (i + 1))), (7, .long (Int64.ofNat (kFr L dy wn mo Ba We U kd_7 1 i))), (4, .long ms), (3, .int (nI be)), (0, .ref x0), (1, .int (nI kd_7)), (2, .int 1)]) hx hb dX11_frees_91 hl (k := 1) rfl (ninc i 1 (by decide)) (by decide) rfl (fun ls hl => ?_)
                  refine lv_goto (tgt := 40) hx hb dX11_frees_94 (by decide) ?_
                  exact ih_lp_48 (i + 1) ms be sa2_54 ft2_55 fa2_56 fo2_57 fg2_58 fk2_59 z2_60 z3_61 dy mo g1_62 g2_63 g3_64 g1_51 g4_74 (updG BB kd_7 i) _ _ _ (by omega) hsa2_67 hdy hmo hti2_68 (by omega) (fb_up hzb hg1_52) (updG_le hzB9 (by omega)) (fun v => updG_2.trans (hBB v)) (frS_n hfr (kFr_9 (by omega) _) c_79) hP hD hS (lv_sub hl [0, 2, 3, 4, 5, 6] rfl)
                · skip
                  refine lv_lload hx hb dX11_frees_84 (lv_at hl 0 rfl) ?_
                  refine lv_lstore (lv' := [(4, .long (Int64.ofNat (kFr L dy wn mo Ba We U kd_7 1 i))), (7, .long (Int64.ofNat (kFr L dy wn mo Ba We U kd_7 1 i))), (6, .int (nI i)), (3, .int (nI be)), (0, .ref x0), (1, .int (nI kd_7)), (2, .int 1)]) hx hb dX11_frees_86 hl (by decide) rfl (fun ls hl => ?_)
                  refine lv_iload hx hb dX11_frees_88 (lv_at hl 2 rfl) ?_
                  refine lv_istore_n (lv' := [(3, .int (nI i)), (4, .long (Int64.ofNat (kFr L dy wn mo Ba We U kd_7 1 i))), (7, .long (Int64.ofNat (kFr L dy wn mo Ba We U kd_7 1 i))), (6, .int (nI i)), (0, .ref x0), (1, .int (nI kd_7)), (2, .int 1)]) hx hb dX11_frees_90 rfl hl (by decide) rfl (fun ls hl => ?_)
                  refine lv_iinc (v := nI (i + 1)) (lv' := [(6, .int (nI (i + 1))), (3, .int (nI i)), (4, .long (Int64.ofNat (kFr L dy wn mo Ba We U kd_7 1 i))), (7, .long (Int64.ofNat (kFr L dy wn mo Ba We U kd_7 1 i))), (0, .ref x0), (1, .int (nI kd_7)), (2, .int 1)]) hx hb dX11_frees_91 hl (k := 3) rfl (ninc i 1 (by decide)) (by decide) rfl (fun ls hl => ?_)
                  refine lv_goto (tgt := 40) hx hb dX11_frees_94 (by decide) ?_
                  exact ih_lp_48 (i + 1) (Int64.ofNat (kFr L dy wn mo Ba We U kd_7 1 i)) i sa2_54 ft2_55 fa2_56 fo2_57 fg2_58 fk2_59 z2_60 z3_61 dy mo g1_62 g2_63 g3_64 g1_51 g4_74 (updG BB kd_7 i) _ _ _ (by omega) hsa2_67 hdy hmo hti2_68 (by omega) (fb_up hzb hg1_52) (updG_le hzB9 (by omega)) (fun v => updG_2.trans (hBB v)) (frS_y hfr (kFr_9 (by omega) _) c_79) hP hD hS (lv_sub hl [0, 2, 1, 4, 5, 6] rfl)
          exact lp_48 (10 - 0 + 1) 0 (-1000000000000000) 0 sa ft fa fo fg fk y2 y3 gd gs e1 e2 e3 g2_12 e4 We _ _ _ (Nat.lt_succ_self _) hsa hgd hgs (htq (by omega)) (by omega) (fun j hj => (hc2_14 j hj).trans (hfw j hj)) hW9 (fun _ => rfl) ⟨rfl, Or.inl ⟨rfl, rfl⟩⟩ hP hD hS (lv_sub hl [0, 1, 2, 3, 4, 5] rfl)
      · have c_10 : ¬ (k_9 ≤ 1) := fun h => c_10 ((nle k_9 1 (by omega) (Nat.le_of_ble_eq_true rfl)).mpr h)
        refine lv_iconst (v := (-1)) hx hb dX11_frees_17 (by decide) ?_
        exact sk_iret hx hb hr rfl hlocks hK hP hD hS (⟨sa, ft, fa, fo, fg, fk, y2, y3, e1, e2, e3, gd, gs, dt, kt, mt, et, ut, bt_, wt_, e4, hsa, htq, hgd, hgs, hdt, hmt, hkt, fre_1 (kIn_ge (by omega) (by omega)), rfl⟩) (Nat.le_of_ble_eq_true rfl) (Nat.le_of_ble_eq_true rfl) dX11_frees_18
