theorem dg_X11_on_19_19 : bqL cX11_on 19 [(0, [60]), (1, [42]), (2, [180, 0, 12]), (5, [3]), (6, [181, 0, 110]), (9, [27]), (10, [154, 0, 9]), (19, [42]), (20, [180, 0, 59]), (23, [42]), (24, [180, 0, 12]), (27, [3]), (28, [182, 1, 12]), (31, [17, 1, 0]), (34, [104]), (35, [42]), (36, [180, 0, 12]), (39, [4]), (40, [182, 1, 12]), (43, [96]), (44, [181, 0, 147]), (47, [42]), (48, [180, 0, 59]), (51, [42]), (52, [180, 0, 12]), (55, [5]), (56, [182, 1, 12]), (59, [181, 0, 150]), (62, [42]), (63, [180, 0, 59]), (66, [3]), (67, [181, 0, 153]), (70, [3]), (71, [61]), (72, [28]), (73, [42]), (74, [180, 0, 59]), (77, [180, 0, 144]), (80, [162, 0, 77]), (157, [42])] = true := by decide +kernel
theorem dX11_on_19 : decode cX11_on 19 = .ok (.istore_n 1, 1) := q_istore_n1 (bat_get dg_X11_on_19_19 0 rfl rfl)
theorem dX11_on_20 : decode cX11_on 20 = .ok (.aload_n 0, 1) := q_aload_n0 (bat_get dg_X11_on_19_19 1 rfl rfl)
theorem dX11_on_21 : decode cX11_on 21 = .ok (.getfield 12, 3) := q_getfield (bat_get dg_X11_on_19_19 2 rfl rfl) rfl
theorem dX11_on_24 : decode cX11_on 24 = .ok (.iconst 0, 1) := q_iconst0 (bat_get dg_X11_on_19_19 3 rfl rfl)
theorem dX11_on_25 : decode cX11_on 25 = .ok (.putfield 110, 3) := q_putfield (bat_get dg_X11_on_19_19 4 rfl rfl) rfl
theorem dX11_on_28 : decode cX11_on 28 = .ok (.iload_n 1, 1) := q_iload_n1 (bat_get dg_X11_on_19_19 5 rfl rfl)
theorem dX11_on_29 : decode cX11_on 29 = .ok (.ifCond .ne 9, 3) := q_ifCond_ne (bat_get dg_X11_on_19_19 6 rfl rfl) rfl
theorem dX11_on_38 : decode cX11_on 38 = .ok (.aload_n 0, 1) := q_aload_n0 (bat_get dg_X11_on_19_19 7 rfl rfl)
theorem dX11_on_39 : decode cX11_on 39 = .ok (.getfield 59, 3) := q_getfield (bat_get dg_X11_on_19_19 8 rfl rfl) rfl
theorem dX11_on_42 : decode cX11_on 42 = .ok (.aload_n 0, 1) := q_aload_n0 (bat_get dg_X11_on_19_19 9 rfl rfl)
theorem dX11_on_43 : decode cX11_on 43 = .ok (.getfield 12, 3) := q_getfield (bat_get dg_X11_on_19_19 10 rfl rfl) rfl
theorem dX11_on_46 : decode cX11_on 46 = .ok (.iconst 0, 1) := q_iconst0 (bat_get dg_X11_on_19_19 11 rfl rfl)
theorem dX11_on_47 : decode cX11_on 47 = .ok (.invokevirtual 268, 3) := q_invokevirtual (bat_get dg_X11_on_19_19 12 rfl rfl) rfl
theorem dX11_on_50 : decode cX11_on 50 = .ok (.sipush 256, 3) := q_sipush (bat_get dg_X11_on_19_19 13 rfl rfl) rfl
theorem dX11_on_53 : decode cX11_on 53 = .ok (.imul, 1) := q_imul (bat_get dg_X11_on_19_19 14 rfl rfl)
theorem dX11_on_54 : decode cX11_on 54 = .ok (.aload_n 0, 1) := q_aload_n0 (bat_get dg_X11_on_19_19 15 rfl rfl)
theorem dX11_on_55 : decode cX11_on 55 = .ok (.getfield 12, 3) := q_getfield (bat_get dg_X11_on_19_19 16 rfl rfl) rfl
theorem dX11_on_58 : decode cX11_on 58 = .ok (.iconst 1, 1) := q_iconst1 (bat_get dg_X11_on_19_19 17 rfl rfl)
theorem dX11_on_59 : decode cX11_on 59 = .ok (.invokevirtual 268, 3) := q_invokevirtual (bat_get dg_X11_on_19_19 18 rfl rfl) rfl
theorem dX11_on_62 : decode cX11_on 62 = .ok (.iadd, 1) := q_iadd (bat_get dg_X11_on_19_19 19 rfl rfl)
theorem dX11_on_63 : decode cX11_on 63 = .ok (.putfield 147, 3) := q_putfield (bat_get dg_X11_on_19_19 20 rfl rfl) rfl
theorem dX11_on_66 : decode cX11_on 66 = .ok (.aload_n 0, 1) := q_aload_n0 (bat_get dg_X11_on_19_19 21 rfl rfl)
theorem dX11_on_67 : decode cX11_on 67 = .ok (.getfield 59, 3) := q_getfield (bat_get dg_X11_on_19_19 22 rfl rfl) rfl
theorem dX11_on_70 : decode cX11_on 70 = .ok (.aload_n 0, 1) := q_aload_n0 (bat_get dg_X11_on_19_19 23 rfl rfl)
theorem dX11_on_71 : decode cX11_on 71 = .ok (.getfield 12, 3) := q_getfield (bat_get dg_X11_on_19_19 24 rfl rfl) rfl
theorem dX11_on_74 : decode cX11_on 74 = .ok (.iconst 2, 1) := q_iconst2 (bat_get dg_X11_on_19_19 25 rfl rfl)
theorem dX11_on_75 : decode cX11_on 75 = .ok (.invokevirtual 268, 3) := q_invokevirtual (bat_get dg_X11_on_19_19 26 rfl rfl) rfl
theorem dX11_on_78 : decode cX11_on 78 = .ok (.putfield 150, 3) := q_putfield (bat_get dg_X11_on_19_19 27 rfl rfl) rfl
theorem dX11_on_81 : decode cX11_on 81 = .ok (.aload_n 0, 1) := q_aload_n0 (bat_get dg_X11_on_19_19 28 rfl rfl)
theorem dX11_on_82 : decode cX11_on 82 = .ok (.getfield 59, 3) := q_getfield (bat_get dg_X11_on_19_19 29 rfl rfl) rfl
theorem dX11_on_85 : decode cX11_on 85 = .ok (.iconst 0, 1) := q_iconst0 (bat_get dg_X11_on_19_19 30 rfl rfl)
theorem dX11_on_86 : decode cX11_on 86 = .ok (.putfield 153, 3) := q_putfield (bat_get dg_X11_on_19_19 31 rfl rfl) rfl
theorem dX11_on_89 : decode cX11_on 89 = .ok (.iconst 0, 1) := q_iconst0 (bat_get dg_X11_on_19_19 32 rfl rfl)
theorem dX11_on_90 : decode cX11_on 90 = .ok (.istore_n 2, 1) := q_istore_n2 (bat_get dg_X11_on_19_19 33 rfl rfl)
theorem dX11_on_91 : decode cX11_on 91 = .ok (.iload_n 2, 1) := q_iload_n2 (bat_get dg_X11_on_19_19 34 rfl rfl)
theorem dX11_on_92 : decode cX11_on 92 = .ok (.aload_n 0, 1) := q_aload_n0 (bat_get dg_X11_on_19_19 35 rfl rfl)
theorem dX11_on_93 : decode cX11_on 93 = .ok (.getfield 59, 3) := q_getfield (bat_get dg_X11_on_19_19 36 rfl rfl) rfl
theorem dX11_on_96 : decode cX11_on 96 = .ok (.getfield 144, 3) := q_getfield (bat_get dg_X11_on_19_19 37 rfl rfl) rfl
theorem dX11_on_99 : decode cX11_on 99 = .ok (.if_icmp .ge 77, 3) := q_if_icmp_ge (bat_get dg_X11_on_19_19 38 rfl rfl) rfl
theorem dX11_on_176 : decode cX11_on 176 = .ok (.aload_n 0, 1) := q_aload_n0 (bat_get dg_X11_on_19_19 39 rfl rfl)
theorem dg_X11_on_102_177 : bqL cX11_on 102 [(75, [180, 0, 59]), (78, [3]), (79, [181, 0, 161]), (82, [42]), (83, [180, 0, 69]), (86, [182, 0, 134]), (89, [4]), (90, [172]), (0, [42]), (1, [180, 0, 59]), (4, [180, 0, 173]), (7, [28]), (8, [42]), (9, [180, 0, 12]), (12, [6]), (13, [28]), (14, [104]), (15, [6]), (16, [96]), (17, [182, 1, 12]), (20, [79]), (21, [42]), (22, [180, 0, 59]), (25, [180, 0, 176]), (28, [28]), (29, [42]), (30, [180, 0, 12]), (33, [6]), (34, [28]), (35, [104]), (36, [7]), (37, [96]), (38, [182, 1, 12]), (41, [79]), (42, [42]), (43, [180, 0, 59]), (46, [89]), (47, [180, 0, 153]), (50, [42]), (51, [180, 0, 12])] = true := by decide +kernel
theorem dX11_on_177 : decode cX11_on 177 = .ok (.getfield 59, 3) := q_getfield (bat_get dg_X11_on_102_177 0 rfl rfl) rfl
theorem dX11_on_180 : decode cX11_on 180 = .ok (.iconst 0, 1) := q_iconst0 (bat_get dg_X11_on_102_177 1 rfl rfl)
theorem dX11_on_181 : decode cX11_on 181 = .ok (.putfield 161, 3) := q_putfield (bat_get dg_X11_on_102_177 2 rfl rfl) rfl
theorem dX11_on_184 : decode cX11_on 184 = .ok (.aload_n 0, 1) := q_aload_n0 (bat_get dg_X11_on_102_177 3 rfl rfl)
theorem dX11_on_185 : decode cX11_on 185 = .ok (.getfield 69, 3) := q_getfield (bat_get dg_X11_on_102_177 4 rfl rfl) rfl
theorem dX11_on_188 : decode cX11_on 188 = .ok (.invokevirtual 134, 3) := q_invokevirtual (bat_get dg_X11_on_102_177 5 rfl rfl) rfl
theorem dX11_on_191 : decode cX11_on 191 = .ok (.iconst 1, 1) := q_iconst1 (bat_get dg_X11_on_102_177 6 rfl rfl)
theorem dX11_on_192 : decode cX11_on 192 = .ok (.ireturn, 1) := q_ireturn (bat_get dg_X11_on_102_177 7 rfl rfl)
theorem dX11_on_102 : decode cX11_on 102 = .ok (.aload_n 0, 1) := q_aload_n0 (bat_get dg_X11_on_102_177 8 rfl rfl)
theorem dX11_on_103 : decode cX11_on 103 = .ok (.getfield 59, 3) := q_getfield (bat_get dg_X11_on_102_177 9 rfl rfl) rfl
theorem dX11_on_106 : decode cX11_on 106 = .ok (.getfield 173, 3) := q_getfield (bat_get dg_X11_on_102_177 10 rfl rfl) rfl
theorem dX11_on_109 : decode cX11_on 109 = .ok (.iload_n 2, 1) := q_iload_n2 (bat_get dg_X11_on_102_177 11 rfl rfl)
theorem dX11_on_110 : decode cX11_on 110 = .ok (.aload_n 0, 1) := q_aload_n0 (bat_get dg_X11_on_102_177 12 rfl rfl)
theorem dX11_on_111 : decode cX11_on 111 = .ok (.getfield 12, 3) := q_getfield (bat_get dg_X11_on_102_177 13 rfl rfl) rfl
theorem dX11_on_114 : decode cX11_on 114 = .ok (.iconst 3, 1) := q_iconst3 (bat_get dg_X11_on_102_177 14 rfl rfl)
theorem dX11_on_115 : decode cX11_on 115 = .ok (.iload_n 2, 1) := q_iload_n2 (bat_get dg_X11_on_102_177 15 rfl rfl)
theorem dX11_on_116 : decode cX11_on 116 = .ok (.imul, 1) := q_imul (bat_get dg_X11_on_102_177 16 rfl rfl)
theorem dX11_on_117 : decode cX11_on 117 = .ok (.iconst 3, 1) := q_iconst3 (bat_get dg_X11_on_102_177 17 rfl rfl)
theorem dX11_on_118 : decode cX11_on 118 = .ok (.iadd, 1) := q_iadd (bat_get dg_X11_on_102_177 18 rfl rfl)
theorem dX11_on_119 : decode cX11_on 119 = .ok (.invokevirtual 268, 3) := q_invokevirtual (bat_get dg_X11_on_102_177 19 rfl rfl) rfl
theorem dX11_on_122 : decode cX11_on 122 = .ok (.iastore, 1) := q_iastore (bat_get dg_X11_on_102_177 20 rfl rfl)
theorem dX11_on_123 : decode cX11_on 123 = .ok (.aload_n 0, 1) := q_aload_n0 (bat_get dg_X11_on_102_177 21 rfl rfl)
theorem dX11_on_124 : decode cX11_on 124 = .ok (.getfield 59, 3) := q_getfield (bat_get dg_X11_on_102_177 22 rfl rfl) rfl
theorem dX11_on_127 : decode cX11_on 127 = .ok (.getfield 176, 3) := q_getfield (bat_get dg_X11_on_102_177 23 rfl rfl) rfl
theorem dX11_on_130 : decode cX11_on 130 = .ok (.iload_n 2, 1) := q_iload_n2 (bat_get dg_X11_on_102_177 24 rfl rfl)
theorem dX11_on_131 : decode cX11_on 131 = .ok (.aload_n 0, 1) := q_aload_n0 (bat_get dg_X11_on_102_177 25 rfl rfl)
theorem dX11_on_132 : decode cX11_on 132 = .ok (.getfield 12, 3) := q_getfield (bat_get dg_X11_on_102_177 26 rfl rfl) rfl
theorem dX11_on_135 : decode cX11_on 135 = .ok (.iconst 3, 1) := q_iconst3 (bat_get dg_X11_on_102_177 27 rfl rfl)
theorem dX11_on_136 : decode cX11_on 136 = .ok (.iload_n 2, 1) := q_iload_n2 (bat_get dg_X11_on_102_177 28 rfl rfl)
theorem dX11_on_137 : decode cX11_on 137 = .ok (.imul, 1) := q_imul (bat_get dg_X11_on_102_177 29 rfl rfl)
theorem dX11_on_138 : decode cX11_on 138 = .ok (.iconst 4, 1) := q_iconst4 (bat_get dg_X11_on_102_177 30 rfl rfl)
theorem dX11_on_139 : decode cX11_on 139 = .ok (.iadd, 1) := q_iadd (bat_get dg_X11_on_102_177 31 rfl rfl)
theorem dX11_on_140 : decode cX11_on 140 = .ok (.invokevirtual 268, 3) := q_invokevirtual (bat_get dg_X11_on_102_177 32 rfl rfl) rfl
theorem dX11_on_143 : decode cX11_on 143 = .ok (.iastore, 1) := q_iastore (bat_get dg_X11_on_102_177 33 rfl rfl)
theorem dX11_on_144 : decode cX11_on 144 = .ok (.aload_n 0, 1) := q_aload_n0 (bat_get dg_X11_on_102_177 34 rfl rfl)
theorem dX11_on_145 : decode cX11_on 145 = .ok (.getfield 59, 3) := q_getfield (bat_get dg_X11_on_102_177 35 rfl rfl) rfl
theorem dX11_on_148 : decode cX11_on 148 = .ok (.dup, 1) := q_dup (bat_get dg_X11_on_102_177 36 rfl rfl)
theorem dX11_on_149 : decode cX11_on 149 = .ok (.getfield 153, 3) := q_getfield (bat_get dg_X11_on_102_177 37 rfl rfl) rfl
theorem dX11_on_152 : decode cX11_on 152 = .ok (.aload_n 0, 1) := q_aload_n0 (bat_get dg_X11_on_102_177 38 rfl rfl)
theorem dX11_on_153 : decode cX11_on 153 = .ok (.getfield 12, 3) := q_getfield (bat_get dg_X11_on_102_177 39 rfl rfl) rfl
theorem dg_X11_on_0_156 : bqL cX11_on 0 [(156, [6]), (157, [28]), (158, [104]), (159, [8]), (160, [96]), (161, [182, 1, 12]), (164, [28]), (165, [120]), (166, [128]), (167, [181, 0, 153]), (170, [132, 2, 1]), (173, [167, 255, 174]), (32, [42]), (33, [8]), (34, [182, 0, 120]), (37, [172]), (0, [42]), (1, [182, 0, 204]), (4, [153, 0, 14]), (18, [3]), (7, [42]), (8, [182, 1, 60]), (11, [153, 0, 7]), (14, [4]), (15, [167, 0, 4])] = true := by decide +kernel
theorem dX11_on_156 : decode cX11_on 156 = .ok (.iconst 3, 1) := q_iconst3 (bat_get dg_X11_on_0_156 0 rfl rfl)
theorem dX11_on_157 : decode cX11_on 157 = .ok (.iload_n 2, 1) := q_iload_n2 (bat_get dg_X11_on_0_156 1 rfl rfl)
theorem dX11_on_158 : decode cX11_on 158 = .ok (.imul, 1) := q_imul (bat_get dg_X11_on_0_156 2 rfl rfl)
theorem dX11_on_159 : decode cX11_on 159 = .ok (.iconst 5, 1) := q_iconst5 (bat_get dg_X11_on_0_156 3 rfl rfl)
theorem dX11_on_160 : decode cX11_on 160 = .ok (.iadd, 1) := q_iadd (bat_get dg_X11_on_0_156 4 rfl rfl)
theorem dX11_on_161 : decode cX11_on 161 = .ok (.invokevirtual 268, 3) := q_invokevirtual (bat_get dg_X11_on_0_156 5 rfl rfl) rfl
theorem dX11_on_164 : decode cX11_on 164 = .ok (.iload_n 2, 1) := q_iload_n2 (bat_get dg_X11_on_0_156 6 rfl rfl)
theorem dX11_on_165 : decode cX11_on 165 = .ok (.ishl, 1) := q_ishl (bat_get dg_X11_on_0_156 7 rfl rfl)
theorem dX11_on_166 : decode cX11_on 166 = .ok (.ior, 1) := q_ior (bat_get dg_X11_on_0_156 8 rfl rfl)
theorem dX11_on_167 : decode cX11_on 167 = .ok (.putfield 153, 3) := q_putfield (bat_get dg_X11_on_0_156 9 rfl rfl) rfl
theorem dX11_on_170 : decode cX11_on 170 = .ok (.iinc 2 1, 3) := q_iinc (bat_get dg_X11_on_0_156 10 rfl rfl) rfl
theorem dX11_on_173 : decode cX11_on 173 = .ok (.goto (-82), 3) := q_goto (bat_get dg_X11_on_0_156 11 rfl rfl) rfl
theorem dX11_on_32 : decode cX11_on 32 = .ok (.aload_n 0, 1) := q_aload_n0 (bat_get dg_X11_on_0_156 12 rfl rfl)
theorem dX11_on_33 : decode cX11_on 33 = .ok (.iconst 5, 1) := q_iconst5 (bat_get dg_X11_on_0_156 13 rfl rfl)
theorem dX11_on_34 : decode cX11_on 34 = .ok (.invokevirtual 120, 3) := q_invokevirtual (bat_get dg_X11_on_0_156 14 rfl rfl) rfl
theorem dX11_on_37 : decode cX11_on 37 = .ok (.ireturn, 1) := q_ireturn (bat_get dg_X11_on_0_156 15 rfl rfl)
theorem dX11_on_0 : decode cX11_on 0 = .ok (.aload_n 0, 1) := q_aload_n0 (bat_get dg_X11_on_0_156 16 rfl rfl)
theorem dX11_on_1 : decode cX11_on 1 = .ok (.invokevirtual 204, 3) := q_invokevirtual (bat_get dg_X11_on_0_156 17 rfl rfl) rfl
theorem dX11_on_4 : decode cX11_on 4 = .ok (.ifCond .eq 14, 3) := q_ifCond_eq (bat_get dg_X11_on_0_156 18 rfl rfl) rfl
theorem dX11_on_18 : decode cX11_on 18 = .ok (.iconst 0, 1) := q_iconst0 (bat_get dg_X11_on_0_156 19 rfl rfl)
theorem dX11_on_7 : decode cX11_on 7 = .ok (.aload_n 0, 1) := q_aload_n0 (bat_get dg_X11_on_0_156 20 rfl rfl)
theorem dX11_on_8 : decode cX11_on 8 = .ok (.invokevirtual 316, 3) := q_invokevirtual (bat_get dg_X11_on_0_156 21 rfl rfl) rfl
theorem dX11_on_11 : decode cX11_on 11 = .ok (.ifCond .eq 7, 3) := q_ifCond_eq (bat_get dg_X11_on_0_156 22 rfl rfl) rfl
theorem dX11_on_14 : decode cX11_on 14 = .ok (.iconst 1, 1) := q_iconst1 (bat_get dg_X11_on_0_156 23 rfl rfl)
theorem dX11_on_15 : decode cX11_on 15 = .ok (.goto 4, 3) := q_goto (bat_get dg_X11_on_0_156 24 rfl rfl) rfl
theorem w_3_155 : (Cond.methodLink RX11 134 yX4_forget) ∈ wsL_law := sk_mem (ck_3 _ (List.mem_of_getElem? (i := 155) rfl)) rfl
theorem w_3_156 : (Cond.instanceMethod yX4_forget) ∈ wsL_law := sk_mem (ck_3 _ (List.mem_of_getElem? (i := 156) rfl)) rfl
theorem w_3_157 : (Cond.selects RX4 yX4_forget yX4_forget) ∈ wsL_law := sk_mem (ck_3 _ (List.mem_of_getElem? (i := 157) rfl)) rfl
theorem w_5_141 : (Cond.methodLink RX11 316 yX11_tellsImage) ∈ wsL_law := sk_mem (ck_5 _ (List.mem_of_getElem? (i := 141) rfl)) rfl
theorem w_5_143 : (Cond.instanceMethod yX11_tellsImage) ∈ wsL_law := sk_mem (ck_5 _ (List.mem_of_getElem? (i := 143) rfl)) rfl
theorem w_0_40 : (Cond.selects RX11 yX11_tellsImage yX11_tellsImage) ∈ wsL_law := sk_mem (ck_0 _ (List.mem_of_getElem? (i := 40) rfl)) rfl
theorem w_5_140 : (Cond.code yX11_on cX11_on 3 (some .boolean)) ∈ wsL_law := sk_mem (ck_5 _ (List.mem_of_getElem? (i := 140) rfl)) rfl
def om_8_60 : List Bool := false :: true :: true :: false :: false :: false :: false :: false :: []
def om_8_2 : List Bool := false :: false :: false :: false :: false :: false :: true :: false :: []
def om_8_81 : List Bool := true :: false :: false :: false :: false :: false :: false :: true :: []
def om_8_90 : List Bool := true :: false :: false :: true :: false :: false :: false :: false :: []
theorem hd_X4_forget_0 : skD yX4_forget 0 := by decide +kernel
theorem hd_X11_tellsImage_0 : skD yX11_tellsImage 0 := by decide +kernel
set_option maxHeartbeats 4000000 in
set_option maxRecDepth 100000 in
theorem c_ky_on (l : Launch) (D : va_G) (cI cJ cC cZ cS : ClassId) (x0 : Nat) (q : Nat → Nat) (hc : Int32) (dr : Int64) (tl : Nat) (tb : Nat → Nat) (dy : Nat) (wn : Nat) (mo : Nat) (ke : Nat) (mu : Int32) (fb : Nat → Int32) (fw : Nat → Int32) (Ba : Nat → Nat) (We : Nat → Nat) (U : Nat → Bool) (ac : Nat) (rf : Nat → Int32) (htl : tl ≤ 1600) (htb : ∀ j, tb j ≤ 255) (hdy : dy ≤ 9) (hmo : mo ≤ 9) (hfb : ∀ j, j < 9 → fb j = nI (Ba j)) (hfw : ∀ j, j < 9 → fw j = nI (We j)) (hB9 : ∀ j, Ba j ≤ 9) (hW9 : ∀ j, We j ≤ 9) (hU : muO U mu) : skM l yX11_on cX11_on 3 (some .boolean) 3 66 0 0 D (skT cI cJ cC cZ cS) [.ref x0] [(x0, .inr (11, [.ref (q 0), .ref (q 1), .ref (q 2), .ref (q 3), .ref (q 4), .ref (q 5), .ref (q 6), .ref (q 7), .ref (q 8), .ref (q 9), .ref (q 10), .ref (q 11), .ref (q 12), .ref (q 13), .ref (q 14), .int hc, .ref (q 16), .long dr])), (q 0, .inr (10, [.ref (q 20), .int (nI tl)])), (q 20, .inl (cI, 1600, .inl (fun j => nI (tb j)))), (q 7, .inr (7, [.ref (q 33), .ref (q 34), .int (nI dy), .int (nI wn), .int (nI mo), .int mu, .int (nI ke)])), (q 33, .inl (cI, 9, .inl fb)), (q 34, .inl (cI, 9, .inl fw)), (q 9, .inr (4, [.ref (q 35), .int (nI ac), .ref (q 36), .ref (q 37), .ref (q 38)])), (q 16, .inl (cI, 6, .inl rf))] (skI D (skT cI cJ cC cZ cS) (fun (r : Int32) (u : va_W) => ∃ (wn2 : Nat), ∃ (mo2 : Nat), ∃ (ke2 : Nat), ∃ (ac2 : Nat), ∃ (mu2 : Int32), ∃ (fb2 : Nat → Int32), ∃ (fw2 : Nat → Int32), ∃ (Ba2 : Nat → Nat), ∃ (We2 : Nat → Nat), ∃ (U2 : Nat → Bool), ∃ (rf2 : Nat → Int32), (∀ j, j < 9 → fb2 j = nI (Ba2 j)) ∧ (∀ j, j < 9 → fw2 j = nI (We2 j)) ∧ muO U2 mu2 ∧ ac2 ≤ ac ∧ mo2 ≤ 9 ∧ ke2 ≤ ke ∧ onR dy tb tl (wn, mo, Ba, We, U, ke) ac rf r (wn2, mo2, Ba2, We2, U2, ke2) ac2 rf2 ∧ u = [(x0, .inr (11, [.ref (q 0), .ref (q 1), .ref (q 2), .ref (q 3), .ref (q 4), .ref (q 5), .ref (q 6), .ref (q 7), .ref (q 8), .ref (q 9), .ref (q 10), .ref (q 11), .ref (q 12), .ref (q 13), .ref (q 14), .int hc, .ref (q 16), .long dr])), (q 0, .inr (10, [.ref (q 20), .int 0])), (q 20, .inl (cI, 1600, .inl (fun j => nI (tb j)))), (q 7, .inr (7, [.ref (q 33), .ref (q 34), .int (nI dy), .int (nI wn2), .int (nI mo2), .int mu2, .int (nI ke2)])), (q 33, .inl (cI, 9, .inl fb2)), (q 34, .inl (cI, 9, .inl fw2)), (q 9, .inr (4, [.ref (q 35), .int (nI ac2), .ref (q 36), .ref (q 37), .ref (q 38)])), (q 16, .inl (cI, 6, .inl rf2))])) := by
  refine skM_of pf_X11_on (Nat.le_of_ble_eq_true rfl) ?_
  intro p e s m below meth c A ls E hP hD hl
  refine skE_el E (fun hx hb hr hml hlocks hin hown hts hK hA => ?_)
  have hown : s.vm.findClass RX11 = some m.cls := hown
  have hS : va_S A s.heap s.heap [] := va_S.rf
  have hl : lv_has ls 3 [(0, .ref x0)] := hl
  have jn_1 : ∀ (bq : Nat) (H : Heap) (locs : List Loc) (ls : Array Slot), (bq ≤ 1) → ((bq = 0 ∧ ¬ (1 ≤ dy ∧ imgO tb tl dy)) ∨ (bq = 1 ∧ 1 ≤ dy ∧ imgO tb tl dy)) → va_P D vwCl [(x0, .inr (11, [.ref (q 0), .ref (q 1), .ref (q 2), .ref (q 3), .ref (q 4), .ref (q 5), .ref (q 6), .ref (q 7), .ref (q 8), .ref (q 9), .ref (q 10), .ref (q 11), .ref (q 12), .ref (q 13), .ref (q 14), .int hc, .ref (q 16), .long dr])), (q 0, .inr (10, [.ref (q 20), .int (nI tl)])), (q 20, .inl (cI, 1600, .inl (fun j => nI (tb j)))), (q 7, .inr (7, [.ref (q 33), .ref (q 34), .int (nI dy), .int (nI wn), .int (nI mo), .int mu, .int (nI ke)])), (q 33, .inl (cI, 9, .inl fb)), (q 34, .inl (cI, 9, .inl fw)), (q 9, .inr (4, [.ref (q 35), .int (nI ac), .ref (q 36), .ref (q 37), .ref (q 38)])), (q 16, .inl (cI, 6, .inl rf))] H → va_D A [(x0, .inr (11, [.ref (q 0), .ref (q 1), .ref (q 2), .ref (q 3), .ref (q 4), .ref (q 5), .ref (q 6), .ref (q 7), .ref (q 8), .ref (q 9), .ref (q 10), .ref (q 11), .ref (q 12), .ref (q 13), .ref (q 14), .int hc, .ref (q 16), .long dr])), (q 0, .inr (10, [.ref (q 20), .int (nI tl)])), (q 20, .inl (cI, 1600, .inl (fun j => nI (tb j)))), (q 7, .inr (7, [.ref (q 33), .ref (q 34), .int (nI dy), .int (nI wn), .int (nI mo), .int mu, .int (nI ke)])), (q 33, .inl (cI, 9, .inl fb)), (q 34, .inl (cI, 9, .inl fw)), (q 9, .inr (4, [.ref (q 35), .int (nI ac), .ref (q 36), .ref (q 37), .ref (q 38)])), (q 16, .inl (cI, 6, .inl rf))] → va_S A s.heap H locs → lv_has ls 3 [(0, .ref x0)] → W p l e { frames := 3, cells := 0, slots := 0, locals := 66 } s m ([.ref x0] : List Value).toArray below meth c H locs 0 0 (MQ below (skI D (skT cI cJ cC cZ cS) (fun (r : Int32) (u : va_W) => ∃ (wn2 : Nat), ∃ (mo2 : Nat), ∃ (ke2 : Nat), ∃ (ac2 : Nat), ∃ (mu2 : Int32), ∃ (fb2 : Nat → Int32), ∃ (fw2 : Nat → Int32), ∃ (Ba2 : Nat → Nat), ∃ (We2 : Nat → Nat), ∃ (U2 : Nat → Bool), ∃ (rf2 : Nat → Int32), (∀ j, j < 9 → fb2 j = nI (Ba2 j)) ∧ (∀ j, j < 9 → fw2 j = nI (We2 j)) ∧ muO U2 mu2 ∧ ac2 ≤ ac ∧ mo2 ≤ 9 ∧ ke2 ≤ ke ∧ onR dy tb tl (wn, mo, Ba, We, U, ke) ac rf r (wn2, mo2, Ba2, We2, U2, ke2) ac2 rf2 ∧ u = [(x0, .inr (11, [.ref (q 0), .ref (q 1), .ref (q 2), .ref (q 3), .ref (q 4), .ref (q 5), .ref (q 6), .ref (q 7), .ref (q 8), .ref (q 9), .ref (q 10), .ref (q 11), .ref (q 12), .ref (q 13), .ref (q 14), .int hc, .ref (q 16), .long dr])), (q 0, .inr (10, [.ref (q 20), .int 0])), (q 20, .inl (cI, 1600, .inl (fun j => nI (tb j)))), (q 7, .inr (7, [.ref (q 33), .ref (q 34), .int (nI dy), .int (nI wn2), .int (nI mo2), .int mu2, .int (nI ke2)])), (q 33, .inl (cI, 9, .inl fb2)), (q 34, .inl (cI, 9, .inl fw2)), (q 9, .inr (4, [.ref (q 35), .int (nI ac2), .ref (q 36), .ref (q 37), .ref (q 38)])), (q 16, .inl (cI, 6, .inl rf2))]) A) ([.ref x0] : List Value).toArray s 0 0 A) (F0 m 19 ls [.int (nI bq)]) := by
    intro bq H locs ls hbq1 hbq3 hP hD hS hl
    refine lv_istore_n (lv' := [(1, .int (nI bq)), (0, .ref x0)]) hx hb dX11_on_19 rfl hl (by decide) rfl (fun ls hl => ?_)
    refine lv_aload_n hx hb dX11_on_20 rfl (lv_at hl 1 rfl) ?_
    refine sk_get (v := .ref (q 0)) (C := RX11) (T := TX11) (N := 18) hx hb hts inlX11 hown hK hP 0 rfl rfl 0 (by decide) w_2_123 rfl dX11_on_21 ?_
    refine lv_iconst (v := 0) hx hb dX11_on_24 (by decide) ?_
    refine sk_put (ws' := [(x0, .inr (11, [.ref (q 0), .ref (q 1), .ref (q 2), .ref (q 3), .ref (q 4), .ref (q 5), .ref (q 6), .ref (q 7), .ref (q 8), .ref (q 9), .ref (q 10), .ref (q 11), .ref (q 12), .ref (q 13), .ref (q 14), .int hc, .ref (q 16), .long dr])), (q 0, .inr (10, [.ref (q 20), .int 0])), (q 20, .inl (cI, 1600, .inl (fun j => nI (tb j)))), (q 7, .inr (7, [.ref (q 33), .ref (q 34), .int (nI dy), .int (nI wn), .int (nI mo), .int mu, .int (nI ke)])), (q 33, .inl (cI, 9, .inl fb)), (q 34, .inl (cI, 9, .inl fw)), (q 9, .inr (4, [.ref (q 35), .int (nI ac), .ref (q 36), .ref (q 37), .ref (q 38)])), (q 16, .inl (cI, 6, .inl rf))]) (C := RX10) (T := TX10) (N := 2) (v := .int 0) hx hb hts inlX10 tyX10 tyX10_ok nmX10 hown hK hP hD hS 1 rfl rfl 1 (by decide) w_1_42 rfl rfl rfl (Nat.le_of_ble_eq_true rfl) rfl dX11_on_25 (fun H locs hP hD hS => ?_)
    refine lv_iload_n hx hb dX11_on_28 rfl (lv_at hl 0 rfl) ?_
    refine lv_if_ne (tgt := 38) hx hb dX11_on_29 (by decide) (fun c_2 => ?_) (fun c_2 => ?_)
    · have c_2 : ¬ (bq = 0) := fun h => c_2 ((neq bq 0 (by omega) (by omega)).mpr h)
      have hcc := rr_1 hbq3 (by omega)
      refine lv_aload_n hx hb dX11_on_38 rfl (lv_at hl 1 rfl) ?_
      refine sk_get (v := .ref (q 7)) (C := RX11) (T := TX11) (N := 18) hx hb hts inlX11 hown hK hP 0 rfl rfl 7 (by decide) w_2_130 rfl dX11_on_39 ?_
      refine lv_aload_n hx hb dX11_on_42 rfl (lv_at hl 1 rfl) ?_
      refine sk_get (v := .ref (q 0)) (C := RX11) (T := TX11) (N := 18) hx hb hts inlX11 hown hK hP 0 rfl rfl 0 (by decide) w_2_123 rfl dX11_on_43 ?_
      refine lv_iconst (v := 0) hx hb dX11_on_46 (by decide) ?_
      refine sk_Vi (q0 := 0) (n := 1) (rest := [.ref (q 7)]) (wr := fmR om_8_60 _) ⟨hx, hb, hml, hown, hts⟩ hl.1 (c_Tape_leftN l D cI cJ cC cZ cS (q 0) (q 20) 0 tb 0 (by omega) htb (by omega)) w_4_214 w_4_215 w_4_216 w_1_2 w_4_217 hd_X10_left_1 ⟨⟨(Nat.le_of_ble_eq_true rfl), (Nat.le_of_ble_eq_true rfl)⟩, (Nat.le_of_ble_eq_true rfl), (Nat.le_of_ble_eq_true rfl)⟩ hK hP hD hS hA (fmT om_8_60 0) (fmF om_8_60 0) (fm_C1 rfl rfl) (fm_R rfl rfl) (fm_nT om_8_60 0) (fm_nF om_8_60 0) (fm_di om_8_60 0) rfl rfl rfl rfl (Nat.le_of_ble_eq_true rfl) dX11_on_47 (fun r_3 u H locs hw hP hD hS => ?_)
      refine anE hw (fun hv_4 hw1 => anE hw1 (fun er_6 eu_5 => ?_))
      clear hw hw1
      subst er_6
      refine o_mgE (ws' := [(x0, .inr (11, [.ref (q 0), .ref (q 1), .ref (q 2), .ref (q 3), .ref (q 4), .ref (q 5), .ref (q 6), .ref (q 7), .ref (q 8), .ref (q 9), .ref (q 10), .ref (q 11), .ref (q 12), .ref (q 13), .ref (q 14), .int hc, .ref (q 16), .long dr])), (q 0, .inr (10, [.ref (q 20), .int 0])), (q 20, .inl (cI, 1600, .inl (fun j => nI (tb j)))), (q 7, .inr (7, [.ref (q 33), .ref (q 34), .int (nI dy), .int (nI wn), .int (nI mo), .int mu, .int (nI ke)])), (q 33, .inl (cI, 9, .inl fb)), (q 34, .inl (cI, 9, .inl fw)), (q 9, .inr (4, [.ref (q 35), .int (nI ac), .ref (q 36), .ref (q 37), .ref (q 38)])), (q 16, .inl (cI, 6, .inl rf))]) eu_5 hP hD rfl (fun hP hD => ?_)
      refine lv_sipush (v := 256) hx hb dX11_on_50 (by decide) ?_
      refine lv_imul hx hb dX11_on_53 ?_
      refine sk_top (nI ((tb 0) * 256)) (nmul (tb 0) 256) ?_
      refine lv_aload_n hx hb dX11_on_54 rfl (lv_at hl 1 rfl) ?_
      refine sk_get (v := .ref (q 0)) (C := RX11) (T := TX11) (N := 18) hx hb hts inlX11 hown hK hP 0 rfl rfl 0 (by decide) w_2_123 rfl dX11_on_55 ?_
      refine lv_iconst (v := 1) hx hb dX11_on_58 (by decide) ?_
      refine sk_Vi (q0 := 0) (n := 1) (rest := [.int (nI ((tb 0) * 256)), .ref (q 7)]) (wr := fmR om_8_60 _) ⟨hx, hb, hml, hown, hts⟩ hl.1 (c_Tape_leftN l D cI cJ cC cZ cS (q 0) (q 20) 0 tb 1 (by omega) htb (by omega)) w_4_214 w_4_215 w_4_216 w_1_2 w_4_217 hd_X10_left_1 ⟨⟨(Nat.le_of_ble_eq_true rfl), (Nat.le_of_ble_eq_true rfl)⟩, (Nat.le_of_ble_eq_true rfl), (Nat.le_of_ble_eq_true rfl)⟩ hK hP hD hS hA (fmT om_8_60 0) (fmF om_8_60 0) (fm_C1 rfl rfl) (fm_R rfl rfl) (fm_nT om_8_60 0) (fm_nF om_8_60 0) (fm_di om_8_60 0) rfl rfl rfl rfl (Nat.le_of_ble_eq_true rfl) dX11_on_59 (fun r_7 u H locs hw hP hD hS => ?_)
      refine anE hw (fun hv_8 hw1 => anE hw1 (fun er_10 eu_9 => ?_))
      clear hw hw1
      subst er_10
      refine o_mgE (ws' := [(x0, .inr (11, [.ref (q 0), .ref (q 1), .ref (q 2), .ref (q 3), .ref (q 4), .ref (q 5), .ref (q 6), .ref (q 7), .ref (q 8), .ref (q 9), .ref (q 10), .ref (q 11), .ref (q 12), .ref (q 13), .ref (q 14), .int hc, .ref (q 16), .long dr])), (q 0, .inr (10, [.ref (q 20), .int 0])), (q 20, .inl (cI, 1600, .inl (fun j => nI (tb j)))), (q 7, .inr (7, [.ref (q 33), .ref (q 34), .int (nI dy), .int (nI wn), .int (nI mo), .int mu, .int (nI ke)])), (q 33, .inl (cI, 9, .inl fb)), (q 34, .inl (cI, 9, .inl fw)), (q 9, .inr (4, [.ref (q 35), .int (nI ac), .ref (q 36), .ref (q 37), .ref (q 38)])), (q 16, .inl (cI, 6, .inl rf))]) eu_9 hP hD rfl (fun hP hD => ?_)
      refine lv_iadd hx hb dX11_on_62 ?_
      refine sk_top (nI ((tb 0) * 256 + (tb 1))) (nI_add ((tb 0) * 256) (tb 1)) ?_
      refine sk_put (ws' := [(x0, .inr (11, [.ref (q 0), .ref (q 1), .ref (q 2), .ref (q 3), .ref (q 4), .ref (q 5), .ref (q 6), .ref (q 7), .ref (q 8), .ref (q 9), .ref (q 10), .ref (q 11), .ref (q 12), .ref (q 13), .ref (q 14), .int hc, .ref (q 16), .long dr])), (q 0, .inr (10, [.ref (q 20), .int 0])), (q 20, .inl (cI, 1600, .inl (fun j => nI (tb j)))), (q 7, .inr (7, [.ref (q 33), .ref (q 34), .int (nI dy), .int (nI ((tb 0) * 256 + (tb 1))), .int (nI mo), .int mu, .int (nI ke)])), (q 33, .inl (cI, 9, .inl fb)), (q 34, .inl (cI, 9, .inl fw)), (q 9, .inr (4, [.ref (q 35), .int (nI ac), .ref (q 36), .ref (q 37), .ref (q 38)])), (q 16, .inl (cI, 6, .inl rf))]) (C := RX7) (T := TX7) (N := 7) (v := .int (nI ((tb 0) * 256 + (tb 1)))) hx hb hts inlX7 tyX7 tyX7_ok nmX7 hown hK hP hD hS 3 rfl rfl 3 (by decide) w_2_6 rfl rfl rfl (Nat.le_of_ble_eq_true rfl) rfl dX11_on_63 (fun H locs hP hD hS => ?_)
      refine lv_aload_n hx hb dX11_on_66 rfl (lv_at hl 1 rfl) ?_
      refine sk_get (v := .ref (q 7)) (C := RX11) (T := TX11) (N := 18) hx hb hts inlX11 hown hK hP 0 rfl rfl 7 (by decide) w_2_130 rfl dX11_on_67 ?_
      refine lv_aload_n hx hb dX11_on_70 rfl (lv_at hl 1 rfl) ?_
      refine sk_get (v := .ref (q 0)) (C := RX11) (T := TX11) (N := 18) hx hb hts inlX11 hown hK hP 0 rfl rfl 0 (by decide) w_2_123 rfl dX11_on_71 ?_
      refine lv_iconst (v := 2) hx hb dX11_on_74 (by decide) ?_
      refine sk_Vi (q0 := 0) (n := 1) (rest := [.ref (q 7)]) (wr := fmR om_8_60 _) ⟨hx, hb, hml, hown, hts⟩ hl.1 (c_Tape_leftN l D cI cJ cC cZ cS (q 0) (q 20) 0 tb 2 (by omega) htb (by omega)) w_4_214 w_4_215 w_4_216 w_1_2 w_4_217 hd_X10_left_1 ⟨⟨(Nat.le_of_ble_eq_true rfl), (Nat.le_of_ble_eq_true rfl)⟩, (Nat.le_of_ble_eq_true rfl), (Nat.le_of_ble_eq_true rfl)⟩ hK hP hD hS hA (fmT om_8_60 0) (fmF om_8_60 0) (fm_C1 rfl rfl) (fm_R rfl rfl) (fm_nT om_8_60 0) (fm_nF om_8_60 0) (fm_di om_8_60 0) rfl rfl rfl rfl (Nat.le_of_ble_eq_true rfl) dX11_on_75 (fun r_11 u H locs hw hP hD hS => ?_)
      refine anE hw (fun hv_12 hw1 => anE hw1 (fun er_14 eu_13 => ?_))
      clear hw hw1
      subst er_14
      refine o_mgE (ws' := [(x0, .inr (11, [.ref (q 0), .ref (q 1), .ref (q 2), .ref (q 3), .ref (q 4), .ref (q 5), .ref (q 6), .ref (q 7), .ref (q 8), .ref (q 9), .ref (q 10), .ref (q 11), .ref (q 12), .ref (q 13), .ref (q 14), .int hc, .ref (q 16), .long dr])), (q 0, .inr (10, [.ref (q 20), .int 0])), (q 20, .inl (cI, 1600, .inl (fun j => nI (tb j)))), (q 7, .inr (7, [.ref (q 33), .ref (q 34), .int (nI dy), .int (nI ((tb 0) * 256 + (tb 1))), .int (nI mo), .int mu, .int (nI ke)])), (q 33, .inl (cI, 9, .inl fb)), (q 34, .inl (cI, 9, .inl fw)), (q 9, .inr (4, [.ref (q 35), .int (nI ac), .ref (q 36), .ref (q 37), .ref (q 38)])), (q 16, .inl (cI, 6, .inl rf))]) eu_13 hP hD rfl (fun hP hD => ?_)
      refine sk_put (ws' := [(x0, .inr (11, [.ref (q 0), .ref (q 1), .ref (q 2), .ref (q 3), .ref (q 4), .ref (q 5), .ref (q 6), .ref (q 7), .ref (q 8), .ref (q 9), .ref (q 10), .ref (q 11), .ref (q 12), .ref (q 13), .ref (q 14), .int hc, .ref (q 16), .long dr])), (q 0, .inr (10, [.ref (q 20), .int 0])), (q 20, .inl (cI, 1600, .inl (fun j => nI (tb j)))), (q 7, .inr (7, [.ref (q 33), .ref (q 34), .int (nI dy), .int (nI ((tb 0) * 256 + (tb 1))), .int (nI (tb 2)), .int mu, .int (nI ke)])), (q 33, .inl (cI, 9, .inl fb)), (q 34, .inl (cI, 9, .inl fw)), (q 9, .inr (4, [.ref (q 35), .int (nI ac), .ref (q 36), .ref (q 37), .ref (q 38)])), (q 16, .inl (cI, 6, .inl rf))]) (C := RX7) (T := TX7) (N := 7) (v := .int (nI (tb 2))) hx hb hts inlX7 tyX7 tyX7_ok nmX7 hown hK hP hD hS 3 rfl rfl 4 (by decide) w_2_10 rfl rfl rfl (Nat.le_of_ble_eq_true rfl) rfl dX11_on_78 (fun H locs hP hD hS => ?_)
      refine lv_aload_n hx hb dX11_on_81 rfl (lv_at hl 1 rfl) ?_
      refine sk_get (v := .ref (q 7)) (C := RX11) (T := TX11) (N := 18) hx hb hts inlX11 hown hK hP 0 rfl rfl 7 (by decide) w_2_130 rfl dX11_on_82 ?_
      refine lv_iconst (v := 0) hx hb dX11_on_85 (by decide) ?_
      refine sk_put (ws' := [(x0, .inr (11, [.ref (q 0), .ref (q 1), .ref (q 2), .ref (q 3), .ref (q 4), .ref (q 5), .ref (q 6), .ref (q 7), .ref (q 8), .ref (q 9), .ref (q 10), .ref (q 11), .ref (q 12), .ref (q 13), .ref (q 14), .int hc, .ref (q 16), .long dr])), (q 0, .inr (10, [.ref (q 20), .int 0])), (q 20, .inl (cI, 1600, .inl (fun j => nI (tb j)))), (q 7, .inr (7, [.ref (q 33), .ref (q 34), .int (nI dy), .int (nI ((tb 0) * 256 + (tb 1))), .int (nI (tb 2)), .int 0, .int (nI ke)])), (q 33, .inl (cI, 9, .inl fb)), (q 34, .inl (cI, 9, .inl fw)), (q 9, .inr (4, [.ref (q 35), .int (nI ac), .ref (q 36), .ref (q 37), .ref (q 38)])), (q 16, .inl (cI, 6, .inl rf))]) (C := RX7) (T := TX7) (N := 7) (v := .int 0) hx hb hts inlX7 tyX7 tyX7_ok nmX7 hown hK hP hD hS 3 rfl rfl 5 (by decide) w_2_12 rfl rfl rfl (Nat.le_of_ble_eq_true rfl) rfl dX11_on_86 (fun H locs hP hD hS => ?_)
      refine lv_iconst (v := 0) hx hb dX11_on_89 (by decide) ?_
      refine lv_istore_n (lv' := [(2, .int 0), (1, .int (nI bq)), (0, .ref x0)]) hx hb dX11_on_90 rfl hl (by decide) rfl (fun ls hl => ?_)
      have lp_15 : ∀ (n_16 : Nat) (i : Nat) (zu : Int32) (zb1 : Nat → Int32) (zw1 : Nat → Int32) (H : Heap) (locs : List Loc) (ls : Array Slot), dy - i < n_16 → (i ≤ dy) → (∀ j, j < 9 → zb1 j = nI (onB tb Ba 3 i j)) → (∀ j, j < 9 → zw1 j = nI (onB tb We 4 i j)) → (muO (onU tb i) zu) → va_P D vwCl [(x0, .inr (11, [.ref (q 0), .ref (q 1), .ref (q 2), .ref (q 3), .ref (q 4), .ref (q 5), .ref (q 6), .ref (q 7), .ref (q 8), .ref (q 9), .ref (q 10), .ref (q 11), .ref (q 12), .ref (q 13), .ref (q 14), .int hc, .ref (q 16), .long dr])), (q 0, .inr (10, [.ref (q 20), .int 0])), (q 20, .inl (cI, 1600, .inl (fun j => nI (tb j)))), (q 7, .inr (7, [.ref (q 33), .ref (q 34), .int (nI dy), .int (nI ((tb 0) * 256 + (tb 1))), .int (nI (tb 2)), .int zu, .int (nI ke)])), (q 33, .inl (cI, 9, .inl zb1)), (q 34, .inl (cI, 9, .inl zw1)), (q 9, .inr (4, [.ref (q 35), .int (nI ac), .ref (q 36), .ref (q 37), .ref (q 38)])), (q 16, .inl (cI, 6, .inl rf))] H → va_D A [(x0, .inr (11, [.ref (q 0), .ref (q 1), .ref (q 2), .ref (q 3), .ref (q 4), .ref (q 5), .ref (q 6), .ref (q 7), .ref (q 8), .ref (q 9), .ref (q 10), .ref (q 11), .ref (q 12), .ref (q 13), .ref (q 14), .int hc, .ref (q 16), .long dr])), (q 0, .inr (10, [.ref (q 20), .int 0])), (q 20, .inl (cI, 1600, .inl (fun j => nI (tb j)))), (q 7, .inr (7, [.ref (q 33), .ref (q 34), .int (nI dy), .int (nI ((tb 0) * 256 + (tb 1))), .int (nI (tb 2)), .int zu, .int (nI ke)])), (q 33, .inl (cI, 9, .inl zb1)), (q 34, .inl (cI, 9, .inl zw1)), (q 9, .inr (4, [.ref (q 35), .int (nI ac), .ref (q 36), .ref (q 37), .ref (q 38)])), (q 16, .inl (cI, 6, .inl rf))] → va_S A s.heap H locs → lv_has ls 3 [(2, .int (nI i)), (1, .int (nI bq)), (0, .ref x0)] → W p l e { frames := 3, cells := 0, slots := 0, locals := 66 } s m ([.ref x0] : List Value).toArray below meth c H locs 0 0 (MQ below (skI D (skT cI cJ cC cZ cS) (fun (r : Int32) (u : va_W) => ∃ (wn2 : Nat), ∃ (mo2 : Nat), ∃ (ke2 : Nat), ∃ (ac2 : Nat), ∃ (mu2 : Int32), ∃ (fb2 : Nat → Int32), ∃ (fw2 : Nat → Int32), ∃ (Ba2 : Nat → Nat), ∃ (We2 : Nat → Nat), ∃ (U2 : Nat → Bool), ∃ (rf2 : Nat → Int32), (∀ j, j < 9 → fb2 j = nI (Ba2 j)) ∧ (∀ j, j < 9 → fw2 j = nI (We2 j)) ∧ muO U2 mu2 ∧ ac2 ≤ ac ∧ mo2 ≤ 9 ∧ ke2 ≤ ke ∧ onR dy tb tl (wn, mo, Ba, We, U, ke) ac rf r (wn2, mo2, Ba2, We2, U2, ke2) ac2 rf2 ∧ u = [(x0, .inr (11, [.ref (q 0), .ref (q 1), .ref (q 2), .ref (q 3), .ref (q 4), .ref (q 5), .ref (q 6), .ref (q 7), .ref (q 8), .ref (q 9), .ref (q 10), .ref (q 11), .ref (q 12), .ref (q 13), .ref (q 14), .int hc, .ref (q 16), .long dr])), (q 0, .inr (10, [.ref (q 20), .int 0])), (q 20, .inl (cI, 1600, .inl (fun j => nI (tb j)))), (q 7, .inr (7, [.ref (q 33), .ref (q 34), .int (nI dy), .int (nI wn2), .int (nI mo2), .int mu2, .int (nI ke2)])), (q 33, .inl (cI, 9, .inl fb2)), (q 34, .inl (cI, 9, .inl fw2)), (q 9, .inr (4, [.ref (q 35), .int (nI ac2), .ref (q 36), .ref (q 37), .ref (q 38)])), (q 16, .inl (cI, 6, .inl rf2))]) A) ([.ref x0] : List Value).toArray s 0 0 A) (F0 m 91 ls []) := by
        intro n_16
        induction n_16 with
        | zero => intro i zu zb1 zw1 H locs ls hm; exact absurd hm (Nat.not_lt_zero _)
        | succ n_16 ih_lp_15 =>
          intro i zu zb1 zw1 H locs ls hm hi hzb hzw hzU hP hD hS hl
          refine lv_iload_n hx hb dX11_on_91 rfl (lv_at hl 0 rfl) ?_
          refine lv_aload_n hx hb dX11_on_92 rfl (lv_at hl 2 rfl) ?_
          refine sk_get (v := .ref (q 7)) (C := RX11) (T := TX11) (N := 18) hx hb hts inlX11 hown hK hP 0 rfl rfl 7 (by decide) w_2_130 rfl dX11_on_93 ?_
          refine sk_get (v := .int (nI dy)) (C := RX7) (T := TX7) (N := 7) hx hb hts inlX7 hown hK hP 3 rfl rfl 2 (by decide) w_2_1 rfl dX11_on_96 ?_
          refine lv_icmp_ge (tgt := 176) hx hb dX11_on_99 (by decide) (fun c_17 => ?_) (fun c_17 => ?_)
          · have c_17 : dy ≤ i := (nle dy i (by omega) (by omega)).mp c_17
            refine lv_aload_n hx hb dX11_on_176 rfl (lv_at hl 2 rfl) ?_
            refine sk_get (v := .ref (q 7)) (C := RX11) (T := TX11) (N := 18) hx hb hts inlX11 hown hK hP 0 rfl rfl 7 (by decide) w_2_130 rfl dX11_on_177 ?_
            refine lv_iconst (v := 0) hx hb dX11_on_180 (by decide) ?_
            refine sk_put (ws' := [(x0, .inr (11, [.ref (q 0), .ref (q 1), .ref (q 2), .ref (q 3), .ref (q 4), .ref (q 5), .ref (q 6), .ref (q 7), .ref (q 8), .ref (q 9), .ref (q 10), .ref (q 11), .ref (q 12), .ref (q 13), .ref (q 14), .int hc, .ref (q 16), .long dr])), (q 0, .inr (10, [.ref (q 20), .int 0])), (q 20, .inl (cI, 1600, .inl (fun j => nI (tb j)))), (q 7, .inr (7, [.ref (q 33), .ref (q 34), .int (nI dy), .int (nI ((tb 0) * 256 + (tb 1))), .int (nI (tb 2)), .int zu, .int 0])), (q 33, .inl (cI, 9, .inl zb1)), (q 34, .inl (cI, 9, .inl zw1)), (q 9, .inr (4, [.ref (q 35), .int (nI ac), .ref (q 36), .ref (q 37), .ref (q 38)])), (q 16, .inl (cI, 6, .inl rf))]) (C := RX7) (T := TX7) (N := 7) (v := .int 0) hx hb hts inlX7 tyX7 tyX7_ok nmX7 hown hK hP hD hS 3 rfl rfl 6 (by decide) w_2_15 rfl rfl rfl (Nat.le_of_ble_eq_true rfl) rfl dX11_on_181 (fun H locs hP hD hS => ?_)
            refine lv_aload_n hx hb dX11_on_184 rfl (lv_at hl 2 rfl) ?_
            refine sk_get (v := .ref (q 9)) (C := RX11) (T := TX11) (N := 18) hx hb hts inlX11 hown hK hP 0 rfl rfl 9 (by decide) w_2_132 rfl dX11_on_185 ?_
            refine sk_Vv (q0 := 0) (n := 0) (rest := []) (wr := fmR om_8_2 _) ⟨hx, hb, hml, hown, hts⟩ hl.1 (c_past_forget l D cI cJ cC cZ cS q ac) w_3_155 w_3_156 w_3_157 w_1_11 w_3_158 hd_X4_forget_0 ⟨⟨(Nat.le_of_ble_eq_true rfl), (Nat.le_of_ble_eq_true rfl)⟩, (Nat.le_of_ble_eq_true rfl), (Nat.le_of_ble_eq_true rfl)⟩ hK hP hD hS hA (fmT om_8_2 0) (fmF om_8_2 0) (fm_C1 rfl rfl) (fm_R rfl rfl) (fm_nT om_8_2 0) (fm_nF om_8_2 0) (fm_di om_8_2 0) rfl rfl rfl rfl (Nat.le_of_ble_eq_true rfl) dX11_on_188 (fun u H locs hw hP hD hS => ?_)
            refine o_mgE (ws' := [(x0, .inr (11, [.ref (q 0), .ref (q 1), .ref (q 2), .ref (q 3), .ref (q 4), .ref (q 5), .ref (q 6), .ref (q 7), .ref (q 8), .ref (q 9), .ref (q 10), .ref (q 11), .ref (q 12), .ref (q 13), .ref (q 14), .int hc, .ref (q 16), .long dr])), (q 0, .inr (10, [.ref (q 20), .int 0])), (q 20, .inl (cI, 1600, .inl (fun j => nI (tb j)))), (q 7, .inr (7, [.ref (q 33), .ref (q 34), .int (nI dy), .int (nI ((tb 0) * 256 + (tb 1))), .int (nI (tb 2)), .int zu, .int 0])), (q 33, .inl (cI, 9, .inl zb1)), (q 34, .inl (cI, 9, .inl zw1)), (q 9, .inr (4, [.ref (q 35), .int 0, .ref (q 36), .ref (q 37), .ref (q 38)])), (q 16, .inl (cI, 6, .inl rf))]) hw hP hD rfl (fun hP hD => ?_)
            refine lv_iconst (v := 1) hx hb dX11_on_191 (by decide) ?_
            exact sk_iret hx hb hr rfl hlocks hK hP hD hS (⟨(tb 0) * 256 + (tb 1), tb 2, 0, 0, zu, zb1, zw1, (onB tb Ba 3 i), (onB tb We 4 i), (onU tb i), rf, hzb, hzw, hzU, by omega, (hcc.2.2.2.2 2 (by omega) (by omega)).1, by omega, (on_y (n := (wn, mo, Ba, We, U, ke)) hcc (by omega)), rfl⟩) (Nat.le_of_ble_eq_true rfl) (Nat.le_of_ble_eq_true rfl) dX11_on_192
          · have c_17 : ¬ (dy ≤ i) := fun h => c_17 ((nle dy i (by omega) (by omega)).mpr h)
            refine lv_aload_n hx hb dX11_on_102 rfl (lv_at hl 2 rfl) ?_
            refine sk_get (v := .ref (q 7)) (C := RX11) (T := TX11) (N := 18) hx hb hts inlX11 hown hK hP 0 rfl rfl 7 (by decide) w_2_130 rfl dX11_on_103 ?_
            refine sk_get (v := .ref (q 33)) (C := RX7) (T := TX7) (N := 7) hx hb hts inlX7 hown hK hP 3 rfl rfl 0 (by decide) w_1_232 rfl dX11_on_106 ?_
            refine lv_iload_n hx hb dX11_on_109 rfl (lv_at hl 0 rfl) ?_
            refine lv_aload_n hx hb dX11_on_110 rfl (lv_at hl 2 rfl) ?_
            refine sk_get (v := .ref (q 0)) (C := RX11) (T := TX11) (N := 18) hx hb hts inlX11 hown hK hP 0 rfl rfl 0 (by decide) w_2_123 rfl dX11_on_111 ?_
            refine lv_iconst (v := 3) hx hb dX11_on_114 (by decide) ?_
            refine lv_iload_n hx hb dX11_on_115 rfl (lv_at hl 0 rfl) ?_
            refine lv_imul hx hb dX11_on_116 ?_
            refine sk_top (nI (3 * i)) (nmul 3 i) ?_
            refine lv_iconst (v := 3) hx hb dX11_on_117 (by decide) ?_
            refine lv_iadd hx hb dX11_on_118 ?_
            refine sk_top (nI (3 * i + 3)) (nI_add (3 * i) 3) ?_
            refine sk_Vi (q0 := 0) (n := 1) (rest := [.int (nI i), .ref (q 33)]) (wr := fmR om_8_60 _) ⟨hx, hb, hml, hown, hts⟩ hl.1 (c_Tape_leftN l D cI cJ cC cZ cS (q 0) (q 20) 0 tb (3 * i + 3) (by omega) htb (by omega)) w_4_214 w_4_215 w_4_216 w_1_2 w_4_217 hd_X10_left_1 ⟨⟨(Nat.le_of_ble_eq_true rfl), (Nat.le_of_ble_eq_true rfl)⟩, (Nat.le_of_ble_eq_true rfl), (Nat.le_of_ble_eq_true rfl)⟩ hK hP hD hS hA (fmT om_8_60 0) (fmF om_8_60 0) (fm_C1 rfl rfl) (fm_R rfl rfl) (fm_nT om_8_60 0) (fm_nF om_8_60 0) (fm_di om_8_60 0) rfl rfl rfl rfl (Nat.le_of_ble_eq_true rfl) dX11_on_119 (fun r_18 u H locs hw hP hD hS => ?_)
            refine anE hw (fun hv_19 hw1 => anE hw1 (fun er_21 eu_20 => ?_))
            clear hw hw1
            subst er_21
            refine o_mgE (ws' := [(x0, .inr (11, [.ref (q 0), .ref (q 1), .ref (q 2), .ref (q 3), .ref (q 4), .ref (q 5), .ref (q 6), .ref (q 7), .ref (q 8), .ref (q 9), .ref (q 10), .ref (q 11), .ref (q 12), .ref (q 13), .ref (q 14), .int hc, .ref (q 16), .long dr])), (q 0, .inr (10, [.ref (q 20), .int 0])), (q 20, .inl (cI, 1600, .inl (fun j => nI (tb j)))), (q 7, .inr (7, [.ref (q 33), .ref (q 34), .int (nI dy), .int (nI ((tb 0) * 256 + (tb 1))), .int (nI (tb 2)), .int zu, .int (nI ke)])), (q 33, .inl (cI, 9, .inl zb1)), (q 34, .inl (cI, 9, .inl zw1)), (q 9, .inr (4, [.ref (q 35), .int (nI ac), .ref (q 36), .ref (q 37), .ref (q 38)])), (q 16, .inl (cI, 6, .inl rf))]) eu_20 hP hD rfl (fun hP hD => ?_)
            refine sk_iastE (k := i) (ws' := fun f_22 => [(x0, .inr (11, [.ref (q 0), .ref (q 1), .ref (q 2), .ref (q 3), .ref (q 4), .ref (q 5), .ref (q 6), .ref (q 7), .ref (q 8), .ref (q 9), .ref (q 10), .ref (q 11), .ref (q 12), .ref (q 13), .ref (q 14), .int hc, .ref (q 16), .long dr])), (q 0, .inr (10, [.ref (q 20), .int 0])), (q 20, .inl (cI, 1600, .inl (fun j => nI (tb j)))), (q 7, .inr (7, [.ref (q 33), .ref (q 34), .int (nI dy), .int (nI ((tb 0) * 256 + (tb 1))), .int (nI (tb 2)), .int zu, .int (nI ke)])), (q 33, .inl (cI, 9, .inl f_22)), (q 34, .inl (cI, 9, .inl zw1)), (q 9, .inr (4, [.ref (q 35), .int (nI ac), .ref (q 36), .ref (q 37), .ref (q 38)])), (q 16, .inl (cI, 6, .inl rf))]) hx hb hK hP hD hS 4 0 rfl rfl (by omega) (by omega) (fun _ => rfl) dX11_on_122 (fun f_22 H locs ef_23 hP hD hS => ?_)
            refine lv_aload_n hx hb dX11_on_123 rfl (lv_at hl 2 rfl) ?_
            refine sk_get (v := .ref (q 7)) (C := RX11) (T := TX11) (N := 18) hx hb hts inlX11 hown hK hP 0 rfl rfl 7 (by decide) w_2_130 rfl dX11_on_124 ?_
            refine sk_get (v := .ref (q 34)) (C := RX7) (T := TX7) (N := 7) hx hb hts inlX7 hown hK hP 3 rfl rfl 1 (by decide) w_1_236 rfl dX11_on_127 ?_
            refine lv_iload_n hx hb dX11_on_130 rfl (lv_at hl 0 rfl) ?_
            refine lv_aload_n hx hb dX11_on_131 rfl (lv_at hl 2 rfl) ?_
            refine sk_get (v := .ref (q 0)) (C := RX11) (T := TX11) (N := 18) hx hb hts inlX11 hown hK hP 0 rfl rfl 0 (by decide) w_2_123 rfl dX11_on_132 ?_
            refine lv_iconst (v := 3) hx hb dX11_on_135 (by decide) ?_
            refine lv_iload_n hx hb dX11_on_136 rfl (lv_at hl 0 rfl) ?_
            refine lv_imul hx hb dX11_on_137 ?_
            refine sk_top (nI (3 * i)) (nmul 3 i) ?_
            refine lv_iconst (v := 4) hx hb dX11_on_138 (by decide) ?_
            refine lv_iadd hx hb dX11_on_139 ?_
            refine sk_top (nI (3 * i + 4)) (nI_add (3 * i) 4) ?_
            refine sk_Vi (q0 := 0) (n := 1) (rest := [.int (nI i), .ref (q 34)]) (wr := fmR om_8_60 _) ⟨hx, hb, hml, hown, hts⟩ hl.1 (c_Tape_leftN l D cI cJ cC cZ cS (q 0) (q 20) 0 tb (3 * i + 4) (by omega) htb (by omega)) w_4_214 w_4_215 w_4_216 w_1_2 w_4_217 hd_X10_left_1 ⟨⟨(Nat.le_of_ble_eq_true rfl), (Nat.le_of_ble_eq_true rfl)⟩, (Nat.le_of_ble_eq_true rfl), (Nat.le_of_ble_eq_true rfl)⟩ hK hP hD hS hA (fmT om_8_60 0) (fmF om_8_60 0) (fm_C1 rfl rfl) (fm_R rfl rfl) (fm_nT om_8_60 0) (fm_nF om_8_60 0) (fm_di om_8_60 0) rfl rfl rfl rfl (Nat.le_of_ble_eq_true rfl) dX11_on_140 (fun r_24 u H locs hw hP hD hS => ?_)
            refine anE hw (fun hv_25 hw1 => anE hw1 (fun er_27 eu_26 => ?_))
            clear hw hw1
            subst er_27
            refine o_mgE (ws' := [(x0, .inr (11, [.ref (q 0), .ref (q 1), .ref (q 2), .ref (q 3), .ref (q 4), .ref (q 5), .ref (q 6), .ref (q 7), .ref (q 8), .ref (q 9), .ref (q 10), .ref (q 11), .ref (q 12), .ref (q 13), .ref (q 14), .int hc, .ref (q 16), .long dr])), (q 0, .inr (10, [.ref (q 20), .int 0])), (q 20, .inl (cI, 1600, .inl (fun j => nI (tb j)))), (q 7, .inr (7, [.ref (q 33), .ref (q 34), .int (nI dy), .int (nI ((tb 0) * 256 + (tb 1))), .int (nI (tb 2)), .int zu, .int (nI ke)])), (q 33, .inl (cI, 9, .inl f_22)), (q 34, .inl (cI, 9, .inl zw1)), (q 9, .inr (4, [.ref (q 35), .int (nI ac), .ref (q 36), .ref (q 37), .ref (q 38)])), (q 16, .inl (cI, 6, .inl rf))]) eu_26 hP hD rfl (fun hP hD => ?_)
            refine sk_iastE (k := i) (ws' := fun f_28 => [(x0, .inr (11, [.ref (q 0), .ref (q 1), .ref (q 2), .ref (q 3), .ref (q 4), .ref (q 5), .ref (q 6), .ref (q 7), .ref (q 8), .ref (q 9), .ref (q 10), .ref (q 11), .ref (q 12), .ref (q 13), .ref (q 14), .int hc, .ref (q 16), .long dr])), (q 0, .inr (10, [.ref (q 20), .int 0])), (q 20, .inl (cI, 1600, .inl (fun j => nI (tb j)))), (q 7, .inr (7, [.ref (q 33), .ref (q 34), .int (nI dy), .int (nI ((tb 0) * 256 + (tb 1))), .int (nI (tb 2)), .int zu, .int (nI ke)])), (q 33, .inl (cI, 9, .inl f_22)), (q 34, .inl (cI, 9, .inl f_28)), (q 9, .inr (4, [.ref (q 35), .int (nI ac), .ref (q 36), .ref (q 37), .ref (q 38)])), (q 16, .inl (cI, 6, .inl rf))]) hx hb hK hP hD hS 5 0 rfl rfl (by omega) (by omega) (fun _ => rfl) dX11_on_143 (fun f_28 H locs ef_29 hP hD hS => ?_)
            refine lv_aload_n hx hb dX11_on_144 rfl (lv_at hl 2 rfl) ?_
            refine sk_get (v := .ref (q 7)) (C := RX11) (T := TX11) (N := 18) hx hb hts inlX11 hown hK hP 0 rfl rfl 7 (by decide) w_2_130 rfl dX11_on_145 ?_
            refine lv_dup hx hb dX11_on_148 rfl ?_
            refine sk_get (v := .int zu) (C := RX7) (T := TX7) (N := 7) hx hb hts inlX7 hown hK hP 3 rfl rfl 5 (by decide) w_2_12 rfl dX11_on_149 ?_
            refine lv_aload_n hx hb dX11_on_152 rfl (lv_at hl 2 rfl) ?_
            refine sk_get (v := .ref (q 0)) (C := RX11) (T := TX11) (N := 18) hx hb hts inlX11 hown hK hP 0 rfl rfl 0 (by decide) w_2_123 rfl dX11_on_153 ?_
            refine lv_iconst (v := 3) hx hb dX11_on_156 (by decide) ?_
            refine lv_iload_n hx hb dX11_on_157 rfl (lv_at hl 0 rfl) ?_
            refine lv_imul hx hb dX11_on_158 ?_
            refine sk_top (nI (3 * i)) (nmul 3 i) ?_
            refine lv_iconst (v := 5) hx hb dX11_on_159 (by decide) ?_
            refine lv_iadd hx hb dX11_on_160 ?_
            refine sk_top (nI (3 * i + 5)) (nI_add (3 * i) 5) ?_
            refine sk_Vi (q0 := 0) (n := 1) (rest := [.int zu, .ref (q 7)]) (wr := fmR om_8_60 _) ⟨hx, hb, hml, hown, hts⟩ hl.1 (c_Tape_leftN l D cI cJ cC cZ cS (q 0) (q 20) 0 tb (3 * i + 5) (by omega) htb (by omega)) w_4_214 w_4_215 w_4_216 w_1_2 w_4_217 hd_X10_left_1 ⟨⟨(Nat.le_of_ble_eq_true rfl), (Nat.le_of_ble_eq_true rfl)⟩, (Nat.le_of_ble_eq_true rfl), (Nat.le_of_ble_eq_true rfl)⟩ hK hP hD hS hA (fmT om_8_60 0) (fmF om_8_60 0) (fm_C1 rfl rfl) (fm_R rfl rfl) (fm_nT om_8_60 0) (fm_nF om_8_60 0) (fm_di om_8_60 0) rfl rfl rfl rfl (Nat.le_of_ble_eq_true rfl) dX11_on_161 (fun r_30 u H locs hw hP hD hS => ?_)
            refine anE hw (fun hv_31 hw1 => anE hw1 (fun er_33 eu_32 => ?_))
            clear hw hw1
            subst er_33
            refine o_mgE (ws' := [(x0, .inr (11, [.ref (q 0), .ref (q 1), .ref (q 2), .ref (q 3), .ref (q 4), .ref (q 5), .ref (q 6), .ref (q 7), .ref (q 8), .ref (q 9), .ref (q 10), .ref (q 11), .ref (q 12), .ref (q 13), .ref (q 14), .int hc, .ref (q 16), .long dr])), (q 0, .inr (10, [.ref (q 20), .int 0])), (q 20, .inl (cI, 1600, .inl (fun j => nI (tb j)))), (q 7, .inr (7, [.ref (q 33), .ref (q 34), .int (nI dy), .int (nI ((tb 0) * 256 + (tb 1))), .int (nI (tb 2)), .int zu, .int (nI ke)])), (q 33, .inl (cI, 9, .inl f_22)), (q 34, .inl (cI, 9, .inl f_28)), (q 9, .inr (4, [.ref (q 35), .int (nI ac), .ref (q 36), .ref (q 37), .ref (q 38)])), (q 16, .inl (cI, 6, .inl rf))]) eu_32 hP hD rfl (fun hP hD => ?_)
            refine lv_iload_n hx hb dX11_on_164 rfl (lv_at hl 0 rfl) ?_
            refine lv_ishl hx hb dX11_on_165 ?_
            refine lv_ior hx hb dX11_on_166 ?_
            refine sk_put (ws' := [(x0, .inr (11, [.ref (q 0), .ref (q 1), .ref (q 2), .ref (q 3), .ref (q 4), .ref (q 5), .ref (q 6), .ref (q 7), .ref (q 8), .ref (q 9), .ref (q 10), .ref (q 11), .ref (q 12), .ref (q 13), .ref (q 14), .int hc, .ref (q 16), .long dr])), (q 0, .inr (10, [.ref (q 20), .int 0])), (q 20, .inl (cI, 1600, .inl (fun j => nI (tb j)))), (q 7, .inr (7, [.ref (q 33), .ref (q 34), .int (nI dy), .int (nI ((tb 0) * 256 + (tb 1))), .int (nI (tb 2)), .int (zu ||| (nI (tb (3 * i + 5)) <<< (nI i &&& 31))), .int (nI ke)])), (q 33, .inl (cI, 9, .inl f_22)), (q 34, .inl (cI, 9, .inl f_28)), (q 9, .inr (4, [.ref (q 35), .int (nI ac), .ref (q 36), .ref (q 37), .ref (q 38)])), (q 16, .inl (cI, 6, .inl rf))]) (C := RX7) (T := TX7) (N := 7) (v := .int (zu ||| (nI (tb (3 * i + 5)) <<< (nI i &&& 31)))) hx hb hts inlX7 tyX7 tyX7_ok nmX7 hown hK hP hD hS 3 rfl rfl 5 (by decide) w_2_12 rfl rfl rfl (Nat.le_of_ble_eq_true rfl) rfl dX11_on_167 (fun H locs hP hD hS => ?_)
            refine lv_iinc (v := nI (i + 1)) (lv' := [(2, .int (nI (i + 1))), (1, .int (nI bq)), (0, .ref x0)]) hx hb dX11_on_170 hl (k := 0) rfl (ninc i 1 (by decide)) (by decide) rfl (fun ls hl => ?_)
            refine lv_goto (tgt := 91) hx hb dX11_on_173 (by decide) ?_
            exact ih_lp_15 (i + 1) (zu ||| (nI (tb (3 * i + 5)) <<< (nI i &&& 31))) f_22 f_28 _ _ _ (by omega) (by omega) (onB_s hzb ef_23) (onB_s hzw ef_29) (onU_s hzU (by omega) (img_5 hcc.2 (by omega))) hP hD hS (lv_sub hl [0, 1, 2] rfl)
      exact lp_15 (dy - 0 + 1) 0 0 fb fw _ _ _ (Nat.lt_succ_self _) (by omega) (onB_0 hfb) (onB_0 hfw) (onU_0 tb) hP hD hS (lv_sub hl [0, 1, 2] rfl)
    · have c_2 : bq = 0 := (neq bq 0 (by omega) (by omega)).mp c_2
      refine lv_aload_n hx hb dX11_on_32 rfl (lv_at hl 1 rfl) ?_
      refine lv_iconst (v := 5) hx hb dX11_on_33 (by decide) ?_
      refine sk_Vi (q0 := 0) (n := 1) (rest := []) (wr := fmR om_8_81 _) ⟨hx, hb, hml, hown, hts⟩ hl.1 (c_kx_refuseIt l D cI cJ cC cZ cS x0 q hc dr 5 rf (by omega)) w_2_198 w_2_200 w_0_1 w_1_1 w_2_201 hd_X11_refuseIt_1 ⟨⟨(Nat.le_of_ble_eq_true rfl), (Nat.le_of_ble_eq_true rfl)⟩, (Nat.le_of_ble_eq_true rfl), (Nat.le_of_ble_eq_true rfl)⟩ hK hP hD hS hA (fmT om_8_81 0) (fmF om_8_81 0) (fm_C1 rfl rfl) (fm_R rfl rfl) (fm_nT om_8_81 0) (fm_nF om_8_81 0) (fm_di om_8_81 0) rfl rfl rfl rfl (Nat.le_of_ble_eq_true rfl) dX11_on_34 (fun r_35 u H locs hw hP hD hS => ?_)
      refine exE hw (fun rf2_34 hw1 => anE hw1 (fun hrf_36 hw2 => anE hw2 (fun er_38 eu_37 => ?_)))
      clear hw hw1 hw2
      subst er_38
      refine o_mgE (ws' := [(x0, .inr (11, [.ref (q 0), .ref (q 1), .ref (q 2), .ref (q 3), .ref (q 4), .ref (q 5), .ref (q 6), .ref (q 7), .ref (q 8), .ref (q 9), .ref (q 10), .ref (q 11), .ref (q 12), .ref (q 13), .ref (q 14), .int hc, .ref (q 16), .long dr])), (q 0, .inr (10, [.ref (q 20), .int 0])), (q 20, .inl (cI, 1600, .inl (fun j => nI (tb j)))), (q 7, .inr (7, [.ref (q 33), .ref (q 34), .int (nI dy), .int (nI wn), .int (nI mo), .int mu, .int (nI ke)])), (q 33, .inl (cI, 9, .inl fb)), (q 34, .inl (cI, 9, .inl fw)), (q 9, .inr (4, [.ref (q 35), .int (nI ac), .ref (q 36), .ref (q 37), .ref (q 38)])), (q 16, .inl (cI, 6, .inl rf2_34))]) eu_37 hP hD rfl (fun hP hD => ?_)
      exact sk_iret hx hb hr rfl hlocks hK hP hD hS (⟨wn, mo, ke, ac, mu, fb, fw, Ba, We, U, rf2_34, hfb, hfw, hU, by omega, hmo, by omega, (on_n (rr_0 hbq3 (by omega)) hrf_36), rfl⟩) (Nat.le_of_ble_eq_true rfl) (Nat.le_of_ble_eq_true rfl) dX11_on_37
  refine lv_aload_n hx hb dX11_on_0 rfl (lv_at hl 0 rfl) ?_
  refine sk_Vi (q0 := 0) (n := 0) (rest := []) (wr := fmR om_8_90 _) ⟨hx, hb, hml, hown, hts⟩ hl.1 (c_kx_isLocked l D cI cJ cC cZ cS x0 q hc dr dy wn mo ke mu fb fw (by omega)) w_4_39 w_4_41 w_0_18 w_1_1 w_4_42 hd_X11_isLocked_0 ⟨⟨(Nat.le_of_ble_eq_true rfl), (Nat.le_of_ble_eq_true rfl)⟩, (Nat.le_of_ble_eq_true rfl), (Nat.le_of_ble_eq_true rfl)⟩ hK hP hD hS hA (fmT om_8_90 0) (fmF om_8_90 0) (fm_C1 rfl rfl) (fm_R rfl rfl) (fm_nT om_8_90 0) (fm_nF om_8_90 0) (fm_di om_8_90 0) rfl rfl rfl rfl (Nat.le_of_ble_eq_true rfl) dX11_on_1 (fun r_40 u H locs hw hP hD hS => ?_)
  refine exE hw (fun b_39 hw1 => anE hw1 (fun hb1_41 hw2 => anE hw2 (fun er_43 eu_42 => ?_)))
  clear hw hw1 hw2
  subst er_43
  refine o_mgE (ws' := [(x0, .inr (11, [.ref (q 0), .ref (q 1), .ref (q 2), .ref (q 3), .ref (q 4), .ref (q 5), .ref (q 6), .ref (q 7), .ref (q 8), .ref (q 9), .ref (q 10), .ref (q 11), .ref (q 12), .ref (q 13), .ref (q 14), .int hc, .ref (q 16), .long dr])), (q 0, .inr (10, [.ref (q 20), .int (nI tl)])), (q 20, .inl (cI, 1600, .inl (fun j => nI (tb j)))), (q 7, .inr (7, [.ref (q 33), .ref (q 34), .int (nI dy), .int (nI wn), .int (nI mo), .int mu, .int (nI ke)])), (q 33, .inl (cI, 9, .inl fb)), (q 34, .inl (cI, 9, .inl fw)), (q 9, .inr (4, [.ref (q 35), .int (nI ac), .ref (q 36), .ref (q 37), .ref (q 38)])), (q 16, .inl (cI, 6, .inl rf))]) eu_42 hP hD rfl (fun hP hD => ?_)
  refine lv_if_eq (tgt := 18) hx hb dX11_on_4 (by decide) (fun c_44 => ?_) (fun c_44 => ?_)
  · have c_44 : b_39 = 0 := (neq b_39 0 (by omega) (by omega)).mp c_44
    refine lv_iconst (v := 0) hx hb dX11_on_18 (by decide) ?_
    exact jn_1 0 _ _ _ (by omega) (Or.inl ⟨rfl, fun hq => absurd hq.1 (by omega)⟩) hP hD hS (lv_sub hl [0] rfl)
  · have c_44 : ¬ (b_39 = 0) := fun h => c_44 ((neq b_39 0 (by omega) (by omega)).mpr h)
    refine lv_aload_n hx hb dX11_on_7 rfl (lv_at hl 0 rfl) ?_
    refine sk_Vi (q0 := 0) (n := 0) (rest := []) (wr := fmR om_8_f0 _) ⟨hx, hb, hml, hown, hts⟩ hl.1 (c_x_tellsImage l D cI cJ cC cZ cS x0 q hc dr tl tb dy mo (nI wn) mu (nI ke) fb fw (by omega) htb (by omega) (by omega)) w_5_141 w_5_143 w_0_40 w_1_1 w_5_144 hd_X11_tellsImage_0 ⟨⟨(Nat.le_of_ble_eq_true rfl), (Nat.le_of_ble_eq_true rfl)⟩, (Nat.le_of_ble_eq_true rfl), (Nat.le_of_ble_eq_true rfl)⟩ hK hP hD hS hA (fmT om_8_f0 0) (fmF om_8_f0 0) (fm_C1 rfl rfl) (fm_R rfl rfl) (fm_nT om_8_f0 0) (fm_nF om_8_f0 0) (fm_di om_8_f0 0) rfl rfl rfl rfl (Nat.le_of_ble_eq_true rfl) dX11_on_8 (fun r_46 u H locs hw hP hD hS => ?_)
    refine exE hw (fun b_45 hw1 => anE hw1 (fun hb1_47 hw2 => anE hw2 (fun hb2_48 hw3 => anE hw3 (fun himg_49 hw4 => anE hw4 (fun er_51 eu_50 => ?_)))))
    clear hw hw1 hw2 hw3 hw4
    subst er_51
    refine o_mgE (ws' := [(x0, .inr (11, [.ref (q 0), .ref (q 1), .ref (q 2), .ref (q 3), .ref (q 4), .ref (q 5), .ref (q 6), .ref (q 7), .ref (q 8), .ref (q 9), .ref (q 10), .ref (q 11), .ref (q 12), .ref (q 13), .ref (q 14), .int hc, .ref (q 16), .long dr])), (q 0, .inr (10, [.ref (q 20), .int (nI tl)])), (q 20, .inl (cI, 1600, .inl (fun j => nI (tb j)))), (q 7, .inr (7, [.ref (q 33), .ref (q 34), .int (nI dy), .int (nI wn), .int (nI mo), .int mu, .int (nI ke)])), (q 33, .inl (cI, 9, .inl fb)), (q 34, .inl (cI, 9, .inl fw)), (q 9, .inr (4, [.ref (q 35), .int (nI ac), .ref (q 36), .ref (q 37), .ref (q 38)])), (q 16, .inl (cI, 6, .inl rf))]) eu_50 hP hD rfl (fun hP hD => ?_)
    refine lv_if_eq (tgt := 18) hx hb dX11_on_11 (by decide) (fun c_52 => ?_) (fun c_52 => ?_)
    · have c_52 : b_45 = 0 := (neq b_45 0 (by omega) (by omega)).mp c_52
      refine lv_iconst (v := 0) hx hb dX11_on_18 (by decide) ?_
      exact jn_1 0 _ _ _ (by omega) (Or.inl ⟨rfl, fun hq => rr_0 himg_49 (by omega) hq.2⟩) hP hD hS (lv_sub hl [0] rfl)
    · have c_52 : ¬ (b_45 = 0) := fun h => c_52 ((neq b_45 0 (by omega) (by omega)).mpr h)
      refine lv_iconst (v := 1) hx hb dX11_on_14 (by decide) ?_
      refine lv_goto (tgt := 19) hx hb dX11_on_15 (by decide) ?_
      exact jn_1 1 _ _ _ (by omega) (Or.inr ⟨rfl, by omega, rr_1 himg_49 (by omega)⟩) hP hD hS (lv_sub hl [0] rfl)

