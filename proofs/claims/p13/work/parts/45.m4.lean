theorem dg_X12_laysWays_0_0 : bqL cX12_laysWays 0 [(0, [42]), (1, [182, 1, 59]), (4, [4]), (5, [100]), (6, [60]), (7, [27]), (8, [61]), (9, [28]), (10, [155, 0, 101]), (111, [42]), (112, [9]), (113, [181, 1, 126]), (116, [3]), (117, [61]), (118, [28]), (119, [27]), (120, [163, 0, 128]), (248, [177]), (123, [3]), (124, [62]), (125, [29]), (126, [16, 10]), (128, [162, 0, 114]), (242, [132, 2, 1]), (245, [167, 255, 129]), (131, [28]), (132, [154, 0, 22]), (154, [9]), (155, [55, 4]), (157, [3]), (158, [54, 6]), (160, [21, 6]), (162, [16, 10]), (164, [162, 0, 43]), (207, [42]), (208, [180, 0, 86]), (211, [16, 10]), (213, [28]), (214, [104]), (215, [29])] = true := by decide +kernel
theorem dX12_laysWays_0 : decode cX12_laysWays 0 = .ok (.aload_n 0, 1) := q_aload_n0 (bat_get dg_X12_laysWays_0_0 0 rfl rfl)
theorem dX12_laysWays_1 : decode cX12_laysWays 1 = .ok (.invokevirtual 315, 3) := q_invokevirtual (bat_get dg_X12_laysWays_0_0 1 rfl rfl) rfl
theorem dX12_laysWays_4 : decode cX12_laysWays 4 = .ok (.iconst 1, 1) := q_iconst1 (bat_get dg_X12_laysWays_0_0 2 rfl rfl)
theorem dX12_laysWays_5 : decode cX12_laysWays 5 = .ok (.isub, 1) := q_isub (bat_get dg_X12_laysWays_0_0 3 rfl rfl)
theorem dX12_laysWays_6 : decode cX12_laysWays 6 = .ok (.istore_n 1, 1) := q_istore_n1 (bat_get dg_X12_laysWays_0_0 4 rfl rfl)
theorem dX12_laysWays_7 : decode cX12_laysWays 7 = .ok (.iload_n 1, 1) := q_iload_n1 (bat_get dg_X12_laysWays_0_0 5 rfl rfl)
theorem dX12_laysWays_8 : decode cX12_laysWays 8 = .ok (.istore_n 2, 1) := q_istore_n2 (bat_get dg_X12_laysWays_0_0 6 rfl rfl)
theorem dX12_laysWays_9 : decode cX12_laysWays 9 = .ok (.iload_n 2, 1) := q_iload_n2 (bat_get dg_X12_laysWays_0_0 7 rfl rfl)
theorem dX12_laysWays_10 : decode cX12_laysWays 10 = .ok (.ifCond .lt 101, 3) := q_ifCond_lt (bat_get dg_X12_laysWays_0_0 8 rfl rfl) rfl
theorem dX12_laysWays_111 : decode cX12_laysWays 111 = .ok (.aload_n 0, 1) := q_aload_n0 (bat_get dg_X12_laysWays_0_0 9 rfl rfl)
theorem dX12_laysWays_112 : decode cX12_laysWays 112 = .ok (.lconst 0, 1) := q_lconst0 (bat_get dg_X12_laysWays_0_0 10 rfl rfl)
theorem dX12_laysWays_113 : decode cX12_laysWays 113 = .ok (.putfield 382, 3) := q_putfield (bat_get dg_X12_laysWays_0_0 11 rfl rfl) rfl
theorem dX12_laysWays_116 : decode cX12_laysWays 116 = .ok (.iconst 0, 1) := q_iconst0 (bat_get dg_X12_laysWays_0_0 12 rfl rfl)
theorem dX12_laysWays_117 : decode cX12_laysWays 117 = .ok (.istore_n 2, 1) := q_istore_n2 (bat_get dg_X12_laysWays_0_0 13 rfl rfl)
theorem dX12_laysWays_118 : decode cX12_laysWays 118 = .ok (.iload_n 2, 1) := q_iload_n2 (bat_get dg_X12_laysWays_0_0 14 rfl rfl)
theorem dX12_laysWays_119 : decode cX12_laysWays 119 = .ok (.iload_n 1, 1) := q_iload_n1 (bat_get dg_X12_laysWays_0_0 15 rfl rfl)
theorem dX12_laysWays_120 : decode cX12_laysWays 120 = .ok (.if_icmp .gt 128, 3) := q_if_icmp_gt (bat_get dg_X12_laysWays_0_0 16 rfl rfl) rfl
theorem dX12_laysWays_248 : decode cX12_laysWays 248 = .ok (.return_, 1) := q_return_ (bat_get dg_X12_laysWays_0_0 17 rfl rfl)
theorem dX12_laysWays_123 : decode cX12_laysWays 123 = .ok (.iconst 0, 1) := q_iconst0 (bat_get dg_X12_laysWays_0_0 18 rfl rfl)
theorem dX12_laysWays_124 : decode cX12_laysWays 124 = .ok (.istore_n 3, 1) := q_istore_n3 (bat_get dg_X12_laysWays_0_0 19 rfl rfl)
theorem dX12_laysWays_125 : decode cX12_laysWays 125 = .ok (.iload_n 3, 1) := q_iload_n3 (bat_get dg_X12_laysWays_0_0 20 rfl rfl)
theorem dX12_laysWays_126 : decode cX12_laysWays 126 = .ok (.bipush 10, 2) := q_bipush (bat_get dg_X12_laysWays_0_0 21 rfl rfl) rfl
theorem dX12_laysWays_128 : decode cX12_laysWays 128 = .ok (.if_icmp .ge 114, 3) := q_if_icmp_ge (bat_get dg_X12_laysWays_0_0 22 rfl rfl) rfl
theorem dX12_laysWays_242 : decode cX12_laysWays 242 = .ok (.iinc 2 1, 3) := q_iinc (bat_get dg_X12_laysWays_0_0 23 rfl rfl) rfl
theorem dX12_laysWays_245 : decode cX12_laysWays 245 = .ok (.goto (-127), 3) := q_goto (bat_get dg_X12_laysWays_0_0 24 rfl rfl) rfl
theorem dX12_laysWays_131 : decode cX12_laysWays 131 = .ok (.iload_n 2, 1) := q_iload_n2 (bat_get dg_X12_laysWays_0_0 25 rfl rfl)
theorem dX12_laysWays_132 : decode cX12_laysWays 132 = .ok (.ifCond .ne 22, 3) := q_ifCond_ne (bat_get dg_X12_laysWays_0_0 26 rfl rfl) rfl
theorem dX12_laysWays_154 : decode cX12_laysWays 154 = .ok (.lconst 0, 1) := q_lconst0 (bat_get dg_X12_laysWays_0_0 27 rfl rfl)
theorem dX12_laysWays_155 : decode cX12_laysWays 155 = .ok (.lstore 4, 2) := q_lstore (bat_get dg_X12_laysWays_0_0 28 rfl rfl)
theorem dX12_laysWays_157 : decode cX12_laysWays 157 = .ok (.iconst 0, 1) := q_iconst0 (bat_get dg_X12_laysWays_0_0 29 rfl rfl)
theorem dX12_laysWays_158 : decode cX12_laysWays 158 = .ok (.istore 6, 2) := q_istore (bat_get dg_X12_laysWays_0_0 30 rfl rfl)
theorem dX12_laysWays_160 : decode cX12_laysWays 160 = .ok (.iload 6, 2) := q_iload (bat_get dg_X12_laysWays_0_0 31 rfl rfl)
theorem dX12_laysWays_162 : decode cX12_laysWays 162 = .ok (.bipush 10, 2) := q_bipush (bat_get dg_X12_laysWays_0_0 32 rfl rfl) rfl
theorem dX12_laysWays_164 : decode cX12_laysWays 164 = .ok (.if_icmp .ge 43, 3) := q_if_icmp_ge (bat_get dg_X12_laysWays_0_0 33 rfl rfl) rfl
theorem dX12_laysWays_207 : decode cX12_laysWays 207 = .ok (.aload_n 0, 1) := q_aload_n0 (bat_get dg_X12_laysWays_0_0 34 rfl rfl)
theorem dX12_laysWays_208 : decode cX12_laysWays 208 = .ok (.getfield 86, 3) := q_getfield (bat_get dg_X12_laysWays_0_0 35 rfl rfl) rfl
theorem dX12_laysWays_211 : decode cX12_laysWays 211 = .ok (.bipush 10, 2) := q_bipush (bat_get dg_X12_laysWays_0_0 36 rfl rfl) rfl
theorem dX12_laysWays_213 : decode cX12_laysWays 213 = .ok (.iload_n 2, 1) := q_iload_n2 (bat_get dg_X12_laysWays_0_0 37 rfl rfl)
theorem dX12_laysWays_214 : decode cX12_laysWays 214 = .ok (.imul, 1) := q_imul (bat_get dg_X12_laysWays_0_0 38 rfl rfl)
theorem dX12_laysWays_215 : decode cX12_laysWays 215 = .ok (.iload_n 3, 1) := q_iload_n3 (bat_get dg_X12_laysWays_0_0 39 rfl rfl)
theorem dg_X12_laysWays_135_216 : bqL cX12_laysWays 135 [(81, [96]), (82, [22, 4]), (84, [80]), (85, [28]), (86, [27]), (87, [160, 0, 14]), (101, [132, 3, 1]), (104, [167, 255, 142]), (90, [42]), (91, [89]), (92, [180, 1, 126]), (95, [22, 4]), (97, [97]), (98, [181, 1, 126]), (32, [28]), (33, [158, 0, 39]), (36, [42]), (37, [28]), (38, [21, 6]), (40, [29]), (41, [182, 1, 122]), (44, [153, 0, 22]), (66, [132, 6, 1]), (69, [167, 255, 212]), (47, [22, 4]), (49, [42]), (50, [180, 0, 86]), (53, [16, 10]), (55, [28]), (56, [4]), (57, [100]), (58, [104]), (59, [21, 6]), (61, [96]), (62, [47]), (63, [97]), (64, [55, 4]), (0, [42]), (1, [3]), (2, [42])] = true := by decide +kernel
theorem dX12_laysWays_216 : decode cX12_laysWays 216 = .ok (.iadd, 1) := q_iadd (bat_get dg_X12_laysWays_135_216 0 rfl rfl)
theorem dX12_laysWays_217 : decode cX12_laysWays 217 = .ok (.lload 4, 2) := q_lload (bat_get dg_X12_laysWays_135_216 1 rfl rfl)
theorem dX12_laysWays_219 : decode cX12_laysWays 219 = .ok (.lastore, 1) := q_lastore (bat_get dg_X12_laysWays_135_216 2 rfl rfl)
theorem dX12_laysWays_220 : decode cX12_laysWays 220 = .ok (.iload_n 2, 1) := q_iload_n2 (bat_get dg_X12_laysWays_135_216 3 rfl rfl)
theorem dX12_laysWays_221 : decode cX12_laysWays 221 = .ok (.iload_n 1, 1) := q_iload_n1 (bat_get dg_X12_laysWays_135_216 4 rfl rfl)
theorem dX12_laysWays_222 : decode cX12_laysWays 222 = .ok (.if_icmp .ne 14, 3) := q_if_icmp_ne (bat_get dg_X12_laysWays_135_216 5 rfl rfl) rfl
theorem dX12_laysWays_236 : decode cX12_laysWays 236 = .ok (.iinc 3 1, 3) := q_iinc (bat_get dg_X12_laysWays_135_216 6 rfl rfl) rfl
theorem dX12_laysWays_239 : decode cX12_laysWays 239 = .ok (.goto (-114), 3) := q_goto (bat_get dg_X12_laysWays_135_216 7 rfl rfl) rfl
theorem dX12_laysWays_225 : decode cX12_laysWays 225 = .ok (.aload_n 0, 1) := q_aload_n0 (bat_get dg_X12_laysWays_135_216 8 rfl rfl)
theorem dX12_laysWays_226 : decode cX12_laysWays 226 = .ok (.dup, 1) := q_dup (bat_get dg_X12_laysWays_135_216 9 rfl rfl)
theorem dX12_laysWays_227 : decode cX12_laysWays 227 = .ok (.getfield 382, 3) := q_getfield (bat_get dg_X12_laysWays_135_216 10 rfl rfl) rfl
theorem dX12_laysWays_230 : decode cX12_laysWays 230 = .ok (.lload 4, 2) := q_lload (bat_get dg_X12_laysWays_135_216 11 rfl rfl)
theorem dX12_laysWays_232 : decode cX12_laysWays 232 = .ok (.ladd, 1) := q_ladd (bat_get dg_X12_laysWays_135_216 12 rfl rfl)
theorem dX12_laysWays_233 : decode cX12_laysWays 233 = .ok (.putfield 382, 3) := q_putfield (bat_get dg_X12_laysWays_135_216 13 rfl rfl) rfl
theorem dX12_laysWays_167 : decode cX12_laysWays 167 = .ok (.iload_n 2, 1) := q_iload_n2 (bat_get dg_X12_laysWays_135_216 14 rfl rfl)
theorem dX12_laysWays_168 : decode cX12_laysWays 168 = .ok (.ifCond .le 39, 3) := q_ifCond_le (bat_get dg_X12_laysWays_135_216 15 rfl rfl) rfl
theorem dX12_laysWays_171 : decode cX12_laysWays 171 = .ok (.aload_n 0, 1) := q_aload_n0 (bat_get dg_X12_laysWays_135_216 16 rfl rfl)
theorem dX12_laysWays_172 : decode cX12_laysWays 172 = .ok (.iload_n 2, 1) := q_iload_n2 (bat_get dg_X12_laysWays_135_216 17 rfl rfl)
theorem dX12_laysWays_173 : decode cX12_laysWays 173 = .ok (.iload 6, 2) := q_iload (bat_get dg_X12_laysWays_135_216 18 rfl rfl)
theorem dX12_laysWays_175 : decode cX12_laysWays 175 = .ok (.iload_n 3, 1) := q_iload_n3 (bat_get dg_X12_laysWays_135_216 19 rfl rfl)
theorem dX12_laysWays_176 : decode cX12_laysWays 176 = .ok (.invokevirtual 378, 3) := q_invokevirtual (bat_get dg_X12_laysWays_135_216 20 rfl rfl) rfl
theorem dX12_laysWays_179 : decode cX12_laysWays 179 = .ok (.ifCond .eq 22, 3) := q_ifCond_eq (bat_get dg_X12_laysWays_135_216 21 rfl rfl) rfl
theorem dX12_laysWays_201 : decode cX12_laysWays 201 = .ok (.iinc 6 1, 3) := q_iinc (bat_get dg_X12_laysWays_135_216 22 rfl rfl) rfl
theorem dX12_laysWays_204 : decode cX12_laysWays 204 = .ok (.goto (-44), 3) := q_goto (bat_get dg_X12_laysWays_135_216 23 rfl rfl) rfl
theorem dX12_laysWays_182 : decode cX12_laysWays 182 = .ok (.lload 4, 2) := q_lload (bat_get dg_X12_laysWays_135_216 24 rfl rfl)
theorem dX12_laysWays_184 : decode cX12_laysWays 184 = .ok (.aload_n 0, 1) := q_aload_n0 (bat_get dg_X12_laysWays_135_216 25 rfl rfl)
theorem dX12_laysWays_185 : decode cX12_laysWays 185 = .ok (.getfield 86, 3) := q_getfield (bat_get dg_X12_laysWays_135_216 26 rfl rfl) rfl
theorem dX12_laysWays_188 : decode cX12_laysWays 188 = .ok (.bipush 10, 2) := q_bipush (bat_get dg_X12_laysWays_135_216 27 rfl rfl) rfl
theorem dX12_laysWays_190 : decode cX12_laysWays 190 = .ok (.iload_n 2, 1) := q_iload_n2 (bat_get dg_X12_laysWays_135_216 28 rfl rfl)
theorem dX12_laysWays_191 : decode cX12_laysWays 191 = .ok (.iconst 1, 1) := q_iconst1 (bat_get dg_X12_laysWays_135_216 29 rfl rfl)
theorem dX12_laysWays_192 : decode cX12_laysWays 192 = .ok (.isub, 1) := q_isub (bat_get dg_X12_laysWays_135_216 30 rfl rfl)
theorem dX12_laysWays_193 : decode cX12_laysWays 193 = .ok (.imul, 1) := q_imul (bat_get dg_X12_laysWays_135_216 31 rfl rfl)
theorem dX12_laysWays_194 : decode cX12_laysWays 194 = .ok (.iload 6, 2) := q_iload (bat_get dg_X12_laysWays_135_216 32 rfl rfl)
theorem dX12_laysWays_196 : decode cX12_laysWays 196 = .ok (.iadd, 1) := q_iadd (bat_get dg_X12_laysWays_135_216 33 rfl rfl)
theorem dX12_laysWays_197 : decode cX12_laysWays 197 = .ok (.laload, 1) := q_laload (bat_get dg_X12_laysWays_135_216 34 rfl rfl)
theorem dX12_laysWays_198 : decode cX12_laysWays 198 = .ok (.ladd, 1) := q_ladd (bat_get dg_X12_laysWays_135_216 35 rfl rfl)
theorem dX12_laysWays_199 : decode cX12_laysWays 199 = .ok (.lstore 4, 2) := q_lstore (bat_get dg_X12_laysWays_135_216 36 rfl rfl)
theorem dX12_laysWays_135 : decode cX12_laysWays 135 = .ok (.aload_n 0, 1) := q_aload_n0 (bat_get dg_X12_laysWays_135_216 37 rfl rfl)
theorem dX12_laysWays_136 : decode cX12_laysWays 136 = .ok (.iconst 0, 1) := q_iconst0 (bat_get dg_X12_laysWays_135_216 38 rfl rfl)
theorem dX12_laysWays_137 : decode cX12_laysWays 137 = .ok (.aload_n 0, 1) := q_aload_n0 (bat_get dg_X12_laysWays_135_216 39 rfl rfl)
theorem dg_X12_laysWays_13_138 : bqL cX12_laysWays 13 [(125, [180, 0, 63]), (128, [4]), (129, [46]), (130, [29]), (131, [182, 1, 122]), (134, [153, 0, 7]), (137, [10]), (138, [167, 0, 4]), (0, [3]), (1, [62]), (2, [29]), (3, [16, 10]), (5, [162, 0, 87]), (92, [132, 2, 255]), (95, [167, 255, 157]), (8, [28]), (9, [27]), (10, [160, 0, 7]), (17, [9]), (18, [55, 4]), (20, [3]), (21, [54, 6]), (23, [21, 6]), (25, [16, 10]), (27, [162, 0, 46]), (73, [42]), (74, [180, 0, 82]), (77, [16, 10]), (79, [28]), (80, [104]), (81, [29]), (82, [96]), (83, [22, 4]), (85, [80]), (86, [132, 3, 1]), (89, [167, 255, 169]), (30, [28]), (31, [27]), (32, [162, 0, 41]), (35, [42])] = true := by decide +kernel
theorem dX12_laysWays_138 : decode cX12_laysWays 138 = .ok (.getfield 63, 3) := q_getfield (bat_get dg_X12_laysWays_13_138 0 rfl rfl) rfl
theorem dX12_laysWays_141 : decode cX12_laysWays 141 = .ok (.iconst 1, 1) := q_iconst1 (bat_get dg_X12_laysWays_13_138 1 rfl rfl)
theorem dX12_laysWays_142 : decode cX12_laysWays 142 = .ok (.iaload, 1) := q_iaload (bat_get dg_X12_laysWays_13_138 2 rfl rfl)
theorem dX12_laysWays_143 : decode cX12_laysWays 143 = .ok (.iload_n 3, 1) := q_iload_n3 (bat_get dg_X12_laysWays_13_138 3 rfl rfl)
theorem dX12_laysWays_144 : decode cX12_laysWays 144 = .ok (.invokevirtual 378, 3) := q_invokevirtual (bat_get dg_X12_laysWays_13_138 4 rfl rfl) rfl
theorem dX12_laysWays_147 : decode cX12_laysWays 147 = .ok (.ifCond .eq 7, 3) := q_ifCond_eq (bat_get dg_X12_laysWays_13_138 5 rfl rfl) rfl
theorem dX12_laysWays_150 : decode cX12_laysWays 150 = .ok (.lconst 1, 1) := q_lconst1 (bat_get dg_X12_laysWays_13_138 6 rfl rfl)
theorem dX12_laysWays_151 : decode cX12_laysWays 151 = .ok (.goto 4, 3) := q_goto (bat_get dg_X12_laysWays_13_138 7 rfl rfl) rfl
theorem dX12_laysWays_13 : decode cX12_laysWays 13 = .ok (.iconst 0, 1) := q_iconst0 (bat_get dg_X12_laysWays_13_138 8 rfl rfl)
theorem dX12_laysWays_14 : decode cX12_laysWays 14 = .ok (.istore_n 3, 1) := q_istore_n3 (bat_get dg_X12_laysWays_13_138 9 rfl rfl)
theorem dX12_laysWays_15 : decode cX12_laysWays 15 = .ok (.iload_n 3, 1) := q_iload_n3 (bat_get dg_X12_laysWays_13_138 10 rfl rfl)
theorem dX12_laysWays_16 : decode cX12_laysWays 16 = .ok (.bipush 10, 2) := q_bipush (bat_get dg_X12_laysWays_13_138 11 rfl rfl) rfl
theorem dX12_laysWays_18 : decode cX12_laysWays 18 = .ok (.if_icmp .ge 87, 3) := q_if_icmp_ge (bat_get dg_X12_laysWays_13_138 12 rfl rfl) rfl
theorem dX12_laysWays_105 : decode cX12_laysWays 105 = .ok (.iinc 2 (-1), 3) := q_iinc (bat_get dg_X12_laysWays_13_138 13 rfl rfl) rfl
theorem dX12_laysWays_108 : decode cX12_laysWays 108 = .ok (.goto (-99), 3) := q_goto (bat_get dg_X12_laysWays_13_138 14 rfl rfl) rfl
theorem dX12_laysWays_21 : decode cX12_laysWays 21 = .ok (.iload_n 2, 1) := q_iload_n2 (bat_get dg_X12_laysWays_13_138 15 rfl rfl)
theorem dX12_laysWays_22 : decode cX12_laysWays 22 = .ok (.iload_n 1, 1) := q_iload_n1 (bat_get dg_X12_laysWays_13_138 16 rfl rfl)
theorem dX12_laysWays_23 : decode cX12_laysWays 23 = .ok (.if_icmp .ne 7, 3) := q_if_icmp_ne (bat_get dg_X12_laysWays_13_138 17 rfl rfl) rfl
theorem dX12_laysWays_30 : decode cX12_laysWays 30 = .ok (.lconst 0, 1) := q_lconst0 (bat_get dg_X12_laysWays_13_138 18 rfl rfl)
theorem dX12_laysWays_31 : decode cX12_laysWays 31 = .ok (.lstore 4, 2) := q_lstore (bat_get dg_X12_laysWays_13_138 19 rfl rfl)
theorem dX12_laysWays_33 : decode cX12_laysWays 33 = .ok (.iconst 0, 1) := q_iconst0 (bat_get dg_X12_laysWays_13_138 20 rfl rfl)
theorem dX12_laysWays_34 : decode cX12_laysWays 34 = .ok (.istore 6, 2) := q_istore (bat_get dg_X12_laysWays_13_138 21 rfl rfl)
theorem dX12_laysWays_36 : decode cX12_laysWays 36 = .ok (.iload 6, 2) := q_iload (bat_get dg_X12_laysWays_13_138 22 rfl rfl)
theorem dX12_laysWays_38 : decode cX12_laysWays 38 = .ok (.bipush 10, 2) := q_bipush (bat_get dg_X12_laysWays_13_138 23 rfl rfl) rfl
theorem dX12_laysWays_40 : decode cX12_laysWays 40 = .ok (.if_icmp .ge 46, 3) := q_if_icmp_ge (bat_get dg_X12_laysWays_13_138 24 rfl rfl) rfl
theorem dX12_laysWays_86 : decode cX12_laysWays 86 = .ok (.aload_n 0, 1) := q_aload_n0 (bat_get dg_X12_laysWays_13_138 25 rfl rfl)
theorem dX12_laysWays_87 : decode cX12_laysWays 87 = .ok (.getfield 82, 3) := q_getfield (bat_get dg_X12_laysWays_13_138 26 rfl rfl) rfl
theorem dX12_laysWays_90 : decode cX12_laysWays 90 = .ok (.bipush 10, 2) := q_bipush (bat_get dg_X12_laysWays_13_138 27 rfl rfl) rfl
theorem dX12_laysWays_92 : decode cX12_laysWays 92 = .ok (.iload_n 2, 1) := q_iload_n2 (bat_get dg_X12_laysWays_13_138 28 rfl rfl)
theorem dX12_laysWays_93 : decode cX12_laysWays 93 = .ok (.imul, 1) := q_imul (bat_get dg_X12_laysWays_13_138 29 rfl rfl)
theorem dX12_laysWays_94 : decode cX12_laysWays 94 = .ok (.iload_n 3, 1) := q_iload_n3 (bat_get dg_X12_laysWays_13_138 30 rfl rfl)
theorem dX12_laysWays_95 : decode cX12_laysWays 95 = .ok (.iadd, 1) := q_iadd (bat_get dg_X12_laysWays_13_138 31 rfl rfl)
theorem dX12_laysWays_96 : decode cX12_laysWays 96 = .ok (.lload 4, 2) := q_lload (bat_get dg_X12_laysWays_13_138 32 rfl rfl)
theorem dX12_laysWays_98 : decode cX12_laysWays 98 = .ok (.lastore, 1) := q_lastore (bat_get dg_X12_laysWays_13_138 33 rfl rfl)
theorem dX12_laysWays_99 : decode cX12_laysWays 99 = .ok (.iinc 3 1, 3) := q_iinc (bat_get dg_X12_laysWays_13_138 34 rfl rfl) rfl
theorem dX12_laysWays_102 : decode cX12_laysWays 102 = .ok (.goto (-87), 3) := q_goto (bat_get dg_X12_laysWays_13_138 35 rfl rfl) rfl
theorem dX12_laysWays_43 : decode cX12_laysWays 43 = .ok (.iload_n 2, 1) := q_iload_n2 (bat_get dg_X12_laysWays_13_138 36 rfl rfl)
theorem dX12_laysWays_44 : decode cX12_laysWays 44 = .ok (.iload_n 1, 1) := q_iload_n1 (bat_get dg_X12_laysWays_13_138 37 rfl rfl)
theorem dX12_laysWays_45 : decode cX12_laysWays 45 = .ok (.if_icmp .ge 41, 3) := q_if_icmp_ge (bat_get dg_X12_laysWays_13_138 38 rfl rfl) rfl
theorem dX12_laysWays_48 : decode cX12_laysWays 48 = .ok (.aload_n 0, 1) := q_aload_n0 (bat_get dg_X12_laysWays_13_138 39 rfl rfl)
theorem dg_X12_laysWays_26_49 : bqL cX12_laysWays 26 [(23, [28]), (24, [4]), (25, [96]), (26, [29]), (27, [21, 6]), (29, [182, 1, 122]), (32, [153, 0, 22]), (54, [132, 6, 1]), (57, [167, 255, 209]), (35, [22, 4]), (37, [42]), (38, [180, 0, 82]), (41, [16, 10]), (43, [28]), (44, [4]), (45, [96]), (46, [104]), (47, [21, 6]), (49, [96]), (50, [47]), (51, [97]), (52, [55, 4]), (0, [10]), (1, [167, 0, 4])] = true := by decide +kernel
theorem dX12_laysWays_49 : decode cX12_laysWays 49 = .ok (.iload_n 2, 1) := q_iload_n2 (bat_get dg_X12_laysWays_26_49 0 rfl rfl)
theorem dX12_laysWays_50 : decode cX12_laysWays 50 = .ok (.iconst 1, 1) := q_iconst1 (bat_get dg_X12_laysWays_26_49 1 rfl rfl)
theorem dX12_laysWays_51 : decode cX12_laysWays 51 = .ok (.iadd, 1) := q_iadd (bat_get dg_X12_laysWays_26_49 2 rfl rfl)
theorem dX12_laysWays_52 : decode cX12_laysWays 52 = .ok (.iload_n 3, 1) := q_iload_n3 (bat_get dg_X12_laysWays_26_49 3 rfl rfl)
theorem dX12_laysWays_53 : decode cX12_laysWays 53 = .ok (.iload 6, 2) := q_iload (bat_get dg_X12_laysWays_26_49 4 rfl rfl)
theorem dX12_laysWays_55 : decode cX12_laysWays 55 = .ok (.invokevirtual 378, 3) := q_invokevirtual (bat_get dg_X12_laysWays_26_49 5 rfl rfl) rfl
theorem dX12_laysWays_58 : decode cX12_laysWays 58 = .ok (.ifCond .eq 22, 3) := q_ifCond_eq (bat_get dg_X12_laysWays_26_49 6 rfl rfl) rfl
theorem dX12_laysWays_80 : decode cX12_laysWays 80 = .ok (.iinc 6 1, 3) := q_iinc (bat_get dg_X12_laysWays_26_49 7 rfl rfl) rfl
theorem dX12_laysWays_83 : decode cX12_laysWays 83 = .ok (.goto (-47), 3) := q_goto (bat_get dg_X12_laysWays_26_49 8 rfl rfl) rfl
theorem dX12_laysWays_61 : decode cX12_laysWays 61 = .ok (.lload 4, 2) := q_lload (bat_get dg_X12_laysWays_26_49 9 rfl rfl)
theorem dX12_laysWays_63 : decode cX12_laysWays 63 = .ok (.aload_n 0, 1) := q_aload_n0 (bat_get dg_X12_laysWays_26_49 10 rfl rfl)
theorem dX12_laysWays_64 : decode cX12_laysWays 64 = .ok (.getfield 82, 3) := q_getfield (bat_get dg_X12_laysWays_26_49 11 rfl rfl) rfl
theorem dX12_laysWays_67 : decode cX12_laysWays 67 = .ok (.bipush 10, 2) := q_bipush (bat_get dg_X12_laysWays_26_49 12 rfl rfl) rfl
theorem dX12_laysWays_69 : decode cX12_laysWays 69 = .ok (.iload_n 2, 1) := q_iload_n2 (bat_get dg_X12_laysWays_26_49 13 rfl rfl)
theorem dX12_laysWays_70 : decode cX12_laysWays 70 = .ok (.iconst 1, 1) := q_iconst1 (bat_get dg_X12_laysWays_26_49 14 rfl rfl)
theorem dX12_laysWays_71 : decode cX12_laysWays 71 = .ok (.iadd, 1) := q_iadd (bat_get dg_X12_laysWays_26_49 15 rfl rfl)
theorem dX12_laysWays_72 : decode cX12_laysWays 72 = .ok (.imul, 1) := q_imul (bat_get dg_X12_laysWays_26_49 16 rfl rfl)
theorem dX12_laysWays_73 : decode cX12_laysWays 73 = .ok (.iload 6, 2) := q_iload (bat_get dg_X12_laysWays_26_49 17 rfl rfl)
theorem dX12_laysWays_75 : decode cX12_laysWays 75 = .ok (.iadd, 1) := q_iadd (bat_get dg_X12_laysWays_26_49 18 rfl rfl)
theorem dX12_laysWays_76 : decode cX12_laysWays 76 = .ok (.laload, 1) := q_laload (bat_get dg_X12_laysWays_26_49 19 rfl rfl)
theorem dX12_laysWays_77 : decode cX12_laysWays 77 = .ok (.ladd, 1) := q_ladd (bat_get dg_X12_laysWays_26_49 20 rfl rfl)
theorem dX12_laysWays_78 : decode cX12_laysWays 78 = .ok (.lstore 4, 2) := q_lstore (bat_get dg_X12_laysWays_26_49 21 rfl rfl)
theorem dX12_laysWays_26 : decode cX12_laysWays 26 = .ok (.lconst 1, 1) := q_lconst1 (bat_get dg_X12_laysWays_26_49 22 rfl rfl)
theorem dX12_laysWays_27 : decode cX12_laysWays 27 = .ok (.goto 4, 3) := q_goto (bat_get dg_X12_laysWays_26_49 23 rfl rfl) rfl
theorem w_5_199 : (Cond.fieldLink RX12 86 "SameKeeperModel" "before" "[J") ∈ wsL_law := sk_mem (ck_5 _ (List.mem_of_getElem? (i := 199) rfl)) rfl
theorem w_7_201 : (Cond.methodLink RX12 378 yX12_canFollow) ∈ wsL_law := sk_mem (ck_7 _ (List.mem_of_getElem? (i := 201) rfl)) rfl
theorem w_7_203 : (Cond.instanceMethod yX12_canFollow) ∈ wsL_law := sk_mem (ck_7 _ (List.mem_of_getElem? (i := 203) rfl)) rfl
theorem w_0_85 : (Cond.selects RX12 yX12_canFollow yX12_canFollow) ∈ wsL_law := sk_mem (ck_0 _ (List.mem_of_getElem? (i := 85) rfl)) rfl
theorem w_5_198 : (Cond.fieldLink RX12 82 "SameKeeperModel" "behind" "[J") ∈ wsL_law := sk_mem (ck_5 _ (List.mem_of_getElem? (i := 198) rfl)) rfl
theorem w_7_200 : (Cond.code yX12_laysWays cX12_laysWays 7 none) ∈ wsL_law := sk_mem (ck_7 _ (List.mem_of_getElem? (i := 200) rfl)) rfl
def om_7_60 : List Bool := true :: true :: false :: false :: false :: false :: false :: []
def om_7_5c : List Bool := true :: false :: true :: true :: true :: false :: false :: []
theorem hd_X12_canFollow_3 : skD yX12_canFollow 3 := by decide +kernel
set_option maxHeartbeats 4000000 in
set_option maxRecDepth 100000 in
theorem c_m_laysWays0 (l : Launch) (D : va_G) (cI cJ cC cZ cS : ClassId) (mm : Nat) (g : Nat → Nat) (ta : Nat) (pa : Nat) (pe : Nat) (pd : Int32) (pb : Nat) (pp : Int32) (pf : Int32) (pg : Int32) (pn : Int32) (rt : Int32) (rn : Int32) (cd : Nat) (sn : Int32) (il : Nat) (tk : Int32) (am : Int32) (at_ : Int32) (aa : Int32) (mt_ : Int32) (wt : Int32) (wy : Int64) (it_ : Nat) (rm : Nat) (ud : Nat) (nu : Nat) (sd : Int64) (qn : Nat) (qw : Nat) (qo : Int32) (qb : Nat) (qp : Nat) (qa : Int64) (qi : Nat) (oc : Nat) (l0 : Nat) (l1 : Nat) (dm : Nat) (l3 : Nat) (nw : Nat → Int32) (yo : Nat → Int32) (yw : Nat → Int32) (be : Nat → Int64) (bf : Nat → Int64) (hdm : dm ≤ 9) (hdm1 : 1 ≤ dm) (hnw : nowOk nw) : skM l yX12_laysWays cX12_laysWays 7 none 3 66 0 0 D (skT cI cJ cC cZ cS) [.ref mm] [ro_ mm 12 (mo g (nI ta) (nI pa) (nI pe) pd (nI pb) pp pf pg pn rt rn (nI cd) sn (nI il) tk am at_ aa mt_ 0 (-1) wt wy (nI it_) (nI rm) (nI ud) (nI nu) sd (nI qn) (nI qw) qo (nI qb) (nI qp) qa (nI qi) (nI oc)), ra_I (g 20) cI 4 (l4 (nI l0) (nI l1) (nI dm) (nI l3)), ra_I (g 31) cI 120 nw, ra_I (g 37) cZ 900 yo, ra_I (g 36) cZ 900 yw, ra_J (g 43) cJ 90 be, ra_J (g 44) cJ 90 bf] (skV D (skT cI cJ cC cZ cS) (fun (u : va_W) => ∃ (wy2 : Int64), ∃ (be2 : Nat → Int64), ∃ (bf2 : Nat → Int64), beOk (cfN nw yw yo mt_) dm 0 be2 ∧ wy2 = nL (wys (cfN nw yw yo mt_) (a0N nw) (dm - 1)) ∧ u = [ro_ mm 12 (mo g (nI ta) (nI pa) (nI pe) pd (nI pb) pp pf pg pn rt rn (nI cd) sn (nI il) tk am at_ aa mt_ 0 (-1) wt wy2 (nI it_) (nI rm) (nI ud) (nI nu) sd (nI qn) (nI qw) qo (nI qb) (nI qp) qa (nI qi) (nI oc)), ra_I (g 20) cI 4 (l4 (nI l0) (nI l1) (nI dm) (nI l3)), ra_I (g 31) cI 120 nw, ra_I (g 37) cZ 900 yo, ra_I (g 36) cZ 900 yw, ra_J (g 43) cJ 90 be2, ra_J (g 44) cJ 90 bf2])) := by
  refine skM_of pf_X12_laysWays (Nat.le_of_ble_eq_true rfl) ?_
  intro p e s m below meth c A ls E hP hD hl
  refine skE_el E (fun hx hb hr hml hlocks hin hown hts hK hA => ?_)
  have hown : s.vm.findClass RX12 = some m.cls := hown
  have hS : va_S A s.heap s.heap [] := va_S.rf
  have hl : lv_has ls 7 [(0, .ref mm)] := hl
  refine lv_aload_n hx hb dX12_laysWays_0 rfl (lv_at hl 0 rfl) ?_
  refine sk_Vi (q0 := 0) (n := 0) (rest := []) (wr := fmR om_7_60 _) ⟨hx, hb, hml, hown, hts⟩ hl.1 (c_m_dayMany l D cI cJ cC cZ cS mm g ta pa pe pd pb pp pf pg pn rt rn cd sn il tk am at_ aa mt_ 0 (-1) wt wy it_ rm ud nu sd qn qw qo qb qp qa qi oc l0 l1 dm l3) w_7_98 w_7_100 w_0_69 w_1_14 w_7_101 hd_X12_dayMany_0 ⟨⟨(Nat.le_of_ble_eq_true rfl), (Nat.le_of_ble_eq_true rfl)⟩, (Nat.le_of_ble_eq_true rfl), (Nat.le_of_ble_eq_true rfl)⟩ hK hP hD hS hA (fmT om_7_60 0) (fmF om_7_60 0) (fm_C1 rfl rfl) (fm_R rfl rfl) (fm_nT om_7_60 0) (fm_nF om_7_60 0) (fm_di om_7_60 0) rfl rfl rfl rfl (Nat.le_of_ble_eq_true rfl) dX12_laysWays_1 (fun r_1 u H locs hw hP hD hS => ?_)
  refine anE hw (fun er_3 eu_2 => ?_)
  clear hw
  subst er_3
  refine o_mgE (ws' := [ro_ mm 12 (mo g (nI ta) (nI pa) (nI pe) pd (nI pb) pp pf pg pn rt rn (nI cd) sn (nI il) tk am at_ aa mt_ 0 (-1) wt wy (nI it_) (nI rm) (nI ud) (nI nu) sd (nI qn) (nI qw) qo (nI qb) (nI qp) qa (nI qi) (nI oc)), ra_I (g 20) cI 4 (l4 (nI l0) (nI l1) (nI dm) (nI l3)), ra_I (g 31) cI 120 nw, ra_I (g 37) cZ 900 yo, ra_I (g 36) cZ 900 yw, ra_J (g 43) cJ 90 be, ra_J (g 44) cJ 90 bf]) eu_2 hP hD rfl (fun hP hD => ?_)
  refine lv_iconst (v := 1) hx hb dX12_laysWays_4 ic_1 ?_
  refine lv_isub hx hb dX12_laysWays_5 ?_
  refine lv_istore_n (lv' := [(1, .int (nI dm - 1)), (0, .ref mm)]) hx hb dX12_laysWays_6 rfl hl (by decide) rfl (fun ls hl => ?_)
  refine lv_iload_n hx hb dX12_laysWays_7 rfl (lv_at hl 0 rfl) ?_
  refine lv_istore_n (lv' := [(2, .int (nI dm - 1)), (1, .int (nI dm - 1)), (0, .ref mm)]) hx hb dX12_laysWays_8 rfl hl (by decide) rfl (fun ls hl => ?_)
  have lp_4 : ∀ (n_5 : Nat) (dd : Nat) (zb : Nat → Int64) (H : Heap) (locs : List Loc) (ls : Array Slot), dd < n_5 → (dd ≤ dm) → (beOk (cfN nw yw yo mt_) dm dd zb) → va_P D vwCl [ro_ mm 12 (mo g (nI ta) (nI pa) (nI pe) pd (nI pb) pp pf pg pn rt rn (nI cd) sn (nI il) tk am at_ aa mt_ 0 (-1) wt wy (nI it_) (nI rm) (nI ud) (nI nu) sd (nI qn) (nI qw) qo (nI qb) (nI qp) qa (nI qi) (nI oc)), ra_I (g 20) cI 4 (l4 (nI l0) (nI l1) (nI dm) (nI l3)), ra_I (g 31) cI 120 nw, ra_I (g 37) cZ 900 yo, ra_I (g 36) cZ 900 yw, ra_J (g 43) cJ 90 zb, ra_J (g 44) cJ 90 bf] H → va_D A [ro_ mm 12 (mo g (nI ta) (nI pa) (nI pe) pd (nI pb) pp pf pg pn rt rn (nI cd) sn (nI il) tk am at_ aa mt_ 0 (-1) wt wy (nI it_) (nI rm) (nI ud) (nI nu) sd (nI qn) (nI qw) qo (nI qb) (nI qp) qa (nI qi) (nI oc)), ra_I (g 20) cI 4 (l4 (nI l0) (nI l1) (nI dm) (nI l3)), ra_I (g 31) cI 120 nw, ra_I (g 37) cZ 900 yo, ra_I (g 36) cZ 900 yw, ra_J (g 43) cJ 90 zb, ra_J (g 44) cJ 90 bf] → va_S A s.heap H locs → lv_has ls 7 [(2, .int (nI dd - 1)), (1, .int (nI dm - 1)), (0, .ref mm)] → W p l e { frames := 3, cells := 0, slots := 0, locals := 66 } s m ([.ref mm] : List Value).toArray below meth c H locs 0 0 (MQ below (skV D (skT cI cJ cC cZ cS) (fun (u : va_W) => ∃ (wy2 : Int64), ∃ (be2 : Nat → Int64), ∃ (bf2 : Nat → Int64), beOk (cfN nw yw yo mt_) dm 0 be2 ∧ wy2 = nL (wys (cfN nw yw yo mt_) (a0N nw) (dm - 1)) ∧ u = [ro_ mm 12 (mo g (nI ta) (nI pa) (nI pe) pd (nI pb) pp pf pg pn rt rn (nI cd) sn (nI il) tk am at_ aa mt_ 0 (-1) wt wy2 (nI it_) (nI rm) (nI ud) (nI nu) sd (nI qn) (nI qw) qo (nI qb) (nI qp) qa (nI qi) (nI oc)), ra_I (g 20) cI 4 (l4 (nI l0) (nI l1) (nI dm) (nI l3)), ra_I (g 31) cI 120 nw, ra_I (g 37) cZ 900 yo, ra_I (g 36) cZ 900 yw, ra_J (g 43) cJ 90 be2, ra_J (g 44) cJ 90 bf2]) A) ([.ref mm] : List Value).toArray s 0 0 A) (F0 m 9 ls []) := by
    intro n_5
    induction n_5 with
    | zero => intro dd zb H locs ls hm; exact absurd hm (Nat.not_lt_zero _)
    | succ n_5 ih_lp_4 =>
      intro dd zb H locs ls hm hdd hbe hP hD hS hl
      refine lv_iload_n hx hb dX12_laysWays_9 rfl (lv_at hl 0 rfl) ?_
      refine lv_if_lt (tgt := 111) hx hb dX12_laysWays_10 (by decide) (fun c_6 => ?_) (fun c_6 => ?_)
      · have c_6 : dd = 0 := npm0 dd (by omega) c_6
        refine lv_aload_n hx hb dX12_laysWays_111 rfl (lv_at hl 2 rfl) ?_
        refine lv_lconst (v := 0) hx hb dX12_laysWays_112 (by decide) ?_
        refine sk_put (ws' := [ro_ mm 12 (mo g (nI ta) (nI pa) (nI pe) pd (nI pb) pp pf pg pn rt rn (nI cd) sn (nI il) tk am at_ aa mt_ 0 (-1) wt 0 (nI it_) (nI rm) (nI ud) (nI nu) sd (nI qn) (nI qw) qo (nI qb) (nI qp) qa (nI qi) (nI oc)), ra_I (g 20) cI 4 (l4 (nI l0) (nI l1) (nI dm) (nI l3)), ra_I (g 31) cI 120 nw, ra_I (g 37) cZ 900 yo, ra_I (g 36) cZ 900 yw, ra_J (g 43) cJ 90 zb, ra_J (g 44) cJ 90 bf]) (C := RX12) (T := TX12) (N := 92) (v := .long 0) hx hb hts inlX12 tyX12 tyX12_ok nmX12 hown hK hP hD hS 0 rfl rfl 45 (Nat.le_of_ble_eq_true rfl) w_5_200 rfl rfl rfl (Nat.le_of_ble_eq_true rfl) rfl dX12_laysWays_113 (fun H locs hP hD hS => ?_)
        refine lv_iconst (v := 0) hx hb dX12_laysWays_116 ic_0 ?_
        refine lv_istore_n (lv' := [(2, .int 0), (1, .int (nI dm - 1)), (0, .ref mm)]) hx hb dX12_laysWays_117 rfl hl (by decide) rfl (fun ls hl => ?_)
        have lp_7 : ∀ (n_8 : Nat) (i : Nat) (zy : Int64) (zf : Nat → Int64) (H : Heap) (locs : List Loc) (ls : Array Slot), dm - i < n_8 → (i ≤ dm) → (bfOk (cfN nw yw yo mt_) (a0N nw) i zf) → (wyAt (cfN nw yw yo mt_) (a0N nw) dm i zy) → va_P D vwCl [ro_ mm 12 (mo g (nI ta) (nI pa) (nI pe) pd (nI pb) pp pf pg pn rt rn (nI cd) sn (nI il) tk am at_ aa mt_ 0 (-1) wt zy (nI it_) (nI rm) (nI ud) (nI nu) sd (nI qn) (nI qw) qo (nI qb) (nI qp) qa (nI qi) (nI oc)), ra_I (g 20) cI 4 (l4 (nI l0) (nI l1) (nI dm) (nI l3)), ra_I (g 31) cI 120 nw, ra_I (g 37) cZ 900 yo, ra_I (g 36) cZ 900 yw, ra_J (g 43) cJ 90 zb, ra_J (g 44) cJ 90 zf] H → va_D A [ro_ mm 12 (mo g (nI ta) (nI pa) (nI pe) pd (nI pb) pp pf pg pn rt rn (nI cd) sn (nI il) tk am at_ aa mt_ 0 (-1) wt zy (nI it_) (nI rm) (nI ud) (nI nu) sd (nI qn) (nI qw) qo (nI qb) (nI qp) qa (nI qi) (nI oc)), ra_I (g 20) cI 4 (l4 (nI l0) (nI l1) (nI dm) (nI l3)), ra_I (g 31) cI 120 nw, ra_I (g 37) cZ 900 yo, ra_I (g 36) cZ 900 yw, ra_J (g 43) cJ 90 zb, ra_J (g 44) cJ 90 zf] → va_S A s.heap H locs → lv_has ls 7 [(2, .int (nI i)), (1, .int (nI dm - 1)), (0, .ref mm)] → W p l e { frames := 3, cells := 0, slots := 0, locals := 66 } s m ([.ref mm] : List Value).toArray below meth c H locs 0 0 (MQ below (skV D (skT cI cJ cC cZ cS) (fun (u : va_W) => ∃ (wy2 : Int64), ∃ (be2 : Nat → Int64), ∃ (bf2 : Nat → Int64), beOk (cfN nw yw yo mt_) dm 0 be2 ∧ wy2 = nL (wys (cfN nw yw yo mt_) (a0N nw) (dm - 1)) ∧ u = [ro_ mm 12 (mo g (nI ta) (nI pa) (nI pe) pd (nI pb) pp pf pg pn rt rn (nI cd) sn (nI il) tk am at_ aa mt_ 0 (-1) wt wy2 (nI it_) (nI rm) (nI ud) (nI nu) sd (nI qn) (nI qw) qo (nI qb) (nI qp) qa (nI qi) (nI oc)), ra_I (g 20) cI 4 (l4 (nI l0) (nI l1) (nI dm) (nI l3)), ra_I (g 31) cI 120 nw, ra_I (g 37) cZ 900 yo, ra_I (g 36) cZ 900 yw, ra_J (g 43) cJ 90 be2, ra_J (g 44) cJ 90 bf2]) A) ([.ref mm] : List Value).toArray s 0 0 A) (F0 m 118 ls []) := by
          intro n_8
          induction n_8 with
          | zero => intro i zy zf H locs ls hm; exact absurd hm (Nat.not_lt_zero _)
          | succ n_8 ih_lp_7 =>
            intro i zy zf H locs ls hm hi hbf hzy hP hD hS hl
            refine lv_iload_n hx hb dX12_laysWays_118 rfl (lv_at hl 0 rfl) ?_
            refine lv_iload_n hx hb dX12_laysWays_119 rfl (lv_at hl 1 rfl) ?_
            refine lv_icmp_gt (tgt := 248) hx hb dX12_laysWays_120 (by decide) (fun c_9 => ?_) (fun c_9 => ?_)
            · have c_9 : ((dm : Nat) : Int) - 1 < ((i : Nat) : Int) := (ilt (ivp dm (by omega)) (ivn i (by omega))).mp c_9
              exact sk_vret hx hb hr hlocks hK hP hD hS (⟨zy, zb, zf, (be_z hbe (by omega)), wyAt_n hzy (by omega), rfl⟩) (Nat.le_of_ble_eq_true rfl) (Nat.le_of_ble_eq_true rfl) dX12_laysWays_248
            · have c_9 : ¬ (((dm : Nat) : Int) - 1 < ((i : Nat) : Int)) := fun h => c_9 ((ilt (ivp dm (by omega)) (ivn i (by omega))).mpr h)
              refine lv_iconst (v := 0) hx hb dX12_laysWays_123 ic_0 ?_
              refine lv_istore_n (lv' := [(3, .int 0), (2, .int (nI i)), (1, .int (nI dm - 1)), (0, .ref mm)]) hx hb dX12_laysWays_124 rfl hl (by decide) rfl (fun ls hl => ?_)
              have lp_10 : ∀ (n_11 : Nat) (jm : Nat) (zyb : Int64) (zg : Nat → Int64) (H : Heap) (locs : List Loc) (ls : Array Slot), 10 - jm < n_11 → (jm ≤ 10) → (bfOk2 (cfN nw yw yo mt_) (a0N nw) i jm zg) → (wyOk (cfN nw yw yo mt_) (a0N nw) dm i jm zyb) → va_P D vwCl [ro_ mm 12 (mo g (nI ta) (nI pa) (nI pe) pd (nI pb) pp pf pg pn rt rn (nI cd) sn (nI il) tk am at_ aa mt_ 0 (-1) wt zyb (nI it_) (nI rm) (nI ud) (nI nu) sd (nI qn) (nI qw) qo (nI qb) (nI qp) qa (nI qi) (nI oc)), ra_I (g 20) cI 4 (l4 (nI l0) (nI l1) (nI dm) (nI l3)), ra_I (g 31) cI 120 nw, ra_I (g 37) cZ 900 yo, ra_I (g 36) cZ 900 yw, ra_J (g 43) cJ 90 zb, ra_J (g 44) cJ 90 zg] H → va_D A [ro_ mm 12 (mo g (nI ta) (nI pa) (nI pe) pd (nI pb) pp pf pg pn rt rn (nI cd) sn (nI il) tk am at_ aa mt_ 0 (-1) wt zyb (nI it_) (nI rm) (nI ud) (nI nu) sd (nI qn) (nI qw) qo (nI qb) (nI qp) qa (nI qi) (nI oc)), ra_I (g 20) cI 4 (l4 (nI l0) (nI l1) (nI dm) (nI l3)), ra_I (g 31) cI 120 nw, ra_I (g 37) cZ 900 yo, ra_I (g 36) cZ 900 yw, ra_J (g 43) cJ 90 zb, ra_J (g 44) cJ 90 zg] → va_S A s.heap H locs → lv_has ls 7 [(3, .int (nI jm)), (2, .int (nI i)), (1, .int (nI dm - 1)), (0, .ref mm)] → W p l e { frames := 3, cells := 0, slots := 0, locals := 66 } s m ([.ref mm] : List Value).toArray below meth c H locs 0 0 (MQ below (skV D (skT cI cJ cC cZ cS) (fun (u : va_W) => ∃ (wy2 : Int64), ∃ (be2 : Nat → Int64), ∃ (bf2 : Nat → Int64), beOk (cfN nw yw yo mt_) dm 0 be2 ∧ wy2 = nL (wys (cfN nw yw yo mt_) (a0N nw) (dm - 1)) ∧ u = [ro_ mm 12 (mo g (nI ta) (nI pa) (nI pe) pd (nI pb) pp pf pg pn rt rn (nI cd) sn (nI il) tk am at_ aa mt_ 0 (-1) wt wy2 (nI it_) (nI rm) (nI ud) (nI nu) sd (nI qn) (nI qw) qo (nI qb) (nI qp) qa (nI qi) (nI oc)), ra_I (g 20) cI 4 (l4 (nI l0) (nI l1) (nI dm) (nI l3)), ra_I (g 31) cI 120 nw, ra_I (g 37) cZ 900 yo, ra_I (g 36) cZ 900 yw, ra_J (g 43) cJ 90 be2, ra_J (g 44) cJ 90 bf2]) A) ([.ref mm] : List Value).toArray s 0 0 A) (F0 m 125 ls []) := by
                intro n_11
                induction n_11 with
                | zero => intro jm zyb zg H locs ls hm; exact absurd hm (Nat.not_lt_zero _)
                | succ n_11 ih_lp_10 =>
                  intro jm zyb zg H locs ls hm hjm hbf2 hzyb hP hD hS hl
                  refine lv_iload_n hx hb dX12_laysWays_125 rfl (lv_at hl 0 rfl) ?_
                  refine lv_bipush (v := 10) hx hb dX12_laysWays_126 (by decide) ?_
                  refine lv_icmp_ge (tgt := 242) hx hb dX12_laysWays_128 (by decide) (fun c_12 => ?_) (fun c_12 => ?_)
                  · have c_12 : 10 ≤ jm := (nle 10 jm (Nat.le_of_ble_eq_true rfl) (by omega)).mp c_12
                    refine lv_iinc (v := nI (i + 1)) (lv' := [(2, .int (nI (i + 1))), (3, .int (nI jm)), (1, .int (nI dm - 1)), (0, .ref mm)]) hx hb dX12_laysWays_242 hl (k := 1) rfl (ninc i 1 (by decide)) (by decide) rfl (fun ls hl => ?_)
                    refine lv_goto (tgt := 118) hx hb dX12_laysWays_245 (by decide) ?_
                    exact ih_lp_7 (i + 1) zyb zg _ _ _ (by omega) (by omega) (bf_fin hbf2 (by omega)) (wy_fin hzyb (by omega)) hP hD hS (lv_sub hl [0, 2, 3] rfl)
                  · have c_12 : ¬ (10 ≤ jm) := fun h => c_12 ((nle 10 jm (Nat.le_of_ble_eq_true rfl) (by omega)).mpr h)
                    refine lv_iload_n hx hb dX12_laysWays_131 rfl (lv_at hl 1 rfl) ?_
                    refine lv_if_ne (tgt := 154) hx hb dX12_laysWays_132 (by decide) (fun c_13 => ?_) (fun c_13 => ?_)
                    · have c_13 : ¬ (i = 0) := fun h => c_13 ((neq i 0 (by omega) (Nat.le_of_ble_eq_true rfl)).mpr h)
                      refine lv_lconst (v := 0) hx hb dX12_laysWays_154 (by decide) ?_
                      refine lv_lstore (lv' := [(4, .long 0), (3, .int (nI jm)), (2, .int (nI i)), (1, .int (nI dm - 1)), (0, .ref mm)]) hx hb dX12_laysWays_155 hl (by decide) rfl (fun ls hl => ?_)
                      refine lv_iconst (v := 0) hx hb dX12_laysWays_157 ic_0 ?_
                      refine lv_istore (lv' := [(6, .int 0), (4, .long 0), (3, .int (nI jm)), (2, .int (nI i)), (1, .int (nI dm - 1)), (0, .ref mm)]) hx hb dX12_laysWays_158 hl (by decide) rfl (fun ls hl => ?_)
                      have lp_14 : ∀ (n_15 : Nat) (kk : Nat) (xn : Int64) (H : Heap) (locs : List Loc) (ls : Array Slot), 10 - kk < n_15 → (kk ≤ 10) → (fx (cfN nw yw yo mt_) (a0N nw) i jm kk xn) → va_P D vwCl [ro_ mm 12 (mo g (nI ta) (nI pa) (nI pe) pd (nI pb) pp pf pg pn rt rn (nI cd) sn (nI il) tk am at_ aa mt_ 0 (-1) wt zyb (nI it_) (nI rm) (nI ud) (nI nu) sd (nI qn) (nI qw) qo (nI qb) (nI qp) qa (nI qi) (nI oc)), ra_I (g 20) cI 4 (l4 (nI l0) (nI l1) (nI dm) (nI l3)), ra_I (g 31) cI 120 nw, ra_I (g 37) cZ 900 yo, ra_I (g 36) cZ 900 yw, ra_J (g 43) cJ 90 zb, ra_J (g 44) cJ 90 zg] H → va_D A [ro_ mm 12 (mo g (nI ta) (nI pa) (nI pe) pd (nI pb) pp pf pg pn rt rn (nI cd) sn (nI il) tk am at_ aa mt_ 0 (-1) wt zyb (nI it_) (nI rm) (nI ud) (nI nu) sd (nI qn) (nI qw) qo (nI qb) (nI qp) qa (nI qi) (nI oc)), ra_I (g 20) cI 4 (l4 (nI l0) (nI l1) (nI dm) (nI l3)), ra_I (g 31) cI 120 nw, ra_I (g 37) cZ 900 yo, ra_I (g 36) cZ 900 yw, ra_J (g 43) cJ 90 zb, ra_J (g 44) cJ 90 zg] → va_S A s.heap H locs → lv_has ls 7 [(6, .int (nI kk)), (4, .long xn), (3, .int (nI jm)), (2, .int (nI i)), (1, .int (nI dm - 1)), (0, .ref mm)] → W p l e { frames := 3, cells := 0, slots := 0, locals := 66 } s m ([.ref mm] : List Value).toArray below meth c H locs 0 0 (MQ below (skV D (skT cI cJ cC cZ cS) (fun (u : va_W) => ∃ (wy2 : Int64), ∃ (be2 : Nat → Int64), ∃ (bf2 : Nat → Int64), beOk (cfN nw yw yo mt_) dm 0 be2 ∧ wy2 = nL (wys (cfN nw yw yo mt_) (a0N nw) (dm - 1)) ∧ u = [ro_ mm 12 (mo g (nI ta) (nI pa) (nI pe) pd (nI pb) pp pf pg pn rt rn (nI cd) sn (nI il) tk am at_ aa mt_ 0 (-1) wt wy2 (nI it_) (nI rm) (nI ud) (nI nu) sd (nI qn) (nI qw) qo (nI qb) (nI qp) qa (nI qi) (nI oc)), ra_I (g 20) cI 4 (l4 (nI l0) (nI l1) (nI dm) (nI l3)), ra_I (g 31) cI 120 nw, ra_I (g 37) cZ 900 yo, ra_I (g 36) cZ 900 yw, ra_J (g 43) cJ 90 be2, ra_J (g 44) cJ 90 bf2]) A) ([.ref mm] : List Value).toArray s 0 0 A) (F0 m 160 ls []) := by
                        intro n_15
                        induction n_15 with
                        | zero => intro kk xn H locs ls hm; exact absurd hm (Nat.not_lt_zero _)
                        | succ n_15 ih_lp_14 =>
                          intro kk xn H locs ls hm hkk hfx hP hD hS hl
                          refine lv_iload hx hb dX12_laysWays_160 (lv_at hl 0 rfl) ?_
                          refine lv_bipush (v := 10) hx hb dX12_laysWays_162 (by decide) ?_
                          refine lv_icmp_ge (tgt := 207) hx hb dX12_laysWays_164 (by decide) (fun c_16 => ?_) (fun c_16 => ?_)
                          · have c_16 : 10 ≤ kk := (nle 10 kk (Nat.le_of_ble_eq_true rfl) (by omega)).mp c_16
                            refine lv_aload_n hx hb dX12_laysWays_207 rfl (lv_at hl 5 rfl) ?_
                            refine sk_get (v := .ref (g 44)) (C := RX12) (T := TX12) (N := 92) hx hb hts inlX12 hown hK hP 0 rfl rfl 44 (Nat.le_of_ble_eq_true rfl) w_5_199 rfl dX12_laysWays_208 ?_
                            refine lv_bipush (v := 10) hx hb dX12_laysWays_211 (by decide) ?_
                            refine lv_iload_n hx hb dX12_laysWays_213 rfl (lv_at hl 3 rfl) ?_
                            refine lv_imul hx hb dX12_laysWays_214 ?_
                            refine sk_top (nI (10 * i)) (nmul 10 i) ?_
                            refine lv_iload_n hx hb dX12_laysWays_215 rfl (lv_at hl 2 rfl) ?_
                            refine lv_iadd hx hb dX12_laysWays_216 ?_
                            refine sk_top (nI (10 * i + jm)) (nI_add (10 * i) jm) ?_
                            refine lv_lload hx hb dX12_laysWays_217 (lv_at hl 1 rfl) ?_
                            refine sk_lastP (Pr := bfOk2 (cfN nw yw yo mt_) (a0N nw) i (jm + 1)) (ws' := fun f_17 => [ro_ mm 12 (mo g (nI ta) (nI pa) (nI pe) pd (nI pb) pp pf pg pn rt rn (nI cd) sn (nI il) tk am at_ aa mt_ 0 (-1) wt zyb (nI it_) (nI rm) (nI ud) (nI nu) sd (nI qn) (nI qw) qo (nI qb) (nI qp) qa (nI qi) (nI oc)), ra_I (g 20) cI 4 (l4 (nI l0) (nI l1) (nI dm) (nI l3)), ra_I (g 31) cI 120 nw, ra_I (g 37) cZ 900 yo, ra_I (g 36) cZ 900 yw, ra_J (g 43) cJ 90 zb, ra_J (g 44) cJ 90 f_17]) hx hb hK hP hD hS 6 1 rfl rfl (vin (10 * i + jm) 90 (by omega) (Nat.le_of_ble_eq_true rfl)) (fun _ => rfl) (bf_store hbf2 (by omega) (by omega) (fx_fin hfx (by omega))) dX12_laysWays_219 (fun f_17 H locs hf_18 hP hD hS => ?_)
                            refine lv_iload_n hx hb dX12_laysWays_220 rfl (lv_at hl 3 rfl) ?_
                            refine lv_iload_n hx hb dX12_laysWays_221 rfl (lv_at hl 4 rfl) ?_
                            refine lv_icmp_ne (tgt := 236) hx hb dX12_laysWays_222 (by decide) (fun c_19 => ?_) (fun c_19 => ?_)
                            · have c_19 : ¬ (((i : Nat) : Int) = ((dm : Nat) : Int) - 1) := fun h => c_19 ((ieq (ivn i (by omega)) (ivp dm (by omega))).mpr h)
                              refine lv_iinc (v := nI (jm + 1)) (lv' := [(3, .int (nI (jm + 1))), (6, .int (nI kk)), (4, .long xn), (2, .int (nI i)), (1, .int (nI dm - 1)), (0, .ref mm)]) hx hb dX12_laysWays_236 hl (k := 2) rfl (ninc jm 1 (by decide)) (by decide) rfl (fun ls hl => ?_)
                              refine lv_goto (tgt := 125) hx hb dX12_laysWays_239 (by decide) ?_
                              exact ih_lp_10 (jm + 1) zyb f_17 _ _ _ (by omega) (by omega) hf_18 (wy_keep hzyb (by omega)) hP hD hS (lv_sub hl [0, 3, 4, 5] rfl)
                            · have c_19 : ((i : Nat) : Int) = ((dm : Nat) : Int) - 1 := (ieq (ivn i (by omega)) (ivp dm (by omega))).mp c_19
                              refine lv_aload_n hx hb dX12_laysWays_225 rfl (lv_at hl 5 rfl) ?_
                              refine lv_dup hx hb dX12_laysWays_226 rfl ?_
                              refine sk_get (v := .long zyb) (C := RX12) (T := TX12) (N := 92) hx hb hts inlX12 hown hK hP 0 rfl rfl 45 (Nat.le_of_ble_eq_true rfl) w_5_200 rfl dX12_laysWays_227 ?_
                              refine lv_lload hx hb dX12_laysWays_230 (lv_at hl 1 rfl) ?_
                              refine lv_ladd hx hb dX12_laysWays_232 ?_
                              refine lv_topl (fun v_20 ev_20 => ?_)
                              refine sk_put (ws' := [ro_ mm 12 (mo g (nI ta) (nI pa) (nI pe) pd (nI pb) pp pf pg pn rt rn (nI cd) sn (nI il) tk am at_ aa mt_ 0 (-1) wt v_20 (nI it_) (nI rm) (nI ud) (nI nu) sd (nI qn) (nI qw) qo (nI qb) (nI qp) qa (nI qi) (nI oc)), ra_I (g 20) cI 4 (l4 (nI l0) (nI l1) (nI dm) (nI l3)), ra_I (g 31) cI 120 nw, ra_I (g 37) cZ 900 yo, ra_I (g 36) cZ 900 yw, ra_J (g 43) cJ 90 zb, ra_J (g 44) cJ 90 f_17]) (C := RX12) (T := TX12) (N := 92) (v := .long v_20) hx hb hts inlX12 tyX12 tyX12_ok nmX12 hown hK hP hD hS 0 rfl rfl 45 (Nat.le_of_ble_eq_true rfl) w_5_200 rfl rfl rfl (Nat.le_of_ble_eq_true rfl) rfl dX12_laysWays_233 (fun H locs hP hD hS => ?_)
                              refine lv_iinc (v := nI (jm + 1)) (lv' := [(3, .int (nI (jm + 1))), (6, .int (nI kk)), (4, .long xn), (2, .int (nI i)), (1, .int (nI dm - 1)), (0, .ref mm)]) hx hb dX12_laysWays_236 hl (k := 2) rfl (ninc jm 1 (by decide)) (by decide) rfl (fun ls hl => ?_)
                              refine lv_goto (tgt := 125) hx hb dX12_laysWays_239 (by decide) ?_
                              exact ih_lp_10 (jm + 1) v_20 f_17 _ _ _ (by omega) (by omega) hf_18 (wy_add hzyb (fx_fin hfx (by omega)) (by omega) ev_20) hP hD hS (lv_sub hl [0, 3, 4, 5] rfl)
                          · have c_16 : ¬ (10 ≤ kk) := fun h => c_16 ((nle 10 kk (Nat.le_of_ble_eq_true rfl) (by omega)).mpr h)
                            refine lv_iload_n hx hb dX12_laysWays_167 rfl (lv_at hl 3 rfl) ?_
                            refine lv_if_le (tgt := 207) hx hb dX12_laysWays_168 (by decide) (fun c_21 => ?_) (fun c_21 => ?_)
                            · have c_21 : i ≤ 0 := (nle i 0 (by omega) (Nat.le_of_ble_eq_true rfl)).mp c_21
                              refine lv_aload_n hx hb dX12_laysWays_207 rfl (lv_at hl 5 rfl) ?_
                              refine sk_get (v := .ref (g 44)) (C := RX12) (T := TX12) (N := 92) hx hb hts inlX12 hown hK hP 0 rfl rfl 44 (Nat.le_of_ble_eq_true rfl) w_5_199 rfl dX12_laysWays_208 ?_
                              refine lv_bipush (v := 10) hx hb dX12_laysWays_211 (by decide) ?_
                              refine lv_iload_n hx hb dX12_laysWays_213 rfl (lv_at hl 3 rfl) ?_
                              refine lv_imul hx hb dX12_laysWays_214 ?_
                              refine sk_top (nI (10 * i)) (nmul 10 i) ?_
                              refine lv_iload_n hx hb dX12_laysWays_215 rfl (lv_at hl 2 rfl) ?_
                              refine lv_iadd hx hb dX12_laysWays_216 ?_
                              refine sk_top (nI (10 * i + jm)) (nI_add (10 * i) jm) ?_
                              refine lv_lload hx hb dX12_laysWays_217 (lv_at hl 1 rfl) ?_
                              refine sk_lastP (Pr := bfOk2 (cfN nw yw yo mt_) (a0N nw) i (jm + 1)) (ws' := fun f_22 => [ro_ mm 12 (mo g (nI ta) (nI pa) (nI pe) pd (nI pb) pp pf pg pn rt rn (nI cd) sn (nI il) tk am at_ aa mt_ 0 (-1) wt zyb (nI it_) (nI rm) (nI ud) (nI nu) sd (nI qn) (nI qw) qo (nI qb) (nI qp) qa (nI qi) (nI oc)), ra_I (g 20) cI 4 (l4 (nI l0) (nI l1) (nI dm) (nI l3)), ra_I (g 31) cI 120 nw, ra_I (g 37) cZ 900 yo, ra_I (g 36) cZ 900 yw, ra_J (g 43) cJ 90 zb, ra_J (g 44) cJ 90 f_22]) hx hb hK hP hD hS 6 1 rfl rfl (vin (10 * i + jm) 90 (by omega) (Nat.le_of_ble_eq_true rfl)) (fun _ => rfl) (bf_store hbf2 (by omega) (by omega) (fx_fin hfx (by omega))) dX12_laysWays_219 (fun f_22 H locs hf_23 hP hD hS => ?_)
                              refine lv_iload_n hx hb dX12_laysWays_220 rfl (lv_at hl 3 rfl) ?_
                              refine lv_iload_n hx hb dX12_laysWays_221 rfl (lv_at hl 4 rfl) ?_
                              refine lv_icmp_ne (tgt := 236) hx hb dX12_laysWays_222 (by decide) (fun c_24 => ?_) (fun c_24 => ?_)
                              · have c_24 : ¬ (((i : Nat) : Int) = ((dm : Nat) : Int) - 1) := fun h => c_24 ((ieq (ivn i (by omega)) (ivp dm (by omega))).mpr h)
                                refine lv_iinc (v := nI (jm + 1)) (lv' := [(3, .int (nI (jm + 1))), (6, .int (nI kk)), (4, .long xn), (2, .int (nI i)), (1, .int (nI dm - 1)), (0, .ref mm)]) hx hb dX12_laysWays_236 hl (k := 2) rfl (ninc jm 1 (by decide)) (by decide) rfl (fun ls hl => ?_)
                                refine lv_goto (tgt := 125) hx hb dX12_laysWays_239 (by decide) ?_
                                exact ih_lp_10 (jm + 1) zyb f_22 _ _ _ (by omega) (by omega) hf_23 (wy_keep hzyb (by omega)) hP hD hS (lv_sub hl [0, 3, 4, 5] rfl)
                              · have c_24 : ((i : Nat) : Int) = ((dm : Nat) : Int) - 1 := (ieq (ivn i (by omega)) (ivp dm (by omega))).mp c_24
                                refine lv_aload_n hx hb dX12_laysWays_225 rfl (lv_at hl 5 rfl) ?_
                                refine lv_dup hx hb dX12_laysWays_226 rfl ?_
                                refine sk_get (v := .long zyb) (C := RX12) (T := TX12) (N := 92) hx hb hts inlX12 hown hK hP 0 rfl rfl 45 (Nat.le_of_ble_eq_true rfl) w_5_200 rfl dX12_laysWays_227 ?_
                                refine lv_lload hx hb dX12_laysWays_230 (lv_at hl 1 rfl) ?_
                                refine lv_ladd hx hb dX12_laysWays_232 ?_
                                refine lv_topl (fun v_25 ev_25 => ?_)
                                refine sk_put (ws' := [ro_ mm 12 (mo g (nI ta) (nI pa) (nI pe) pd (nI pb) pp pf pg pn rt rn (nI cd) sn (nI il) tk am at_ aa mt_ 0 (-1) wt v_25 (nI it_) (nI rm) (nI ud) (nI nu) sd (nI qn) (nI qw) qo (nI qb) (nI qp) qa (nI qi) (nI oc)), ra_I (g 20) cI 4 (l4 (nI l0) (nI l1) (nI dm) (nI l3)), ra_I (g 31) cI 120 nw, ra_I (g 37) cZ 900 yo, ra_I (g 36) cZ 900 yw, ra_J (g 43) cJ 90 zb, ra_J (g 44) cJ 90 f_22]) (C := RX12) (T := TX12) (N := 92) (v := .long v_25) hx hb hts inlX12 tyX12 tyX12_ok nmX12 hown hK hP hD hS 0 rfl rfl 45 (Nat.le_of_ble_eq_true rfl) w_5_200 rfl rfl rfl (Nat.le_of_ble_eq_true rfl) rfl dX12_laysWays_233 (fun H locs hP hD hS => ?_)
                                refine lv_iinc (v := nI (jm + 1)) (lv' := [(3, .int (nI (jm + 1))), (6, .int (nI kk)), (4, .long xn), (2, .int (nI i)), (1, .int (nI dm - 1)), (0, .ref mm)]) hx hb dX12_laysWays_236 hl (k := 2) rfl (ninc jm 1 (by decide)) (by decide) rfl (fun ls hl => ?_)
                                refine lv_goto (tgt := 125) hx hb dX12_laysWays_239 (by decide) ?_
                                exact ih_lp_10 (jm + 1) v_25 f_22 _ _ _ (by omega) (by omega) hf_23 (wy_add hzyb (fx_fin hfx (by omega)) (by omega) ev_25) hP hD hS (lv_sub hl [0, 3, 4, 5] rfl)
                            · have c_21 : ¬ (i ≤ 0) := fun h => c_21 ((nle i 0 (by omega) (Nat.le_of_ble_eq_true rfl)).mpr h)
                              refine lv_aload_n hx hb dX12_laysWays_171 rfl (lv_at hl 5 rfl) ?_
                              refine lv_iload_n hx hb dX12_laysWays_172 rfl (lv_at hl 3 rfl) ?_
                              refine lv_iload hx hb dX12_laysWays_173 (lv_at hl 0 rfl) ?_
                              refine lv_iload_n hx hb dX12_laysWays_175 rfl (lv_at hl 2 rfl) ?_
                              refine sk_Vi (q0 := 0) (n := 3) (rest := []) (wr := fmR om_7_5c _) ⟨hx, hb, hml, hown, hts⟩ hl.1 (c_m_canFollow0 l D cI cJ cC cZ cS mm g ta pa pe pd pb pp pf pg pn rt rn cd sn il tk am at_ aa mt_ wt zyb it_ rm ud nu sd qn qw qo qb qp qa qi oc i kk jm nw yo yw (by omega) (by omega) (by omega) hnw) w_7_201 w_7_203 w_0_85 w_1_14 w_7_204 hd_X12_canFollow_3 ⟨⟨(Nat.le_of_ble_eq_true rfl), (Nat.le_of_ble_eq_true rfl)⟩, (Nat.le_of_ble_eq_true rfl), (Nat.le_of_ble_eq_true rfl)⟩ hK hP hD hS hA (fmT om_7_5c 0) (fmF om_7_5c 0) (fm_C1 rfl rfl) (fm_R rfl rfl) (fm_nT om_7_5c 0) (fm_nF om_7_5c 0) (fm_di om_7_5c 0) rfl rfl rfl rfl (Nat.le_of_ble_eq_true rfl) dX12_laysWays_176 (fun r_27 u H locs hw hP hD hS => ?_)
                              refine exE hw (fun b_26 hw1 => anE hw1 (fun hb1_28 hw2 => anE hw2 (fun hb2_29 hw3 => anE hw3 (fun er_31 eu_30 => ?_))))
                              clear hw hw1 hw2 hw3
                              subst er_31
                              refine o_mgE (ws' := [ro_ mm 12 (mo g (nI ta) (nI pa) (nI pe) pd (nI pb) pp pf pg pn rt rn (nI cd) sn (nI il) tk am at_ aa mt_ 0 (-1) wt zyb (nI it_) (nI rm) (nI ud) (nI nu) sd (nI qn) (nI qw) qo (nI qb) (nI qp) qa (nI qi) (nI oc)), ra_I (g 20) cI 4 (l4 (nI l0) (nI l1) (nI dm) (nI l3)), ra_I (g 31) cI 120 nw, ra_I (g 37) cZ 900 yo, ra_I (g 36) cZ 900 yw, ra_J (g 43) cJ 90 zb, ra_J (g 44) cJ 90 zg]) eu_30 hP hD rfl (fun hP hD => ?_)
                              refine lv_if_eq (tgt := 201) hx hb dX12_laysWays_179 (by decide) (fun c_32 => ?_) (fun c_32 => ?_)
                              · have c_32 : b_26 = 0 := (neq b_26 0 (by omega) (Nat.le_of_ble_eq_true rfl)).mp c_32
                                refine lv_iinc (v := nI (kk + 1)) (lv' := [(6, .int (nI (kk + 1))), (4, .long xn), (3, .int (nI jm)), (2, .int (nI i)), (1, .int (nI dm - 1)), (0, .ref mm)]) hx hb dX12_laysWays_201 hl (k := 0) rfl (ninc kk 1 (by decide)) (by decide) rfl (fun ls hl => ?_)
                                refine lv_goto (tgt := 160) hx hb dX12_laysWays_204 (by decide) ?_
                                exact ih_lp_14 (kk + 1) xn _ _ _ (by omega) (by omega) (fx_no hfx (by omega) (or_0 hb1_28 (by omega))) hP hD hS (lv_sub hl [0, 1, 2, 3, 4, 5] rfl)
                              · have c_32 : ¬ (b_26 = 0) := fun h => c_32 ((neq b_26 0 (by omega) (Nat.le_of_ble_eq_true rfl)).mpr h)
                                refine lv_lload hx hb dX12_laysWays_182 (lv_at hl 1 rfl) ?_
                                refine lv_aload_n hx hb dX12_laysWays_184 rfl (lv_at hl 5 rfl) ?_
                                refine sk_get (v := .ref (g 44)) (C := RX12) (T := TX12) (N := 92) hx hb hts inlX12 hown hK hP 0 rfl rfl 44 (Nat.le_of_ble_eq_true rfl) w_5_199 rfl dX12_laysWays_185 ?_
                                refine lv_bipush (v := 10) hx hb dX12_laysWays_188 (by decide) ?_
                                refine lv_iload_n hx hb dX12_laysWays_190 rfl (lv_at hl 3 rfl) ?_
                                refine lv_iconst (v := 1) hx hb dX12_laysWays_191 ic_1 ?_
                                refine lv_isub hx hb dX12_laysWays_192 ?_
                                refine sk_top (nI (i - 1)) (nsub i 1 (by omega)) ?_
                                refine lv_imul hx hb dX12_laysWays_193 ?_
                                refine sk_top (nI (10 * (i - 1))) (nmul 10 (i - 1)) ?_
                                refine lv_iload hx hb dX12_laysWays_194 (lv_at hl 0 rfl) ?_
                                refine lv_iadd hx hb dX12_laysWays_196 ?_
                                refine sk_top (nI (10 * (i - 1) + kk)) (nI_add (10 * (i - 1)) kk) ?_
                                refine va_lald hx hb hK.1 hP 6 1 rfl rfl (vin (10 * (i - 1) + kk) 90 (by omega) (Nat.le_of_ble_eq_true rfl)) dX12_laysWays_197 ?_
                                refine lv_topl (fun v_33 ev_33 => ?_)
                                refine lv_ladd hx hb dX12_laysWays_198 ?_
                                refine lv_topl (fun v_34 ev_34 => ?_)
                                refine lv_lstore (lv' := [(4, .long v_34), (6, .int (nI kk)), (3, .int (nI jm)), (2, .int (nI i)), (1, .int (nI dm - 1)), (0, .ref mm)]) hx hb dX12_laysWays_199 hl (by decide) rfl (fun ls hl => ?_)
                                refine lv_iinc (v := nI (kk + 1)) (lv' := [(6, .int (nI (kk + 1))), (4, .long v_34), (3, .int (nI jm)), (2, .int (nI i)), (1, .int (nI dm - 1)), (0, .ref mm)]) hx hb dX12_laysWays_201 hl (k := 1) rfl (ninc kk 1 (by decide)) (by decide) rfl (fun ls hl => ?_)
                                refine lv_goto (tgt := 160) hx hb dX12_laysWays_204 (by decide) ?_
                                exact ih_lp_14 (kk + 1) v_34 _ _ _ (by omega) (by omega) (fx_yes hfx (by omega) (or_1 hb1_28 (by omega)) (bf_get hbf2.1 (by omega) (by omega) (by omega) ev_33) ev_34) hP hD hS (lv_sub hl [0, 1, 2, 3, 4, 5] rfl)
                      exact lp_14 (10 - 0 + 1) 0 0 _ _ _ (Nat.lt_succ_self _) (by omega) (fx_3 (by omega)) hP hD hS (lv_sub hl [0, 1, 2, 3, 4, 5] rfl)
                    · have c_13 : i = 0 := (neq i 0 (by omega) (Nat.le_of_ble_eq_true rfl)).mp c_13
                      refine lv_aload_n hx hb dX12_laysWays_135 rfl (lv_at hl 3 rfl) ?_
                      refine lv_iconst (v := 0) hx hb dX12_laysWays_136 ic_0 ?_
                      refine lv_aload_n hx hb dX12_laysWays_137 rfl (lv_at hl 3 rfl) ?_
                      refine sk_get (v := .ref (g 31)) (C := RX12) (T := TX12) (N := 92) hx hb hts inlX12 hown hK hP 0 rfl rfl 31 (Nat.le_of_ble_eq_true rfl) w_5_186 rfl dX12_laysWays_138 ?_
                      refine lv_iconst (v := 1) hx hb dX12_laysWays_141 ic_1 ?_
                      refine va_iald hx hb hK.1 hP 2 0 rfl rfl (by unfold vp_in; decide) dX12_laysWays_142 ?_
                      obtain ⟨k_35, hk_35, ek_35⟩ := nowOk_1 hnw
                      refine sk_top (nI k_35) ek_35 ?_
                      refine lv_iload_n hx hb dX12_laysWays_143 rfl (lv_at hl 0 rfl) ?_
                      refine sk_Vi (q0 := 0) (n := 3) (rest := []) (wr := fmR om_7_5c _) ⟨hx, hb, hml, hown, hts⟩ hl.1 (c_m_canFollow0 l D cI cJ cC cZ cS mm g ta pa pe pd pb pp pf pg pn rt rn cd sn il tk am at_ aa mt_ wt zyb it_ rm ud nu sd qn qw qo qb qp qa qi oc 0 k_35 jm nw yo yw (by omega) (by omega) (by omega) hnw) w_7_201 w_7_203 w_0_85 w_1_14 w_7_204 hd_X12_canFollow_3 ⟨⟨(Nat.le_of_ble_eq_true rfl), (Nat.le_of_ble_eq_true rfl)⟩, (Nat.le_of_ble_eq_true rfl), (Nat.le_of_ble_eq_true rfl)⟩ hK hP hD hS hA (fmT om_7_5c 0) (fmF om_7_5c 0) (fm_C1 rfl rfl) (fm_R rfl rfl) (fm_nT om_7_5c 0) (fm_nF om_7_5c 0) (fm_di om_7_5c 0) rfl rfl rfl rfl (Nat.le_of_ble_eq_true rfl) dX12_laysWays_144 (fun r_37 u H locs hw hP hD hS => ?_)
                      refine exE hw (fun b_36 hw1 => anE hw1 (fun hb1_38 hw2 => anE hw2 (fun hb2_39 hw3 => anE hw3 (fun er_41 eu_40 => ?_))))
                      clear hw hw1 hw2 hw3
                      subst er_41
                      refine o_mgE (ws' := [ro_ mm 12 (mo g (nI ta) (nI pa) (nI pe) pd (nI pb) pp pf pg pn rt rn (nI cd) sn (nI il) tk am at_ aa mt_ 0 (-1) wt zyb (nI it_) (nI rm) (nI ud) (nI nu) sd (nI qn) (nI qw) qo (nI qb) (nI qp) qa (nI qi) (nI oc)), ra_I (g 20) cI 4 (l4 (nI l0) (nI l1) (nI dm) (nI l3)), ra_I (g 31) cI 120 nw, ra_I (g 37) cZ 900 yo, ra_I (g 36) cZ 900 yw, ra_J (g 43) cJ 90 zb, ra_J (g 44) cJ 90 zg]) eu_40 hP hD rfl (fun hP hD => ?_)
                      have ha0 := a0_eq ek_35 hk_35
                      refine lv_if_eq (tgt := 154) hx hb dX12_laysWays_147 (by decide) (fun c_42 => ?_) (fun c_42 => ?_)
                      · have c_42 : b_36 = 0 := (neq b_36 0 (by omega) (Nat.le_of_ble_eq_true rfl)).mp c_42
                        refine lv_lconst (v := 0) hx hb dX12_laysWays_154 (by decide) ?_
                        refine lv_lstore (lv' := [(4, .long 0), (3, .int (nI jm)), (2, .int (nI i)), (1, .int (nI dm - 1)), (0, .ref mm)]) hx hb dX12_laysWays_155 hl (by decide) rfl (fun ls hl => ?_)
                        refine lv_iconst (v := 0) hx hb dX12_laysWays_157 ic_0 ?_
                        refine lv_istore (lv' := [(6, .int 0), (4, .long 0), (3, .int (nI jm)), (2, .int (nI i)), (1, .int (nI dm - 1)), (0, .ref mm)]) hx hb dX12_laysWays_158 hl (by decide) rfl (fun ls hl => ?_)
                        have lp_43 : ∀ (n_44 : Nat) (kk : Nat) (xn : Int64) (H : Heap) (locs : List Loc) (ls : Array Slot), 10 - kk < n_44 → (kk ≤ 10) → (fx (cfN nw yw yo mt_) (a0N nw) i jm kk xn) → va_P D vwCl [ro_ mm 12 (mo g (nI ta) (nI pa) (nI pe) pd (nI pb) pp pf pg pn rt rn (nI cd) sn (nI il) tk am at_ aa mt_ 0 (-1) wt zyb (nI it_) (nI rm) (nI ud) (nI nu) sd (nI qn) (nI qw) qo (nI qb) (nI qp) qa (nI qi) (nI oc)), ra_I (g 20) cI 4 (l4 (nI l0) (nI l1) (nI dm) (nI l3)), ra_I (g 31) cI 120 nw, ra_I (g 37) cZ 900 yo, ra_I (g 36) cZ 900 yw, ra_J (g 43) cJ 90 zb, ra_J (g 44) cJ 90 zg] H → va_D A [ro_ mm 12 (mo g (nI ta) (nI pa) (nI pe) pd (nI pb) pp pf pg pn rt rn (nI cd) sn (nI il) tk am at_ aa mt_ 0 (-1) wt zyb (nI it_) (nI rm) (nI ud) (nI nu) sd (nI qn) (nI qw) qo (nI qb) (nI qp) qa (nI qi) (nI oc)), ra_I (g 20) cI 4 (l4 (nI l0) (nI l1) (nI dm) (nI l3)), ra_I (g 31) cI 120 nw, ra_I (g 37) cZ 900 yo, ra_I (g 36) cZ 900 yw, ra_J (g 43) cJ 90 zb, ra_J (g 44) cJ 90 zg] → va_S A s.heap H locs → lv_has ls 7 [(6, .int (nI kk)), (4, .long xn), (3, .int (nI jm)), (2, .int (nI i)), (1, .int (nI dm - 1)), (0, .ref mm)] → W p l e { frames := 3, cells := 0, slots := 0, locals := 66 } s m ([.ref mm] : List Value).toArray below meth c H locs 0 0 (MQ below (skV D (skT cI cJ cC cZ cS) (fun (u : va_W) => ∃ (wy2 : Int64), ∃ (be2 : Nat → Int64), ∃ (bf2 : Nat → Int64), beOk (cfN nw yw yo mt_) dm 0 be2 ∧ wy2 = nL (wys (cfN nw yw yo mt_) (a0N nw) (dm - 1)) ∧ u = [ro_ mm 12 (mo g (nI ta) (nI pa) (nI pe) pd (nI pb) pp pf pg pn rt rn (nI cd) sn (nI il) tk am at_ aa mt_ 0 (-1) wt wy2 (nI it_) (nI rm) (nI ud) (nI nu) sd (nI qn) (nI qw) qo (nI qb) (nI qp) qa (nI qi) (nI oc)), ra_I (g 20) cI 4 (l4 (nI l0) (nI l1) (nI dm) (nI l3)), ra_I (g 31) cI 120 nw, ra_I (g 37) cZ 900 yo, ra_I (g 36) cZ 900 yw, ra_J (g 43) cJ 90 be2, ra_J (g 44) cJ 90 bf2]) A) ([.ref mm] : List Value).toArray s 0 0 A) (F0 m 160 ls []) := by
                          intro n_44
                          induction n_44 with
                          | zero => intro kk xn H locs ls hm; exact absurd hm (Nat.not_lt_zero _)
                          | succ n_44 ih_lp_43 =>
                            intro kk xn H locs ls hm hkk hfx hP hD hS hl
                            refine lv_iload hx hb dX12_laysWays_160 (lv_at hl 0 rfl) ?_
                            refine lv_bipush (v := 10) hx hb dX12_laysWays_162 (by decide) ?_
                            refine lv_icmp_ge (tgt := 207) hx hb dX12_laysWays_164 (by decide) (fun c_45 => ?_) (fun c_45 => ?_)
                            · have c_45 : 10 ≤ kk := (nle 10 kk (Nat.le_of_ble_eq_true rfl) (by omega)).mp c_45
                              refine lv_aload_n hx hb dX12_laysWays_207 rfl (lv_at hl 5 rfl) ?_
                              refine sk_get (v := .ref (g 44)) (C := RX12) (T := TX12) (N := 92) hx hb hts inlX12 hown hK hP 0 rfl rfl 44 (Nat.le_of_ble_eq_true rfl) w_5_199 rfl dX12_laysWays_208 ?_
                              refine lv_bipush (v := 10) hx hb dX12_laysWays_211 (by decide) ?_
                              refine lv_iload_n hx hb dX12_laysWays_213 rfl (lv_at hl 3 rfl) ?_
                              refine lv_imul hx hb dX12_laysWays_214 ?_
                              refine sk_top (nI (10 * i)) (nmul 10 i) ?_
                              refine lv_iload_n hx hb dX12_laysWays_215 rfl (lv_at hl 2 rfl) ?_
                              refine lv_iadd hx hb dX12_laysWays_216 ?_
                              refine sk_top (nI (10 * i + jm)) (nI_add (10 * i) jm) ?_
                              refine lv_lload hx hb dX12_laysWays_217 (lv_at hl 1 rfl) ?_
                              refine sk_lastP (Pr := bfOk2 (cfN nw yw yo mt_) (a0N nw) i (jm + 1)) (ws' := fun f_46 => [ro_ mm 12 (mo g (nI ta) (nI pa) (nI pe) pd (nI pb) pp pf pg pn rt rn (nI cd) sn (nI il) tk am at_ aa mt_ 0 (-1) wt zyb (nI it_) (nI rm) (nI ud) (nI nu) sd (nI qn) (nI qw) qo (nI qb) (nI qp) qa (nI qi) (nI oc)), ra_I (g 20) cI 4 (l4 (nI l0) (nI l1) (nI dm) (nI l3)), ra_I (g 31) cI 120 nw, ra_I (g 37) cZ 900 yo, ra_I (g 36) cZ 900 yw, ra_J (g 43) cJ 90 zb, ra_J (g 44) cJ 90 f_46]) hx hb hK hP hD hS 6 1 rfl rfl (vin (10 * i + jm) 90 (by omega) (Nat.le_of_ble_eq_true rfl)) (fun _ => rfl) (bf_store hbf2 (by omega) (by omega) (fx_fin hfx (by omega))) dX12_laysWays_219 (fun f_46 H locs hf_47 hP hD hS => ?_)
                              refine lv_iload_n hx hb dX12_laysWays_220 rfl (lv_at hl 3 rfl) ?_
                              refine lv_iload_n hx hb dX12_laysWays_221 rfl (lv_at hl 4 rfl) ?_
                              refine lv_icmp_ne (tgt := 236) hx hb dX12_laysWays_222 (by decide) (fun c_48 => ?_) (fun c_48 => ?_)
                              · have c_48 : ¬ (((i : Nat) : Int) = ((dm : Nat) : Int) - 1) := fun h => c_48 ((ieq (ivn i (by omega)) (ivp dm (by omega))).mpr h)
                                refine lv_iinc (v := nI (jm + 1)) (lv' := [(3, .int (nI (jm + 1))), (6, .int (nI kk)), (4, .long xn), (2, .int (nI i)), (1, .int (nI dm - 1)), (0, .ref mm)]) hx hb dX12_laysWays_236 hl (k := 2) rfl (ninc jm 1 (by decide)) (by decide) rfl (fun ls hl => ?_)
                                refine lv_goto (tgt := 125) hx hb dX12_laysWays_239 (by decide) ?_
                                exact ih_lp_10 (jm + 1) zyb f_46 _ _ _ (by omega) (by omega) hf_47 (wy_keep hzyb (by omega)) hP hD hS (lv_sub hl [0, 3, 4, 5] rfl)
                              · have c_48 : ((i : Nat) : Int) = ((dm : Nat) : Int) - 1 := (ieq (ivn i (by omega)) (ivp dm (by omega))).mp c_48
                                refine lv_aload_n hx hb dX12_laysWays_225 rfl (lv_at hl 5 rfl) ?_
                                refine lv_dup hx hb dX12_laysWays_226 rfl ?_
                                refine sk_get (v := .long zyb) (C := RX12) (T := TX12) (N := 92) hx hb hts inlX12 hown hK hP 0 rfl rfl 45 (Nat.le_of_ble_eq_true rfl) w_5_200 rfl dX12_laysWays_227 ?_
                                refine lv_lload hx hb dX12_laysWays_230 (lv_at hl 1 rfl) ?_
                                refine lv_ladd hx hb dX12_laysWays_232 ?_
                                refine lv_topl (fun v_49 ev_49 => ?_)
                                refine sk_put (ws' := [ro_ mm 12 (mo g (nI ta) (nI pa) (nI pe) pd (nI pb) pp pf pg pn rt rn (nI cd) sn (nI il) tk am at_ aa mt_ 0 (-1) wt v_49 (nI it_) (nI rm) (nI ud) (nI nu) sd (nI qn) (nI qw) qo (nI qb) (nI qp) qa (nI qi) (nI oc)), ra_I (g 20) cI 4 (l4 (nI l0) (nI l1) (nI dm) (nI l3)), ra_I (g 31) cI 120 nw, ra_I (g 37) cZ 900 yo, ra_I (g 36) cZ 900 yw, ra_J (g 43) cJ 90 zb, ra_J (g 44) cJ 90 f_46]) (C := RX12) (T := TX12) (N := 92) (v := .long v_49) hx hb hts inlX12 tyX12 tyX12_ok nmX12 hown hK hP hD hS 0 rfl rfl 45 (Nat.le_of_ble_eq_true rfl) w_5_200 rfl rfl rfl (Nat.le_of_ble_eq_true rfl) rfl dX12_laysWays_233 (fun H locs hP hD hS => ?_)
                                refine lv_iinc (v := nI (jm + 1)) (lv' := [(3, .int (nI (jm + 1))), (6, .int (nI kk)), (4, .long xn), (2, .int (nI i)), (1, .int (nI dm - 1)), (0, .ref mm)]) hx hb dX12_laysWays_236 hl (k := 2) rfl (ninc jm 1 (by decide)) (by decide) rfl (fun ls hl => ?_)
                                refine lv_goto (tgt := 125) hx hb dX12_laysWays_239 (by decide) ?_
                                exact ih_lp_10 (jm + 1) v_49 f_46 _ _ _ (by omega) (by omega) hf_47 (wy_add hzyb (fx_fin hfx (by omega)) (by omega) ev_49) hP hD hS (lv_sub hl [0, 3, 4, 5] rfl)
                            · have c_45 : ¬ (10 ≤ kk) := fun h => c_45 ((nle 10 kk (Nat.le_of_ble_eq_true rfl) (by omega)).mpr h)
                              refine lv_iload_n hx hb dX12_laysWays_167 rfl (lv_at hl 3 rfl) ?_
                              refine lv_if_le (tgt := 207) hx hb dX12_laysWays_168 (by decide) (fun c_50 => ?_) (fun c_50 => ?_)
                              · have c_50 : i ≤ 0 := (nle i 0 (by omega) (Nat.le_of_ble_eq_true rfl)).mp c_50
                                refine lv_aload_n hx hb dX12_laysWays_207 rfl (lv_at hl 5 rfl) ?_
                                refine sk_get (v := .ref (g 44)) (C := RX12) (T := TX12) (N := 92) hx hb hts inlX12 hown hK hP 0 rfl rfl 44 (Nat.le_of_ble_eq_true rfl) w_5_199 rfl dX12_laysWays_208 ?_
                                refine lv_bipush (v := 10) hx hb dX12_laysWays_211 (by decide) ?_
                                refine lv_iload_n hx hb dX12_laysWays_213 rfl (lv_at hl 3 rfl) ?_
                                refine lv_imul hx hb dX12_laysWays_214 ?_
                                refine sk_top (nI (10 * i)) (nmul 10 i) ?_
                                refine lv_iload_n hx hb dX12_laysWays_215 rfl (lv_at hl 2 rfl) ?_
                                refine lv_iadd hx hb dX12_laysWays_216 ?_
                                refine sk_top (nI (10 * i + jm)) (nI_add (10 * i) jm) ?_
                                refine lv_lload hx hb dX12_laysWays_217 (lv_at hl 1 rfl) ?_
                                refine sk_lastP (Pr := bfOk2 (cfN nw yw yo mt_) (a0N nw) i (jm + 1)) (ws' := fun f_51 => [ro_ mm 12 (mo g (nI ta) (nI pa) (nI pe) pd (nI pb) pp pf pg pn rt rn (nI cd) sn (nI il) tk am at_ aa mt_ 0 (-1) wt zyb (nI it_) (nI rm) (nI ud) (nI nu) sd (nI qn) (nI qw) qo (nI qb) (nI qp) qa (nI qi) (nI oc)), ra_I (g 20) cI 4 (l4 (nI l0) (nI l1) (nI dm) (nI l3)), ra_I (g 31) cI 120 nw, ra_I (g 37) cZ 900 yo, ra_I (g 36) cZ 900 yw, ra_J (g 43) cJ 90 zb, ra_J (g 44) cJ 90 f_51]) hx hb hK hP hD hS 6 1 rfl rfl (vin (10 * i + jm) 90 (by omega) (Nat.le_of_ble_eq_true rfl)) (fun _ => rfl) (bf_store hbf2 (by omega) (by omega) (fx_fin hfx (by omega))) dX12_laysWays_219 (fun f_51 H locs hf_52 hP hD hS => ?_)
                                refine lv_iload_n hx hb dX12_laysWays_220 rfl (lv_at hl 3 rfl) ?_
                                refine lv_iload_n hx hb dX12_laysWays_221 rfl (lv_at hl 4 rfl) ?_
                                refine lv_icmp_ne (tgt := 236) hx hb dX12_laysWays_222 (by decide) (fun c_53 => ?_) (fun c_53 => ?_)
                                · have c_53 : ¬ (((i : Nat) : Int) = ((dm : Nat) : Int) - 1) := fun h => c_53 ((ieq (ivn i (by omega)) (ivp dm (by omega))).mpr h)
                                  refine lv_iinc (v := nI (jm + 1)) (lv' := [(3, .int (nI (jm + 1))), (6, .int (nI kk)), (4, .long xn), (2, .int (nI i)), (1, .int (nI dm - 1)), (0, .ref mm)]) hx hb dX12_laysWays_236 hl (k := 2) rfl (ninc jm 1 (by decide)) (by decide) rfl (fun ls hl => ?_)
                                  refine lv_goto (tgt := 125) hx hb dX12_laysWays_239 (by decide) ?_
                                  exact ih_lp_10 (jm + 1) zyb f_51 _ _ _ (by omega) (by omega) hf_52 (wy_keep hzyb (by omega)) hP hD hS (lv_sub hl [0, 3, 4, 5] rfl)
                                · have c_53 : ((i : Nat) : Int) = ((dm : Nat) : Int) - 1 := (ieq (ivn i (by omega)) (ivp dm (by omega))).mp c_53
                                  refine lv_aload_n hx hb dX12_laysWays_225 rfl (lv_at hl 5 rfl) ?_
                                  refine lv_dup hx hb dX12_laysWays_226 rfl ?_
                                  refine sk_get (v := .long zyb) (C := RX12) (T := TX12) (N := 92) hx hb hts inlX12 hown hK hP 0 rfl rfl 45 (Nat.le_of_ble_eq_true rfl) w_5_200 rfl dX12_laysWays_227 ?_
                                  refine lv_lload hx hb dX12_laysWays_230 (lv_at hl 1 rfl) ?_
                                  refine lv_ladd hx hb dX12_laysWays_232 ?_
                                  refine lv_topl (fun v_54 ev_54 => ?_)
                                  refine sk_put (ws' := [ro_ mm 12 (mo g (nI ta) (nI pa) (nI pe) pd (nI pb) pp pf pg pn rt rn (nI cd) sn (nI il) tk am at_ aa mt_ 0 (-1) wt v_54 (nI it_) (nI rm) (nI ud) (nI nu) sd (nI qn) (nI qw) qo (nI qb) (nI qp) qa (nI qi) (nI oc)), ra_I (g 20) cI 4 (l4 (nI l0) (nI l1) (nI dm) (nI l3)), ra_I (g 31) cI 120 nw, ra_I (g 37) cZ 900 yo, ra_I (g 36) cZ 900 yw, ra_J (g 43) cJ 90 zb, ra_J (g 44) cJ 90 f_51]) (C := RX12) (T := TX12) (N := 92) (v := .long v_54) hx hb hts inlX12 tyX12 tyX12_ok nmX12 hown hK hP hD hS 0 rfl rfl 45 (Nat.le_of_ble_eq_true rfl) w_5_200 rfl rfl rfl (Nat.le_of_ble_eq_true rfl) rfl dX12_laysWays_233 (fun H locs hP hD hS => ?_)
                                  refine lv_iinc (v := nI (jm + 1)) (lv' := [(3, .int (nI (jm + 1))), (6, .int (nI kk)), (4, .long xn), (2, .int (nI i)), (1, .int (nI dm - 1)), (0, .ref mm)]) hx hb dX12_laysWays_236 hl (k := 2) rfl (ninc jm 1 (by decide)) (by decide) rfl (fun ls hl => ?_)
                                  refine lv_goto (tgt := 125) hx hb dX12_laysWays_239 (by decide) ?_
                                  exact ih_lp_10 (jm + 1) v_54 f_51 _ _ _ (by omega) (by omega) hf_52 (wy_add hzyb (fx_fin hfx (by omega)) (by omega) ev_54) hP hD hS (lv_sub hl [0, 3, 4, 5] rfl)
                              · have c_50 : ¬ (i ≤ 0) := fun h => c_50 ((nle i 0 (by omega) (Nat.le_of_ble_eq_true rfl)).mpr h)
                                refine lv_aload_n hx hb dX12_laysWays_171 rfl (lv_at hl 5 rfl) ?_
                                refine lv_iload_n hx hb dX12_laysWays_172 rfl (lv_at hl 3 rfl) ?_
                                refine lv_iload hx hb dX12_laysWays_173 (lv_at hl 0 rfl) ?_
                                refine lv_iload_n hx hb dX12_laysWays_175 rfl (lv_at hl 2 rfl) ?_
                                refine sk_Vi (q0 := 0) (n := 3) (rest := []) (wr := fmR om_7_5c _) ⟨hx, hb, hml, hown, hts⟩ hl.1 (c_m_canFollow0 l D cI cJ cC cZ cS mm g ta pa pe pd pb pp pf pg pn rt rn cd sn il tk am at_ aa mt_ wt zyb it_ rm ud nu sd qn qw qo qb qp qa qi oc i kk jm nw yo yw (by omega) (by omega) (by omega) hnw) w_7_201 w_7_203 w_0_85 w_1_14 w_7_204 hd_X12_canFollow_3 ⟨⟨(Nat.le_of_ble_eq_true rfl), (Nat.le_of_ble_eq_true rfl)⟩, (Nat.le_of_ble_eq_true rfl), (Nat.le_of_ble_eq_true rfl)⟩ hK hP hD hS hA (fmT om_7_5c 0) (fmF om_7_5c 0) (fm_C1 rfl rfl) (fm_R rfl rfl) (fm_nT om_7_5c 0) (fm_nF om_7_5c 0) (fm_di om_7_5c 0) rfl rfl rfl rfl (Nat.le_of_ble_eq_true rfl) dX12_laysWays_176 (fun r_56 u H locs hw hP hD hS => ?_)
                                refine exE hw (fun b_55 hw1 => anE hw1 (fun hb1_57 hw2 => anE hw2 (fun hb2_58 hw3 => anE hw3 (fun er_60 eu_59 => ?_))))
                                clear hw hw1 hw2 hw3
                                subst er_60
                                refine o_mgE (ws' := [ro_ mm 12 (mo g (nI ta) (nI pa) (nI pe) pd (nI pb) pp pf pg pn rt rn (nI cd) sn (nI il) tk am at_ aa mt_ 0 (-1) wt zyb (nI it_) (nI rm) (nI ud) (nI nu) sd (nI qn) (nI qw) qo (nI qb) (nI qp) qa (nI qi) (nI oc)), ra_I (g 20) cI 4 (l4 (nI l0) (nI l1) (nI dm) (nI l3)), ra_I (g 31) cI 120 nw, ra_I (g 37) cZ 900 yo, ra_I (g 36) cZ 900 yw, ra_J (g 43) cJ 90 zb, ra_J (g 44) cJ 90 zg]) eu_59 hP hD rfl (fun hP hD => ?_)
                                refine lv_if_eq (tgt := 201) hx hb dX12_laysWays_179 (by decide) (fun c_61 => ?_) (fun c_61 => ?_)
                                · have c_61 : b_55 = 0 := (neq b_55 0 (by omega) (Nat.le_of_ble_eq_true rfl)).mp c_61
                                  refine lv_iinc (v := nI (kk + 1)) (lv' := [(6, .int (nI (kk + 1))), (4, .long xn), (3, .int (nI jm)), (2, .int (nI i)), (1, .int (nI dm - 1)), (0, .ref mm)]) hx hb dX12_laysWays_201 hl (k := 0) rfl (ninc kk 1 (by decide)) (by decide) rfl (fun ls hl => ?_)
                                  refine lv_goto (tgt := 160) hx hb dX12_laysWays_204 (by decide) ?_
                                  exact ih_lp_43 (kk + 1) xn _ _ _ (by omega) (by omega) (fx_no hfx (by omega) (or_0 hb1_57 (by omega))) hP hD hS (lv_sub hl [0, 1, 2, 3, 4, 5] rfl)
                                · have c_61 : ¬ (b_55 = 0) := fun h => c_61 ((neq b_55 0 (by omega) (Nat.le_of_ble_eq_true rfl)).mpr h)
                                  refine lv_lload hx hb dX12_laysWays_182 (lv_at hl 1 rfl) ?_
                                  refine lv_aload_n hx hb dX12_laysWays_184 rfl (lv_at hl 5 rfl) ?_
                                  refine sk_get (v := .ref (g 44)) (C := RX12) (T := TX12) (N := 92) hx hb hts inlX12 hown hK hP 0 rfl rfl 44 (Nat.le_of_ble_eq_true rfl) w_5_199 rfl dX12_laysWays_185 ?_
                                  refine lv_bipush (v := 10) hx hb dX12_laysWays_188 (by decide) ?_
                                  refine lv_iload_n hx hb dX12_laysWays_190 rfl (lv_at hl 3 rfl) ?_
                                  refine lv_iconst (v := 1) hx hb dX12_laysWays_191 ic_1 ?_
                                  refine lv_isub hx hb dX12_laysWays_192 ?_
                                  refine sk_top (nI (i - 1)) (nsub i 1 (by omega)) ?_
                                  refine lv_imul hx hb dX12_laysWays_193 ?_
                                  refine sk_top (nI (10 * (i - 1))) (nmul 10 (i - 1)) ?_
                                  refine lv_iload hx hb dX12_laysWays_194 (lv_at hl 0 rfl) ?_
                                  refine lv_iadd hx hb dX12_laysWays_196 ?_
                                  refine sk_top (nI (10 * (i - 1) + kk)) (nI_add (10 * (i - 1)) kk) ?_
                                  refine va_lald hx hb hK.1 hP 6 1 rfl rfl (vin (10 * (i - 1) + kk) 90 (by omega) (Nat.le_of_ble_eq_true rfl)) dX12_laysWays_197 ?_
                                  refine lv_topl (fun v_62 ev_62 => ?_)
                                  refine lv_ladd hx hb dX12_laysWays_198 ?_
                                  refine lv_topl (fun v_63 ev_63 => ?_)
                                  refine lv_lstore (lv' := [(4, .long v_63), (6, .int (nI kk)), (3, .int (nI jm)), (2, .int (nI i)), (1, .int (nI dm - 1)), (0, .ref mm)]) hx hb dX12_laysWays_199 hl (by decide) rfl (fun ls hl => ?_)
                                  refine lv_iinc (v := nI (kk + 1)) (lv' := [(6, .int (nI (kk + 1))), (4, .long v_63), (3, .int (nI jm)), (2, .int (nI i)), (1, .int (nI dm - 1)), (0, .ref mm)]) hx hb dX12_laysWays_201 hl (k := 1) rfl (ninc kk 1 (by decide)) (by decide) rfl (fun ls hl => ?_)
                                  refine lv_goto (tgt := 160) hx hb dX12_laysWays_204 (by decide) ?_
                                  exact ih_lp_43 (kk + 1) v_63 _ _ _ (by omega) (by omega) (fx_yes hfx (by omega) (or_1 hb1_57 (by omega)) (bf_get hbf2.1 (by omega) (by omega) (by omega) ev_62) ev_63) hP hD hS (lv_sub hl [0, 1, 2, 3, 4, 5] rfl)
                        exact lp_43 (10 - 0 + 1) 0 0 _ _ _ (Nat.lt_succ_self _) (by omega) (fx_2 (by omega) (by rw [← ha0]; exact or_0 hb1_38 (by omega))) hP hD hS (lv_sub hl [0, 1, 2, 3, 4, 5] rfl)
                      · have c_42 : ¬ (b_36 = 0) := fun h => c_42 ((neq b_36 0 (by omega) (Nat.le_of_ble_eq_true rfl)).mpr h)
                        refine lv_lconst (v := 1) hx hb dX12_laysWays_150 (by decide) ?_
                        refine lv_goto (tgt := 155) hx hb dX12_laysWays_151 (by decide) ?_
                        refine lv_lstore (lv' := [(4, .long 1), (3, .int (nI jm)), (2, .int (nI i)), (1, .int (nI dm - 1)), (0, .ref mm)]) hx hb dX12_laysWays_155 hl (by decide) rfl (fun ls hl => ?_)
                        refine lv_iconst (v := 0) hx hb dX12_laysWays_157 ic_0 ?_
                        refine lv_istore (lv' := [(6, .int 0), (4, .long 1), (3, .int (nI jm)), (2, .int (nI i)), (1, .int (nI dm - 1)), (0, .ref mm)]) hx hb dX12_laysWays_158 hl (by decide) rfl (fun ls hl => ?_)
                        have lp_64 : ∀ (n_65 : Nat) (kk : Nat) (xn : Int64) (H : Heap) (locs : List Loc) (ls : Array Slot), 10 - kk < n_65 → (kk ≤ 10) → (fx (cfN nw yw yo mt_) (a0N nw) i jm kk xn) → va_P D vwCl [ro_ mm 12 (mo g (nI ta) (nI pa) (nI pe) pd (nI pb) pp pf pg pn rt rn (nI cd) sn (nI il) tk am at_ aa mt_ 0 (-1) wt zyb (nI it_) (nI rm) (nI ud) (nI nu) sd (nI qn) (nI qw) qo (nI qb) (nI qp) qa (nI qi) (nI oc)), ra_I (g 20) cI 4 (l4 (nI l0) (nI l1) (nI dm) (nI l3)), ra_I (g 31) cI 120 nw, ra_I (g 37) cZ 900 yo, ra_I (g 36) cZ 900 yw, ra_J (g 43) cJ 90 zb, ra_J (g 44) cJ 90 zg] H → va_D A [ro_ mm 12 (mo g (nI ta) (nI pa) (nI pe) pd (nI pb) pp pf pg pn rt rn (nI cd) sn (nI il) tk am at_ aa mt_ 0 (-1) wt zyb (nI it_) (nI rm) (nI ud) (nI nu) sd (nI qn) (nI qw) qo (nI qb) (nI qp) qa (nI qi) (nI oc)), ra_I (g 20) cI 4 (l4 (nI l0) (nI l1) (nI dm) (nI l3)), ra_I (g 31) cI 120 nw, ra_I (g 37) cZ 900 yo, ra_I (g 36) cZ 900 yw, ra_J (g 43) cJ 90 zb, ra_J (g 44) cJ 90 zg] → va_S A s.heap H locs → lv_has ls 7 [(6, .int (nI kk)), (4, .long xn), (3, .int (nI jm)), (2, .int (nI i)), (1, .int (nI dm - 1)), (0, .ref mm)] → W p l e { frames := 3, cells := 0, slots := 0, locals := 66 } s m ([.ref mm] : List Value).toArray below meth c H locs 0 0 (MQ below (skV D (skT cI cJ cC cZ cS) (fun (u : va_W) => ∃ (wy2 : Int64), ∃ (be2 : Nat → Int64), ∃ (bf2 : Nat → Int64), beOk (cfN nw yw yo mt_) dm 0 be2 ∧ wy2 = nL (wys (cfN nw yw yo mt_) (a0N nw) (dm - 1)) ∧ u = [ro_ mm 12 (mo g (nI ta) (nI pa) (nI pe) pd (nI pb) pp pf pg pn rt rn (nI cd) sn (nI il) tk am at_ aa mt_ 0 (-1) wt wy2 (nI it_) (nI rm) (nI ud) (nI nu) sd (nI qn) (nI qw) qo (nI qb) (nI qp) qa (nI qi) (nI oc)), ra_I (g 20) cI 4 (l4 (nI l0) (nI l1) (nI dm) (nI l3)), ra_I (g 31) cI 120 nw, ra_I (g 37) cZ 900 yo, ra_I (g 36) cZ 900 yw, ra_J (g 43) cJ 90 be2, ra_J (g 44) cJ 90 bf2]) A) ([.ref mm] : List Value).toArray s 0 0 A) (F0 m 160 ls []) := by
                          intro n_65
                          induction n_65 with
                          | zero => intro kk xn H locs ls hm; exact absurd hm (Nat.not_lt_zero _)
                          | succ n_65 ih_lp_64 =>
                            intro kk xn H locs ls hm hkk hfx hP hD hS hl
                            refine lv_iload hx hb dX12_laysWays_160 (lv_at hl 0 rfl) ?_
                            refine lv_bipush (v := 10) hx hb dX12_laysWays_162 (by decide) ?_
                            refine lv_icmp_ge (tgt := 207) hx hb dX12_laysWays_164 (by decide) (fun c_66 => ?_) (fun c_66 => ?_)
                            · have c_66 : 10 ≤ kk := (nle 10 kk (Nat.le_of_ble_eq_true rfl) (by omega)).mp c_66
                              refine lv_aload_n hx hb dX12_laysWays_207 rfl (lv_at hl 5 rfl) ?_
                              refine sk_get (v := .ref (g 44)) (C := RX12) (T := TX12) (N := 92) hx hb hts inlX12 hown hK hP 0 rfl rfl 44 (Nat.le_of_ble_eq_true rfl) w_5_199 rfl dX12_laysWays_208 ?_
                              refine lv_bipush (v := 10) hx hb dX12_laysWays_211 (by decide) ?_
                              refine lv_iload_n hx hb dX12_laysWays_213 rfl (lv_at hl 3 rfl) ?_
                              refine lv_imul hx hb dX12_laysWays_214 ?_
                              refine sk_top (nI (10 * i)) (nmul 10 i) ?_
                              refine lv_iload_n hx hb dX12_laysWays_215 rfl (lv_at hl 2 rfl) ?_
                              refine lv_iadd hx hb dX12_laysWays_216 ?_
                              refine sk_top (nI (10 * i + jm)) (nI_add (10 * i) jm) ?_
                              refine lv_lload hx hb dX12_laysWays_217 (lv_at hl 1 rfl) ?_
                              refine sk_lastP (Pr := bfOk2 (cfN nw yw yo mt_) (a0N nw) i (jm + 1)) (ws' := fun f_67 => [ro_ mm 12 (mo g (nI ta) (nI pa) (nI pe) pd (nI pb) pp pf pg pn rt rn (nI cd) sn (nI il) tk am at_ aa mt_ 0 (-1) wt zyb (nI it_) (nI rm) (nI ud) (nI nu) sd (nI qn) (nI qw) qo (nI qb) (nI qp) qa (nI qi) (nI oc)), ra_I (g 20) cI 4 (l4 (nI l0) (nI l1) (nI dm) (nI l3)), ra_I (g 31) cI 120 nw, ra_I (g 37) cZ 900 yo, ra_I (g 36) cZ 900 yw, ra_J (g 43) cJ 90 zb, ra_J (g 44) cJ 90 f_67]) hx hb hK hP hD hS 6 1 rfl rfl (vin (10 * i + jm) 90 (by omega) (Nat.le_of_ble_eq_true rfl)) (fun _ => rfl) (bf_store hbf2 (by omega) (by omega) (fx_fin hfx (by omega))) dX12_laysWays_219 (fun f_67 H locs hf_68 hP hD hS => ?_)
                              refine lv_iload_n hx hb dX12_laysWays_220 rfl (lv_at hl 3 rfl) ?_
                              refine lv_iload_n hx hb dX12_laysWays_221 rfl (lv_at hl 4 rfl) ?_
                              refine lv_icmp_ne (tgt := 236) hx hb dX12_laysWays_222 (by decide) (fun c_69 => ?_) (fun c_69 => ?_)
                              · have c_69 : ¬ (((i : Nat) : Int) = ((dm : Nat) : Int) - 1) := fun h => c_69 ((ieq (ivn i (by omega)) (ivp dm (by omega))).mpr h)
                                refine lv_iinc (v := nI (jm + 1)) (lv' := [(3, .int (nI (jm + 1))), (6, .int (nI kk)), (4, .long xn), (2, .int (nI i)), (1, .int (nI dm - 1)), (0, .ref mm)]) hx hb dX12_laysWays_236 hl (k := 2) rfl (ninc jm 1 (by decide)) (by decide) rfl (fun ls hl => ?_)
                                refine lv_goto (tgt := 125) hx hb dX12_laysWays_239 (by decide) ?_
                                exact ih_lp_10 (jm + 1) zyb f_67 _ _ _ (by omega) (by omega) hf_68 (wy_keep hzyb (by omega)) hP hD hS (lv_sub hl [0, 3, 4, 5] rfl)
                              · have c_69 : ((i : Nat) : Int) = ((dm : Nat) : Int) - 1 := (ieq (ivn i (by omega)) (ivp dm (by omega))).mp c_69
                                refine lv_aload_n hx hb dX12_laysWays_225 rfl (lv_at hl 5 rfl) ?_
                                refine lv_dup hx hb dX12_laysWays_226 rfl ?_
                                refine sk_get (v := .long zyb) (C := RX12) (T := TX12) (N := 92) hx hb hts inlX12 hown hK hP 0 rfl rfl 45 (Nat.le_of_ble_eq_true rfl) w_5_200 rfl dX12_laysWays_227 ?_
                                refine lv_lload hx hb dX12_laysWays_230 (lv_at hl 1 rfl) ?_
                                refine lv_ladd hx hb dX12_laysWays_232 ?_
                                refine lv_topl (fun v_70 ev_70 => ?_)
                                refine sk_put (ws' := [ro_ mm 12 (mo g (nI ta) (nI pa) (nI pe) pd (nI pb) pp pf pg pn rt rn (nI cd) sn (nI il) tk am at_ aa mt_ 0 (-1) wt v_70 (nI it_) (nI rm) (nI ud) (nI nu) sd (nI qn) (nI qw) qo (nI qb) (nI qp) qa (nI qi) (nI oc)), ra_I (g 20) cI 4 (l4 (nI l0) (nI l1) (nI dm) (nI l3)), ra_I (g 31) cI 120 nw, ra_I (g 37) cZ 900 yo, ra_I (g 36) cZ 900 yw, ra_J (g 43) cJ 90 zb, ra_J (g 44) cJ 90 f_67]) (C := RX12) (T := TX12) (N := 92) (v := .long v_70) hx hb hts inlX12 tyX12 tyX12_ok nmX12 hown hK hP hD hS 0 rfl rfl 45 (Nat.le_of_ble_eq_true rfl) w_5_200 rfl rfl rfl (Nat.le_of_ble_eq_true rfl) rfl dX12_laysWays_233 (fun H locs hP hD hS => ?_)
                                refine lv_iinc (v := nI (jm + 1)) (lv' := [(3, .int (nI (jm + 1))), (6, .int (nI kk)), (4, .long xn), (2, .int (nI i)), (1, .int (nI dm - 1)), (0, .ref mm)]) hx hb dX12_laysWays_236 hl (k := 2) rfl (ninc jm 1 (by decide)) (by decide) rfl (fun ls hl => ?_)
                                refine lv_goto (tgt := 125) hx hb dX12_laysWays_239 (by decide) ?_
                                exact ih_lp_10 (jm + 1) v_70 f_67 _ _ _ (by omega) (by omega) hf_68 (wy_add hzyb (fx_fin hfx (by omega)) (by omega) ev_70) hP hD hS (lv_sub hl [0, 3, 4, 5] rfl)
                            · have c_66 : ¬ (10 ≤ kk) := fun h => c_66 ((nle 10 kk (Nat.le_of_ble_eq_true rfl) (by omega)).mpr h)
                              refine lv_iload_n hx hb dX12_laysWays_167 rfl (lv_at hl 3 rfl) ?_
                              refine lv_if_le (tgt := 207) hx hb dX12_laysWays_168 (by decide) (fun c_71 => ?_) (fun c_71 => ?_)
                              · have c_71 : i ≤ 0 := (nle i 0 (by omega) (Nat.le_of_ble_eq_true rfl)).mp c_71
                                refine lv_aload_n hx hb dX12_laysWays_207 rfl (lv_at hl 5 rfl) ?_
                                refine sk_get (v := .ref (g 44)) (C := RX12) (T := TX12) (N := 92) hx hb hts inlX12 hown hK hP 0 rfl rfl 44 (Nat.le_of_ble_eq_true rfl) w_5_199 rfl dX12_laysWays_208 ?_
                                refine lv_bipush (v := 10) hx hb dX12_laysWays_211 (by decide) ?_
                                refine lv_iload_n hx hb dX12_laysWays_213 rfl (lv_at hl 3 rfl) ?_
                                refine lv_imul hx hb dX12_laysWays_214 ?_
                                refine sk_top (nI (10 * i)) (nmul 10 i) ?_
                                refine lv_iload_n hx hb dX12_laysWays_215 rfl (lv_at hl 2 rfl) ?_
                                refine lv_iadd hx hb dX12_laysWays_216 ?_
                                refine sk_top (nI (10 * i + jm)) (nI_add (10 * i) jm) ?_
                                refine lv_lload hx hb dX12_laysWays_217 (lv_at hl 1 rfl) ?_
                                refine sk_lastP (Pr := bfOk2 (cfN nw yw yo mt_) (a0N nw) i (jm + 1)) (ws' := fun f_72 => [ro_ mm 12 (mo g (nI ta) (nI pa) (nI pe) pd (nI pb) pp pf pg pn rt rn (nI cd) sn (nI il) tk am at_ aa mt_ 0 (-1) wt zyb (nI it_) (nI rm) (nI ud) (nI nu) sd (nI qn) (nI qw) qo (nI qb) (nI qp) qa (nI qi) (nI oc)), ra_I (g 20) cI 4 (l4 (nI l0) (nI l1) (nI dm) (nI l3)), ra_I (g 31) cI 120 nw, ra_I (g 37) cZ 900 yo, ra_I (g 36) cZ 900 yw, ra_J (g 43) cJ 90 zb, ra_J (g 44) cJ 90 f_72]) hx hb hK hP hD hS 6 1 rfl rfl (vin (10 * i + jm) 90 (by omega) (Nat.le_of_ble_eq_true rfl)) (fun _ => rfl) (bf_store hbf2 (by omega) (by omega) (fx_fin hfx (by omega))) dX12_laysWays_219 (fun f_72 H locs hf_73 hP hD hS => ?_)
                                refine lv_iload_n hx hb dX12_laysWays_220 rfl (lv_at hl 3 rfl) ?_
                                refine lv_iload_n hx hb dX12_laysWays_221 rfl (lv_at hl 4 rfl) ?_
                                refine lv_icmp_ne (tgt := 236) hx hb dX12_laysWays_222 (by decide) (fun c_74 => ?_) (fun c_74 => ?_)
                                · have c_74 : ¬ (((i : Nat) : Int) = ((dm : Nat) : Int) - 1) := fun h => c_74 ((ieq (ivn i (by omega)) (ivp dm (by omega))).mpr h)
                                  refine lv_iinc (v := nI (jm + 1)) (lv' := [(3, .int (nI (jm + 1))), (6, .int (nI kk)), (4, .long xn), (2, .int (nI i)), (1, .int (nI dm - 1)), (0, .ref mm)]) hx hb dX12_laysWays_236 hl (k := 2) rfl (ninc jm 1 (by decide)) (by decide) rfl (fun ls hl => ?_)
                                  refine lv_goto (tgt := 125) hx hb dX12_laysWays_239 (by decide) ?_
                                  exact ih_lp_10 (jm + 1) zyb f_72 _ _ _ (by omega) (by omega) hf_73 (wy_keep hzyb (by omega)) hP hD hS (lv_sub hl [0, 3, 4, 5] rfl)
                                · have c_74 : ((i : Nat) : Int) = ((dm : Nat) : Int) - 1 := (ieq (ivn i (by omega)) (ivp dm (by omega))).mp c_74
                                  refine lv_aload_n hx hb dX12_laysWays_225 rfl (lv_at hl 5 rfl) ?_
                                  refine lv_dup hx hb dX12_laysWays_226 rfl ?_
                                  refine sk_get (v := .long zyb) (C := RX12) (T := TX12) (N := 92) hx hb hts inlX12 hown hK hP 0 rfl rfl 45 (Nat.le_of_ble_eq_true rfl) w_5_200 rfl dX12_laysWays_227 ?_
                                  refine lv_lload hx hb dX12_laysWays_230 (lv_at hl 1 rfl) ?_
                                  refine lv_ladd hx hb dX12_laysWays_232 ?_
                                  refine lv_topl (fun v_75 ev_75 => ?_)
                                  refine sk_put (ws' := [ro_ mm 12 (mo g (nI ta) (nI pa) (nI pe) pd (nI pb) pp pf pg pn rt rn (nI cd) sn (nI il) tk am at_ aa mt_ 0 (-1) wt v_75 (nI it_) (nI rm) (nI ud) (nI nu) sd (nI qn) (nI qw) qo (nI qb) (nI qp) qa (nI qi) (nI oc)), ra_I (g 20) cI 4 (l4 (nI l0) (nI l1) (nI dm) (nI l3)), ra_I (g 31) cI 120 nw, ra_I (g 37) cZ 900 yo, ra_I (g 36) cZ 900 yw, ra_J (g 43) cJ 90 zb, ra_J (g 44) cJ 90 f_72]) (C := RX12) (T := TX12) (N := 92) (v := .long v_75) hx hb hts inlX12 tyX12 tyX12_ok nmX12 hown hK hP hD hS 0 rfl rfl 45 (Nat.le_of_ble_eq_true rfl) w_5_200 rfl rfl rfl (Nat.le_of_ble_eq_true rfl) rfl dX12_laysWays_233 (fun H locs hP hD hS => ?_)
                                  refine lv_iinc (v := nI (jm + 1)) (lv' := [(3, .int (nI (jm + 1))), (6, .int (nI kk)), (4, .long xn), (2, .int (nI i)), (1, .int (nI dm - 1)), (0, .ref mm)]) hx hb dX12_laysWays_236 hl (k := 2) rfl (ninc jm 1 (by decide)) (by decide) rfl (fun ls hl => ?_)
                                  refine lv_goto (tgt := 125) hx hb dX12_laysWays_239 (by decide) ?_
                                  exact ih_lp_10 (jm + 1) v_75 f_72 _ _ _ (by omega) (by omega) hf_73 (wy_add hzyb (fx_fin hfx (by omega)) (by omega) ev_75) hP hD hS (lv_sub hl [0, 3, 4, 5] rfl)
                              · have c_71 : ¬ (i ≤ 0) := fun h => c_71 ((nle i 0 (by omega) (Nat.le_of_ble_eq_true rfl)).mpr h)
                                refine lv_aload_n hx hb dX12_laysWays_171 rfl (lv_at hl 5 rfl) ?_
                                refine lv_iload_n hx hb dX12_laysWays_172 rfl (lv_at hl 3 rfl) ?_
                                refine lv_iload hx hb dX12_laysWays_173 (lv_at hl 0 rfl) ?_
                                refine lv_iload_n hx hb dX12_laysWays_175 rfl (lv_at hl 2 rfl) ?_
                                refine sk_Vi (q0 := 0) (n := 3) (rest := []) (wr := fmR om_7_5c _) ⟨hx, hb, hml, hown, hts⟩ hl.1 (c_m_canFollow0 l D cI cJ cC cZ cS mm g ta pa pe pd pb pp pf pg pn rt rn cd sn il tk am at_ aa mt_ wt zyb it_ rm ud nu sd qn qw qo qb qp qa qi oc i kk jm nw yo yw (by omega) (by omega) (by omega) hnw) w_7_201 w_7_203 w_0_85 w_1_14 w_7_204 hd_X12_canFollow_3 ⟨⟨(Nat.le_of_ble_eq_true rfl), (Nat.le_of_ble_eq_true rfl)⟩, (Nat.le_of_ble_eq_true rfl), (Nat.le_of_ble_eq_true rfl)⟩ hK hP hD hS hA (fmT om_7_5c 0) (fmF om_7_5c 0) (fm_C1 rfl rfl) (fm_R rfl rfl) (fm_nT om_7_5c 0) (fm_nF om_7_5c 0) (fm_di om_7_5c 0) rfl rfl rfl rfl (Nat.le_of_ble_eq_true rfl) dX12_laysWays_176 (fun r_77 u H locs hw hP hD hS => ?_)
                                refine exE hw (fun b_76 hw1 => anE hw1 (fun hb1_78 hw2 => anE hw2 (fun hb2_79 hw3 => anE hw3 (fun er_81 eu_80 => ?_))))
                                clear hw hw1 hw2 hw3
                                subst er_81
                                refine o_mgE (ws' := [ro_ mm 12 (mo g (nI ta) (nI pa) (nI pe) pd (nI pb) pp pf pg pn rt rn (nI cd) sn (nI il) tk am at_ aa mt_ 0 (-1) wt zyb (nI it_) (nI rm) (nI ud) (nI nu) sd (nI qn) (nI qw) qo (nI qb) (nI qp) qa (nI qi) (nI oc)), ra_I (g 20) cI 4 (l4 (nI l0) (nI l1) (nI dm) (nI l3)), ra_I (g 31) cI 120 nw, ra_I (g 37) cZ 900 yo, ra_I (g 36) cZ 900 yw, ra_J (g 43) cJ 90 zb, ra_J (g 44) cJ 90 zg]) eu_80 hP hD rfl (fun hP hD => ?_)
                                refine lv_if_eq (tgt := 201) hx hb dX12_laysWays_179 (by decide) (fun c_82 => ?_) (fun c_82 => ?_)
                                · have c_82 : b_76 = 0 := (neq b_76 0 (by omega) (Nat.le_of_ble_eq_true rfl)).mp c_82
                                  refine lv_iinc (v := nI (kk + 1)) (lv' := [(6, .int (nI (kk + 1))), (4, .long xn), (3, .int (nI jm)), (2, .int (nI i)), (1, .int (nI dm - 1)), (0, .ref mm)]) hx hb dX12_laysWays_201 hl (k := 0) rfl (ninc kk 1 (by decide)) (by decide) rfl (fun ls hl => ?_)
                                  refine lv_goto (tgt := 160) hx hb dX12_laysWays_204 (by decide) ?_
                                  exact ih_lp_64 (kk + 1) xn _ _ _ (by omega) (by omega) (fx_no hfx (by omega) (or_0 hb1_78 (by omega))) hP hD hS (lv_sub hl [0, 1, 2, 3, 4, 5] rfl)
                                · have c_82 : ¬ (b_76 = 0) := fun h => c_82 ((neq b_76 0 (by omega) (Nat.le_of_ble_eq_true rfl)).mpr h)
                                  refine lv_lload hx hb dX12_laysWays_182 (lv_at hl 1 rfl) ?_
                                  refine lv_aload_n hx hb dX12_laysWays_184 rfl (lv_at hl 5 rfl) ?_
                                  refine sk_get (v := .ref (g 44)) (C := RX12) (T := TX12) (N := 92) hx hb hts inlX12 hown hK hP 0 rfl rfl 44 (Nat.le_of_ble_eq_true rfl) w_5_199 rfl dX12_laysWays_185 ?_
                                  refine lv_bipush (v := 10) hx hb dX12_laysWays_188 (by decide) ?_
                                  refine lv_iload_n hx hb dX12_laysWays_190 rfl (lv_at hl 3 rfl) ?_
                                  refine lv_iconst (v := 1) hx hb dX12_laysWays_191 ic_1 ?_
                                  refine lv_isub hx hb dX12_laysWays_192 ?_
                                  refine sk_top (nI (i - 1)) (nsub i 1 (by omega)) ?_
                                  refine lv_imul hx hb dX12_laysWays_193 ?_
                                  refine sk_top (nI (10 * (i - 1))) (nmul 10 (i - 1)) ?_
                                  refine lv_iload hx hb dX12_laysWays_194 (lv_at hl 0 rfl) ?_
                                  refine lv_iadd hx hb dX12_laysWays_196 ?_
                                  refine sk_top (nI (10 * (i - 1) + kk)) (nI_add (10 * (i - 1)) kk) ?_
                                  refine va_lald hx hb hK.1 hP 6 1 rfl rfl (vin (10 * (i - 1) + kk) 90 (by omega) (Nat.le_of_ble_eq_true rfl)) dX12_laysWays_197 ?_
                                  refine lv_topl (fun v_83 ev_83 => ?_)
                                  refine lv_ladd hx hb dX12_laysWays_198 ?_
                                  refine lv_topl (fun v_84 ev_84 => ?_)
                                  refine lv_lstore (lv' := [(4, .long v_84), (6, .int (nI kk)), (3, .int (nI jm)), (2, .int (nI i)), (1, .int (nI dm - 1)), (0, .ref mm)]) hx hb dX12_laysWays_199 hl (by decide) rfl (fun ls hl => ?_)
                                  refine lv_iinc (v := nI (kk + 1)) (lv' := [(6, .int (nI (kk + 1))), (4, .long v_84), (3, .int (nI jm)), (2, .int (nI i)), (1, .int (nI dm - 1)), (0, .ref mm)]) hx hb dX12_laysWays_201 hl (k := 1) rfl (ninc kk 1 (by decide)) (by decide) rfl (fun ls hl => ?_)
                                  refine lv_goto (tgt := 160) hx hb dX12_laysWays_204 (by decide) ?_
                                  exact ih_lp_64 (kk + 1) v_84 _ _ _ (by omega) (by omega) (fx_yes hfx (by omega) (or_1 hb1_78 (by omega)) (bf_get hbf2.1 (by omega) (by omega) (by omega) ev_83) ev_84) hP hD hS (lv_sub hl [0, 1, 2, 3, 4, 5] rfl)
                        exact lp_64 (10 - 0 + 1) 0 1 _ _ _ (Nat.lt_succ_self _) (by omega) (fx_1 (by omega) (by rw [← ha0]; exact or_1 hb1_38 (by omega))) hP hD hS (lv_sub hl [0, 1, 2, 3, 4, 5] rfl)
              exact lp_10 (10 - 0 + 1) 0 zy zf _ _ _ (Nat.lt_succ_self _) (by omega) (bf_0 hbf) (wy_0 hzy (by omega)) hP hD hS (lv_sub hl [0, 1, 2, 3] rfl)
        exact lp_7 (dm - 0 + 1) 0 0 bf _ _ _ (Nat.lt_succ_self _) (by omega) (bf_init _ _ _) (wy_init _ _ (by omega)) hP hD hS (lv_sub hl [0, 1, 2] rfl)
      · have c_6 : 1 ≤ dd := npm1 dd c_6
        rw [npred dd (by omega)] at hl
        refine lv_iconst (v := 0) hx hb dX12_laysWays_13 ic_0 ?_
        refine lv_istore_n (lv' := [(3, .int 0), (2, .int (nI (dd - 1))), (1, .int (nI dm - 1)), (0, .ref mm)]) hx hb dX12_laysWays_14 rfl hl (by decide) rfl (fun ls hl => ?_)
        have lp_85 : ∀ (n_86 : Nat) (jm : Nat) (zc : Nat → Int64) (H : Heap) (locs : List Loc) (ls : Array Slot), 10 - jm < n_86 → (jm ≤ 10) → (beOk2 (cfN nw yw yo mt_) dm (dd - 1) jm zc) → va_P D vwCl [ro_ mm 12 (mo g (nI ta) (nI pa) (nI pe) pd (nI pb) pp pf pg pn rt rn (nI cd) sn (nI il) tk am at_ aa mt_ 0 (-1) wt wy (nI it_) (nI rm) (nI ud) (nI nu) sd (nI qn) (nI qw) qo (nI qb) (nI qp) qa (nI qi) (nI oc)), ra_I (g 20) cI 4 (l4 (nI l0) (nI l1) (nI dm) (nI l3)), ra_I (g 31) cI 120 nw, ra_I (g 37) cZ 900 yo, ra_I (g 36) cZ 900 yw, ra_J (g 43) cJ 90 zc, ra_J (g 44) cJ 90 bf] H → va_D A [ro_ mm 12 (mo g (nI ta) (nI pa) (nI pe) pd (nI pb) pp pf pg pn rt rn (nI cd) sn (nI il) tk am at_ aa mt_ 0 (-1) wt wy (nI it_) (nI rm) (nI ud) (nI nu) sd (nI qn) (nI qw) qo (nI qb) (nI qp) qa (nI qi) (nI oc)), ra_I (g 20) cI 4 (l4 (nI l0) (nI l1) (nI dm) (nI l3)), ra_I (g 31) cI 120 nw, ra_I (g 37) cZ 900 yo, ra_I (g 36) cZ 900 yw, ra_J (g 43) cJ 90 zc, ra_J (g 44) cJ 90 bf] → va_S A s.heap H locs → lv_has ls 7 [(3, .int (nI jm)), (2, .int (nI (dd - 1))), (1, .int (nI dm - 1)), (0, .ref mm)] → W p l e { frames := 3, cells := 0, slots := 0, locals := 66 } s m ([.ref mm] : List Value).toArray below meth c H locs 0 0 (MQ below (skV D (skT cI cJ cC cZ cS) (fun (u : va_W) => ∃ (wy2 : Int64), ∃ (be2 : Nat → Int64), ∃ (bf2 : Nat → Int64), beOk (cfN nw yw yo mt_) dm 0 be2 ∧ wy2 = nL (wys (cfN nw yw yo mt_) (a0N nw) (dm - 1)) ∧ u = [ro_ mm 12 (mo g (nI ta) (nI pa) (nI pe) pd (nI pb) pp pf pg pn rt rn (nI cd) sn (nI il) tk am at_ aa mt_ 0 (-1) wt wy2 (nI it_) (nI rm) (nI ud) (nI nu) sd (nI qn) (nI qw) qo (nI qb) (nI qp) qa (nI qi) (nI oc)), ra_I (g 20) cI 4 (l4 (nI l0) (nI l1) (nI dm) (nI l3)), ra_I (g 31) cI 120 nw, ra_I (g 37) cZ 900 yo, ra_I (g 36) cZ 900 yw, ra_J (g 43) cJ 90 be2, ra_J (g 44) cJ 90 bf2]) A) ([.ref mm] : List Value).toArray s 0 0 A) (F0 m 15 ls []) := by
          intro n_86
          induction n_86 with
          | zero => intro jm zc H locs ls hm; exact absurd hm (Nat.not_lt_zero _)
          | succ n_86 ih_lp_85 =>
            intro jm zc H locs ls hm hjm hbe2 hP hD hS hl
            refine lv_iload_n hx hb dX12_laysWays_15 rfl (lv_at hl 0 rfl) ?_
            refine lv_bipush (v := 10) hx hb dX12_laysWays_16 (by decide) ?_
            refine lv_icmp_ge (tgt := 105) hx hb dX12_laysWays_18 (by decide) (fun c_87 => ?_) (fun c_87 => ?_)
            · have c_87 : 10 ≤ jm := (nle 10 jm (Nat.le_of_ble_eq_true rfl) (by omega)).mp c_87
              refine lv_iinc (v := nI (dd - 1) - 1) (lv' := [(2, .int (nI (dd - 1) - 1)), (3, .int (nI jm)), (1, .int (nI dm - 1)), (0, .ref mm)]) hx hb dX12_laysWays_105 hl (k := 1) rfl (ndn _) (by decide) rfl (fun ls hl => ?_)
              refine lv_goto (tgt := 9) hx hb dX12_laysWays_108 (by decide) ?_
              exact ih_lp_4 (dd - 1) zc _ _ _ (by omega) (by omega) (be_fin hbe2 (by omega)) hP hD hS (lv_sub hl [0, 2, 3] rfl)
            · have c_87 : ¬ (10 ≤ jm) := fun h => c_87 ((nle 10 jm (Nat.le_of_ble_eq_true rfl) (by omega)).mpr h)
              refine lv_iload_n hx hb dX12_laysWays_21 rfl (lv_at hl 1 rfl) ?_
              refine lv_iload_n hx hb dX12_laysWays_22 rfl (lv_at hl 2 rfl) ?_
              refine lv_icmp_ne (tgt := 30) hx hb dX12_laysWays_23 (by decide) (fun c_88 => ?_) (fun c_88 => ?_)
              · have c_88 : ¬ (((dd - 1 : Nat) : Int) = ((dm : Nat) : Int) - 1) := fun h => c_88 ((ieq (ivn (dd - 1) (by omega)) (ivp dm (by omega))).mpr h)
                refine lv_lconst (v := 0) hx hb dX12_laysWays_30 (by decide) ?_
                refine lv_lstore (lv' := [(4, .long 0), (3, .int (nI jm)), (2, .int (nI (dd - 1))), (1, .int (nI dm - 1)), (0, .ref mm)]) hx hb dX12_laysWays_31 hl (by decide) rfl (fun ls hl => ?_)
                refine lv_iconst (v := 0) hx hb dX12_laysWays_33 ic_0 ?_
                refine lv_istore (lv' := [(6, .int 0), (4, .long 0), (3, .int (nI jm)), (2, .int (nI (dd - 1))), (1, .int (nI dm - 1)), (0, .ref mm)]) hx hb dX12_laysWays_34 hl (by decide) rfl (fun ls hl => ?_)
                have lp_89 : ∀ (n_90 : Nat) (kk : Nat) (xn : Int64) (H : Heap) (locs : List Loc) (ls : Array Slot), 10 - kk < n_90 → (kk ≤ 10) → (bx (cfN nw yw yo mt_) dm (dd - 1) jm kk xn) → va_P D vwCl [ro_ mm 12 (mo g (nI ta) (nI pa) (nI pe) pd (nI pb) pp pf pg pn rt rn (nI cd) sn (nI il) tk am at_ aa mt_ 0 (-1) wt wy (nI it_) (nI rm) (nI ud) (nI nu) sd (nI qn) (nI qw) qo (nI qb) (nI qp) qa (nI qi) (nI oc)), ra_I (g 20) cI 4 (l4 (nI l0) (nI l1) (nI dm) (nI l3)), ra_I (g 31) cI 120 nw, ra_I (g 37) cZ 900 yo, ra_I (g 36) cZ 900 yw, ra_J (g 43) cJ 90 zc, ra_J (g 44) cJ 90 bf] H → va_D A [ro_ mm 12 (mo g (nI ta) (nI pa) (nI pe) pd (nI pb) pp pf pg pn rt rn (nI cd) sn (nI il) tk am at_ aa mt_ 0 (-1) wt wy (nI it_) (nI rm) (nI ud) (nI nu) sd (nI qn) (nI qw) qo (nI qb) (nI qp) qa (nI qi) (nI oc)), ra_I (g 20) cI 4 (l4 (nI l0) (nI l1) (nI dm) (nI l3)), ra_I (g 31) cI 120 nw, ra_I (g 37) cZ 900 yo, ra_I (g 36) cZ 900 yw, ra_J (g 43) cJ 90 zc, ra_J (g 44) cJ 90 bf] → va_S A s.heap H locs → lv_has ls 7 [(6, .int (nI kk)), (4, .long xn), (3, .int (nI jm)), (2, .int (nI (dd - 1))), (1, .int (nI dm - 1)), (0, .ref mm)] → W p l e { frames := 3, cells := 0, slots := 0, locals := 66 } s m ([.ref mm] : List Value).toArray below meth c H locs 0 0 (MQ below (skV D (skT cI cJ cC cZ cS) (fun (u : va_W) => ∃ (wy2 : Int64), ∃ (be2 : Nat → Int64), ∃ (bf2 : Nat → Int64), beOk (cfN nw yw yo mt_) dm 0 be2 ∧ wy2 = nL (wys (cfN nw yw yo mt_) (a0N nw) (dm - 1)) ∧ u = [ro_ mm 12 (mo g (nI ta) (nI pa) (nI pe) pd (nI pb) pp pf pg pn rt rn (nI cd) sn (nI il) tk am at_ aa mt_ 0 (-1) wt wy2 (nI it_) (nI rm) (nI ud) (nI nu) sd (nI qn) (nI qw) qo (nI qb) (nI qp) qa (nI qi) (nI oc)), ra_I (g 20) cI 4 (l4 (nI l0) (nI l1) (nI dm) (nI l3)), ra_I (g 31) cI 120 nw, ra_I (g 37) cZ 900 yo, ra_I (g 36) cZ 900 yw, ra_J (g 43) cJ 90 be2, ra_J (g 44) cJ 90 bf2]) A) ([.ref mm] : List Value).toArray s 0 0 A) (F0 m 36 ls []) := by
                  intro n_90
                  induction n_90 with
                  | zero => intro kk xn H locs ls hm; exact absurd hm (Nat.not_lt_zero _)
                  | succ n_90 ih_lp_89 =>
                    intro kk xn H locs ls hm hkk hbx hP hD hS hl
                    refine lv_iload hx hb dX12_laysWays_36 (lv_at hl 0 rfl) ?_
                    refine lv_bipush (v := 10) hx hb dX12_laysWays_38 (by decide) ?_
                    refine lv_icmp_ge (tgt := 86) hx hb dX12_laysWays_40 (by decide) (fun c_91 => ?_) (fun c_91 => ?_)
                    · have c_91 : 10 ≤ kk := (nle 10 kk (Nat.le_of_ble_eq_true rfl) (by omega)).mp c_91
                      refine lv_aload_n hx hb dX12_laysWays_86 rfl (lv_at hl 5 rfl) ?_
                      refine sk_get (v := .ref (g 43)) (C := RX12) (T := TX12) (N := 92) hx hb hts inlX12 hown hK hP 0 rfl rfl 43 (Nat.le_of_ble_eq_true rfl) w_5_198 rfl dX12_laysWays_87 ?_
                      refine lv_bipush (v := 10) hx hb dX12_laysWays_90 (by decide) ?_
                      refine lv_iload_n hx hb dX12_laysWays_92 rfl (lv_at hl 3 rfl) ?_
                      refine lv_imul hx hb dX12_laysWays_93 ?_
                      refine sk_top (nI (10 * (dd - 1))) (nmul 10 (dd - 1)) ?_
                      refine lv_iload_n hx hb dX12_laysWays_94 rfl (lv_at hl 2 rfl) ?_
                      refine lv_iadd hx hb dX12_laysWays_95 ?_
                      refine sk_top (nI (10 * (dd - 1) + jm)) (nI_add (10 * (dd - 1)) jm) ?_
                      refine lv_lload hx hb dX12_laysWays_96 (lv_at hl 1 rfl) ?_
                      refine sk_lastP (Pr := beOk2 (cfN nw yw yo mt_) dm (dd - 1) (jm + 1)) (ws' := fun f_92 => [ro_ mm 12 (mo g (nI ta) (nI pa) (nI pe) pd (nI pb) pp pf pg pn rt rn (nI cd) sn (nI il) tk am at_ aa mt_ 0 (-1) wt wy (nI it_) (nI rm) (nI ud) (nI nu) sd (nI qn) (nI qw) qo (nI qb) (nI qp) qa (nI qi) (nI oc)), ra_I (g 20) cI 4 (l4 (nI l0) (nI l1) (nI dm) (nI l3)), ra_I (g 31) cI 120 nw, ra_I (g 37) cZ 900 yo, ra_I (g 36) cZ 900 yw, ra_J (g 43) cJ 90 f_92, ra_J (g 44) cJ 90 bf]) hx hb hK hP hD hS 5 1 rfl rfl (vin (10 * (dd - 1) + jm) 90 (by omega) (Nat.le_of_ble_eq_true rfl)) (fun _ => rfl) (be_store hbe2 (by omega) (by omega) (bx_fin hbx (by omega))) dX12_laysWays_98 (fun f_92 H locs hf_93 hP hD hS => ?_)
                      refine lv_iinc (v := nI (jm + 1)) (lv' := [(3, .int (nI (jm + 1))), (6, .int (nI kk)), (4, .long xn), (2, .int (nI (dd - 1))), (1, .int (nI dm - 1)), (0, .ref mm)]) hx hb dX12_laysWays_99 hl (k := 2) rfl (ninc jm 1 (by decide)) (by decide) rfl (fun ls hl => ?_)
                      refine lv_goto (tgt := 15) hx hb dX12_laysWays_102 (by decide) ?_
                      exact ih_lp_85 (jm + 1) f_92 _ _ _ (by omega) (by omega) hf_93 hP hD hS (lv_sub hl [0, 3, 4, 5] rfl)
                    · have c_91 : ¬ (10 ≤ kk) := fun h => c_91 ((nle 10 kk (Nat.le_of_ble_eq_true rfl) (by omega)).mpr h)
                      refine lv_iload_n hx hb dX12_laysWays_43 rfl (lv_at hl 3 rfl) ?_
                      refine lv_iload_n hx hb dX12_laysWays_44 rfl (lv_at hl 4 rfl) ?_
                      refine lv_icmp_ge (tgt := 86) hx hb dX12_laysWays_45 (by decide) (fun c_94 => ?_) (fun c_94 => ?_)
                      · have c_94 : ((dm : Nat) : Int) - 1 ≤ ((dd - 1 : Nat) : Int) := (ile (ivp dm (by omega)) (ivn (dd - 1) (by omega))).mp c_94
                        refine lv_aload_n hx hb dX12_laysWays_86 rfl (lv_at hl 5 rfl) ?_
                        refine sk_get (v := .ref (g 43)) (C := RX12) (T := TX12) (N := 92) hx hb hts inlX12 hown hK hP 0 rfl rfl 43 (Nat.le_of_ble_eq_true rfl) w_5_198 rfl dX12_laysWays_87 ?_
                        refine lv_bipush (v := 10) hx hb dX12_laysWays_90 (by decide) ?_
                        refine lv_iload_n hx hb dX12_laysWays_92 rfl (lv_at hl 3 rfl) ?_
                        refine lv_imul hx hb dX12_laysWays_93 ?_
                        refine sk_top (nI (10 * (dd - 1))) (nmul 10 (dd - 1)) ?_
                        refine lv_iload_n hx hb dX12_laysWays_94 rfl (lv_at hl 2 rfl) ?_
                        refine lv_iadd hx hb dX12_laysWays_95 ?_
                        refine sk_top (nI (10 * (dd - 1) + jm)) (nI_add (10 * (dd - 1)) jm) ?_
                        refine lv_lload hx hb dX12_laysWays_96 (lv_at hl 1 rfl) ?_
                        refine sk_lastP (Pr := beOk2 (cfN nw yw yo mt_) dm (dd - 1) (jm + 1)) (ws' := fun f_95 => [ro_ mm 12 (mo g (nI ta) (nI pa) (nI pe) pd (nI pb) pp pf pg pn rt rn (nI cd) sn (nI il) tk am at_ aa mt_ 0 (-1) wt wy (nI it_) (nI rm) (nI ud) (nI nu) sd (nI qn) (nI qw) qo (nI qb) (nI qp) qa (nI qi) (nI oc)), ra_I (g 20) cI 4 (l4 (nI l0) (nI l1) (nI dm) (nI l3)), ra_I (g 31) cI 120 nw, ra_I (g 37) cZ 900 yo, ra_I (g 36) cZ 900 yw, ra_J (g 43) cJ 90 f_95, ra_J (g 44) cJ 90 bf]) hx hb hK hP hD hS 5 1 rfl rfl (vin (10 * (dd - 1) + jm) 90 (by omega) (Nat.le_of_ble_eq_true rfl)) (fun _ => rfl) (be_store hbe2 (by omega) (by omega) (bx_fin hbx (by omega))) dX12_laysWays_98 (fun f_95 H locs hf_96 hP hD hS => ?_)
                        refine lv_iinc (v := nI (jm + 1)) (lv' := [(3, .int (nI (jm + 1))), (6, .int (nI kk)), (4, .long xn), (2, .int (nI (dd - 1))), (1, .int (nI dm - 1)), (0, .ref mm)]) hx hb dX12_laysWays_99 hl (k := 2) rfl (ninc jm 1 (by decide)) (by decide) rfl (fun ls hl => ?_)
                        refine lv_goto (tgt := 15) hx hb dX12_laysWays_102 (by decide) ?_
                        exact ih_lp_85 (jm + 1) f_95 _ _ _ (by omega) (by omega) hf_96 hP hD hS (lv_sub hl [0, 3, 4, 5] rfl)
                      · have c_94 : ¬ (((dm : Nat) : Int) - 1 ≤ ((dd - 1 : Nat) : Int)) := fun h => c_94 ((ile (ivp dm (by omega)) (ivn (dd - 1) (by omega))).mpr h)
                        refine lv_aload_n hx hb dX12_laysWays_48 rfl (lv_at hl 5 rfl) ?_
                        refine lv_iload_n hx hb dX12_laysWays_49 rfl (lv_at hl 3 rfl) ?_
                        refine lv_iconst (v := 1) hx hb dX12_laysWays_50 ic_1 ?_
                        refine lv_iadd hx hb dX12_laysWays_51 ?_
                        refine sk_top (nI (dd - 1 + 1)) (nI_add (dd - 1) 1) ?_
                        refine lv_iload_n hx hb dX12_laysWays_52 rfl (lv_at hl 2 rfl) ?_
                        refine lv_iload hx hb dX12_laysWays_53 (lv_at hl 0 rfl) ?_
                        refine sk_Vi (q0 := 0) (n := 3) (rest := []) (wr := fmR om_7_5c _) ⟨hx, hb, hml, hown, hts⟩ hl.1 (c_m_canFollow0 l D cI cJ cC cZ cS mm g ta pa pe pd pb pp pf pg pn rt rn cd sn il tk am at_ aa mt_ wt wy it_ rm ud nu sd qn qw qo qb qp qa qi oc (dd - 1 + 1) jm kk nw yo yw (by omega) (by omega) (by omega) hnw) w_7_201 w_7_203 w_0_85 w_1_14 w_7_204 hd_X12_canFollow_3 ⟨⟨(Nat.le_of_ble_eq_true rfl), (Nat.le_of_ble_eq_true rfl)⟩, (Nat.le_of_ble_eq_true rfl), (Nat.le_of_ble_eq_true rfl)⟩ hK hP hD hS hA (fmT om_7_5c 0) (fmF om_7_5c 0) (fm_C1 rfl rfl) (fm_R rfl rfl) (fm_nT om_7_5c 0) (fm_nF om_7_5c 0) (fm_di om_7_5c 0) rfl rfl rfl rfl (Nat.le_of_ble_eq_true rfl) dX12_laysWays_55 (fun r_98 u H locs hw hP hD hS => ?_)
                        refine exE hw (fun b_97 hw1 => anE hw1 (fun hb1_99 hw2 => anE hw2 (fun hb2_100 hw3 => anE hw3 (fun er_102 eu_101 => ?_))))
                        clear hw hw1 hw2 hw3
                        subst er_102
                        refine o_mgE (ws' := [ro_ mm 12 (mo g (nI ta) (nI pa) (nI pe) pd (nI pb) pp pf pg pn rt rn (nI cd) sn (nI il) tk am at_ aa mt_ 0 (-1) wt wy (nI it_) (nI rm) (nI ud) (nI nu) sd (nI qn) (nI qw) qo (nI qb) (nI qp) qa (nI qi) (nI oc)), ra_I (g 20) cI 4 (l4 (nI l0) (nI l1) (nI dm) (nI l3)), ra_I (g 31) cI 120 nw, ra_I (g 37) cZ 900 yo, ra_I (g 36) cZ 900 yw, ra_J (g 43) cJ 90 zc, ra_J (g 44) cJ 90 bf]) eu_101 hP hD rfl (fun hP hD => ?_)
                        refine lv_if_eq (tgt := 80) hx hb dX12_laysWays_58 (by decide) (fun c_103 => ?_) (fun c_103 => ?_)
                        · have c_103 : b_97 = 0 := (neq b_97 0 (by omega) (Nat.le_of_ble_eq_true rfl)).mp c_103
                          refine lv_iinc (v := nI (kk + 1)) (lv' := [(6, .int (nI (kk + 1))), (4, .long xn), (3, .int (nI jm)), (2, .int (nI (dd - 1))), (1, .int (nI dm - 1)), (0, .ref mm)]) hx hb dX12_laysWays_80 hl (k := 0) rfl (ninc kk 1 (by decide)) (by decide) rfl (fun ls hl => ?_)
                          refine lv_goto (tgt := 36) hx hb dX12_laysWays_83 (by decide) ?_
                          exact ih_lp_89 (kk + 1) xn _ _ _ (by omega) (by omega) (bx_no hbx (by omega) (or_0 hb1_99 (by omega))) hP hD hS (lv_sub hl [0, 1, 2, 3, 4, 5] rfl)
                        · have c_103 : ¬ (b_97 = 0) := fun h => c_103 ((neq b_97 0 (by omega) (Nat.le_of_ble_eq_true rfl)).mpr h)
                          refine lv_lload hx hb dX12_laysWays_61 (lv_at hl 1 rfl) ?_
                          refine lv_aload_n hx hb dX12_laysWays_63 rfl (lv_at hl 5 rfl) ?_
                          refine sk_get (v := .ref (g 43)) (C := RX12) (T := TX12) (N := 92) hx hb hts inlX12 hown hK hP 0 rfl rfl 43 (Nat.le_of_ble_eq_true rfl) w_5_198 rfl dX12_laysWays_64 ?_
                          refine lv_bipush (v := 10) hx hb dX12_laysWays_67 (by decide) ?_
                          refine lv_iload_n hx hb dX12_laysWays_69 rfl (lv_at hl 3 rfl) ?_
                          refine lv_iconst (v := 1) hx hb dX12_laysWays_70 ic_1 ?_
                          refine lv_iadd hx hb dX12_laysWays_71 ?_
                          refine sk_top (nI (dd - 1 + 1)) (nI_add (dd - 1) 1) ?_
                          refine lv_imul hx hb dX12_laysWays_72 ?_
                          refine sk_top (nI (10 * (dd - 1 + 1))) (nmul 10 (dd - 1 + 1)) ?_
                          refine lv_iload hx hb dX12_laysWays_73 (lv_at hl 0 rfl) ?_
                          refine lv_iadd hx hb dX12_laysWays_75 ?_
                          refine sk_top (nI (10 * (dd - 1 + 1) + kk)) (nI_add (10 * (dd - 1 + 1)) kk) ?_
                          refine va_lald hx hb hK.1 hP 5 1 rfl rfl (vin (10 * (dd - 1 + 1) + kk) 90 (by omega) (Nat.le_of_ble_eq_true rfl)) dX12_laysWays_76 ?_
                          refine lv_topl (fun v_104 ev_104 => ?_)
                          refine lv_ladd hx hb dX12_laysWays_77 ?_
                          refine lv_topl (fun v_105 ev_105 => ?_)
                          refine lv_lstore (lv' := [(4, .long v_105), (6, .int (nI kk)), (3, .int (nI jm)), (2, .int (nI (dd - 1))), (1, .int (nI dm - 1)), (0, .ref mm)]) hx hb dX12_laysWays_78 hl (by decide) rfl (fun ls hl => ?_)
                          refine lv_iinc (v := nI (kk + 1)) (lv' := [(6, .int (nI (kk + 1))), (4, .long v_105), (3, .int (nI jm)), (2, .int (nI (dd - 1))), (1, .int (nI dm - 1)), (0, .ref mm)]) hx hb dX12_laysWays_80 hl (k := 1) rfl (ninc kk 1 (by decide)) (by decide) rfl (fun ls hl => ?_)
                          refine lv_goto (tgt := 36) hx hb dX12_laysWays_83 (by decide) ?_
                          exact ih_lp_89 (kk + 1) v_105 _ _ _ (by omega) (by omega) (bx_yes hbx (by omega) (or_1 hb1_99 (by omega)) (be_get hbe2.1 (by omega) (by omega) (by omega) (by omega) ev_104) ev_105) hP hD hS (lv_sub hl [0, 1, 2, 3, 4, 5] rfl)
                exact lp_89 (10 - 0 + 1) 0 0 _ _ _ (Nat.lt_succ_self _) (by omega) (Or.inr ⟨by omega, rfl⟩) hP hD hS (lv_sub hl [0, 1, 2, 3, 4, 5] rfl)
              · have c_88 : ((dd - 1 : Nat) : Int) = ((dm : Nat) : Int) - 1 := (ieq (ivn (dd - 1) (by omega)) (ivp dm (by omega))).mp c_88
                refine lv_lconst (v := 1) hx hb dX12_laysWays_26 (by decide) ?_
                refine lv_goto (tgt := 31) hx hb dX12_laysWays_27 (by decide) ?_
                refine lv_lstore (lv' := [(4, .long 1), (3, .int (nI jm)), (2, .int (nI (dd - 1))), (1, .int (nI dm - 1)), (0, .ref mm)]) hx hb dX12_laysWays_31 hl (by decide) rfl (fun ls hl => ?_)
                refine lv_iconst (v := 0) hx hb dX12_laysWays_33 ic_0 ?_
                refine lv_istore (lv' := [(6, .int 0), (4, .long 1), (3, .int (nI jm)), (2, .int (nI (dd - 1))), (1, .int (nI dm - 1)), (0, .ref mm)]) hx hb dX12_laysWays_34 hl (by decide) rfl (fun ls hl => ?_)
                have lp_106 : ∀ (n_107 : Nat) (kk : Nat) (xn : Int64) (H : Heap) (locs : List Loc) (ls : Array Slot), 10 - kk < n_107 → (kk ≤ 10) → (bx (cfN nw yw yo mt_) dm (dd - 1) jm kk xn) → va_P D vwCl [ro_ mm 12 (mo g (nI ta) (nI pa) (nI pe) pd (nI pb) pp pf pg pn rt rn (nI cd) sn (nI il) tk am at_ aa mt_ 0 (-1) wt wy (nI it_) (nI rm) (nI ud) (nI nu) sd (nI qn) (nI qw) qo (nI qb) (nI qp) qa (nI qi) (nI oc)), ra_I (g 20) cI 4 (l4 (nI l0) (nI l1) (nI dm) (nI l3)), ra_I (g 31) cI 120 nw, ra_I (g 37) cZ 900 yo, ra_I (g 36) cZ 900 yw, ra_J (g 43) cJ 90 zc, ra_J (g 44) cJ 90 bf] H → va_D A [ro_ mm 12 (mo g (nI ta) (nI pa) (nI pe) pd (nI pb) pp pf pg pn rt rn (nI cd) sn (nI il) tk am at_ aa mt_ 0 (-1) wt wy (nI it_) (nI rm) (nI ud) (nI nu) sd (nI qn) (nI qw) qo (nI qb) (nI qp) qa (nI qi) (nI oc)), ra_I (g 20) cI 4 (l4 (nI l0) (nI l1) (nI dm) (nI l3)), ra_I (g 31) cI 120 nw, ra_I (g 37) cZ 900 yo, ra_I (g 36) cZ 900 yw, ra_J (g 43) cJ 90 zc, ra_J (g 44) cJ 90 bf] → va_S A s.heap H locs → lv_has ls 7 [(6, .int (nI kk)), (4, .long xn), (3, .int (nI jm)), (2, .int (nI (dd - 1))), (1, .int (nI dm - 1)), (0, .ref mm)] → W p l e { frames := 3, cells := 0, slots := 0, locals := 66 } s m ([.ref mm] : List Value).toArray below meth c H locs 0 0 (MQ below (skV D (skT cI cJ cC cZ cS) (fun (u : va_W) => ∃ (wy2 : Int64), ∃ (be2 : Nat → Int64), ∃ (bf2 : Nat → Int64), beOk (cfN nw yw yo mt_) dm 0 be2 ∧ wy2 = nL (wys (cfN nw yw yo mt_) (a0N nw) (dm - 1)) ∧ u = [ro_ mm 12 (mo g (nI ta) (nI pa) (nI pe) pd (nI pb) pp pf pg pn rt rn (nI cd) sn (nI il) tk am at_ aa mt_ 0 (-1) wt wy2 (nI it_) (nI rm) (nI ud) (nI nu) sd (nI qn) (nI qw) qo (nI qb) (nI qp) qa (nI qi) (nI oc)), ra_I (g 20) cI 4 (l4 (nI l0) (nI l1) (nI dm) (nI l3)), ra_I (g 31) cI 120 nw, ra_I (g 37) cZ 900 yo, ra_I (g 36) cZ 900 yw, ra_J (g 43) cJ 90 be2, ra_J (g 44) cJ 90 bf2]) A) ([.ref mm] : List Value).toArray s 0 0 A) (F0 m 36 ls []) := by
                  intro n_107
                  induction n_107 with
                  | zero => intro kk xn H locs ls hm; exact absurd hm (Nat.not_lt_zero _)
                  | succ n_107 ih_lp_106 =>
                    intro kk xn H locs ls hm hkk hbx hP hD hS hl
                    refine lv_iload hx hb dX12_laysWays_36 (lv_at hl 0 rfl) ?_
                    refine lv_bipush (v := 10) hx hb dX12_laysWays_38 (by decide) ?_
                    refine lv_icmp_ge (tgt := 86) hx hb dX12_laysWays_40 (by decide) (fun c_108 => ?_) (fun c_108 => ?_)
                    · have c_108 : 10 ≤ kk := (nle 10 kk (Nat.le_of_ble_eq_true rfl) (by omega)).mp c_108
                      refine lv_aload_n hx hb dX12_laysWays_86 rfl (lv_at hl 5 rfl) ?_
                      refine sk_get (v := .ref (g 43)) (C := RX12) (T := TX12) (N := 92) hx hb hts inlX12 hown hK hP 0 rfl rfl 43 (Nat.le_of_ble_eq_true rfl) w_5_198 rfl dX12_laysWays_87 ?_
                      refine lv_bipush (v := 10) hx hb dX12_laysWays_90 (by decide) ?_
                      refine lv_iload_n hx hb dX12_laysWays_92 rfl (lv_at hl 3 rfl) ?_
                      refine lv_imul hx hb dX12_laysWays_93 ?_
                      refine sk_top (nI (10 * (dd - 1))) (nmul 10 (dd - 1)) ?_
                      refine lv_iload_n hx hb dX12_laysWays_94 rfl (lv_at hl 2 rfl) ?_
                      refine lv_iadd hx hb dX12_laysWays_95 ?_
                      refine sk_top (nI (10 * (dd - 1) + jm)) (nI_add (10 * (dd - 1)) jm) ?_
                      refine lv_lload hx hb dX12_laysWays_96 (lv_at hl 1 rfl) ?_
                      refine sk_lastP (Pr := beOk2 (cfN nw yw yo mt_) dm (dd - 1) (jm + 1)) (ws' := fun f_109 => [ro_ mm 12 (mo g (nI ta) (nI pa) (nI pe) pd (nI pb) pp pf pg pn rt rn (nI cd) sn (nI il) tk am at_ aa mt_ 0 (-1) wt wy (nI it_) (nI rm) (nI ud) (nI nu) sd (nI qn) (nI qw) qo (nI qb) (nI qp) qa (nI qi) (nI oc)), ra_I (g 20) cI 4 (l4 (nI l0) (nI l1) (nI dm) (nI l3)), ra_I (g 31) cI 120 nw, ra_I (g 37) cZ 900 yo, ra_I (g 36) cZ 900 yw, ra_J (g 43) cJ 90 f_109, ra_J (g 44) cJ 90 bf]) hx hb hK hP hD hS 5 1 rfl rfl (vin (10 * (dd - 1) + jm) 90 (by omega) (Nat.le_of_ble_eq_true rfl)) (fun _ => rfl) (be_store hbe2 (by omega) (by omega) (bx_fin hbx (by omega))) dX12_laysWays_98 (fun f_109 H locs hf_110 hP hD hS => ?_)
                      refine lv_iinc (v := nI (jm + 1)) (lv' := [(3, .int (nI (jm + 1))), (6, .int (nI kk)), (4, .long xn), (2, .int (nI (dd - 1))), (1, .int (nI dm - 1)), (0, .ref mm)]) hx hb dX12_laysWays_99 hl (k := 2) rfl (ninc jm 1 (by decide)) (by decide) rfl (fun ls hl => ?_)
                      refine lv_goto (tgt := 15) hx hb dX12_laysWays_102 (by decide) ?_
                      exact ih_lp_85 (jm + 1) f_109 _ _ _ (by omega) (by omega) hf_110 hP hD hS (lv_sub hl [0, 3, 4, 5] rfl)
                    · have c_108 : ¬ (10 ≤ kk) := fun h => c_108 ((nle 10 kk (Nat.le_of_ble_eq_true rfl) (by omega)).mpr h)
                      refine lv_iload_n hx hb dX12_laysWays_43 rfl (lv_at hl 3 rfl) ?_
                      refine lv_iload_n hx hb dX12_laysWays_44 rfl (lv_at hl 4 rfl) ?_
                      refine lv_icmp_ge (tgt := 86) hx hb dX12_laysWays_45 (by decide) (fun c_111 => ?_) (fun c_111 => ?_)
                      · have c_111 : ((dm : Nat) : Int) - 1 ≤ ((dd - 1 : Nat) : Int) := (ile (ivp dm (by omega)) (ivn (dd - 1) (by omega))).mp c_111
                        refine lv_aload_n hx hb dX12_laysWays_86 rfl (lv_at hl 5 rfl) ?_
                        refine sk_get (v := .ref (g 43)) (C := RX12) (T := TX12) (N := 92) hx hb hts inlX12 hown hK hP 0 rfl rfl 43 (Nat.le_of_ble_eq_true rfl) w_5_198 rfl dX12_laysWays_87 ?_
                        refine lv_bipush (v := 10) hx hb dX12_laysWays_90 (by decide) ?_
                        refine lv_iload_n hx hb dX12_laysWays_92 rfl (lv_at hl 3 rfl) ?_
                        refine lv_imul hx hb dX12_laysWays_93 ?_
                        refine sk_top (nI (10 * (dd - 1))) (nmul 10 (dd - 1)) ?_
                        refine lv_iload_n hx hb dX12_laysWays_94 rfl (lv_at hl 2 rfl) ?_
                        refine lv_iadd hx hb dX12_laysWays_95 ?_
                        refine sk_top (nI (10 * (dd - 1) + jm)) (nI_add (10 * (dd - 1)) jm) ?_
                        refine lv_lload hx hb dX12_laysWays_96 (lv_at hl 1 rfl) ?_
                        refine sk_lastP (Pr := beOk2 (cfN nw yw yo mt_) dm (dd - 1) (jm + 1)) (ws' := fun f_112 => [ro_ mm 12 (mo g (nI ta) (nI pa) (nI pe) pd (nI pb) pp pf pg pn rt rn (nI cd) sn (nI il) tk am at_ aa mt_ 0 (-1) wt wy (nI it_) (nI rm) (nI ud) (nI nu) sd (nI qn) (nI qw) qo (nI qb) (nI qp) qa (nI qi) (nI oc)), ra_I (g 20) cI 4 (l4 (nI l0) (nI l1) (nI dm) (nI l3)), ra_I (g 31) cI 120 nw, ra_I (g 37) cZ 900 yo, ra_I (g 36) cZ 900 yw, ra_J (g 43) cJ 90 f_112, ra_J (g 44) cJ 90 bf]) hx hb hK hP hD hS 5 1 rfl rfl (vin (10 * (dd - 1) + jm) 90 (by omega) (Nat.le_of_ble_eq_true rfl)) (fun _ => rfl) (be_store hbe2 (by omega) (by omega) (bx_fin hbx (by omega))) dX12_laysWays_98 (fun f_112 H locs hf_113 hP hD hS => ?_)
                        refine lv_iinc (v := nI (jm + 1)) (lv' := [(3, .int (nI (jm + 1))), (6, .int (nI kk)), (4, .long xn), (2, .int (nI (dd - 1))), (1, .int (nI dm - 1)), (0, .ref mm)]) hx hb dX12_laysWays_99 hl (k := 2) rfl (ninc jm 1 (by decide)) (by decide) rfl (fun ls hl => ?_)
                        refine lv_goto (tgt := 15) hx hb dX12_laysWays_102 (by decide) ?_
                        exact ih_lp_85 (jm + 1) f_112 _ _ _ (by omega) (by omega) hf_113 hP hD hS (lv_sub hl [0, 3, 4, 5] rfl)
                      · have c_111 : ¬ (((dm : Nat) : Int) - 1 ≤ ((dd - 1 : Nat) : Int)) := fun h => c_111 ((ile (ivp dm (by omega)) (ivn (dd - 1) (by omega))).mpr h)
                        refine lv_aload_n hx hb dX12_laysWays_48 rfl (lv_at hl 5 rfl) ?_
                        refine lv_iload_n hx hb dX12_laysWays_49 rfl (lv_at hl 3 rfl) ?_
                        refine lv_iconst (v := 1) hx hb dX12_laysWays_50 ic_1 ?_
                        refine lv_iadd hx hb dX12_laysWays_51 ?_
                        refine sk_top (nI (dd - 1 + 1)) (nI_add (dd - 1) 1) ?_
                        refine lv_iload_n hx hb dX12_laysWays_52 rfl (lv_at hl 2 rfl) ?_
                        refine lv_iload hx hb dX12_laysWays_53 (lv_at hl 0 rfl) ?_
                        refine sk_Vi (q0 := 0) (n := 3) (rest := []) (wr := fmR om_7_5c _) ⟨hx, hb, hml, hown, hts⟩ hl.1 (c_m_canFollow0 l D cI cJ cC cZ cS mm g ta pa pe pd pb pp pf pg pn rt rn cd sn il tk am at_ aa mt_ wt wy it_ rm ud nu sd qn qw qo qb qp qa qi oc (dd - 1 + 1) jm kk nw yo yw (by omega) (by omega) (by omega) hnw) w_7_201 w_7_203 w_0_85 w_1_14 w_7_204 hd_X12_canFollow_3 ⟨⟨(Nat.le_of_ble_eq_true rfl), (Nat.le_of_ble_eq_true rfl)⟩, (Nat.le_of_ble_eq_true rfl), (Nat.le_of_ble_eq_true rfl)⟩ hK hP hD hS hA (fmT om_7_5c 0) (fmF om_7_5c 0) (fm_C1 rfl rfl) (fm_R rfl rfl) (fm_nT om_7_5c 0) (fm_nF om_7_5c 0) (fm_di om_7_5c 0) rfl rfl rfl rfl (Nat.le_of_ble_eq_true rfl) dX12_laysWays_55 (fun r_115 u H locs hw hP hD hS => ?_)
                        refine exE hw (fun b_114 hw1 => anE hw1 (fun hb1_116 hw2 => anE hw2 (fun hb2_117 hw3 => anE hw3 (fun er_119 eu_118 => ?_))))
                        clear hw hw1 hw2 hw3
                        subst er_119
                        refine o_mgE (ws' := [ro_ mm 12 (mo g (nI ta) (nI pa) (nI pe) pd (nI pb) pp pf pg pn rt rn (nI cd) sn (nI il) tk am at_ aa mt_ 0 (-1) wt wy (nI it_) (nI rm) (nI ud) (nI nu) sd (nI qn) (nI qw) qo (nI qb) (nI qp) qa (nI qi) (nI oc)), ra_I (g 20) cI 4 (l4 (nI l0) (nI l1) (nI dm) (nI l3)), ra_I (g 31) cI 120 nw, ra_I (g 37) cZ 900 yo, ra_I (g 36) cZ 900 yw, ra_J (g 43) cJ 90 zc, ra_J (g 44) cJ 90 bf]) eu_118 hP hD rfl (fun hP hD => ?_)
                        refine lv_if_eq (tgt := 80) hx hb dX12_laysWays_58 (by decide) (fun c_120 => ?_) (fun c_120 => ?_)
                        · have c_120 : b_114 = 0 := (neq b_114 0 (by omega) (Nat.le_of_ble_eq_true rfl)).mp c_120
                          refine lv_iinc (v := nI (kk + 1)) (lv' := [(6, .int (nI (kk + 1))), (4, .long xn), (3, .int (nI jm)), (2, .int (nI (dd - 1))), (1, .int (nI dm - 1)), (0, .ref mm)]) hx hb dX12_laysWays_80 hl (k := 0) rfl (ninc kk 1 (by decide)) (by decide) rfl (fun ls hl => ?_)
                          refine lv_goto (tgt := 36) hx hb dX12_laysWays_83 (by decide) ?_
                          exact ih_lp_106 (kk + 1) xn _ _ _ (by omega) (by omega) (bx_no hbx (by omega) (or_0 hb1_116 (by omega))) hP hD hS (lv_sub hl [0, 1, 2, 3, 4, 5] rfl)
                        · have c_120 : ¬ (b_114 = 0) := fun h => c_120 ((neq b_114 0 (by omega) (Nat.le_of_ble_eq_true rfl)).mpr h)
                          refine lv_lload hx hb dX12_laysWays_61 (lv_at hl 1 rfl) ?_
                          refine lv_aload_n hx hb dX12_laysWays_63 rfl (lv_at hl 5 rfl) ?_
                          refine sk_get (v := .ref (g 43)) (C := RX12) (T := TX12) (N := 92) hx hb hts inlX12 hown hK hP 0 rfl rfl 43 (Nat.le_of_ble_eq_true rfl) w_5_198 rfl dX12_laysWays_64 ?_
                          refine lv_bipush (v := 10) hx hb dX12_laysWays_67 (by decide) ?_
                          refine lv_iload_n hx hb dX12_laysWays_69 rfl (lv_at hl 3 rfl) ?_
                          refine lv_iconst (v := 1) hx hb dX12_laysWays_70 ic_1 ?_
                          refine lv_iadd hx hb dX12_laysWays_71 ?_
                          refine sk_top (nI (dd - 1 + 1)) (nI_add (dd - 1) 1) ?_
                          refine lv_imul hx hb dX12_laysWays_72 ?_
                          refine sk_top (nI (10 * (dd - 1 + 1))) (nmul 10 (dd - 1 + 1)) ?_
                          refine lv_iload hx hb dX12_laysWays_73 (lv_at hl 0 rfl) ?_
                          refine lv_iadd hx hb dX12_laysWays_75 ?_
                          refine sk_top (nI (10 * (dd - 1 + 1) + kk)) (nI_add (10 * (dd - 1 + 1)) kk) ?_
                          refine va_lald hx hb hK.1 hP 5 1 rfl rfl (vin (10 * (dd - 1 + 1) + kk) 90 (by omega) (Nat.le_of_ble_eq_true rfl)) dX12_laysWays_76 ?_
                          refine lv_topl (fun v_121 ev_121 => ?_)
                          refine lv_ladd hx hb dX12_laysWays_77 ?_
                          refine lv_topl (fun v_122 ev_122 => ?_)
                          refine lv_lstore (lv' := [(4, .long v_122), (6, .int (nI kk)), (3, .int (nI jm)), (2, .int (nI (dd - 1))), (1, .int (nI dm - 1)), (0, .ref mm)]) hx hb dX12_laysWays_78 hl (by decide) rfl (fun ls hl => ?_)
                          refine lv_iinc (v := nI (kk + 1)) (lv' := [(6, .int (nI (kk + 1))), (4, .long v_122), (3, .int (nI jm)), (2, .int (nI (dd - 1))), (1, .int (nI dm - 1)), (0, .ref mm)]) hx hb dX12_laysWays_80 hl (k := 1) rfl (ninc kk 1 (by decide)) (by decide) rfl (fun ls hl => ?_)
                          refine lv_goto (tgt := 36) hx hb dX12_laysWays_83 (by decide) ?_
                          exact ih_lp_106 (kk + 1) v_122 _ _ _ (by omega) (by omega) (bx_yes hbx (by omega) (or_1 hb1_116 (by omega)) (be_get hbe2.1 (by omega) (by omega) (by omega) (by omega) ev_121) ev_122) hP hD hS (lv_sub hl [0, 1, 2, 3, 4, 5] rfl)
                exact lp_106 (10 - 0 + 1) 0 1 _ _ _ (Nat.lt_succ_self _) (by omega) (Or.inl ⟨by omega, rfl⟩) hP hD hS (lv_sub hl [0, 1, 2, 3, 4, 5] rfl)
        exact lp_85 (10 - 0 + 1) 0 zb _ _ _ (Nat.lt_succ_self _) (by omega) (be_0 hbe (by omega)) hP hD hS (lv_sub hl [0, 1, 2, 3] rfl)
  exact lp_4 (dm + 1) dm be _ _ _ (Nat.lt_succ_self _) (by omega) (be_init _ _ _) hP hD hS (lv_sub hl [0, 1, 2] rfl)
theorem dg_X12_walksTo_0_0 : bqL cX12_walksTo 0 [(0, [42]), (1, [180, 0, 63]), (4, [4]), (5, [46]), (6, [62]), (7, [3]), (8, [54, 4]), (10, [21, 4]), (12, [42]), (13, [182, 1, 59]), (16, [162, 0, 88]), (104, [177]), (19, [3]), (20, [54, 5]), (22, [42]), (23, [21, 4]), (25, [29]), (26, [21, 5]), (28, [182, 1, 122]), (31, [153, 0, 21]), (52, [42]), (53, [21, 4]), (55, [29]), (56, [21, 5]), (58, [182, 1, 122]), (61, [153, 0, 19]), (80, [132, 5, 1]), (83, [167, 255, 195]), (34, [31]), (35, [42]), (36, [180, 0, 82]), (39, [16, 10]), (41, [21, 4]), (43, [104]), (44, [21, 5]), (46, [96]), (47, [47]), (48, [148]), (49, [155, 0, 37]), (86, [42])] = true := by decide +kernel
theorem dX12_walksTo_0 : decode cX12_walksTo 0 = .ok (.aload_n 0, 1) := q_aload_n0 (bat_get dg_X12_walksTo_0_0 0 rfl rfl)
theorem dX12_walksTo_1 : decode cX12_walksTo 1 = .ok (.getfield 63, 3) := q_getfield (bat_get dg_X12_walksTo_0_0 1 rfl rfl) rfl
theorem dX12_walksTo_4 : decode cX12_walksTo 4 = .ok (.iconst 1, 1) := q_iconst1 (bat_get dg_X12_walksTo_0_0 2 rfl rfl)
theorem dX12_walksTo_5 : decode cX12_walksTo 5 = .ok (.iaload, 1) := q_iaload (bat_get dg_X12_walksTo_0_0 3 rfl rfl)
theorem dX12_walksTo_6 : decode cX12_walksTo 6 = .ok (.istore_n 3, 1) := q_istore_n3 (bat_get dg_X12_walksTo_0_0 4 rfl rfl)
theorem dX12_walksTo_7 : decode cX12_walksTo 7 = .ok (.iconst 0, 1) := q_iconst0 (bat_get dg_X12_walksTo_0_0 5 rfl rfl)
theorem dX12_walksTo_8 : decode cX12_walksTo 8 = .ok (.istore 4, 2) := q_istore (bat_get dg_X12_walksTo_0_0 6 rfl rfl)
theorem dX12_walksTo_10 : decode cX12_walksTo 10 = .ok (.iload 4, 2) := q_iload (bat_get dg_X12_walksTo_0_0 7 rfl rfl)
theorem dX12_walksTo_12 : decode cX12_walksTo 12 = .ok (.aload_n 0, 1) := q_aload_n0 (bat_get dg_X12_walksTo_0_0 8 rfl rfl)
theorem dX12_walksTo_13 : decode cX12_walksTo 13 = .ok (.invokevirtual 315, 3) := q_invokevirtual (bat_get dg_X12_walksTo_0_0 9 rfl rfl) rfl
theorem dX12_walksTo_16 : decode cX12_walksTo 16 = .ok (.if_icmp .ge 88, 3) := q_if_icmp_ge (bat_get dg_X12_walksTo_0_0 10 rfl rfl) rfl
theorem dX12_walksTo_104 : decode cX12_walksTo 104 = .ok (.return_, 1) := q_return_ (bat_get dg_X12_walksTo_0_0 11 rfl rfl)
theorem dX12_walksTo_19 : decode cX12_walksTo 19 = .ok (.iconst 0, 1) := q_iconst0 (bat_get dg_X12_walksTo_0_0 12 rfl rfl)
theorem dX12_walksTo_20 : decode cX12_walksTo 20 = .ok (.istore 5, 2) := q_istore (bat_get dg_X12_walksTo_0_0 13 rfl rfl)
theorem dX12_walksTo_22 : decode cX12_walksTo 22 = .ok (.aload_n 0, 1) := q_aload_n0 (bat_get dg_X12_walksTo_0_0 14 rfl rfl)
theorem dX12_walksTo_23 : decode cX12_walksTo 23 = .ok (.iload 4, 2) := q_iload (bat_get dg_X12_walksTo_0_0 15 rfl rfl)
theorem dX12_walksTo_25 : decode cX12_walksTo 25 = .ok (.iload_n 3, 1) := q_iload_n3 (bat_get dg_X12_walksTo_0_0 16 rfl rfl)
theorem dX12_walksTo_26 : decode cX12_walksTo 26 = .ok (.iload 5, 2) := q_iload (bat_get dg_X12_walksTo_0_0 17 rfl rfl)
theorem dX12_walksTo_28 : decode cX12_walksTo 28 = .ok (.invokevirtual 378, 3) := q_invokevirtual (bat_get dg_X12_walksTo_0_0 18 rfl rfl) rfl
theorem dX12_walksTo_31 : decode cX12_walksTo 31 = .ok (.ifCond .eq 21, 3) := q_ifCond_eq (bat_get dg_X12_walksTo_0_0 19 rfl rfl) rfl
theorem dX12_walksTo_52 : decode cX12_walksTo 52 = .ok (.aload_n 0, 1) := q_aload_n0 (bat_get dg_X12_walksTo_0_0 20 rfl rfl)
theorem dX12_walksTo_53 : decode cX12_walksTo 53 = .ok (.iload 4, 2) := q_iload (bat_get dg_X12_walksTo_0_0 21 rfl rfl)
theorem dX12_walksTo_55 : decode cX12_walksTo 55 = .ok (.iload_n 3, 1) := q_iload_n3 (bat_get dg_X12_walksTo_0_0 22 rfl rfl)
theorem dX12_walksTo_56 : decode cX12_walksTo 56 = .ok (.iload 5, 2) := q_iload (bat_get dg_X12_walksTo_0_0 23 rfl rfl)
theorem dX12_walksTo_58 : decode cX12_walksTo 58 = .ok (.invokevirtual 378, 3) := q_invokevirtual (bat_get dg_X12_walksTo_0_0 24 rfl rfl) rfl
theorem dX12_walksTo_61 : decode cX12_walksTo 61 = .ok (.ifCond .eq 19, 3) := q_ifCond_eq (bat_get dg_X12_walksTo_0_0 25 rfl rfl) rfl
theorem dX12_walksTo_80 : decode cX12_walksTo 80 = .ok (.iinc 5 1, 3) := q_iinc (bat_get dg_X12_walksTo_0_0 26 rfl rfl) rfl
theorem dX12_walksTo_83 : decode cX12_walksTo 83 = .ok (.goto (-61), 3) := q_goto (bat_get dg_X12_walksTo_0_0 27 rfl rfl) rfl
theorem dX12_walksTo_34 : decode cX12_walksTo 34 = .ok (.lload_n 1, 1) := q_lload_n1 (bat_get dg_X12_walksTo_0_0 28 rfl rfl)
theorem dX12_walksTo_35 : decode cX12_walksTo 35 = .ok (.aload_n 0, 1) := q_aload_n0 (bat_get dg_X12_walksTo_0_0 29 rfl rfl)
theorem dX12_walksTo_36 : decode cX12_walksTo 36 = .ok (.getfield 82, 3) := q_getfield (bat_get dg_X12_walksTo_0_0 30 rfl rfl) rfl
theorem dX12_walksTo_39 : decode cX12_walksTo 39 = .ok (.bipush 10, 2) := q_bipush (bat_get dg_X12_walksTo_0_0 31 rfl rfl) rfl
theorem dX12_walksTo_41 : decode cX12_walksTo 41 = .ok (.iload 4, 2) := q_iload (bat_get dg_X12_walksTo_0_0 32 rfl rfl)
theorem dX12_walksTo_43 : decode cX12_walksTo 43 = .ok (.imul, 1) := q_imul (bat_get dg_X12_walksTo_0_0 33 rfl rfl)
theorem dX12_walksTo_44 : decode cX12_walksTo 44 = .ok (.iload 5, 2) := q_iload (bat_get dg_X12_walksTo_0_0 34 rfl rfl)
theorem dX12_walksTo_46 : decode cX12_walksTo 46 = .ok (.iadd, 1) := q_iadd (bat_get dg_X12_walksTo_0_0 35 rfl rfl)
theorem dX12_walksTo_47 : decode cX12_walksTo 47 = .ok (.laload, 1) := q_laload (bat_get dg_X12_walksTo_0_0 36 rfl rfl)
theorem dX12_walksTo_48 : decode cX12_walksTo 48 = .ok (.lcmp, 1) := q_lcmp (bat_get dg_X12_walksTo_0_0 37 rfl rfl)
theorem dX12_walksTo_49 : decode cX12_walksTo 49 = .ok (.ifCond .lt 37, 3) := q_ifCond_lt (bat_get dg_X12_walksTo_0_0 38 rfl rfl) rfl
theorem dX12_walksTo_86 : decode cX12_walksTo 86 = .ok (.aload_n 0, 1) := q_aload_n0 (bat_get dg_X12_walksTo_0_0 39 rfl rfl)
theorem dg_X12_walksTo_64_87 : bqL cX12_walksTo 64 [(23, [180, 0, 89]), (26, [21, 4]), (28, [21, 5]), (30, [79]), (31, [21, 5]), (33, [62]), (34, [132, 4, 1]), (37, [167, 255, 165]), (0, [31]), (1, [42]), (2, [180, 0, 82]), (5, [16, 10]), (7, [21, 4]), (9, [104]), (10, [21, 5]), (12, [96]), (13, [47]), (14, [101]), (15, [64])] = true := by decide +kernel
theorem dX12_walksTo_87 : decode cX12_walksTo 87 = .ok (.getfield 89, 3) := q_getfield (bat_get dg_X12_walksTo_64_87 0 rfl rfl) rfl
theorem dX12_walksTo_90 : decode cX12_walksTo 90 = .ok (.iload 4, 2) := q_iload (bat_get dg_X12_walksTo_64_87 1 rfl rfl)
theorem dX12_walksTo_92 : decode cX12_walksTo 92 = .ok (.iload 5, 2) := q_iload (bat_get dg_X12_walksTo_64_87 2 rfl rfl)
theorem dX12_walksTo_94 : decode cX12_walksTo 94 = .ok (.iastore, 1) := q_iastore (bat_get dg_X12_walksTo_64_87 3 rfl rfl)
theorem dX12_walksTo_95 : decode cX12_walksTo 95 = .ok (.iload 5, 2) := q_iload (bat_get dg_X12_walksTo_64_87 4 rfl rfl)
theorem dX12_walksTo_97 : decode cX12_walksTo 97 = .ok (.istore_n 3, 1) := q_istore_n3 (bat_get dg_X12_walksTo_64_87 5 rfl rfl)
theorem dX12_walksTo_98 : decode cX12_walksTo 98 = .ok (.iinc 4 1, 3) := q_iinc (bat_get dg_X12_walksTo_64_87 6 rfl rfl) rfl
theorem dX12_walksTo_101 : decode cX12_walksTo 101 = .ok (.goto (-91), 3) := q_goto (bat_get dg_X12_walksTo_64_87 7 rfl rfl) rfl
theorem dX12_walksTo_64 : decode cX12_walksTo 64 = .ok (.lload_n 1, 1) := q_lload_n1 (bat_get dg_X12_walksTo_64_87 8 rfl rfl)
theorem dX12_walksTo_65 : decode cX12_walksTo 65 = .ok (.aload_n 0, 1) := q_aload_n0 (bat_get dg_X12_walksTo_64_87 9 rfl rfl)
theorem dX12_walksTo_66 : decode cX12_walksTo 66 = .ok (.getfield 82, 3) := q_getfield (bat_get dg_X12_walksTo_64_87 10 rfl rfl) rfl
theorem dX12_walksTo_69 : decode cX12_walksTo 69 = .ok (.bipush 10, 2) := q_bipush (bat_get dg_X12_walksTo_64_87 11 rfl rfl) rfl
theorem dX12_walksTo_71 : decode cX12_walksTo 71 = .ok (.iload 4, 2) := q_iload (bat_get dg_X12_walksTo_64_87 12 rfl rfl)
theorem dX12_walksTo_73 : decode cX12_walksTo 73 = .ok (.imul, 1) := q_imul (bat_get dg_X12_walksTo_64_87 13 rfl rfl)
theorem dX12_walksTo_74 : decode cX12_walksTo 74 = .ok (.iload 5, 2) := q_iload (bat_get dg_X12_walksTo_64_87 14 rfl rfl)
theorem dX12_walksTo_76 : decode cX12_walksTo 76 = .ok (.iadd, 1) := q_iadd (bat_get dg_X12_walksTo_64_87 15 rfl rfl)
theorem dX12_walksTo_77 : decode cX12_walksTo 77 = .ok (.laload, 1) := q_laload (bat_get dg_X12_walksTo_64_87 16 rfl rfl)
theorem dX12_walksTo_78 : decode cX12_walksTo 78 = .ok (.lsub, 1) := q_lsub (bat_get dg_X12_walksTo_64_87 17 rfl rfl)
theorem dX12_walksTo_79 : decode cX12_walksTo 79 = .ok (.lstore_n 1, 1) := q_lstore_n1 (bat_get dg_X12_walksTo_64_87 18 rfl rfl)
theorem w_7_220 : (Cond.code yX12_walksTo cX12_walksTo 6 none) ∈ wsL_law := sk_mem (ck_7 _ (List.mem_of_getElem? (i := 220) rfl)) rfl
set_option maxHeartbeats 4000000 in
set_option maxRecDepth 100000 in
theorem c_m_walksTo (l : Launch) (D : va_G) (cI cJ cC cZ cS : ClassId) (mm : Nat) (g : Nat → Nat) (ta : Nat) (pa : Nat) (pe : Nat) (pd : Int32) (pb : Nat) (pp : Int32) (pf : Int32) (pg : Int32) (pn : Int32) (rt : Int32) (rn : Int32) (cd : Nat) (sn : Int32) (il : Nat) (tk : Int32) (am : Int32) (at_ : Int32) (aa : Int32) (mt_ : Int32) (wt : Int32) (wy : Int64) (it_ : Nat) (rm : Nat) (ud : Nat) (nu : Nat) (sd : Int64) (qn : Nat) (qw : Nat) (qo : Int32) (qb : Nat) (qp : Nat) (qa : Int64) (qi : Nat) (oc : Nat) (x : Int64) (l0 : Nat) (l1 : Nat) (dm : Nat) (l3 : Nat) (nw : Nat → Int32) (yo : Nat → Int32) (yw : Nat → Int32) (be : Nat → Int64) (pt : Nat → Nat) (hdm : dm ≤ 9) (hdm1 : 1 ≤ dm) (hbe : beOk (cfN nw yw yo mt_) dm 0 be) (hwk0 : wk (cfN nw yw yo mt_) dm 0 (a0N nw) 0 x) (hnw : nowOk nw) (hpt : ∀ j, pt j ≤ 9) : skM l yX12_walksTo cX12_walksTo 6 none 3 66 0 0 D (skT cI cJ cC cZ cS) [.ref mm, .long x] [ro_ mm 12 (mo g (nI ta) (nI pa) (nI pe) pd (nI pb) pp pf pg pn rt rn (nI cd) sn (nI il) tk am at_ aa mt_ 0 (-1) wt wy (nI it_) (nI rm) (nI ud) (nI nu) sd (nI qn) (nI qw) qo (nI qb) (nI qp) qa (nI qi) (nI oc)), ra_I (g 20) cI 4 (l4 (nI l0) (nI l1) (nI dm) (nI l3)), ra_I (g 31) cI 120 nw, ra_I (g 37) cZ 900 yo, ra_I (g 36) cZ 900 yw, ra_J (g 43) cJ 90 be, ra_N (g 46) cI 9 pt] (skV D (skT cI cJ cC cZ cS) (fun (u : va_W) => ∃ (pt2 : Nat → Nat), (∀ j, pt2 j ≤ 9) ∧ u = [ro_ mm 12 (mo g (nI ta) (nI pa) (nI pe) pd (nI pb) pp pf pg pn rt rn (nI cd) sn (nI il) tk am at_ aa mt_ 0 (-1) wt wy (nI it_) (nI rm) (nI ud) (nI nu) sd (nI qn) (nI qw) qo (nI qb) (nI qp) qa (nI qi) (nI oc)), ra_I (g 20) cI 4 (l4 (nI l0) (nI l1) (nI dm) (nI l3)), ra_I (g 31) cI 120 nw, ra_I (g 37) cZ 900 yo, ra_I (g 36) cZ 900 yw, ra_J (g 43) cJ 90 be, ra_N (g 46) cI 9 pt2])) := by
  refine skM_of pf_X12_walksTo (Nat.le_of_ble_eq_true rfl) ?_
  intro p e s m below meth c A ls E hP hD hl
  refine skE_el E (fun hx hb hr hml hlocks hin hown hts hK hA => ?_)
  have hown : s.vm.findClass RX12 = some m.cls := hown
  have hS : va_S A s.heap s.heap [] := va_S.rf
  have hl : lv_has ls 6 [(0, .ref mm), (1, .long x)] := hl
  refine lv_aload_n hx hb dX12_walksTo_0 rfl (lv_at hl 0 rfl) ?_
  refine sk_get (v := .ref (g 31)) (C := RX12) (T := TX12) (N := 92) hx hb hts inlX12 hown hK hP 0 rfl rfl 31 (Nat.le_of_ble_eq_true rfl) w_5_186 rfl dX12_walksTo_1 ?_
  refine lv_iconst (v := 1) hx hb dX12_walksTo_4 ic_1 ?_
  refine va_iald hx hb hK.1 hP 2 0 rfl rfl (by unfold vp_in; decide) dX12_walksTo_5 ?_
  obtain ⟨k_1, hk_1, ek_1⟩ := nowOk_1 hnw
  refine sk_top (nI k_1) ek_1 ?_
  have ha0 := a0_eq ek_1 hk_1
  refine lv_istore_n (lv' := [(3, .int (nI k_1)), (0, .ref mm), (1, .long x)]) hx hb dX12_walksTo_6 rfl hl (by decide) rfl (fun ls hl => ?_)
  refine lv_iconst (v := 0) hx hb dX12_walksTo_7 ic_0 ?_
  refine lv_istore (lv' := [(4, .int 0), (3, .int (nI k_1)), (0, .ref mm), (1, .long x)]) hx hb dX12_walksTo_8 hl (by decide) rfl (fun ls hl => ?_)
  have lp_2 : ∀ (n_3 : Nat) (i : Nat) (ah : Nat) (xk : Int64) (zp : Nat → Nat) (H : Heap) (locs : List Loc) (ls : Array Slot), dm - i < n_3 → (∀ j, zp j ≤ 9) → (i ≤ dm) → (ah ≤ 9) → (i < dm → wk (cfN nw yw yo mt_) dm i ah 0 xk) → va_P D vwCl [ro_ mm 12 (mo g (nI ta) (nI pa) (nI pe) pd (nI pb) pp pf pg pn rt rn (nI cd) sn (nI il) tk am at_ aa mt_ 0 (-1) wt wy (nI it_) (nI rm) (nI ud) (nI nu) sd (nI qn) (nI qw) qo (nI qb) (nI qp) qa (nI qi) (nI oc)), ra_I (g 20) cI 4 (l4 (nI l0) (nI l1) (nI dm) (nI l3)), ra_I (g 31) cI 120 nw, ra_I (g 37) cZ 900 yo, ra_I (g 36) cZ 900 yw, ra_J (g 43) cJ 90 be, ra_N (g 46) cI 9 zp] H → va_D A [ro_ mm 12 (mo g (nI ta) (nI pa) (nI pe) pd (nI pb) pp pf pg pn rt rn (nI cd) sn (nI il) tk am at_ aa mt_ 0 (-1) wt wy (nI it_) (nI rm) (nI ud) (nI nu) sd (nI qn) (nI qw) qo (nI qb) (nI qp) qa (nI qi) (nI oc)), ra_I (g 20) cI 4 (l4 (nI l0) (nI l1) (nI dm) (nI l3)), ra_I (g 31) cI 120 nw, ra_I (g 37) cZ 900 yo, ra_I (g 36) cZ 900 yw, ra_J (g 43) cJ 90 be, ra_N (g 46) cI 9 zp] → va_S A s.heap H locs → lv_has ls 6 [(4, .int (nI i)), (3, .int (nI ah)), (0, .ref mm), (1, .long xk)] → W p l e { frames := 3, cells := 0, slots := 0, locals := 66 } s m ([.ref mm, .long x] : List Value).toArray below meth c H locs 0 0 (MQ below (skV D (skT cI cJ cC cZ cS) (fun (u : va_W) => ∃ (pt2 : Nat → Nat), (∀ j, pt2 j ≤ 9) ∧ u = [ro_ mm 12 (mo g (nI ta) (nI pa) (nI pe) pd (nI pb) pp pf pg pn rt rn (nI cd) sn (nI il) tk am at_ aa mt_ 0 (-1) wt wy (nI it_) (nI rm) (nI ud) (nI nu) sd (nI qn) (nI qw) qo (nI qb) (nI qp) qa (nI qi) (nI oc)), ra_I (g 20) cI 4 (l4 (nI l0) (nI l1) (nI dm) (nI l3)), ra_I (g 31) cI 120 nw, ra_I (g 37) cZ 900 yo, ra_I (g 36) cZ 900 yw, ra_J (g 43) cJ 90 be, ra_N (g 46) cI 9 pt2]) A) ([.ref mm, .long x] : List Value).toArray s 0 0 A) (F0 m 10 ls []) := by
    intro n_3
    induction n_3 with
    | zero => intro i ah xk zp H locs ls hm; exact absurd hm (Nat.not_lt_zero _)
    | succ n_3 ih_lp_2 =>
      intro i ah xk zp H locs ls hm hzp hi hah hw10 hP hD hS hl
      refine lv_iload hx hb dX12_walksTo_10 (lv_at hl 0 rfl) ?_
      refine lv_aload_n hx hb dX12_walksTo_12 rfl (lv_at hl 2 rfl) ?_
      refine sk_Vi (q0 := 0) (n := 0) (rest := [.int (nI i)]) (wr := fmR om_7_60 _) ⟨hx, hb, hml, hown, hts⟩ hl.1 (c_m_dayMany l D cI cJ cC cZ cS mm g ta pa pe pd pb pp pf pg pn rt rn cd sn il tk am at_ aa mt_ 0 (-1) wt wy it_ rm ud nu sd qn qw qo qb qp qa qi oc l0 l1 dm l3) w_7_98 w_7_100 w_0_69 w_1_14 w_7_101 hd_X12_dayMany_0 ⟨⟨(Nat.le_of_ble_eq_true rfl), (Nat.le_of_ble_eq_true rfl)⟩, (Nat.le_of_ble_eq_true rfl), (Nat.le_of_ble_eq_true rfl)⟩ hK hP hD hS hA (fmT om_7_60 0) (fmF om_7_60 0) (fm_C1 rfl rfl) (fm_R rfl rfl) (fm_nT om_7_60 0) (fm_nF om_7_60 0) (fm_di om_7_60 0) rfl rfl rfl rfl (Nat.le_of_ble_eq_true rfl) dX12_walksTo_13 (fun r_4 u H locs hw hP hD hS => ?_)
      refine anE hw (fun er_6 eu_5 => ?_)
      clear hw
      subst er_6
      refine o_mgE (ws' := [ro_ mm 12 (mo g (nI ta) (nI pa) (nI pe) pd (nI pb) pp pf pg pn rt rn (nI cd) sn (nI il) tk am at_ aa mt_ 0 (-1) wt wy (nI it_) (nI rm) (nI ud) (nI nu) sd (nI qn) (nI qw) qo (nI qb) (nI qp) qa (nI qi) (nI oc)), ra_I (g 20) cI 4 (l4 (nI l0) (nI l1) (nI dm) (nI l3)), ra_I (g 31) cI 120 nw, ra_I (g 37) cZ 900 yo, ra_I (g 36) cZ 900 yw, ra_J (g 43) cJ 90 be, ra_N (g 46) cI 9 zp]) eu_5 hP hD rfl (fun hP hD => ?_)
      refine lv_icmp_ge (tgt := 104) hx hb dX12_walksTo_16 (by decide) (fun c_7 => ?_) (fun c_7 => ?_)
      · have c_7 : dm ≤ i := (nle dm i (by omega) (by omega)).mp c_7
        exact sk_vret hx hb hr hlocks hK hP hD hS (⟨zp, hzp, rfl⟩) (Nat.le_of_ble_eq_true rfl) (Nat.le_of_ble_eq_true rfl) dX12_walksTo_104
      · have c_7 : ¬ (dm ≤ i) := fun h => c_7 ((nle dm i (by omega) (by omega)).mpr h)
        refine lv_iconst (v := 0) hx hb dX12_walksTo_19 ic_0 ?_
        refine lv_istore (lv' := [(5, .int 0), (4, .int (nI i)), (3, .int (nI ah)), (0, .ref mm), (1, .long xk)]) hx hb dX12_walksTo_20 hl (by decide) rfl (fun ls hl => ?_)
        have lp_8 : ∀ (n_9 : Nat) (jm : Nat) (xk2 : Int64) (H : Heap) (locs : List Loc) (ls : Array Slot), 10 - jm < n_9 → (wk (cfN nw yw yo mt_) dm i ah jm xk2) → (jm < 10) → va_P D vwCl [ro_ mm 12 (mo g (nI ta) (nI pa) (nI pe) pd (nI pb) pp pf pg pn rt rn (nI cd) sn (nI il) tk am at_ aa mt_ 0 (-1) wt wy (nI it_) (nI rm) (nI ud) (nI nu) sd (nI qn) (nI qw) qo (nI qb) (nI qp) qa (nI qi) (nI oc)), ra_I (g 20) cI 4 (l4 (nI l0) (nI l1) (nI dm) (nI l3)), ra_I (g 31) cI 120 nw, ra_I (g 37) cZ 900 yo, ra_I (g 36) cZ 900 yw, ra_J (g 43) cJ 90 be, ra_N (g 46) cI 9 zp] H → va_D A [ro_ mm 12 (mo g (nI ta) (nI pa) (nI pe) pd (nI pb) pp pf pg pn rt rn (nI cd) sn (nI il) tk am at_ aa mt_ 0 (-1) wt wy (nI it_) (nI rm) (nI ud) (nI nu) sd (nI qn) (nI qw) qo (nI qb) (nI qp) qa (nI qi) (nI oc)), ra_I (g 20) cI 4 (l4 (nI l0) (nI l1) (nI dm) (nI l3)), ra_I (g 31) cI 120 nw, ra_I (g 37) cZ 900 yo, ra_I (g 36) cZ 900 yw, ra_J (g 43) cJ 90 be, ra_N (g 46) cI 9 zp] → va_S A s.heap H locs → lv_has ls 6 [(5, .int (nI jm)), (4, .int (nI i)), (3, .int (nI ah)), (0, .ref mm), (1, .long xk2)] → W p l e { frames := 3, cells := 0, slots := 0, locals := 66 } s m ([.ref mm, .long x] : List Value).toArray below meth c H locs 0 0 (MQ below (skV D (skT cI cJ cC cZ cS) (fun (u : va_W) => ∃ (pt2 : Nat → Nat), (∀ j, pt2 j ≤ 9) ∧ u = [ro_ mm 12 (mo g (nI ta) (nI pa) (nI pe) pd (nI pb) pp pf pg pn rt rn (nI cd) sn (nI il) tk am at_ aa mt_ 0 (-1) wt wy (nI it_) (nI rm) (nI ud) (nI nu) sd (nI qn) (nI qw) qo (nI qb) (nI qp) qa (nI qi) (nI oc)), ra_I (g 20) cI 4 (l4 (nI l0) (nI l1) (nI dm) (nI l3)), ra_I (g 31) cI 120 nw, ra_I (g 37) cZ 900 yo, ra_I (g 36) cZ 900 yw, ra_J (g 43) cJ 90 be, ra_N (g 46) cI 9 pt2]) A) ([.ref mm, .long x] : List Value).toArray s 0 0 A) (F0 m 22 ls []) := by
          intro n_9
          induction n_9 with
          | zero => intro jm xk2 H locs ls hm; exact absurd hm (Nat.not_lt_zero _)
          | succ n_9 ih_lp_8 =>
            intro jm xk2 H locs ls hm hwk hjm hP hD hS hl
            refine lv_aload_n hx hb dX12_walksTo_22 rfl (lv_at hl 3 rfl) ?_
            refine lv_iload hx hb dX12_walksTo_23 (lv_at hl 1 rfl) ?_
            refine lv_iload_n hx hb dX12_walksTo_25 rfl (lv_at hl 2 rfl) ?_
            refine lv_iload hx hb dX12_walksTo_26 (lv_at hl 0 rfl) ?_
            refine sk_Vi (q0 := 0) (n := 3) (rest := []) (wr := fmR om_7_5c _) ⟨hx, hb, hml, hown, hts⟩ hl.1 (c_m_canFollow0 l D cI cJ cC cZ cS mm g ta pa pe pd pb pp pf pg pn rt rn cd sn il tk am at_ aa mt_ wt wy it_ rm ud nu sd qn qw qo qb qp qa qi oc i ah jm nw yo yw (by omega) hjm (by omega) hnw) w_7_201 w_7_203 w_0_85 w_1_14 w_7_204 hd_X12_canFollow_3 ⟨⟨(Nat.le_of_ble_eq_true rfl), (Nat.le_of_ble_eq_true rfl)⟩, (Nat.le_of_ble_eq_true rfl), (Nat.le_of_ble_eq_true rfl)⟩ hK hP hD hS hA (fmT om_7_5c 0) (fmF om_7_5c 0) (fm_C1 rfl rfl) (fm_R rfl rfl) (fm_nT om_7_5c 0) (fm_nF om_7_5c 0) (fm_di om_7_5c 0) rfl rfl rfl rfl (Nat.le_of_ble_eq_true rfl) dX12_walksTo_28 (fun r_11 u H locs hw hP hD hS => ?_)
            refine exE hw (fun b_10 hw1 => anE hw1 (fun hb1_12 hw2 => anE hw2 (fun hb2_13 hw3 => anE hw3 (fun er_15 eu_14 => ?_))))
            clear hw hw1 hw2 hw3
            subst er_15
            refine o_mgE (ws' := [ro_ mm 12 (mo g (nI ta) (nI pa) (nI pe) pd (nI pb) pp pf pg pn rt rn (nI cd) sn (nI il) tk am at_ aa mt_ 0 (-1) wt wy (nI it_) (nI rm) (nI ud) (nI nu) sd (nI qn) (nI qw) qo (nI qb) (nI qp) qa (nI qi) (nI oc)), ra_I (g 20) cI 4 (l4 (nI l0) (nI l1) (nI dm) (nI l3)), ra_I (g 31) cI 120 nw, ra_I (g 37) cZ 900 yo, ra_I (g 36) cZ 900 yw, ra_J (g 43) cJ 90 be, ra_N (g 46) cI 9 zp]) eu_14 hP hD rfl (fun hP hD => ?_)
            refine lv_if_eq (tgt := 52) hx hb dX12_walksTo_31 (by decide) (fun c_16 => ?_) (fun c_16 => ?_)
            · have c_16 : b_10 = 0 := (neq b_10 0 (by omega) (Nat.le_of_ble_eq_true rfl)).mp c_16
              refine lv_aload_n hx hb dX12_walksTo_52 rfl (lv_at hl 3 rfl) ?_
              refine lv_iload hx hb dX12_walksTo_53 (lv_at hl 1 rfl) ?_
              refine lv_iload_n hx hb dX12_walksTo_55 rfl (lv_at hl 2 rfl) ?_
              refine lv_iload hx hb dX12_walksTo_56 (lv_at hl 0 rfl) ?_
              refine sk_Vi (q0 := 0) (n := 3) (rest := []) (wr := fmR om_7_5c _) ⟨hx, hb, hml, hown, hts⟩ hl.1 (c_m_canFollow0 l D cI cJ cC cZ cS mm g ta pa pe pd pb pp pf pg pn rt rn cd sn il tk am at_ aa mt_ wt wy it_ rm ud nu sd qn qw qo qb qp qa qi oc i ah jm nw yo yw (by omega) hjm (by omega) hnw) w_7_201 w_7_203 w_0_85 w_1_14 w_7_204 hd_X12_canFollow_3 ⟨⟨(Nat.le_of_ble_eq_true rfl), (Nat.le_of_ble_eq_true rfl)⟩, (Nat.le_of_ble_eq_true rfl), (Nat.le_of_ble_eq_true rfl)⟩ hK hP hD hS hA (fmT om_7_5c 0) (fmF om_7_5c 0) (fm_C1 rfl rfl) (fm_R rfl rfl) (fm_nT om_7_5c 0) (fm_nF om_7_5c 0) (fm_di om_7_5c 0) rfl rfl rfl rfl (Nat.le_of_ble_eq_true rfl) dX12_walksTo_58 (fun r_18 u H locs hw hP hD hS => ?_)
              refine exE hw (fun b_17 hw1 => anE hw1 (fun hb1_19 hw2 => anE hw2 (fun hb2_20 hw3 => anE hw3 (fun er_22 eu_21 => ?_))))
              clear hw hw1 hw2 hw3
              subst er_22
              refine o_mgE (ws' := [ro_ mm 12 (mo g (nI ta) (nI pa) (nI pe) pd (nI pb) pp pf pg pn rt rn (nI cd) sn (nI il) tk am at_ aa mt_ 0 (-1) wt wy (nI it_) (nI rm) (nI ud) (nI nu) sd (nI qn) (nI qw) qo (nI qb) (nI qp) qa (nI qi) (nI oc)), ra_I (g 20) cI 4 (l4 (nI l0) (nI l1) (nI dm) (nI l3)), ra_I (g 31) cI 120 nw, ra_I (g 37) cZ 900 yo, ra_I (g 36) cZ 900 yw, ra_J (g 43) cJ 90 be, ra_N (g 46) cI 9 zp]) eu_21 hP hD rfl (fun hP hD => ?_)
              refine lv_if_eq (tgt := 80) hx hb dX12_walksTo_61 (by decide) (fun c_23 => ?_) (fun c => absurd ((or_1 hb1_19 (fun h => c (by rw [h]; rfl))).symm.trans (or_0 hb1_12 (by omega))) (by decide))
              refine lv_iinc (v := nI (jm + 1)) (lv' := [(5, .int (nI (jm + 1))), (4, .int (nI i)), (3, .int (nI ah)), (0, .ref mm), (1, .long xk2)]) hx hb dX12_walksTo_80 hl (k := 0) rfl (ninc jm 1 (by decide)) (by decide) rfl (fun ls hl => ?_)
              refine lv_goto (tgt := 22) hx hb dX12_walksTo_83 (by decide) ?_
              exact ih_lp_8 (jm + 1) xk2 _ _ _ (by omega) (wk_no hwk (or_0 hb1_12 (by omega))) (wk_lt (wk_no hwk (or_0 hb1_12 (by omega)))) hP hD hS (lv_sub hl [0, 1, 2, 3, 4] rfl)
            · have c_16 : ¬ (b_10 = 0) := fun h => c_16 ((neq b_10 0 (by omega) (Nat.le_of_ble_eq_true rfl)).mpr h)
              refine lv_lload_n hx hb dX12_walksTo_34 rfl (lv_at hl 4 rfl) ?_
              refine lv_aload_n hx hb dX12_walksTo_35 rfl (lv_at hl 3 rfl) ?_
              refine sk_get (v := .ref (g 43)) (C := RX12) (T := TX12) (N := 92) hx hb hts inlX12 hown hK hP 0 rfl rfl 43 (Nat.le_of_ble_eq_true rfl) w_5_198 rfl dX12_walksTo_36 ?_
              refine lv_bipush (v := 10) hx hb dX12_walksTo_39 (by decide) ?_
              refine lv_iload hx hb dX12_walksTo_41 (lv_at hl 1 rfl) ?_
              refine lv_imul hx hb dX12_walksTo_43 ?_
              refine sk_top (nI (10 * i)) (nmul 10 i) ?_
              refine lv_iload hx hb dX12_walksTo_44 (lv_at hl 0 rfl) ?_
              refine lv_iadd hx hb dX12_walksTo_46 ?_
              refine sk_top (nI (10 * i + jm)) (nI_add (10 * i) jm) ?_
              refine va_lald hx hb hK.1 hP 5 1 rfl rfl (vin (10 * i + jm) 90 (by omega) (Nat.le_of_ble_eq_true rfl)) dX12_walksTo_47 ?_
              refine lv_topl (fun v_24 ev_24 => ?_)
              refine W.lcmp hx hb dX12_walksTo_48 ?_
              refine lv_if_lt (tgt := 86) hx hb dX12_walksTo_49 (by decide) (fun c_25 => ?_) (fun c_25 => ?_)
              · skip
                refine lv_aload_n hx hb dX12_walksTo_86 rfl (lv_at hl 3 rfl) ?_
                refine sk_get (v := .ref (g 46)) (C := RX12) (T := TX12) (N := 92) hx hb hts inlX12 hown hK hP 0 rfl rfl 46 (Nat.le_of_ble_eq_true rfl) w_5_201 rfl dX12_walksTo_87 ?_
                refine lv_iload hx hb dX12_walksTo_90 (lv_at hl 1 rfl) ?_
                refine lv_iload hx hb dX12_walksTo_92 (lv_at hl 0 rfl) ?_
                refine sk_iastN (k := i) (v := jm) (B := 9) (ws' := fun f_26 => [ro_ mm 12 (mo g (nI ta) (nI pa) (nI pe) pd (nI pb) pp pf pg pn rt rn (nI cd) sn (nI il) tk am at_ aa mt_ 0 (-1) wt wy (nI it_) (nI rm) (nI ud) (nI nu) sd (nI qn) (nI qw) qo (nI qb) (nI qp) qa (nI qi) (nI oc)), ra_I (g 20) cI 4 (l4 (nI l0) (nI l1) (nI dm) (nI l3)), ra_I (g 31) cI 120 nw, ra_I (g 37) cZ 900 yo, ra_I (g 36) cZ 900 yw, ra_J (g 43) cJ 90 be, ra_N (g 46) cI 9 f_26]) hx hb hK hP hD hS 6 0 rfl rfl (by omega) (by omega) hzp (by omega) (fun _ => rfl) dX12_walksTo_94 (fun f_26 H locs hf_27 hP hD hS => ?_)
                refine lv_iload hx hb dX12_walksTo_95 (lv_at hl 0 rfl) ?_
                refine lv_istore_n (lv' := [(3, .int (nI jm)), (5, .int (nI jm)), (4, .int (nI i)), (0, .ref mm), (1, .long xk2)]) hx hb dX12_walksTo_97 rfl hl (by decide) rfl (fun ls hl => ?_)
                refine lv_iinc (v := nI (i + 1)) (lv' := [(4, .int (nI (i + 1))), (3, .int (nI jm)), (5, .int (nI jm)), (0, .ref mm), (1, .long xk2)]) hx hb dX12_walksTo_98 hl (k := 2) rfl (ninc i 1 (by decide)) (by decide) rfl (fun ls hl => ?_)
                refine lv_goto (tgt := 10) hx hb dX12_walksTo_101 (by decide) ?_
                exact ih_lp_2 (i + 1) jm xk2 f_26 _ _ _ (by omega) hf_27 (by omega) (by omega) (wk_next hwk (by omega) (be_get hbe (by omega) (by omega) (by omega) (by omega) ev_24) c_25) hP hD hS (lv_sub hl [0, 1, 3, 4] rfl)
              · skip
                refine lv_aload_n hx hb dX12_walksTo_52 rfl (lv_at hl 3 rfl) ?_
                refine lv_iload hx hb dX12_walksTo_53 (lv_at hl 1 rfl) ?_
                refine lv_iload_n hx hb dX12_walksTo_55 rfl (lv_at hl 2 rfl) ?_
                refine lv_iload hx hb dX12_walksTo_56 (lv_at hl 0 rfl) ?_
                refine sk_Vi (q0 := 0) (n := 3) (rest := []) (wr := fmR om_7_5c _) ⟨hx, hb, hml, hown, hts⟩ hl.1 (c_m_canFollow0 l D cI cJ cC cZ cS mm g ta pa pe pd pb pp pf pg pn rt rn cd sn il tk am at_ aa mt_ wt wy it_ rm ud nu sd qn qw qo qb qp qa qi oc i ah jm nw yo yw (by omega) hjm (by omega) hnw) w_7_201 w_7_203 w_0_85 w_1_14 w_7_204 hd_X12_canFollow_3 ⟨⟨(Nat.le_of_ble_eq_true rfl), (Nat.le_of_ble_eq_true rfl)⟩, (Nat.le_of_ble_eq_true rfl), (Nat.le_of_ble_eq_true rfl)⟩ hK hP hD hS hA (fmT om_7_5c 0) (fmF om_7_5c 0) (fm_C1 rfl rfl) (fm_R rfl rfl) (fm_nT om_7_5c 0) (fm_nF om_7_5c 0) (fm_di om_7_5c 0) rfl rfl rfl rfl (Nat.le_of_ble_eq_true rfl) dX12_walksTo_58 (fun r_29 u H locs hw hP hD hS => ?_)
                refine exE hw (fun b_28 hw1 => anE hw1 (fun hb1_30 hw2 => anE hw2 (fun hb2_31 hw3 => anE hw3 (fun er_33 eu_32 => ?_))))
                clear hw hw1 hw2 hw3
                subst er_33
                refine o_mgE (ws' := [ro_ mm 12 (mo g (nI ta) (nI pa) (nI pe) pd (nI pb) pp pf pg pn rt rn (nI cd) sn (nI il) tk am at_ aa mt_ 0 (-1) wt wy (nI it_) (nI rm) (nI ud) (nI nu) sd (nI qn) (nI qw) qo (nI qb) (nI qp) qa (nI qi) (nI oc)), ra_I (g 20) cI 4 (l4 (nI l0) (nI l1) (nI dm) (nI l3)), ra_I (g 31) cI 120 nw, ra_I (g 37) cZ 900 yo, ra_I (g 36) cZ 900 yw, ra_J (g 43) cJ 90 be, ra_N (g 46) cI 9 zp]) eu_32 hP hD rfl (fun hP hD => ?_)
                refine lv_if_eq (tgt := 80) hx hb dX12_walksTo_61 (by decide) (fun c => absurd ((or_0 hb1_30 ((neq _ 0 (by omega) (Nat.le_of_ble_eq_true rfl)).mp c)).symm.trans (or_1 hb1_12 (by omega))) (by decide)) (fun c_34 => ?_)
                refine lv_lload_n hx hb dX12_walksTo_64 rfl (lv_at hl 4 rfl) ?_
                refine lv_aload_n hx hb dX12_walksTo_65 rfl (lv_at hl 3 rfl) ?_
                refine sk_get (v := .ref (g 43)) (C := RX12) (T := TX12) (N := 92) hx hb hts inlX12 hown hK hP 0 rfl rfl 43 (Nat.le_of_ble_eq_true rfl) w_5_198 rfl dX12_walksTo_66 ?_
                refine lv_bipush (v := 10) hx hb dX12_walksTo_69 (by decide) ?_
                refine lv_iload hx hb dX12_walksTo_71 (lv_at hl 1 rfl) ?_
                refine lv_imul hx hb dX12_walksTo_73 ?_
                refine sk_top (nI (10 * i)) (nmul 10 i) ?_
                refine lv_iload hx hb dX12_walksTo_74 (lv_at hl 0 rfl) ?_
                refine lv_iadd hx hb dX12_walksTo_76 ?_
                refine sk_top (nI (10 * i + jm)) (nI_add (10 * i) jm) ?_
                refine va_lald hx hb hK.1 hP 5 1 rfl rfl (vin (10 * i + jm) 90 (by omega) (Nat.le_of_ble_eq_true rfl)) dX12_walksTo_77 ?_
                refine lv_topl (fun v_35 ev_35 => ?_)
                refine lv_lsub hx hb dX12_walksTo_78 ?_
                refine lv_topl (fun v_36 ev_36 => ?_)
                refine lv_lstore_n (lv' := [(1, .long v_36), (5, .int (nI jm)), (4, .int (nI i)), (3, .int (nI ah)), (0, .ref mm)]) hx hb dX12_walksTo_79 rfl hl (by decide) rfl (fun ls hl => ?_)
                refine lv_iinc (v := nI (jm + 1)) (lv' := [(5, .int (nI (jm + 1))), (1, .long v_36), (4, .int (nI i)), (3, .int (nI ah)), (0, .ref mm)]) hx hb dX12_walksTo_80 hl (k := 1) rfl (ninc jm 1 (by decide)) (by decide) rfl (fun ls hl => ?_)
                refine lv_goto (tgt := 22) hx hb dX12_walksTo_83 (by decide) ?_
                exact ih_lp_8 (jm + 1) v_36 _ _ _ (by omega) (wk_sub hwk (by omega) (or_1 hb1_12 (by omega)) (be_get hbe (by omega) (by omega) (by omega) (by omega) ev_35) (by rw [ev_35, ← ev_24]; exact c_25) ev_36) (wk_lt (wk_sub hwk (by omega) (or_1 hb1_12 (by omega)) (be_get hbe (by omega) (by omega) (by omega) (by omega) ev_35) (by rw [ev_35, ← ev_24]; exact c_25) ev_36)) hP hD hS (lv_sub hl [0, 2, 3, 4, 1] rfl)
        exact lp_8 (10 - 0 + 1) 0 xk _ _ _ (Nat.lt_succ_self _) (hw10 (by omega)) (wk_lt (hw10 (by omega))) hP hD hS (lv_sub hl [0, 1, 2, 3, 4] rfl)
  exact lp_2 (dm - 0 + 1) 0 k_1 x pt _ _ _ (Nat.lt_succ_self _) hpt (by omega) (by omega) (fun _ => by rw [ha0]; exact hwk0) hP hD hS (lv_sub hl [0, 1, 2, 3] rfl)
theorem ways_gt {wy : Int64} {K : Nat} (h : wy = nL K) (hc : ¬ lg_cmp wy 0 ≤ 0) : 0 < K := by
  rcases Nat.eq_zero_or_pos K with q | q
  · subst q
    exact absurd ((lg_cmp_le wy 0).mpr (by rw [h]; exact Int64.le_refl _)) hc
  · exact q
theorem wk_z {C : Nat → Nat → Nat → Bool} {a0 n : Nat} (h : 0 < wys C a0 (n - 1)) : wk C n 0 a0 0 0 := wk_start (k := 0) h
theorem nar_b (b : Nat) (h : b ≤ 1) : vp_nar .boolean (nI b) = nI b := by
  match b, h with
  | 0, _ => rfl
  | 1, _ => rfl
theorem dg_X12_laysAll_0_0 : bqL cX12_laysAll 0 [(0, [42]), (1, [3]), (2, [182, 1, 129]), (5, [42]), (6, [182, 1, 132]), (9, [177])] = true := by decide +kernel
theorem dX12_laysAll_0 : decode cX12_laysAll 0 = .ok (.aload_n 0, 1) := q_aload_n0 (bat_get dg_X12_laysAll_0_0 0 rfl rfl)
theorem dX12_laysAll_1 : decode cX12_laysAll 1 = .ok (.iconst 0, 1) := q_iconst0 (bat_get dg_X12_laysAll_0_0 1 rfl rfl)
theorem dX12_laysAll_2 : decode cX12_laysAll 2 = .ok (.invokevirtual 385, 3) := q_invokevirtual (bat_get dg_X12_laysAll_0_0 2 rfl rfl) rfl
theorem dX12_laysAll_5 : decode cX12_laysAll 5 = .ok (.aload_n 0, 1) := q_aload_n0 (bat_get dg_X12_laysAll_0_0 3 rfl rfl)
theorem dX12_laysAll_6 : decode cX12_laysAll 6 = .ok (.invokevirtual 388, 3) := q_invokevirtual (bat_get dg_X12_laysAll_0_0 4 rfl rfl) rfl
theorem dX12_laysAll_9 : decode cX12_laysAll 9 = .ok (.return_, 1) := q_return_ (bat_get dg_X12_laysAll_0_0 5 rfl rfl)
theorem w_7_193 : (Cond.methodLink RX12 385 yX12_laysDays) ∈ wsL_law := sk_mem (ck_7 _ (List.mem_of_getElem? (i := 193) rfl)) rfl
theorem w_7_195 : (Cond.instanceMethod yX12_laysDays) ∈ wsL_law := sk_mem (ck_7 _ (List.mem_of_getElem? (i := 195) rfl)) rfl
theorem w_0_83 : (Cond.selects RX12 yX12_laysDays yX12_laysDays) ∈ wsL_law := sk_mem (ck_0 _ (List.mem_of_getElem? (i := 83) rfl)) rfl
theorem w_7_197 : (Cond.methodLink RX12 388 yX12_laysWays) ∈ wsL_law := sk_mem (ck_7 _ (List.mem_of_getElem? (i := 197) rfl)) rfl
theorem w_7_199 : (Cond.instanceMethod yX12_laysWays) ∈ wsL_law := sk_mem (ck_7 _ (List.mem_of_getElem? (i := 199) rfl)) rfl
theorem w_0_84 : (Cond.selects RX12 yX12_laysWays yX12_laysWays) ∈ wsL_law := sk_mem (ck_0 _ (List.mem_of_getElem? (i := 84) rfl)) rfl
theorem w_7_192 : (Cond.code yX12_laysAll cX12_laysAll 1 none) ∈ wsL_law := sk_mem (ck_7 _ (List.mem_of_getElem? (i := 192) rfl)) rfl
def om_13_1ffc : List Bool := true :: true :: true :: true :: true :: true :: true :: true :: true :: true :: true :: false :: false :: []
def om_13_112f : List Bool := true :: false :: false :: false :: true :: false :: false :: true :: false :: true :: true :: true :: true :: []
theorem hd_X12_laysDays_1 : skD yX12_laysDays 1 := by decide +kernel
theorem hd_X12_laysWays_0 : skD yX12_laysWays 0 := by decide +kernel
set_option maxHeartbeats 4000000 in
set_option maxRecDepth 100000 in
theorem c_m_laysAll (l : Launch) (D : va_G) (cI cJ cC cZ cS : ClassId) (mm : Nat) (g : Nat → Nat) (ta : Nat) (pa : Nat) (pe : Nat) (pd : Int32) (pb : Nat) (pp : Int32) (pf : Int32) (pg : Int32) (pn : Int32) (rt : Int32) (rn : Int32) (cd : Nat) (sn : Int32) (il : Nat) (tk : Int32) (am : Int32) (at_ : Int32) (aa : Int32) (mt_ : Int32) (wt : Int32) (wy : Int64) (it_ : Nat) (rm : Nat) (ud : Nat) (nu : Nat) (sd : Int64) (qn : Nat) (qw : Nat) (qo : Int32) (qb : Nat) (qp : Nat) (qa : Int64) (qi : Nat) (oc : Nat) (u0 : Int32) (u1 : Int32) (u2 : Int32) (u3 : Int32) (u4 : Int32) (u5 : Int32) (v0 : Int32) (v1 : Int32) (v2 : Int32) (v3 : Int32) (v4 : Int32) (v5 : Int32) (cs : Nat → Nat) (nw : Nat → Int32) (pt : Nat → Nat) (ql : Nat → Int64) (l0 : Nat) (l1 : Nat) (dm : Nat) (l3 : Nat) (ws_ : Nat → Int32) (yw : Nat → Int32) (yo : Nat → Int32) (be : Nat → Int64) (bf : Nat → Int64) (hdm : dm ≤ 9) (hdm1 : 1 ≤ dm) (hp0 : progOk cs u3 v3) (hp1 : progOk cs u4 v4) (hp2 : progOk cs u5 v5) (hcs : ∀ j, cs j ≤ 20000) (hnw : nowOk nw) (hpt : ∀ j, pt j ≤ 9) : skM l yX12_laysAll cX12_laysAll 1 none 5 122 0 0 D (skT cI cJ cC cZ cS) [.ref mm] [ro_ mm 12 (mo g (nI ta) (nI pa) (nI pe) pd (nI pb) pp pf pg pn rt rn (nI cd) sn (nI il) tk am at_ aa mt_ 0 (-1) wt wy (nI it_) (nI rm) (nI ud) (nI nu) sd (nI qn) (nI qw) qo (nI qb) (nI qp) qa (nI qi) (nI oc)), ra_I (g 24) cI 6 (l6 u0 u1 u2 u3 u4 u5), ra_I (g 25) cI 6 (l6 v0 v1 v2 v3 v4 v5), ra_N (g 26) cI 3200 cs, ra_I (g 31) cI 120 nw, ra_N (g 46) cI 9 pt, ra_J (g 86) cJ 1700 ql, ra_I (g 20) cI 4 (l4 (nI l0) (nI l1) (nI dm) (nI l3)), ra_I (g 38) cI 90 ws_, ra_I (g 36) cZ 900 yw, ra_I (g 37) cZ 900 yo, ra_J (g 43) cJ 90 be, ra_J (g 44) cJ 90 bf] (skV D (skT cI cJ cC cZ cS) (fun (u : va_W) => ∃ (tk2 : Int32), ∃ (qp2 : Nat), ∃ (am2 : Int32), ∃ (at_2 : Int32), ∃ (aa2 : Int32), ∃ (wy2 : Int64), ∃ (ql2 : Nat → Int64), ∃ (ws_2 : Nat → Int32), ∃ (yw2 : Nat → Int32), ∃ (yo2 : Nat → Int32), ∃ (be2 : Nat → Int64), ∃ (bf2 : Nat → Int64), beOk (cfN nw yw2 yo2 mt_) dm 0 be2 ∧ wy2 = nL (wys (cfN nw yw2 yo2 mt_) (a0N nw) (dm - 1)) ∧ u = [ro_ mm 12 (mo g (nI ta) (nI pa) (nI pe) pd (nI pb) pp pf pg pn rt rn (nI cd) sn (nI il) tk2 am2 at_2 aa2 mt_ 0 (-1) wt wy2 (nI it_) (nI rm) (nI ud) (nI nu) sd (nI qn) (nI qw) qo (nI qb) (nI qp2) qa (nI qi) (nI oc)), ra_I (g 24) cI 6 (l6 u0 u1 u2 u3 u4 u5), ra_I (g 25) cI 6 (l6 v0 v1 v2 v3 v4 v5), ra_N (g 26) cI 3200 cs, ra_I (g 31) cI 120 nw, ra_N (g 46) cI 9 pt, ra_J (g 86) cJ 1700 ql2, ra_I (g 20) cI 4 (l4 (nI l0) (nI l1) (nI dm) (nI l3)), ra_I (g 38) cI 90 ws_2, ra_I (g 36) cZ 900 yw2, ra_I (g 37) cZ 900 yo2, ra_J (g 43) cJ 90 be2, ra_J (g 44) cJ 90 bf2])) := by
  refine skM_of pf_X12_laysAll (Nat.le_of_ble_eq_true rfl) ?_
  intro p e s m below meth c A ls E hP hD hl
  refine skE_el E (fun hx hb hr hml hlocks hin hown hts hK hA => ?_)
  have hown : s.vm.findClass RX12 = some m.cls := hown
  have hS : va_S A s.heap s.heap [] := va_S.rf
  have hl : lv_has ls 1 [(0, .ref mm)] := hl
  refine lv_aload_n hx hb dX12_laysAll_0 rfl (lv_at hl 0 rfl) ?_
  refine lv_iconst (v := 0) hx hb dX12_laysAll_1 ic_0 ?_
  refine sk_Vv (q0 := 0) (n := 1) (rest := []) (wr := fmR om_13_1ffc _) ⟨hx, hb, hml, hown, hts⟩ hl.1 (c_m_laysDays l D cI cJ cC cZ cS mm g ta pa pe pd pb pp pf pg pn rt rn cd sn il tk am at_ aa mt_ 0 (-1) wt wy it_ rm ud nu sd qn qw qo qb qp qa qi oc 0 u0 u1 u2 u3 u4 u5 v0 v1 v2 v3 v4 v5 cs nw pt ql l0 l1 dm l3 ws_ yw yo hdm hp0 hp1 hp2 hcs hnw hpt) w_7_193 w_7_195 w_0_83 w_1_14 w_7_196 hd_X12_laysDays_1 ⟨⟨(Nat.le_of_ble_eq_true rfl), (Nat.le_of_ble_eq_true rfl)⟩, (Nat.le_of_ble_eq_true rfl), (Nat.le_of_ble_eq_true rfl)⟩ hK hP hD hS hA (fmT om_13_1ffc 0) (fmF om_13_1ffc 0) (fm_C1 rfl rfl) (fm_R rfl rfl) (fm_nT om_13_1ffc 0) (fm_nF om_13_1ffc 0) (fm_di om_13_1ffc 0) rfl rfl rfl rfl (Nat.le_of_ble_eq_true rfl) dX12_laysAll_2 (fun u H locs hw hP hD hS => ?_)
  refine exE hw (fun tk2_1 hw1 => exE hw1 (fun qp2_2 hw2 => exE hw2 (fun am2_3 hw3 => exE hw3 (fun at_2_4 hw4 => exE hw4 (fun aa2_5 hw5 => exE hw5 (fun ql2_6 hw6 => exE hw6 (fun ws_2_7 hw7 => exE hw7 (fun yw2_8 hw8 => exE hw8 (fun yo2_9 eu_10 => ?_)))))))))
  clear hw hw1 hw2 hw3 hw4 hw5 hw6 hw7 hw8
  refine o_mgE (ws' := [ro_ mm 12 (mo g (nI ta) (nI pa) (nI pe) pd (nI pb) pp pf pg pn rt rn (nI cd) sn (nI il) tk2_1 am2_3 at_2_4 aa2_5 mt_ 0 (-1) wt wy (nI it_) (nI rm) (nI ud) (nI nu) sd (nI qn) (nI qw) qo (nI qb) (nI qp2_2) qa (nI qi) (nI oc)), ra_I (g 24) cI 6 (l6 u0 u1 u2 u3 u4 u5), ra_I (g 25) cI 6 (l6 v0 v1 v2 v3 v4 v5), ra_N (g 26) cI 3200 cs, ra_I (g 31) cI 120 nw, ra_N (g 46) cI 9 pt, ra_J (g 86) cJ 1700 ql2_6, ra_I (g 20) cI 4 (l4 (nI l0) (nI l1) (nI dm) (nI l3)), ra_I (g 38) cI 90 ws_2_7, ra_I (g 36) cZ 900 yw2_8, ra_I (g 37) cZ 900 yo2_9, ra_J (g 43) cJ 90 be, ra_J (g 44) cJ 90 bf]) eu_10 hP hD rfl (fun hP hD => ?_)
  refine lv_aload_n hx hb dX12_laysAll_5 rfl (lv_at hl 0 rfl) ?_
  refine sk_Vv (q0 := 0) (n := 0) (rest := []) (wr := fmR om_13_112f _) ⟨hx, hb, hml, hown, hts⟩ hl.1 (c_m_laysWays0 l D cI cJ cC cZ cS mm g ta pa pe pd pb pp pf pg pn rt rn cd sn il tk2_1 am2_3 at_2_4 aa2_5 mt_ wt wy it_ rm ud nu sd qn qw qo qb qp2_2 qa qi oc l0 l1 dm l3 nw yo2_9 yw2_8 be bf hdm hdm1 hnw) w_7_197 w_7_199 w_0_84 w_1_14 w_7_200 hd_X12_laysWays_0 ⟨⟨(Nat.le_of_ble_eq_true rfl), (Nat.le_of_ble_eq_true rfl)⟩, (Nat.le_of_ble_eq_true rfl), (Nat.le_of_ble_eq_true rfl)⟩ hK hP hD hS hA [0, 7, 4, 10, 9, 11, 12] (fmF om_13_112f 0) rfl (fm_R rfl rfl) (by decide +kernel) (fm_nF om_13_112f 0) (by decide +kernel) rfl rfl rfl rfl (Nat.le_of_ble_eq_true rfl) dX12_laysAll_6 (fun u H locs hw hP hD hS => ?_)
  refine exE hw (fun wy2_11 hw1 => exE hw1 (fun be2_12 hw2 => exE hw2 (fun bf2_13 hw3 => anE hw3 (fun hbe_14 hw4 => anE hw4 (fun hwy_15 eu_16 => ?_)))))
  clear hw hw1 hw2 hw3 hw4
  refine o_mgqE (ux := [ro_ mm 12 (mo g (nI ta) (nI pa) (nI pe) pd (nI pb) pp pf pg pn rt rn (nI cd) sn (nI il) tk2_1 am2_3 at_2_4 aa2_5 mt_ 0 (-1) wt wy2_11 (nI it_) (nI rm) (nI ud) (nI nu) sd (nI qn) (nI qw) qo (nI qb) (nI qp2_2) qa (nI qi) (nI oc)), ra_I (g 31) cI 120 nw, ra_I (g 20) cI 4 (l4 (nI l0) (nI l1) (nI dm) (nI l3)), ra_I (g 36) cZ 900 yw2_8, ra_I (g 37) cZ 900 yo2_9, ra_J (g 43) cJ 90 be2_12, ra_J (g 44) cJ 90 bf2_13]) (ws' := [ro_ mm 12 (mo g (nI ta) (nI pa) (nI pe) pd (nI pb) pp pf pg pn rt rn (nI cd) sn (nI il) tk2_1 am2_3 at_2_4 aa2_5 mt_ 0 (-1) wt wy2_11 (nI it_) (nI rm) (nI ud) (nI nu) sd (nI qn) (nI qw) qo (nI qb) (nI qp2_2) qa (nI qi) (nI oc)), ra_I (g 24) cI 6 (l6 u0 u1 u2 u3 u4 u5), ra_I (g 25) cI 6 (l6 v0 v1 v2 v3 v4 v5), ra_N (g 26) cI 3200 cs, ra_I (g 31) cI 120 nw, ra_N (g 46) cI 9 pt, ra_J (g 86) cJ 1700 ql2_6, ra_I (g 20) cI 4 (l4 (nI l0) (nI l1) (nI dm) (nI l3)), ra_I (g 38) cI 90 ws_2_7, ra_I (g 36) cZ 900 yw2_8, ra_I (g 37) cZ 900 yo2_9, ra_J (g 43) cJ 90 be2_12, ra_J (g 44) cJ 90 bf2_13]) eu_16 [0, 2, 1, 4, 3, 5, 6] (by decide +kernel) rfl hP hD rfl (fun hP hD => ?_)
  exact sk_vret hx hb hr hlocks hK hP hD hS (⟨tk2_1, qp2_2, am2_3, at_2_4, aa2_5, wy2_11, ql2_6, ws_2_7, yw2_8, yo2_9, be2_12, bf2_13, hbe_14, hwy_15, rfl⟩) (Nat.le_of_ble_eq_true rfl) (Nat.le_of_ble_eq_true rfl) dX12_laysAll_9
theorem dg_X12_doesAgree_0_0 : bqL cX12_doesAgree 0 [(0, [42]), (1, [27]), (2, [181, 1, 106]), (5, [42]), (6, [182, 1, 132]), (9, [42]), (10, [3]), (11, [181, 1, 106]), (14, [42]), (15, [180, 1, 126]), (18, [9]), (19, [148]), (20, [158, 0, 7]), (27, [3]), (28, [172]), (23, [4]), (24, [167, 0, 4])] = true := by decide +kernel
theorem dX12_doesAgree_0 : decode cX12_doesAgree 0 = .ok (.aload_n 0, 1) := q_aload_n0 (bat_get dg_X12_doesAgree_0_0 0 rfl rfl)
theorem dX12_doesAgree_1 : decode cX12_doesAgree 1 = .ok (.iload_n 1, 1) := q_iload_n1 (bat_get dg_X12_doesAgree_0_0 1 rfl rfl)
theorem dX12_doesAgree_2 : decode cX12_doesAgree 2 = .ok (.putfield 362, 3) := q_putfield (bat_get dg_X12_doesAgree_0_0 2 rfl rfl) rfl
theorem dX12_doesAgree_5 : decode cX12_doesAgree 5 = .ok (.aload_n 0, 1) := q_aload_n0 (bat_get dg_X12_doesAgree_0_0 3 rfl rfl)
theorem dX12_doesAgree_6 : decode cX12_doesAgree 6 = .ok (.invokevirtual 388, 3) := q_invokevirtual (bat_get dg_X12_doesAgree_0_0 4 rfl rfl) rfl
theorem dX12_doesAgree_9 : decode cX12_doesAgree 9 = .ok (.aload_n 0, 1) := q_aload_n0 (bat_get dg_X12_doesAgree_0_0 5 rfl rfl)
theorem dX12_doesAgree_10 : decode cX12_doesAgree 10 = .ok (.iconst 0, 1) := q_iconst0 (bat_get dg_X12_doesAgree_0_0 6 rfl rfl)
theorem dX12_doesAgree_11 : decode cX12_doesAgree 11 = .ok (.putfield 362, 3) := q_putfield (bat_get dg_X12_doesAgree_0_0 7 rfl rfl) rfl
theorem dX12_doesAgree_14 : decode cX12_doesAgree 14 = .ok (.aload_n 0, 1) := q_aload_n0 (bat_get dg_X12_doesAgree_0_0 8 rfl rfl)
theorem dX12_doesAgree_15 : decode cX12_doesAgree 15 = .ok (.getfield 382, 3) := q_getfield (bat_get dg_X12_doesAgree_0_0 9 rfl rfl) rfl
theorem dX12_doesAgree_18 : decode cX12_doesAgree 18 = .ok (.lconst 0, 1) := q_lconst0 (bat_get dg_X12_doesAgree_0_0 10 rfl rfl)
theorem dX12_doesAgree_19 : decode cX12_doesAgree 19 = .ok (.lcmp, 1) := q_lcmp (bat_get dg_X12_doesAgree_0_0 11 rfl rfl)
theorem dX12_doesAgree_20 : decode cX12_doesAgree 20 = .ok (.ifCond .le 7, 3) := q_ifCond_le (bat_get dg_X12_doesAgree_0_0 12 rfl rfl) rfl
theorem dX12_doesAgree_27 : decode cX12_doesAgree 27 = .ok (.iconst 0, 1) := q_iconst0 (bat_get dg_X12_doesAgree_0_0 13 rfl rfl)
theorem dX12_doesAgree_28 : decode cX12_doesAgree 28 = .ok (.ireturn, 1) := q_ireturn (bat_get dg_X12_doesAgree_0_0 14 rfl rfl)
theorem dX12_doesAgree_23 : decode cX12_doesAgree 23 = .ok (.iconst 1, 1) := q_iconst1 (bat_get dg_X12_doesAgree_0_0 15 rfl rfl)
theorem dX12_doesAgree_24 : decode cX12_doesAgree 24 = .ok (.goto 4, 3) := q_goto (bat_get dg_X12_doesAgree_0_0 16 rfl rfl) rfl
theorem w_7_232 : (Cond.code yX12_doesAgree cX12_doesAgree 2 (some .boolean)) ∈ wsL_law := sk_mem (ck_7 _ (List.mem_of_getElem? (i := 232) rfl)) rfl
theorem inRg {x y z : Int32} {lo hi : Nat} (h0 : y.toInt64 ≤ x.toInt64) (h1 : x.toInt64 ≤ z.toInt64) (hy : y = nI lo) (hz : z = nI hi) (hl : lo < 2147483648 := by omega) (hh : hi < 2147483648 := by omega) : ∃ k : Nat, k ≤ hi ∧ lo ≤ k ∧ x = nI k := by
  subst hy; subst hz
  have h2 := Int64.le_iff_toInt_le.mp h0
  have h3 := Int64.le_iff_toInt_le.mp h1
  rw [lgv lo hl, Int32.toInt_toInt64] at h2
  rw [lgv hi hh, Int32.toInt_toInt64] at h3
  obtain ⟨k, hk, rfl⟩ := nof' x (by rw [Int32.le_iff_toInt_le]; exact Int.le_trans (by show (0 : Int) ≤ (lo : Int); omega) h2)
  rw [ivn k hk] at h2 h3
  exact ⟨k, by omega, by omega, rfl⟩
theorem dg_X12_does_0_0 : bqL cX12_does 0 [(0, [42]), (1, [27]), (2, [182, 1, 157]), (5, [153, 0, 34]), (39, [2]), (40, [172]), (8, [42]), (9, [28]), (10, [182, 1, 162]), (13, [153, 0, 26]), (16, [42]), (17, [29]), (18, [182, 1, 162]), (21, [153, 0, 18]), (24, [42]), (25, [27]), (26, [28]), (27, [29]), (28, [42]), (29, [27]), (30, [182, 1, 103]), (33, [182, 1, 99]), (36, [167, 0, 4])] = true := by decide +kernel
theorem dX12_does_0 : decode cX12_does 0 = .ok (.aload_n 0, 1) := q_aload_n0 (bat_get dg_X12_does_0_0 0 rfl rfl)
theorem dX12_does_1 : decode cX12_does 1 = .ok (.iload_n 1, 1) := q_iload_n1 (bat_get dg_X12_does_0_0 1 rfl rfl)
theorem dX12_does_2 : decode cX12_does 2 = .ok (.invokevirtual 413, 3) := q_invokevirtual (bat_get dg_X12_does_0_0 2 rfl rfl) rfl
theorem dX12_does_5 : decode cX12_does 5 = .ok (.ifCond .eq 34, 3) := q_ifCond_eq (bat_get dg_X12_does_0_0 3 rfl rfl) rfl
theorem dX12_does_39 : decode cX12_does 39 = .ok (.iconst (-1), 1) := q_iconstm1 (bat_get dg_X12_does_0_0 4 rfl rfl)
theorem dX12_does_40 : decode cX12_does 40 = .ok (.ireturn, 1) := q_ireturn (bat_get dg_X12_does_0_0 5 rfl rfl)
theorem dX12_does_8 : decode cX12_does 8 = .ok (.aload_n 0, 1) := q_aload_n0 (bat_get dg_X12_does_0_0 6 rfl rfl)
theorem dX12_does_9 : decode cX12_does 9 = .ok (.iload_n 2, 1) := q_iload_n2 (bat_get dg_X12_does_0_0 7 rfl rfl)
theorem dX12_does_10 : decode cX12_does 10 = .ok (.invokevirtual 418, 3) := q_invokevirtual (bat_get dg_X12_does_0_0 8 rfl rfl) rfl
theorem dX12_does_13 : decode cX12_does 13 = .ok (.ifCond .eq 26, 3) := q_ifCond_eq (bat_get dg_X12_does_0_0 9 rfl rfl) rfl
theorem dX12_does_16 : decode cX12_does 16 = .ok (.aload_n 0, 1) := q_aload_n0 (bat_get dg_X12_does_0_0 10 rfl rfl)
theorem dX12_does_17 : decode cX12_does 17 = .ok (.iload_n 3, 1) := q_iload_n3 (bat_get dg_X12_does_0_0 11 rfl rfl)
theorem dX12_does_18 : decode cX12_does 18 = .ok (.invokevirtual 418, 3) := q_invokevirtual (bat_get dg_X12_does_0_0 12 rfl rfl) rfl
theorem dX12_does_21 : decode cX12_does 21 = .ok (.ifCond .eq 18, 3) := q_ifCond_eq (bat_get dg_X12_does_0_0 13 rfl rfl) rfl
theorem dX12_does_24 : decode cX12_does 24 = .ok (.aload_n 0, 1) := q_aload_n0 (bat_get dg_X12_does_0_0 14 rfl rfl)
theorem dX12_does_25 : decode cX12_does 25 = .ok (.iload_n 1, 1) := q_iload_n1 (bat_get dg_X12_does_0_0 15 rfl rfl)
theorem dX12_does_26 : decode cX12_does 26 = .ok (.iload_n 2, 1) := q_iload_n2 (bat_get dg_X12_does_0_0 16 rfl rfl)
theorem dX12_does_27 : decode cX12_does 27 = .ok (.iload_n 3, 1) := q_iload_n3 (bat_get dg_X12_does_0_0 17 rfl rfl)
theorem dX12_does_28 : decode cX12_does 28 = .ok (.aload_n 0, 1) := q_aload_n0 (bat_get dg_X12_does_0_0 18 rfl rfl)
theorem dX12_does_29 : decode cX12_does 29 = .ok (.iload_n 1, 1) := q_iload_n1 (bat_get dg_X12_does_0_0 19 rfl rfl)
theorem dX12_does_30 : decode cX12_does 30 = .ok (.invokevirtual 359, 3) := q_invokevirtual (bat_get dg_X12_does_0_0 20 rfl rfl) rfl
theorem dX12_does_33 : decode cX12_does 33 = .ok (.invokevirtual 355, 3) := q_invokevirtual (bat_get dg_X12_does_0_0 21 rfl rfl) rfl
theorem dX12_does_36 : decode cX12_does 36 = .ok (.goto 4, 3) := q_goto (bat_get dg_X12_does_0_0 22 rfl rfl) rfl
theorem w_7_117 : (Cond.methodLink RX12 413 yX12_isDay) ∈ wsL_law := sk_mem (ck_7 _ (List.mem_of_getElem? (i := 117) rfl)) rfl
theorem w_7_119 : (Cond.instanceMethod yX12_isDay) ∈ wsL_law := sk_mem (ck_7 _ (List.mem_of_getElem? (i := 119) rfl)) rfl
theorem w_0_72 : (Cond.selects RX12 yX12_isDay yX12_isDay) ∈ wsL_law := sk_mem (ck_0 _ (List.mem_of_getElem? (i := 72) rfl)) rfl
theorem w_7_126 : (Cond.methodLink RX12 418 yX12_isMood) ∈ wsL_law := sk_mem (ck_7 _ (List.mem_of_getElem? (i := 126) rfl)) rfl
theorem w_7_128 : (Cond.instanceMethod yX12_isMood) ∈ wsL_law := sk_mem (ck_7 _ (List.mem_of_getElem? (i := 128) rfl)) rfl
theorem w_0_73 : (Cond.selects RX12 yX12_isMood yX12_isMood) ∈ wsL_law := sk_mem (ck_0 _ (List.mem_of_getElem? (i := 73) rfl)) rfl
theorem w_7_175 : (Cond.code yX12_does cX12_does 4 (some .int)) ∈ wsL_law := sk_mem (ck_7 _ (List.mem_of_getElem? (i := 175) rfl)) rfl
def om_8_80 : List Bool := true :: false :: false :: false :: false :: false :: false :: false :: []
def om_8_88 : List Bool := true :: false :: false :: false :: true :: false :: false :: false :: []
def om_8_fe : List Bool := true :: true :: true :: true :: true :: true :: true :: false :: []
theorem hd_X12_isDay_1 : skD yX12_isDay 1 := by decide +kernel
theorem hd_X12_isMood_1 : skD yX12_isMood 1 := by decide +kernel
section SkRowsZP
variable {p : Program} {l : Launch} {e : Env} {R : Room} {s : State} {m : MethodId} {args : Array Value} {below : List Frame} {meth : Method} {c : Code} {H : Heap} {locs : List Loc} {cells slots : Nat} {Q : State → Prop}
variable {cc : ByteArray} {pc : Nat} {ls : Array Slot} {rest : List Value} {D : va_G} {tys : List (ClassId × FieldType)} {ws : va_W} {A : Nat → Prop} {H0 : Heap} {a : Nat}
end SkRowsZP
theorem dg_X12_refuses_0_0 : bqL cX12_refuses 0 [(0, [42]), (1, [180, 0, 17]), (4, [27]), (5, [92]), (6, [46]), (7, [4]), (8, [96]), (9, [79]), (10, [2]), (11, [172])] = true := by decide +kernel
theorem dX12_refuses_0 : decode cX12_refuses 0 = .ok (.aload_n 0, 1) := q_aload_n0 (bat_get dg_X12_refuses_0_0 0 rfl rfl)
theorem dX12_refuses_1 : decode cX12_refuses 1 = .ok (.getfield 17, 3) := q_getfield (bat_get dg_X12_refuses_0_0 1 rfl rfl) rfl
theorem dX12_refuses_4 : decode cX12_refuses 4 = .ok (.iload_n 1, 1) := q_iload_n1 (bat_get dg_X12_refuses_0_0 2 rfl rfl)
theorem dX12_refuses_5 : decode cX12_refuses 5 = .ok (.dup2, 1) := q_dup2 (bat_get dg_X12_refuses_0_0 3 rfl rfl)
theorem dX12_refuses_6 : decode cX12_refuses 6 = .ok (.iaload, 1) := q_iaload (bat_get dg_X12_refuses_0_0 4 rfl rfl)
theorem dX12_refuses_7 : decode cX12_refuses 7 = .ok (.iconst 1, 1) := q_iconst1 (bat_get dg_X12_refuses_0_0 5 rfl rfl)
theorem dX12_refuses_8 : decode cX12_refuses 8 = .ok (.iadd, 1) := q_iadd (bat_get dg_X12_refuses_0_0 6 rfl rfl)
theorem dX12_refuses_9 : decode cX12_refuses 9 = .ok (.iastore, 1) := q_iastore (bat_get dg_X12_refuses_0_0 7 rfl rfl)
theorem dX12_refuses_10 : decode cX12_refuses 10 = .ok (.iconst (-1), 1) := q_iconstm1 (bat_get dg_X12_refuses_0_0 8 rfl rfl)
theorem dX12_refuses_11 : decode cX12_refuses 11 = .ok (.ireturn, 1) := q_ireturn (bat_get dg_X12_refuses_0_0 9 rfl rfl)
theorem w_5_164 : (Cond.fieldLink RX12 17 "SameKeeperModel" "refused" "[I") ∈ wsL_law := sk_mem (ck_5 _ (List.mem_of_getElem? (i := 164) rfl)) rfl
theorem w_8_100 : (Cond.code yX12_refuses cX12_refuses 2 (some .int)) ∈ wsL_law := sk_mem (ck_8 _ (List.mem_of_getElem? (i := 100) rfl)) rfl
set_option maxHeartbeats 4000000 in
set_option maxRecDepth 100000 in
theorem c_m_isInX (l : Launch) (D : va_G) (cI cJ cC cZ cS : ClassId) (v : Int64) (y : Int64) (z : Int64)  : skM l yX12_isIn cX12_isIn 6 (some .boolean) 0 0 0 0 D (skT cI cJ cC cZ cS) [.long v, .long y, .long z] [] (skI D (skT cI cJ cC cZ cS) (fun (r : Int32) (u : va_W) => ∃ (b : Nat), ((b = 0 ∧ ¬ (y ≤ v ∧ v ≤ z)) ∨ (b = 1 ∧ y ≤ v ∧ v ≤ z)) ∧ r = nI b ∧ u = [])) := by
  refine skM_of pf_X12_isIn (Nat.le_of_ble_eq_true rfl) ?_
  intro p e s m below meth c A ls E hP hD hl
  refine skE_el E (fun hx hb hr hml hlocks hin hown hts hK hA => ?_)
  have hown : s.vm.findClass RX12 = some m.cls := hown
  have hS : va_S A s.heap s.heap [] := va_S.rf
  have hl : lv_has ls 6 [(0, .long v), (2, .long y), (4, .long z)] := hl
  refine lv_lload_n hx hb dX12_isIn_0 rfl (lv_at hl 0 rfl) ?_
  refine lv_lload_n hx hb dX12_isIn_1 rfl (lv_at hl 1 rfl) ?_
  refine W.lcmp hx hb dX12_isIn_2 ?_
  refine lv_if_lt (tgt := 17) hx hb dX12_isIn_3 (by decide) (fun c_1 => ?_) (fun c_1 => ?_)
  · skip
    refine lv_iconst (v := 0) hx hb dX12_isIn_17 ic_0 ?_
    exact sk_iret hx hb hr rfl hlocks hK hP hD hS (⟨0, Or.inl ⟨rfl, fun q => absurd q.1 (Int64.not_le.mpr ((lg_cmp_lt _ _).mp c_1))⟩, rfl, rfl⟩) (Nat.le_of_ble_eq_true rfl) (Nat.le_of_ble_eq_true rfl) dX12_isIn_18
  · skip
    refine lv_lload_n hx hb dX12_isIn_6 rfl (lv_at hl 0 rfl) ?_
    refine lv_lload hx hb dX12_isIn_7 (lv_at hl 2 rfl) ?_
    refine W.lcmp hx hb dX12_isIn_9 ?_
    refine lv_if_gt (tgt := 17) hx hb dX12_isIn_10 (by decide) (fun c_2 => ?_) (fun c_2 => ?_)
    · skip
      refine lv_iconst (v := 0) hx hb dX12_isIn_17 ic_0 ?_
      exact sk_iret hx hb hr rfl hlocks hK hP hD hS (⟨0, Or.inl ⟨rfl, fun q => absurd q.2 (Int64.not_le.mpr ((lg_cmp_gt _ _).mp c_2))⟩, rfl, rfl⟩) (Nat.le_of_ble_eq_true rfl) (Nat.le_of_ble_eq_true rfl) dX12_isIn_18
    · skip
      refine lv_iconst (v := 1) hx hb dX12_isIn_13 ic_1 ?_
      refine lv_goto (tgt := 18) hx hb dX12_isIn_14 (by decide) ?_
      exact sk_iret hx hb hr rfl hlocks hK hP hD hS (⟨1, Or.inr ⟨rfl, lg_ge c_1, lg_le c_2⟩, rfl, rfl⟩) (Nat.le_of_ble_eq_true rfl) (Nat.le_of_ble_eq_true rfl) dX12_isIn_18
theorem sd_of {p e n : Nat} (h : (p + 1440 * e - e * n) % 1440 = 0) : sd p e n := h
theorem dg_X12_same_0_0 : bqL cX12_same 0 [(0, [27]), (1, [133]), (2, [9]), (3, [20, 1, 213]), (6, [184, 0, 238]), (9, [153, 0, 15]), (24, [2]), (25, [172]), (12, [28]), (13, [133]), (14, [9]), (15, [20, 1, 213]), (18, [184, 0, 238]), (21, [154, 0, 5]), (26, [27]), (27, [62]), (28, [3]), (29, [54, 4]), (31, [21, 4]), (33, [17, 5, 160]), (36, [162, 0, 28]), (64, [2]), (65, [172]), (39, [29]), (40, [154, 0, 6]), (46, [29]), (47, [17, 5, 160]), (50, [96]), (51, [28]), (52, [100]), (53, [17, 5, 160]), (56, [112]), (57, [62]), (58, [132, 4, 1]), (61, [167, 255, 226]), (43, [21, 4]), (45, [172])] = true := by decide +kernel
theorem dX12_same_0 : decode cX12_same 0 = .ok (.iload_n 1, 1) := q_iload_n1 (bat_get dg_X12_same_0_0 0 rfl rfl)
theorem dX12_same_1 : decode cX12_same 1 = .ok (.i2l, 1) := q_i2l (bat_get dg_X12_same_0_0 1 rfl rfl)
theorem dX12_same_2 : decode cX12_same 2 = .ok (.lconst 0, 1) := q_lconst0 (bat_get dg_X12_same_0_0 2 rfl rfl)
theorem dX12_same_3 : decode cX12_same 3 = .ok (.ldc2_w 469, 3) := q_ldc2_w (bat_get dg_X12_same_0_0 3 rfl rfl) rfl
theorem dX12_same_6 : decode cX12_same 6 = .ok (.invokestatic 238, 3) := q_invokestatic (bat_get dg_X12_same_0_0 4 rfl rfl) rfl
theorem dX12_same_9 : decode cX12_same 9 = .ok (.ifCond .eq 15, 3) := q_ifCond_eq (bat_get dg_X12_same_0_0 5 rfl rfl) rfl
theorem dX12_same_24 : decode cX12_same 24 = .ok (.iconst (-1), 1) := q_iconstm1 (bat_get dg_X12_same_0_0 6 rfl rfl)
theorem dX12_same_25 : decode cX12_same 25 = .ok (.ireturn, 1) := q_ireturn (bat_get dg_X12_same_0_0 7 rfl rfl)
theorem dX12_same_12 : decode cX12_same 12 = .ok (.iload_n 2, 1) := q_iload_n2 (bat_get dg_X12_same_0_0 8 rfl rfl)
theorem dX12_same_13 : decode cX12_same 13 = .ok (.i2l, 1) := q_i2l (bat_get dg_X12_same_0_0 9 rfl rfl)
theorem dX12_same_14 : decode cX12_same 14 = .ok (.lconst 0, 1) := q_lconst0 (bat_get dg_X12_same_0_0 10 rfl rfl)
theorem dX12_same_15 : decode cX12_same 15 = .ok (.ldc2_w 469, 3) := q_ldc2_w (bat_get dg_X12_same_0_0 11 rfl rfl) rfl
theorem dX12_same_18 : decode cX12_same 18 = .ok (.invokestatic 238, 3) := q_invokestatic (bat_get dg_X12_same_0_0 12 rfl rfl) rfl
theorem dX12_same_21 : decode cX12_same 21 = .ok (.ifCond .ne 5, 3) := q_ifCond_ne (bat_get dg_X12_same_0_0 13 rfl rfl) rfl
theorem dX12_same_26 : decode cX12_same 26 = .ok (.iload_n 1, 1) := q_iload_n1 (bat_get dg_X12_same_0_0 14 rfl rfl)
theorem dX12_same_27 : decode cX12_same 27 = .ok (.istore_n 3, 1) := q_istore_n3 (bat_get dg_X12_same_0_0 15 rfl rfl)
theorem dX12_same_28 : decode cX12_same 28 = .ok (.iconst 0, 1) := q_iconst0 (bat_get dg_X12_same_0_0 16 rfl rfl)
theorem dX12_same_29 : decode cX12_same 29 = .ok (.istore 4, 2) := q_istore (bat_get dg_X12_same_0_0 17 rfl rfl)
theorem dX12_same_31 : decode cX12_same 31 = .ok (.iload 4, 2) := q_iload (bat_get dg_X12_same_0_0 18 rfl rfl)
theorem dX12_same_33 : decode cX12_same 33 = .ok (.sipush 1440, 3) := q_sipush (bat_get dg_X12_same_0_0 19 rfl rfl) rfl
theorem dX12_same_36 : decode cX12_same 36 = .ok (.if_icmp .ge 28, 3) := q_if_icmp_ge (bat_get dg_X12_same_0_0 20 rfl rfl) rfl
theorem dX12_same_64 : decode cX12_same 64 = .ok (.iconst (-1), 1) := q_iconstm1 (bat_get dg_X12_same_0_0 21 rfl rfl)
theorem dX12_same_65 : decode cX12_same 65 = .ok (.ireturn, 1) := q_ireturn (bat_get dg_X12_same_0_0 22 rfl rfl)
theorem dX12_same_39 : decode cX12_same 39 = .ok (.iload_n 3, 1) := q_iload_n3 (bat_get dg_X12_same_0_0 23 rfl rfl)
theorem dX12_same_40 : decode cX12_same 40 = .ok (.ifCond .ne 6, 3) := q_ifCond_ne (bat_get dg_X12_same_0_0 24 rfl rfl) rfl
theorem dX12_same_46 : decode cX12_same 46 = .ok (.iload_n 3, 1) := q_iload_n3 (bat_get dg_X12_same_0_0 25 rfl rfl)
theorem dX12_same_47 : decode cX12_same 47 = .ok (.sipush 1440, 3) := q_sipush (bat_get dg_X12_same_0_0 26 rfl rfl) rfl
theorem dX12_same_50 : decode cX12_same 50 = .ok (.iadd, 1) := q_iadd (bat_get dg_X12_same_0_0 27 rfl rfl)
theorem dX12_same_51 : decode cX12_same 51 = .ok (.iload_n 2, 1) := q_iload_n2 (bat_get dg_X12_same_0_0 28 rfl rfl)
theorem dX12_same_52 : decode cX12_same 52 = .ok (.isub, 1) := q_isub (bat_get dg_X12_same_0_0 29 rfl rfl)
theorem dX12_same_53 : decode cX12_same 53 = .ok (.sipush 1440, 3) := q_sipush (bat_get dg_X12_same_0_0 30 rfl rfl) rfl
theorem dX12_same_56 : decode cX12_same 56 = .ok (.irem, 1) := q_irem (bat_get dg_X12_same_0_0 31 rfl rfl)
theorem dX12_same_57 : decode cX12_same 57 = .ok (.istore_n 3, 1) := q_istore_n3 (bat_get dg_X12_same_0_0 32 rfl rfl)
theorem dX12_same_58 : decode cX12_same 58 = .ok (.iinc 4 1, 3) := q_iinc (bat_get dg_X12_same_0_0 33 rfl rfl) rfl
theorem dX12_same_61 : decode cX12_same 61 = .ok (.goto (-30), 3) := q_goto (bat_get dg_X12_same_0_0 34 rfl rfl) rfl
theorem dX12_same_43 : decode cX12_same 43 = .ok (.iload 4, 2) := q_iload (bat_get dg_X12_same_0_0 35 rfl rfl)
theorem dX12_same_45 : decode cX12_same 45 = .ok (.ireturn, 1) := q_ireturn (bat_get dg_X12_same_0_0 36 rfl rfl)
theorem w_8_117 : (Cond.constantLong RX12 469 (1439)) ∈ wsL_law := sk_mem (ck_8 _ (List.mem_of_getElem? (i := 117) rfl)) rfl
theorem w_8_116 : (Cond.code yX12_same cX12_same 5 (some .int)) ∈ wsL_law := sk_mem (ck_8 _ (List.mem_of_getElem? (i := 116) rfl)) rfl
set_option maxHeartbeats 4000000 in
set_option maxRecDepth 100000 in
theorem c_m_same (l : Launch) (D : va_G) (cI cJ cC cZ cS : ClassId) (mm : Nat) (g : Nat → Nat) (ta : Nat) (pa : Nat) (pe : Nat) (pd : Int32) (pb : Nat) (pp : Int32) (pf : Int32) (pg : Int32) (pn : Int32) (rt : Int32) (rn : Int32) (cd : Nat) (sn : Int32) (il : Nat) (tk : Int32) (am : Int32) (at_ : Int32) (aa : Int32) (wt : Int32) (wy : Int64) (rm : Nat) (ud : Nat) (nu : Nat) (sd : Int64) (qn : Nat) (qw : Nat) (qo : Int32) (qb : Nat) (qp : Nat) (qa : Int64) (qi : Nat) (oc : Nat) (o : Int32) (w : Int32)  : skM l yX12_same cX12_same 5 (some .int) 1 25 0 0 D (skT cI cJ cC cZ cS) [.ref mm, .int o, .int w] [ro_ mm 12 (mo g (nI ta) (nI pa) (nI pe) pd (nI pb) pp pf pg pn rt rn (nI cd) sn (nI il) tk am at_ aa 0 0 (-1) wt wy 0 (nI rm) (nI ud) (nI nu) sd (nI qn) (nI qw) qo (nI qb) (nI qp) qa (nI qi) (nI oc))] (skI D (skT cI cJ cC cZ cS) (fun (r : Int32) (u : va_W) => smR o w r ∧ u = [ro_ mm 12 (mo g (nI ta) (nI pa) (nI pe) pd (nI pb) pp pf pg pn rt rn (nI cd) sn (nI il) tk am at_ aa 0 0 (-1) wt wy 0 (nI rm) (nI ud) (nI nu) sd (nI qn) (nI qw) qo (nI qb) (nI qp) qa (nI qi) (nI oc))])) := by
  refine skM_of pf_X12_same (Nat.le_of_ble_eq_true rfl) ?_
  intro p e s m below meth c A ls E hP hD hl
  refine skE_el E (fun hx hb hr hml hlocks hin hown hts hK hA => ?_)
  have hown : s.vm.findClass RX12 = some m.cls := hown
  have hS : va_S A s.heap s.heap [] := va_S.rf
  have hl : lv_has ls 5 [(0, .ref mm), (1, .int o), (2, .int w)] := hl
  refine lv_iload_n hx hb dX12_same_0 rfl (lv_at hl 1 rfl) ?_
  refine lv_i2l hx hb dX12_same_1 rfl ?_
  refine lv_lconst (v := 0) hx hb dX12_same_2 (by decide) ?_
  refine lv_ldc2 (v := 1439) hx hb hown (hts _ w_8_117) dX12_same_3 ?_
  refine sk_Si (n := 3) (rest := []) (wr := [ro_ mm 12 (mo g (nI ta) (nI pa) (nI pe) pd (nI pb) pp pf pg pn rt rn (nI cd) sn (nI il) tk am at_ aa 0 0 (-1) wt wy 0 (nI rm) (nI ud) (nI nu) sd (nI qn) (nI qw) qo (nI qb) (nI qp) qa (nI qi) (nI oc))]) ⟨hx, hb, hml, hown, hts⟩ hl.1 (c_m_isInX l D cI cJ cC cZ cS (Int32.toInt64 o) 0 1439) w_7_0 w_7_1 w_1_14 w_7_2 hd_X12_isIn_3 ⟨⟨(Nat.le_of_ble_eq_true rfl), (Nat.le_of_ble_eq_true rfl)⟩, (Nat.le_of_ble_eq_true rfl), (Nat.le_of_ble_eq_true rfl)⟩ hK hP hD hS hA [] [0] rfl rfl (by decide +kernel) (by decide +kernel) (by decide +kernel) rfl rfl (Nat.le_of_ble_eq_true rfl) dX12_same_6 (fun r_2 u H locs hw hP hD hS => ?_)
  obtain ⟨b_1, hb1_3, rfl, rfl⟩ := hw
  refine o_re (ws' := [ro_ mm 12 (mo g (nI ta) (nI pa) (nI pe) pd (nI pb) pp pf pg pn rt rn (nI cd) sn (nI il) tk am at_ aa 0 0 (-1) wt wy 0 (nI rm) (nI ud) (nI nu) sd (nI qn) (nI qw) qo (nI qb) (nI qp) qa (nI qi) (nI oc))]) hP hD rfl (fun hP hD => ?_)
  refine lv_if_eq (tgt := 24) hx hb dX12_same_9 (by decide) (fun c_4 => ?_) (fun c_4 => ?_)
  · have c_4 : b_1 = 0 := (neq b_1 0 (by omega) (Nat.le_of_ble_eq_true rfl)).mp c_4
    refine lv_iconst (v := (-1)) hx hb dX12_same_24 (by decide) ?_
    exact sk_iret hx hb hr rfl hlocks hK hP hD hS (⟨(Or.inr ⟨outA (hb1_3.resolve_right (by omega)).2, rfl⟩), rfl⟩) (Nat.le_of_ble_eq_true rfl) (Nat.le_of_ble_eq_true rfl) dX12_same_25
  · have c_4 : ¬ (b_1 = 0) := fun h => c_4 ((neq b_1 0 (by omega) (Nat.le_of_ble_eq_true rfl)).mpr h)
    obtain ⟨kd_5, hkd_5, rfl⟩ := inK 1440 (hb1_3.resolve_left (by omega)).2.1 (hb1_3.resolve_left (by omega)).2.2 (by decide)
    refine lv_iload_n hx hb dX12_same_12 rfl (lv_at hl 2 rfl) ?_
    refine lv_i2l hx hb dX12_same_13 rfl ?_
    refine lv_lconst (v := 0) hx hb dX12_same_14 (by decide) ?_
    refine lv_ldc2 (v := 1439) hx hb hown (hts _ w_8_117) dX12_same_15 ?_
    refine sk_Si (n := 3) (rest := []) (wr := [ro_ mm 12 (mo g (nI ta) (nI pa) (nI pe) pd (nI pb) pp pf pg pn rt rn (nI cd) sn (nI il) tk am at_ aa 0 0 (-1) wt wy 0 (nI rm) (nI ud) (nI nu) sd (nI qn) (nI qw) qo (nI qb) (nI qp) qa (nI qi) (nI oc))]) ⟨hx, hb, hml, hown, hts⟩ hl.1 (c_m_isInX l D cI cJ cC cZ cS (Int32.toInt64 w) 0 1439) w_7_0 w_7_1 w_1_14 w_7_2 hd_X12_isIn_3 ⟨⟨(Nat.le_of_ble_eq_true rfl), (Nat.le_of_ble_eq_true rfl)⟩, (Nat.le_of_ble_eq_true rfl), (Nat.le_of_ble_eq_true rfl)⟩ hK hP hD hS hA [] [0] rfl rfl (by decide +kernel) (by decide +kernel) (by decide +kernel) rfl rfl (Nat.le_of_ble_eq_true rfl) dX12_same_18 (fun r_7 u H locs hw hP hD hS => ?_)
    obtain ⟨b_6, hb1_8, rfl, rfl⟩ := hw
    refine o_re (ws' := [ro_ mm 12 (mo g (nI ta) (nI pa) (nI pe) pd (nI pb) pp pf pg pn rt rn (nI cd) sn (nI il) tk am at_ aa 0 0 (-1) wt wy 0 (nI rm) (nI ud) (nI nu) sd (nI qn) (nI qw) qo (nI qb) (nI qp) qa (nI qi) (nI oc))]) hP hD rfl (fun hP hD => ?_)
    refine lv_if_ne (tgt := 26) hx hb dX12_same_21 (by decide) (fun c_9 => ?_) (fun c_9 => ?_)
    · have c_9 : ¬ (b_6 = 0) := fun h => c_9 ((neq b_6 0 (by omega) (Nat.le_of_ble_eq_true rfl)).mpr h)
      obtain ⟨kd_10, hkd_10, rfl⟩ := inK 1440 (hb1_8.resolve_left (by omega)).2.1 (hb1_8.resolve_left (by omega)).2.2 (by decide)
      refine lv_iload_n hx hb dX12_same_26 rfl (lv_at hl 1 rfl) ?_
      refine lv_istore_n (lv' := [(3, .int (nI kd_5)), (0, .ref mm), (1, .int (nI kd_5)), (2, .int (nI kd_10))]) hx hb dX12_same_27 rfl hl (by decide) rfl (fun ls hl => ?_)
      refine lv_iconst (v := 0) hx hb dX12_same_28 ic_0 ?_
      refine lv_istore (lv' := [(4, .int 0), (3, .int (nI kd_5)), (0, .ref mm), (1, .int (nI kd_5)), (2, .int (nI kd_10))]) hx hb dX12_same_29 hl (by decide) rfl (fun ls hl => ?_)
      have lp_11 : ∀ (n_12 : Nat) (i : Nat) (vv : Nat) (H : Heap) (locs : List Loc) (ls : Array Slot), 1440 - i < n_12 → (i ≤ 1440) → (vv < 1440) → (vv = (kd_5 + 1440 * kd_10 - kd_10 * i) % 1440) → (sno kd_5 kd_10 i) → va_P D vwCl [ro_ mm 12 (mo g (nI ta) (nI pa) (nI pe) pd (nI pb) pp pf pg pn rt rn (nI cd) sn (nI il) tk am at_ aa 0 0 (-1) wt wy 0 (nI rm) (nI ud) (nI nu) sd (nI qn) (nI qw) qo (nI qb) (nI qp) qa (nI qi) (nI oc))] H → va_D A [ro_ mm 12 (mo g (nI ta) (nI pa) (nI pe) pd (nI pb) pp pf pg pn rt rn (nI cd) sn (nI il) tk am at_ aa 0 0 (-1) wt wy 0 (nI rm) (nI ud) (nI nu) sd (nI qn) (nI qw) qo (nI qb) (nI qp) qa (nI qi) (nI oc))] → va_S A s.heap H locs → lv_has ls 5 [(4, .int (nI i)), (3, .int (nI vv)), (0, .ref mm), (1, .int (nI kd_5)), (2, .int (nI kd_10))] → W p l e { frames := 1, cells := 0, slots := 0, locals := 25 } s m ([.ref mm, .int (nI kd_5), .int (nI kd_10)] : List Value).toArray below meth c H locs 0 0 (MQ below (skI D (skT cI cJ cC cZ cS) (fun (r : Int32) (u : va_W) => smR (nI kd_5) (nI kd_10) r ∧ u = [ro_ mm 12 (mo g (nI ta) (nI pa) (nI pe) pd (nI pb) pp pf pg pn rt rn (nI cd) sn (nI il) tk am at_ aa 0 0 (-1) wt wy 0 (nI rm) (nI ud) (nI nu) sd (nI qn) (nI qw) qo (nI qb) (nI qp) qa (nI qi) (nI oc))]) A) ([.ref mm, .int (nI kd_5), .int (nI kd_10)] : List Value).toArray s 0 0 A) (F0 m 31 ls []) := by
        intro n_12
        induction n_12 with
        | zero => intro i vv H locs ls hm; exact absurd hm (Nat.not_lt_zero _)
        | succ n_12 ih_lp_11 =>
          intro i vv H locs ls hm hi hv9 hvv hno hP hD hS hl
          refine lv_iload hx hb dX12_same_31 (lv_at hl 0 rfl) ?_
          refine lv_sipush (v := 1440) hx hb dX12_same_33 (by decide) ?_
          refine lv_icmp_ge (tgt := 64) hx hb dX12_same_36 (by decide) (fun c_13 => ?_) (fun c_13 => ?_)
          · have c_13 : 1440 ≤ i := (nle 1440 i (Nat.le_of_ble_eq_true rfl) (by omega)).mp c_13
            refine lv_iconst (v := (-1)) hx hb dX12_same_64 (by decide) ?_
            exact sk_iret hx hb hr rfl hlocks hK hP hD hS (⟨(sm_none (by omega) (by omega) (by omega) hno), rfl⟩) (Nat.le_of_ble_eq_true rfl) (Nat.le_of_ble_eq_true rfl) dX12_same_65
          · have c_13 : ¬ (1440 ≤ i) := fun h => c_13 ((nle 1440 i (Nat.le_of_ble_eq_true rfl) (by omega)).mpr h)
            refine lv_iload_n hx hb dX12_same_39 rfl (lv_at hl 1 rfl) ?_
            refine lv_if_ne (tgt := 46) hx hb dX12_same_40 (by decide) (fun c_14 => ?_) (fun c_14 => ?_)
            · have c_14 : ¬ (vv = 0) := fun h => c_14 ((neq vv 0 (by omega) (Nat.le_of_ble_eq_true rfl)).mpr h)
              refine lv_iload_n hx hb dX12_same_46 rfl (lv_at hl 1 rfl) ?_
              refine lv_sipush (v := 1440) hx hb dX12_same_47 (by decide) ?_
              refine lv_iadd hx hb dX12_same_50 ?_
              refine sk_top (nI (vv + 1440)) (nI_add vv 1440) ?_
              refine lv_iload_n hx hb dX12_same_51 rfl (lv_at hl 4 rfl) ?_
              refine lv_isub hx hb dX12_same_52 ?_
              refine sk_top (nI (vv + 1440 - kd_10)) (nsub (vv + 1440) kd_10 (by omega)) ?_
              refine lv_sipush (v := 1440) hx hb dX12_same_53 (by decide) ?_
              refine lv_irem hx hb dX12_same_56 (by decide) ?_
              refine sk_top (nI ((vv + 1440 - kd_10) % 1440)) (nrem (vv + 1440 - kd_10) 1440 (by omega) (by omega) (by omega)) ?_
              refine lv_istore_n (lv' := [(3, .int (nI ((vv + 1440 - kd_10) % 1440))), (4, .int (nI i)), (0, .ref mm), (1, .int (nI kd_5)), (2, .int (nI kd_10))]) hx hb dX12_same_57 rfl hl (by decide) rfl (fun ls hl => ?_)
              refine lv_iinc (v := nI (i + 1)) (lv' := [(4, .int (nI (i + 1))), (3, .int (nI ((vv + 1440 - kd_10) % 1440))), (0, .ref mm), (1, .int (nI kd_5)), (2, .int (nI kd_10))]) hx hb dX12_same_58 hl (k := 1) rfl (ninc i 1 (by decide)) (by decide) rfl (fun ls hl => ?_)
              refine lv_goto (tgt := 31) hx hb dX12_same_61 (by decide) ?_
              exact ih_lp_11 (i + 1) ((vv + 1440 - kd_10) % 1440) _ _ _ (by omega) (by omega) (by omega) (sm_next (by omega) (by omega) hvv) (sno_s hno (fun h => absurd (show _ = 0 from h) (by omega))) hP hD hS (lv_sub hl [0, 1, 2, 3, 4] rfl)
            · have c_14 : vv = 0 := (neq vv 0 (by omega) (Nat.le_of_ble_eq_true rfl)).mp c_14
              refine lv_iload hx hb dX12_same_43 (lv_at hl 0 rfl) ?_
              exact sk_iret hx hb hr rfl hlocks hK hP hD hS (⟨(sm_found (by omega) (by omega) (by omega) (sd_of (hvv.symm.trans (by omega))) hno), rfl⟩) (Nat.le_of_ble_eq_true rfl) (Nat.le_of_ble_eq_true rfl) dX12_same_45
      exact lp_11 (1440 - 0 + 1) 0 kd_5 _ _ _ (Nat.lt_succ_self _) (by omega) (by omega) (sm_0 (by omega)) sno_0 hP hD hS (lv_sub hl [0, 1, 2, 3, 4] rfl)
    · have c_9 : b_6 = 0 := (neq b_6 0 (by omega) (Nat.le_of_ble_eq_true rfl)).mp c_9
      refine lv_iconst (v := (-1)) hx hb dX12_same_24 (by decide) ?_
      exact sk_iret hx hb hr rfl hlocks hK hP hD hS (⟨(Or.inr ⟨outB (hb1_8.resolve_right (by omega)).2, rfl⟩), rfl⟩) (Nat.le_of_ble_eq_true rfl) (Nat.le_of_ble_eq_true rfl) dX12_same_25
theorem dg_X12_checked_0_0 : bqL cX12_checked 0 [(0, [17, 0, 139]), (3, [61]), (4, [3]), (5, [62]), (6, [29]), (7, [27]), (8, [162, 0, 21]), (29, [28]), (30, [172]), (11, [6]), (12, [28]), (13, [104]), (14, [42]), (15, [29]), (16, [46]), (17, [96]), (18, [17, 0, 251]), (21, [112]), (22, [61]), (23, [132, 3, 1]), (26, [167, 255, 236])] = true := by decide +kernel
theorem dX12_checked_0 : decode cX12_checked 0 = .ok (.sipush 139, 3) := q_sipush (bat_get dg_X12_checked_0_0 0 rfl rfl) rfl
theorem dX12_checked_3 : decode cX12_checked 3 = .ok (.istore_n 2, 1) := q_istore_n2 (bat_get dg_X12_checked_0_0 1 rfl rfl)
theorem dX12_checked_4 : decode cX12_checked 4 = .ok (.iconst 0, 1) := q_iconst0 (bat_get dg_X12_checked_0_0 2 rfl rfl)
theorem dX12_checked_5 : decode cX12_checked 5 = .ok (.istore_n 3, 1) := q_istore_n3 (bat_get dg_X12_checked_0_0 3 rfl rfl)
theorem dX12_checked_6 : decode cX12_checked 6 = .ok (.iload_n 3, 1) := q_iload_n3 (bat_get dg_X12_checked_0_0 4 rfl rfl)
theorem dX12_checked_7 : decode cX12_checked 7 = .ok (.iload_n 1, 1) := q_iload_n1 (bat_get dg_X12_checked_0_0 5 rfl rfl)
theorem dX12_checked_8 : decode cX12_checked 8 = .ok (.if_icmp .ge 21, 3) := q_if_icmp_ge (bat_get dg_X12_checked_0_0 6 rfl rfl) rfl
theorem dX12_checked_29 : decode cX12_checked 29 = .ok (.iload_n 2, 1) := q_iload_n2 (bat_get dg_X12_checked_0_0 7 rfl rfl)
theorem dX12_checked_30 : decode cX12_checked 30 = .ok (.ireturn, 1) := q_ireturn (bat_get dg_X12_checked_0_0 8 rfl rfl)
theorem dX12_checked_11 : decode cX12_checked 11 = .ok (.iconst 3, 1) := q_iconst3 (bat_get dg_X12_checked_0_0 9 rfl rfl)
theorem dX12_checked_12 : decode cX12_checked 12 = .ok (.iload_n 2, 1) := q_iload_n2 (bat_get dg_X12_checked_0_0 10 rfl rfl)
theorem dX12_checked_13 : decode cX12_checked 13 = .ok (.imul, 1) := q_imul (bat_get dg_X12_checked_0_0 11 rfl rfl)
theorem dX12_checked_14 : decode cX12_checked 14 = .ok (.aload_n 0, 1) := q_aload_n0 (bat_get dg_X12_checked_0_0 12 rfl rfl)
theorem dX12_checked_15 : decode cX12_checked 15 = .ok (.iload_n 3, 1) := q_iload_n3 (bat_get dg_X12_checked_0_0 13 rfl rfl)
theorem dX12_checked_16 : decode cX12_checked 16 = .ok (.iaload, 1) := q_iaload (bat_get dg_X12_checked_0_0 14 rfl rfl)
theorem dX12_checked_17 : decode cX12_checked 17 = .ok (.iadd, 1) := q_iadd (bat_get dg_X12_checked_0_0 15 rfl rfl)
theorem dX12_checked_18 : decode cX12_checked 18 = .ok (.sipush 251, 3) := q_sipush (bat_get dg_X12_checked_0_0 16 rfl rfl) rfl
theorem dX12_checked_21 : decode cX12_checked 21 = .ok (.irem, 1) := q_irem (bat_get dg_X12_checked_0_0 17 rfl rfl)
theorem dX12_checked_22 : decode cX12_checked 22 = .ok (.istore_n 2, 1) := q_istore_n2 (bat_get dg_X12_checked_0_0 18 rfl rfl)
theorem dX12_checked_23 : decode cX12_checked 23 = .ok (.iinc 3 1, 3) := q_iinc (bat_get dg_X12_checked_0_0 19 rfl rfl) rfl
theorem dX12_checked_26 : decode cX12_checked 26 = .ok (.goto (-20), 3) := q_goto (bat_get dg_X12_checked_0_0 20 rfl rfl) rfl
theorem w_8_213 : (Cond.code yX12_checked cX12_checked 4 (some .int)) ∈ wsL_law := sk_mem (ck_8 _ (List.mem_of_getElem? (i := 213) rfl)) rfl
set_option maxHeartbeats 4000000 in
set_option maxRecDepth 100000 in
theorem c_m_checkedX (l : Launch) (D : va_G) (cI cJ cC cZ cS : ClassId) (h0 : Nat) (tb : Nat → Nat) (n : Nat) (hn : n ≤ 1600) (htb : ∀ j, tb j ≤ 255) : skM l yX12_checked cX12_checked 4 (some .int) 0 0 0 0 D (skT cI cJ cC cZ cS) [.ref h0, .int (nI n)] [ra_N h0 cI 1600 tb] (skI D (skT cI cJ cC cZ cS) (fun (r : Int32) (u : va_W) => ∃ (ck2 : Nat), ck2 = chkN tb n ∧ ck2 < 251 ∧ r = nI ck2 ∧ u = [ra_N h0 cI 1600 tb])) := by
  refine skM_of pf_X12_checked (Nat.le_of_ble_eq_true rfl) ?_
  intro p e s m below meth c A ls E hP hD hl
  refine skE_el E (fun hx hb hr hml hlocks hin hown hts hK hA => ?_)
  have hown : s.vm.findClass RX12 = some m.cls := hown
  have hS : va_S A s.heap s.heap [] := va_S.rf
  have hl : lv_has ls 4 [(0, .ref h0), (1, .int (nI n))] := hl
  refine lv_sipush (v := 139) hx hb dX12_checked_0 (by decide) ?_
  refine lv_istore_n (lv' := [(2, .int 139), (0, .ref h0), (1, .int (nI n))]) hx hb dX12_checked_3 rfl hl (by decide) rfl (fun ls hl => ?_)
  refine lv_iconst (v := 0) hx hb dX12_checked_4 ic_0 ?_
  refine lv_istore_n (lv' := [(3, .int 0), (2, .int 139), (0, .ref h0), (1, .int (nI n))]) hx hb dX12_checked_5 rfl hl (by decide) rfl (fun ls hl => ?_)
  have lp_1 : ∀ (n_2 : Nat) (i : Nat) (ck : Nat) (H : Heap) (locs : List Loc) (ls : Array Slot), n - i < n_2 → (i ≤ n) → (ck < 251) → (ck = chkN tb i) → va_P D vwCl [ra_N h0 cI 1600 tb] H → va_D A [ra_N h0 cI 1600 tb] → va_S A s.heap H locs → lv_has ls 4 [(3, .int (nI i)), (2, .int (nI ck)), (0, .ref h0), (1, .int (nI n))] → W p l e { frames := 0, cells := 0, slots := 0, locals := 0 } s m ([.ref h0, .int (nI n)] : List Value).toArray below meth c H locs 0 0 (MQ below (skI D (skT cI cJ cC cZ cS) (fun (r : Int32) (u : va_W) => ∃ (ck2 : Nat), ck2 = chkN tb n ∧ ck2 < 251 ∧ r = nI ck2 ∧ u = [ra_N h0 cI 1600 tb]) A) ([.ref h0, .int (nI n)] : List Value).toArray s 0 0 A) (F0 m 6 ls []) := by
    intro n_2
    induction n_2 with
    | zero => intro i ck H locs ls hm; exact absurd hm (Nat.not_lt_zero _)
    | succ n_2 ih_lp_1 =>
      intro i ck H locs ls hm hi hc9 hci hP hD hS hl
      refine lv_iload_n hx hb dX12_checked_6 rfl (lv_at hl 0 rfl) ?_
      refine lv_iload_n hx hb dX12_checked_7 rfl (lv_at hl 3 rfl) ?_
      refine lv_icmp_ge (tgt := 29) hx hb dX12_checked_8 (by decide) (fun c_3 => ?_) (fun c_3 => ?_)
      · have c_3 : n ≤ i := (nle n i (by omega) (by omega)).mp c_3
        refine lv_iload_n hx hb dX12_checked_29 rfl (lv_at hl 1 rfl) ?_
        exact sk_iret hx hb hr rfl hlocks hK hP hD hS (⟨ck, (by rw [show n = i by omega]; exact hci), hc9, rfl, rfl⟩) (Nat.le_of_ble_eq_true rfl) (Nat.le_of_ble_eq_true rfl) dX12_checked_30
      · have c_3 : ¬ (n ≤ i) := fun h => c_3 ((nle n i (by omega) (by omega)).mpr h)
        refine lv_iconst (v := 3) hx hb dX12_checked_11 ic_3 ?_
        refine lv_iload_n hx hb dX12_checked_12 rfl (lv_at hl 1 rfl) ?_
        refine lv_imul hx hb dX12_checked_13 ?_
        refine sk_top (nI (3 * ck)) (nmul 3 ck) ?_
        refine lv_aload_n hx hb dX12_checked_14 rfl (lv_at hl 2 rfl) ?_
        refine lv_iload_n hx hb dX12_checked_15 rfl (lv_at hl 0 rfl) ?_
        refine va_iald hx hb hK.1 hP 0 0 rfl rfl (vin i 1600 (by omega) (Nat.le_of_ble_eq_true rfl)) dX12_checked_16 ?_
        refine sk_top (nI (tb i)) (nrd tb i (by omega)) ?_
        have hb_4 := htb i
        refine lv_iadd hx hb dX12_checked_17 ?_
        refine sk_top (nI (3 * ck + (tb i))) (nI_add (3 * ck) (tb i)) ?_
        refine lv_sipush (v := 251) hx hb dX12_checked_18 (by decide) ?_
        refine lv_irem hx hb dX12_checked_21 (by decide) ?_
        refine sk_top (nI ((3 * ck + (tb i)) % 251)) (nrem (3 * ck + (tb i)) 251 (by omega) (by omega) (by omega)) ?_
        refine lv_istore_n (lv' := [(2, .int (nI ((3 * ck + (tb i)) % 251))), (3, .int (nI i)), (0, .ref h0), (1, .int (nI n))]) hx hb dX12_checked_22 rfl hl (by decide) rfl (fun ls hl => ?_)
        refine lv_iinc (v := nI (i + 1)) (lv' := [(3, .int (nI (i + 1))), (2, .int (nI ((3 * ck + (tb i)) % 251))), (0, .ref h0), (1, .int (nI n))]) hx hb dX12_checked_23 hl (k := 1) rfl (ninc i 1 (by decide)) (by decide) rfl (fun ls hl => ?_)
        refine lv_goto (tgt := 6) hx hb dX12_checked_26 (by decide) ?_
        exact ih_lp_1 (i + 1) ((3 * ck + (tb i)) % 251) _ _ _ (by omega) (by omega) (by omega) (by rw [chkN, ← hci]) hP hD hS (lv_sub hl [0, 1, 2, 3] rfl)
  exact lp_1 (n - 0 + 1) 0 139 _ _ _ (Nat.lt_succ_self _) (by omega) (by omega) rfl hP hD hS (lv_sub hl [0, 1, 2, 3] rfl)
theorem imgK_1 {tb : Nat → Nat} {i : Nat} (h : imgK tb i) (h1 : tb i ≤ 9) (h2 : 2 < i → i % 3 = 2 → tb i ≤ 1) : imgK tb (i + 1) := fun k q1 q2 => by
  by_cases e : k < i
  · exact h k q1 e
  · obtain rfl : k = i := by omega
    exact ⟨h1, h2⟩
theorem img_at {tb : Nat → Nat} {n d c : Nat} (hn : n - 1 = 3 * d + 3) (hc : c = chkN tb (n - 1)) : tb (n - 1) = c ↔ tb (3 * d + 3) = chkN tb (3 * d + 3) := by
  rw [hc, hn]
theorem fd_s {tb zb f1 : Nat → Nat} {t zt i : Nat} {a b c d e v w : Int32} (h : zb = feedN tb t (wByte a b c d e) i) (ht : zt = t + i) (hu : f1 = updN zb zt (lo8 v)) (hv : v = w >>> (nI (8 * (3 - i % 4)) &&& 31)) (hw : (if i < 4 then a else if i < 8 then b else if i < 12 then c else if i < 16 then d else e) = w) : f1 = feedN tb t (wByte a b c d e) (i + 1) := by
  rw [hu, h, ht]
  show updN _ _ _ = updN _ _ (wByte a b c d e i)
  unfold wByte
  rw [hw, hv]
theorem fd_20 {tb zb : Nat → Nat} {t i : Nat} {a b c d e : Int32} (h : zb = feedN tb t (wByte a b c d e) i) (hi : i = 20) : zb = feedT tb t a b c d e := by
  subst hi
  exact h
theorem dg_X12_isImage_0_0 : bqL cX12_isImage 0 [(0, [42]), (1, [180, 1, 46]), (4, [153, 0, 59]), (63, [3]), (64, [172]), (7, [27]), (8, [7]), (9, [6]), (10, [42]), (11, [182, 1, 59]), (14, [104]), (15, [96]), (16, [160, 0, 47]), (19, [42]), (20, [180, 0, 7]), (23, [27]), (24, [4]), (25, [100]), (26, [46]), (27, [42]), (28, [180, 0, 7]), (31, [27]), (32, [4]), (33, [100]), (34, [184, 2, 89]), (37, [160, 0, 26]), (40, [17, 1, 0]), (43, [42]), (44, [180, 0, 7]), (47, [3]), (48, [46]), (49, [104]), (50, [42]), (51, [180, 0, 7]), (54, [4]), (55, [46]), (56, [96]), (57, [17, 3, 231]), (60, [164, 0, 5]), (65, [5])] = true := by decide +kernel
theorem dX12_isImage_0 : decode cX12_isImage 0 = .ok (.aload_n 0, 1) := q_aload_n0 (bat_get dg_X12_isImage_0_0 0 rfl rfl)
theorem dX12_isImage_1 : decode cX12_isImage 1 = .ok (.getfield 302, 3) := q_getfield (bat_get dg_X12_isImage_0_0 1 rfl rfl) rfl
theorem dX12_isImage_4 : decode cX12_isImage 4 = .ok (.ifCond .eq 59, 3) := q_ifCond_eq (bat_get dg_X12_isImage_0_0 2 rfl rfl) rfl
theorem dX12_isImage_63 : decode cX12_isImage 63 = .ok (.iconst 0, 1) := q_iconst0 (bat_get dg_X12_isImage_0_0 3 rfl rfl)
theorem dX12_isImage_64 : decode cX12_isImage 64 = .ok (.ireturn, 1) := q_ireturn (bat_get dg_X12_isImage_0_0 4 rfl rfl)
theorem dX12_isImage_7 : decode cX12_isImage 7 = .ok (.iload_n 1, 1) := q_iload_n1 (bat_get dg_X12_isImage_0_0 5 rfl rfl)
theorem dX12_isImage_8 : decode cX12_isImage 8 = .ok (.iconst 4, 1) := q_iconst4 (bat_get dg_X12_isImage_0_0 6 rfl rfl)
theorem dX12_isImage_9 : decode cX12_isImage 9 = .ok (.iconst 3, 1) := q_iconst3 (bat_get dg_X12_isImage_0_0 7 rfl rfl)
theorem dX12_isImage_10 : decode cX12_isImage 10 = .ok (.aload_n 0, 1) := q_aload_n0 (bat_get dg_X12_isImage_0_0 8 rfl rfl)
theorem dX12_isImage_11 : decode cX12_isImage 11 = .ok (.invokevirtual 315, 3) := q_invokevirtual (bat_get dg_X12_isImage_0_0 9 rfl rfl) rfl
theorem dX12_isImage_14 : decode cX12_isImage 14 = .ok (.imul, 1) := q_imul (bat_get dg_X12_isImage_0_0 10 rfl rfl)
theorem dX12_isImage_15 : decode cX12_isImage 15 = .ok (.iadd, 1) := q_iadd (bat_get dg_X12_isImage_0_0 11 rfl rfl)
theorem dX12_isImage_16 : decode cX12_isImage 16 = .ok (.if_icmp .ne 47, 3) := q_if_icmp_ne (bat_get dg_X12_isImage_0_0 12 rfl rfl) rfl
theorem dX12_isImage_19 : decode cX12_isImage 19 = .ok (.aload_n 0, 1) := q_aload_n0 (bat_get dg_X12_isImage_0_0 13 rfl rfl)
theorem dX12_isImage_20 : decode cX12_isImage 20 = .ok (.getfield 7, 3) := q_getfield (bat_get dg_X12_isImage_0_0 14 rfl rfl) rfl
theorem dX12_isImage_23 : decode cX12_isImage 23 = .ok (.iload_n 1, 1) := q_iload_n1 (bat_get dg_X12_isImage_0_0 15 rfl rfl)
theorem dX12_isImage_24 : decode cX12_isImage 24 = .ok (.iconst 1, 1) := q_iconst1 (bat_get dg_X12_isImage_0_0 16 rfl rfl)
theorem dX12_isImage_25 : decode cX12_isImage 25 = .ok (.isub, 1) := q_isub (bat_get dg_X12_isImage_0_0 17 rfl rfl)
theorem dX12_isImage_26 : decode cX12_isImage 26 = .ok (.iaload, 1) := q_iaload (bat_get dg_X12_isImage_0_0 18 rfl rfl)
theorem dX12_isImage_27 : decode cX12_isImage 27 = .ok (.aload_n 0, 1) := q_aload_n0 (bat_get dg_X12_isImage_0_0 19 rfl rfl)
theorem dX12_isImage_28 : decode cX12_isImage 28 = .ok (.getfield 7, 3) := q_getfield (bat_get dg_X12_isImage_0_0 20 rfl rfl) rfl
theorem dX12_isImage_31 : decode cX12_isImage 31 = .ok (.iload_n 1, 1) := q_iload_n1 (bat_get dg_X12_isImage_0_0 21 rfl rfl)
theorem dX12_isImage_32 : decode cX12_isImage 32 = .ok (.iconst 1, 1) := q_iconst1 (bat_get dg_X12_isImage_0_0 22 rfl rfl)
theorem dX12_isImage_33 : decode cX12_isImage 33 = .ok (.isub, 1) := q_isub (bat_get dg_X12_isImage_0_0 23 rfl rfl)
theorem dX12_isImage_34 : decode cX12_isImage 34 = .ok (.invokestatic 601, 3) := q_invokestatic (bat_get dg_X12_isImage_0_0 24 rfl rfl) rfl
theorem dX12_isImage_37 : decode cX12_isImage 37 = .ok (.if_icmp .ne 26, 3) := q_if_icmp_ne (bat_get dg_X12_isImage_0_0 25 rfl rfl) rfl
theorem dX12_isImage_40 : decode cX12_isImage 40 = .ok (.sipush 256, 3) := q_sipush (bat_get dg_X12_isImage_0_0 26 rfl rfl) rfl
theorem dX12_isImage_43 : decode cX12_isImage 43 = .ok (.aload_n 0, 1) := q_aload_n0 (bat_get dg_X12_isImage_0_0 27 rfl rfl)
theorem dX12_isImage_44 : decode cX12_isImage 44 = .ok (.getfield 7, 3) := q_getfield (bat_get dg_X12_isImage_0_0 28 rfl rfl) rfl
theorem dX12_isImage_47 : decode cX12_isImage 47 = .ok (.iconst 0, 1) := q_iconst0 (bat_get dg_X12_isImage_0_0 29 rfl rfl)
theorem dX12_isImage_48 : decode cX12_isImage 48 = .ok (.iaload, 1) := q_iaload (bat_get dg_X12_isImage_0_0 30 rfl rfl)
theorem dX12_isImage_49 : decode cX12_isImage 49 = .ok (.imul, 1) := q_imul (bat_get dg_X12_isImage_0_0 31 rfl rfl)
theorem dX12_isImage_50 : decode cX12_isImage 50 = .ok (.aload_n 0, 1) := q_aload_n0 (bat_get dg_X12_isImage_0_0 32 rfl rfl)
theorem dX12_isImage_51 : decode cX12_isImage 51 = .ok (.getfield 7, 3) := q_getfield (bat_get dg_X12_isImage_0_0 33 rfl rfl) rfl
theorem dX12_isImage_54 : decode cX12_isImage 54 = .ok (.iconst 1, 1) := q_iconst1 (bat_get dg_X12_isImage_0_0 34 rfl rfl)
theorem dX12_isImage_55 : decode cX12_isImage 55 = .ok (.iaload, 1) := q_iaload (bat_get dg_X12_isImage_0_0 35 rfl rfl)
theorem dX12_isImage_56 : decode cX12_isImage 56 = .ok (.iadd, 1) := q_iadd (bat_get dg_X12_isImage_0_0 36 rfl rfl)
theorem dX12_isImage_57 : decode cX12_isImage 57 = .ok (.sipush 999, 3) := q_sipush (bat_get dg_X12_isImage_0_0 37 rfl rfl) rfl
theorem dX12_isImage_60 : decode cX12_isImage 60 = .ok (.if_icmp .le 5, 3) := q_if_icmp_le (bat_get dg_X12_isImage_0_0 38 rfl rfl) rfl
theorem dX12_isImage_65 : decode cX12_isImage 65 = .ok (.iconst 2, 1) := q_iconst2 (bat_get dg_X12_isImage_0_0 39 rfl rfl)
theorem dg_X12_isImage_66_66 : bqL cX12_isImage 66 [(0, [61]), (1, [28]), (2, [27]), (3, [4]), (4, [100]), (5, [162, 0, 38]), (43, [4]), (44, [172]), (8, [42]), (9, [180, 0, 7]), (12, [28]), (13, [46]), (14, [28]), (15, [5]), (16, [164, 0, 14]), (30, [16, 9]), (32, [164, 0, 5]), (37, [132, 2, 1]), (40, [167, 255, 217]), (35, [3]), (36, [172]), (19, [28]), (20, [6]), (21, [112]), (22, [5]), (23, [160, 0, 7]), (26, [4]), (27, [167, 0, 5])] = true := by decide +kernel
theorem dX12_isImage_66 : decode cX12_isImage 66 = .ok (.istore_n 2, 1) := q_istore_n2 (bat_get dg_X12_isImage_66_66 0 rfl rfl)
theorem dX12_isImage_67 : decode cX12_isImage 67 = .ok (.iload_n 2, 1) := q_iload_n2 (bat_get dg_X12_isImage_66_66 1 rfl rfl)
theorem dX12_isImage_68 : decode cX12_isImage 68 = .ok (.iload_n 1, 1) := q_iload_n1 (bat_get dg_X12_isImage_66_66 2 rfl rfl)
theorem dX12_isImage_69 : decode cX12_isImage 69 = .ok (.iconst 1, 1) := q_iconst1 (bat_get dg_X12_isImage_66_66 3 rfl rfl)
theorem dX12_isImage_70 : decode cX12_isImage 70 = .ok (.isub, 1) := q_isub (bat_get dg_X12_isImage_66_66 4 rfl rfl)
theorem dX12_isImage_71 : decode cX12_isImage 71 = .ok (.if_icmp .ge 38, 3) := q_if_icmp_ge (bat_get dg_X12_isImage_66_66 5 rfl rfl) rfl
theorem dX12_isImage_109 : decode cX12_isImage 109 = .ok (.iconst 1, 1) := q_iconst1 (bat_get dg_X12_isImage_66_66 6 rfl rfl)
theorem dX12_isImage_110 : decode cX12_isImage 110 = .ok (.ireturn, 1) := q_ireturn (bat_get dg_X12_isImage_66_66 7 rfl rfl)
theorem dX12_isImage_74 : decode cX12_isImage 74 = .ok (.aload_n 0, 1) := q_aload_n0 (bat_get dg_X12_isImage_66_66 8 rfl rfl)
theorem dX12_isImage_75 : decode cX12_isImage 75 = .ok (.getfield 7, 3) := q_getfield (bat_get dg_X12_isImage_66_66 9 rfl rfl) rfl
theorem dX12_isImage_78 : decode cX12_isImage 78 = .ok (.iload_n 2, 1) := q_iload_n2 (bat_get dg_X12_isImage_66_66 10 rfl rfl)
theorem dX12_isImage_79 : decode cX12_isImage 79 = .ok (.iaload, 1) := q_iaload (bat_get dg_X12_isImage_66_66 11 rfl rfl)
theorem dX12_isImage_80 : decode cX12_isImage 80 = .ok (.iload_n 2, 1) := q_iload_n2 (bat_get dg_X12_isImage_66_66 12 rfl rfl)
theorem dX12_isImage_81 : decode cX12_isImage 81 = .ok (.iconst 2, 1) := q_iconst2 (bat_get dg_X12_isImage_66_66 13 rfl rfl)
theorem dX12_isImage_82 : decode cX12_isImage 82 = .ok (.if_icmp .le 14, 3) := q_if_icmp_le (bat_get dg_X12_isImage_66_66 14 rfl rfl) rfl
theorem dX12_isImage_96 : decode cX12_isImage 96 = .ok (.bipush 9, 2) := q_bipush (bat_get dg_X12_isImage_66_66 15 rfl rfl) rfl
theorem dX12_isImage_98 : decode cX12_isImage 98 = .ok (.if_icmp .le 5, 3) := q_if_icmp_le (bat_get dg_X12_isImage_66_66 16 rfl rfl) rfl
theorem dX12_isImage_103 : decode cX12_isImage 103 = .ok (.iinc 2 1, 3) := q_iinc (bat_get dg_X12_isImage_66_66 17 rfl rfl) rfl
theorem dX12_isImage_106 : decode cX12_isImage 106 = .ok (.goto (-39), 3) := q_goto (bat_get dg_X12_isImage_66_66 18 rfl rfl) rfl
theorem dX12_isImage_101 : decode cX12_isImage 101 = .ok (.iconst 0, 1) := q_iconst0 (bat_get dg_X12_isImage_66_66 19 rfl rfl)
theorem dX12_isImage_102 : decode cX12_isImage 102 = .ok (.ireturn, 1) := q_ireturn (bat_get dg_X12_isImage_66_66 20 rfl rfl)
theorem dX12_isImage_85 : decode cX12_isImage 85 = .ok (.iload_n 2, 1) := q_iload_n2 (bat_get dg_X12_isImage_66_66 21 rfl rfl)
theorem dX12_isImage_86 : decode cX12_isImage 86 = .ok (.iconst 3, 1) := q_iconst3 (bat_get dg_X12_isImage_66_66 22 rfl rfl)
theorem dX12_isImage_87 : decode cX12_isImage 87 = .ok (.irem, 1) := q_irem (bat_get dg_X12_isImage_66_66 23 rfl rfl)
theorem dX12_isImage_88 : decode cX12_isImage 88 = .ok (.iconst 2, 1) := q_iconst2 (bat_get dg_X12_isImage_66_66 24 rfl rfl)
theorem dX12_isImage_89 : decode cX12_isImage 89 = .ok (.if_icmp .ne 7, 3) := q_if_icmp_ne (bat_get dg_X12_isImage_66_66 25 rfl rfl) rfl
theorem dX12_isImage_92 : decode cX12_isImage 92 = .ok (.iconst 1, 1) := q_iconst1 (bat_get dg_X12_isImage_66_66 26 rfl rfl)
theorem dX12_isImage_93 : decode cX12_isImage 93 = .ok (.goto 5, 3) := q_goto (bat_get dg_X12_isImage_66_66 27 rfl rfl) rfl
theorem w_5_184 : (Cond.fieldLink RX12 302 "SameKeeperModel" "isLock" "Z") ∈ wsL_law := sk_mem (ck_5 _ (List.mem_of_getElem? (i := 184) rfl)) rfl
theorem w_5_155 : (Cond.fieldLink RX12 7 "SameKeeperModel" "tape" "[I") ∈ wsL_law := sk_mem (ck_5 _ (List.mem_of_getElem? (i := 155) rfl)) rfl
theorem w_8_211 : (Cond.methodLink RX12 601 yX12_checked) ∈ wsL_law := sk_mem (ck_8 _ (List.mem_of_getElem? (i := 211) rfl)) rfl
theorem w_8_212 : (Cond.static yX12_checked) ∈ wsL_law := sk_mem (ck_8 _ (List.mem_of_getElem? (i := 212) rfl)) rfl
theorem w_8_225 : (Cond.code yX12_isImage cX12_isImage 3 (some .boolean)) ∈ wsL_law := sk_mem (ck_8 _ (List.mem_of_getElem? (i := 225) rfl)) rfl
theorem hd_X12_checked_2 : skD yX12_checked 2 := by decide +kernel
set_option maxHeartbeats 4000000 in
set_option maxRecDepth 100000 in
theorem c_m_isImage (l : Launch) (D : va_G) (cI cJ cC cZ cS : ClassId) (mm : Nat) (g : Nat → Nat) (ta : Nat) (pa : Nat) (pe : Nat) (pd : Int32) (pb : Nat) (pp : Int32) (pf : Int32) (pg : Int32) (pn : Int32) (rt : Int32) (rn : Int32) (cd : Nat) (sn : Int32) (il : Nat) (tk : Int32) (am : Int32) (at_ : Int32) (aa : Int32) (wt : Int32) (wy : Int64) (rm : Nat) (ud : Nat) (nu : Nat) (sd : Int64) (qn : Nat) (qw : Nat) (qo : Int32) (qb : Nat) (qp : Nat) (qa : Int64) (qi : Nat) (oc : Nat) (n : Nat) (l0 : Nat) (l1 : Nat) (dm : Nat) (l3 : Nat) (tb : Nat → Nat) (hil : il ≤ 1) (hild : il = 1 → 1 ≤ dm) (hdm : dm ≤ 9) (hn : n ≤ 1600) (htb : ∀ j, tb j ≤ 255) : skM l yX12_isImage cX12_isImage 3 (some .boolean) 1 23 0 0 D (skT cI cJ cC cZ cS) [.ref mm, .int (nI n)] [ro_ mm 12 (mo g (nI ta) (nI pa) (nI pe) pd (nI pb) pp pf pg pn rt rn (nI cd) sn (nI il) tk am at_ aa 0 0 (-1) wt wy 0 (nI rm) (nI ud) (nI nu) sd (nI qn) (nI qw) qo (nI qb) (nI qp) qa (nI qi) (nI oc)), ra_I (g 20) cI 4 (l4 (nI l0) (nI l1) (nI dm) (nI l3)), ra_N (g 0) cI 1600 tb] (skI D (skT cI cJ cC cZ cS) (fun (r : Int32) (u : va_W) => ∃ (b : Nat), (b = 0 ∨ (b = 1 ∧ tb 2 ≤ 9)) ∧ ((b = 0 ∧ ¬ (1 ≤ il ∧ imgO tb n dm)) ∨ (b = 1 ∧ 1 ≤ il ∧ imgO tb n dm)) ∧ r = nI b ∧ u = [ro_ mm 12 (mo g (nI ta) (nI pa) (nI pe) pd (nI pb) pp pf pg pn rt rn (nI cd) sn (nI il) tk am at_ aa 0 0 (-1) wt wy 0 (nI rm) (nI ud) (nI nu) sd (nI qn) (nI qw) qo (nI qb) (nI qp) qa (nI qi) (nI oc)), ra_I (g 20) cI 4 (l4 (nI l0) (nI l1) (nI dm) (nI l3)), ra_N (g 0) cI 1600 tb])) := by
  refine skM_of pf_X12_isImage (Nat.le_of_ble_eq_true rfl) ?_
  intro p e s m below meth c A ls E hP hD hl
  refine skE_el E (fun hx hb hr hml hlocks hin hown hts hK hA => ?_)
  have hown : s.vm.findClass RX12 = some m.cls := hown
  have hS : va_S A s.heap s.heap [] := va_S.rf
  have hl : lv_has ls 3 [(0, .ref mm), (1, .int (nI n))] := hl
  refine lv_aload_n hx hb dX12_isImage_0 rfl (lv_at hl 0 rfl) ?_
  refine sk_get (v := .int (nI il)) (C := RX12) (T := TX12) (N := 92) hx hb hts inlX12 hown hK hP 0 rfl rfl 29 (Nat.le_of_ble_eq_true rfl) w_5_184 rfl dX12_isImage_1 ?_
  refine lv_if_eq (tgt := 63) hx hb dX12_isImage_4 (by decide) (fun c_1 => ?_) (fun c_1 => ?_)
  · have c_1 : il = 0 := (neq il 0 (by omega) (Nat.le_of_ble_eq_true rfl)).mp c_1
    refine lv_iconst (v := 0) hx hb dX12_isImage_63 ic_0 ?_
    exact sk_iret hx hb hr rfl hlocks hK hP hD hS (⟨0, (Or.inl rfl), (Or.inl ⟨rfl, fun hq => absurd hq.1 (by omega)⟩), rfl, rfl⟩) (Nat.le_of_ble_eq_true rfl) (Nat.le_of_ble_eq_true rfl) dX12_isImage_64
  · have c_1 : ¬ (il = 0) := fun h => c_1 ((neq il 0 (by omega) (Nat.le_of_ble_eq_true rfl)).mpr h)
    refine lv_iload_n hx hb dX12_isImage_7 rfl (lv_at hl 1 rfl) ?_
    refine lv_iconst (v := 4) hx hb dX12_isImage_8 ic_4 ?_
    refine lv_iconst (v := 3) hx hb dX12_isImage_9 ic_3 ?_
    refine lv_aload_n hx hb dX12_isImage_10 rfl (lv_at hl 0 rfl) ?_
    refine sk_Vi (q0 := 0) (n := 0) (rest := [.int 3, .int 4, .int (nI n)]) (wr := fmR om_3_6 _) ⟨hx, hb, hml, hown, hts⟩ hl.1 (c_m_dayMany l D cI cJ cC cZ cS mm g ta pa pe pd pb pp pf pg pn rt rn cd sn il tk am at_ aa 0 0 (-1) wt wy 0 rm ud nu sd qn qw qo qb qp qa qi oc l0 l1 dm l3) w_7_98 w_7_100 w_0_69 w_1_14 w_7_101 hd_X12_dayMany_0 ⟨⟨(Nat.le_of_ble_eq_true rfl), (Nat.le_of_ble_eq_true rfl)⟩, (Nat.le_of_ble_eq_true rfl), (Nat.le_of_ble_eq_true rfl)⟩ hK hP hD hS hA (fmT om_3_6 0) (fmF om_3_6 0) (fm_C1 rfl rfl) (fm_R rfl rfl) (fm_nT om_3_6 0) (fm_nF om_3_6 0) (fm_di om_3_6 0) rfl rfl rfl rfl (Nat.le_of_ble_eq_true rfl) dX12_isImage_11 (fun r_2 u H locs hw hP hD hS => ?_)
    refine anE hw (fun er_4 eu_3 => ?_)
    clear hw
    subst er_4
    refine o_mgE (ws' := [ro_ mm 12 (mo g (nI ta) (nI pa) (nI pe) pd (nI pb) pp pf pg pn rt rn (nI cd) sn (nI il) tk am at_ aa 0 0 (-1) wt wy 0 (nI rm) (nI ud) (nI nu) sd (nI qn) (nI qw) qo (nI qb) (nI qp) qa (nI qi) (nI oc)), ra_I (g 20) cI 4 (l4 (nI l0) (nI l1) (nI dm) (nI l3)), ra_N (g 0) cI 1600 tb]) eu_3 hP hD rfl (fun hP hD => ?_)
    refine lv_imul hx hb dX12_isImage_14 ?_
    refine sk_top (nI (3 * dm)) (nmul 3 dm) ?_
    refine lv_iadd hx hb dX12_isImage_15 ?_
    refine sk_top (nI (4 + (3 * dm))) (nI_add 4 (3 * dm)) ?_
    refine lv_icmp_ne (tgt := 63) hx hb dX12_isImage_16 (by decide) (fun c_5 => ?_) (fun c_5 => ?_)
    · have c_5 : ¬ (n = 4 + (3 * dm)) := fun h => c_5 ((neq n (4 + (3 * dm)) (by omega) (by omega)).mpr h)
      refine lv_iconst (v := 0) hx hb dX12_isImage_63 ic_0 ?_
      exact sk_iret hx hb hr rfl hlocks hK hP hD hS (⟨0, (Or.inl rfl), (Or.inl ⟨rfl, fun hq => absurd hq.2.1 (by omega)⟩), rfl, rfl⟩) (Nat.le_of_ble_eq_true rfl) (Nat.le_of_ble_eq_true rfl) dX12_isImage_64
    · have c_5 : n = 4 + (3 * dm) := (neq n (4 + (3 * dm)) (by omega) (by omega)).mp c_5
      refine lv_aload_n hx hb dX12_isImage_19 rfl (lv_at hl 0 rfl) ?_
      refine sk_get (v := .ref (g 0)) (C := RX12) (T := TX12) (N := 92) hx hb hts inlX12 hown hK hP 0 rfl rfl 0 (Nat.le_of_ble_eq_true rfl) w_5_155 rfl dX12_isImage_20 ?_
      refine lv_iload_n hx hb dX12_isImage_23 rfl (lv_at hl 1 rfl) ?_
      refine lv_iconst (v := 1) hx hb dX12_isImage_24 ic_1 ?_
      refine lv_isub hx hb dX12_isImage_25 ?_
      refine sk_top (nI (n - 1)) (nsub n 1 (by omega)) ?_
      refine va_iald hx hb hK.1 hP 2 0 rfl rfl (vin (n - 1) 1600 (by omega) (Nat.le_of_ble_eq_true rfl)) dX12_isImage_26 ?_
      refine sk_top (nI (tb (n - 1))) (nrd tb (n - 1) (by omega)) ?_
      have hb_6 := htb (n - 1)
      refine lv_aload_n hx hb dX12_isImage_27 rfl (lv_at hl 0 rfl) ?_
      refine sk_get (v := .ref (g 0)) (C := RX12) (T := TX12) (N := 92) hx hb hts inlX12 hown hK hP 0 rfl rfl 0 (Nat.le_of_ble_eq_true rfl) w_5_155 rfl dX12_isImage_28 ?_
      refine lv_iload_n hx hb dX12_isImage_31 rfl (lv_at hl 1 rfl) ?_
      refine lv_iconst (v := 1) hx hb dX12_isImage_32 ic_1 ?_
      refine lv_isub hx hb dX12_isImage_33 ?_
      refine sk_top (nI (n - 1)) (nsub n 1 (by omega)) ?_
      refine sk_Si (n := 2) (rest := [.int (nI (tb (n - 1)))]) (wr := fmR om_3_1 _) ⟨hx, hb, hml, hown, hts⟩ hl.1 (c_m_checkedX l D cI cJ cC cZ cS (g 0) tb (n - 1) (by omega) htb) w_8_211 w_8_212 w_1_14 w_8_213 hd_X12_checked_2 ⟨⟨(Nat.le_of_ble_eq_true rfl), (Nat.le_of_ble_eq_true rfl)⟩, (Nat.le_of_ble_eq_true rfl), (Nat.le_of_ble_eq_true rfl)⟩ hK hP hD hS hA (fmT om_3_1 0) (fmF om_3_1 0) (fm_C1 rfl rfl) (fm_R rfl rfl) (fm_nT om_3_1 0) (fm_nF om_3_1 0) (fm_di om_3_1 0) rfl rfl (Nat.le_of_ble_eq_true rfl) dX12_isImage_34 (fun r_8 u H locs hw hP hD hS => ?_)
      refine exE hw (fun ck2_7 hw1 => anE hw1 (fun hck_9 hw2 => anE hw2 (fun hck9_10 hw3 => anE hw3 (fun er_12 eu_11 => ?_))))
      clear hw hw1 hw2 hw3
      subst er_12
      refine o_mgE (ws' := [ro_ mm 12 (mo g (nI ta) (nI pa) (nI pe) pd (nI pb) pp pf pg pn rt rn (nI cd) sn (nI il) tk am at_ aa 0 0 (-1) wt wy 0 (nI rm) (nI ud) (nI nu) sd (nI qn) (nI qw) qo (nI qb) (nI qp) qa (nI qi) (nI oc)), ra_I (g 20) cI 4 (l4 (nI l0) (nI l1) (nI dm) (nI l3)), ra_N (g 0) cI 1600 tb]) eu_11 hP hD rfl (fun hP hD => ?_)
      have hn1 : n - 1 = 3 * dm + 3 := by omega
      refine lv_icmp_ne (tgt := 63) hx hb dX12_isImage_37 (by decide) (fun c_13 => ?_) (fun c_13 => ?_)
      · have c_13 : ¬ (tb (n - 1) = ck2_7) := fun h => c_13 ((neq (tb (n - 1)) ck2_7 (by omega) (by omega)).mpr h)
        refine lv_iconst (v := 0) hx hb dX12_isImage_63 ic_0 ?_
        exact sk_iret hx hb hr rfl hlocks hK hP hD hS (⟨0, (Or.inl rfl), (Or.inl ⟨rfl, fun hq => c_13 ((img_at hn1 hck_9).mpr hq.2.2.1)⟩), rfl, rfl⟩) (Nat.le_of_ble_eq_true rfl) (Nat.le_of_ble_eq_true rfl) dX12_isImage_64
      · have c_13 : tb (n - 1) = ck2_7 := (neq (tb (n - 1)) ck2_7 (by omega) (by omega)).mp c_13
        refine lv_sipush (v := 256) hx hb dX12_isImage_40 (by decide) ?_
        refine lv_aload_n hx hb dX12_isImage_43 rfl (lv_at hl 0 rfl) ?_
        refine sk_get (v := .ref (g 0)) (C := RX12) (T := TX12) (N := 92) hx hb hts inlX12 hown hK hP 0 rfl rfl 0 (Nat.le_of_ble_eq_true rfl) w_5_155 rfl dX12_isImage_44 ?_
        refine lv_iconst (v := 0) hx hb dX12_isImage_47 ic_0 ?_
        refine va_iald hx hb hK.1 hP 2 0 rfl rfl (by unfold vp_in; decide) dX12_isImage_48 ?_
        refine sk_top (nI (tb 0)) (nrd tb 0 (Nat.le_of_ble_eq_true rfl)) ?_
        have hb_14 := htb 0
        refine lv_imul hx hb dX12_isImage_49 ?_
        refine sk_top (nI (256 * (tb 0))) (nmul 256 (tb 0)) ?_
        refine lv_aload_n hx hb dX12_isImage_50 rfl (lv_at hl 0 rfl) ?_
        refine sk_get (v := .ref (g 0)) (C := RX12) (T := TX12) (N := 92) hx hb hts inlX12 hown hK hP 0 rfl rfl 0 (Nat.le_of_ble_eq_true rfl) w_5_155 rfl dX12_isImage_51 ?_
        refine lv_iconst (v := 1) hx hb dX12_isImage_54 ic_1 ?_
        refine va_iald hx hb hK.1 hP 2 0 rfl rfl (by unfold vp_in; decide) dX12_isImage_55 ?_
        refine sk_top (nI (tb 1)) (nrd tb 1 (Nat.le_of_ble_eq_true rfl)) ?_
        have hb_15 := htb 1
        refine lv_iadd hx hb dX12_isImage_56 ?_
        refine sk_top (nI (256 * (tb 0) + (tb 1))) (nI_add (256 * (tb 0)) (tb 1)) ?_
        refine lv_sipush (v := 999) hx hb dX12_isImage_57 (by decide) ?_
        refine lv_icmp_le (tgt := 65) hx hb dX12_isImage_60 (by decide) (fun c_16 => ?_) (fun c_16 => ?_)
        · have c_16 : 256 * (tb 0) + (tb 1) ≤ 999 := (nle (256 * (tb 0) + (tb 1)) 999 (by omega) (Nat.le_of_ble_eq_true rfl)).mp c_16
          refine lv_iconst (v := 2) hx hb dX12_isImage_65 ic_2 ?_
          refine lv_istore_n (lv' := [(2, .int 2), (0, .ref mm), (1, .int (nI n))]) hx hb dX12_isImage_66 rfl hl (by decide) rfl (fun ls hl => ?_)
          have lp_17 : ∀ (n_18 : Nat) (i : Nat) (H : Heap) (locs : List Loc) (ls : Array Slot), n - i < n_18 → (i ≤ n) → (2 ≤ i) → (imgK tb i) → va_P D vwCl [ro_ mm 12 (mo g (nI ta) (nI pa) (nI pe) pd (nI pb) pp pf pg pn rt rn (nI cd) sn (nI il) tk am at_ aa 0 0 (-1) wt wy 0 (nI rm) (nI ud) (nI nu) sd (nI qn) (nI qw) qo (nI qb) (nI qp) qa (nI qi) (nI oc)), ra_I (g 20) cI 4 (l4 (nI l0) (nI l1) (nI dm) (nI l3)), ra_N (g 0) cI 1600 tb] H → va_D A [ro_ mm 12 (mo g (nI ta) (nI pa) (nI pe) pd (nI pb) pp pf pg pn rt rn (nI cd) sn (nI il) tk am at_ aa 0 0 (-1) wt wy 0 (nI rm) (nI ud) (nI nu) sd (nI qn) (nI qw) qo (nI qb) (nI qp) qa (nI qi) (nI oc)), ra_I (g 20) cI 4 (l4 (nI l0) (nI l1) (nI dm) (nI l3)), ra_N (g 0) cI 1600 tb] → va_S A s.heap H locs → lv_has ls 3 [(2, .int (nI i)), (0, .ref mm), (1, .int (nI n))] → W p l e { frames := 1, cells := 0, slots := 0, locals := 23 } s m ([.ref mm, .int (nI n)] : List Value).toArray below meth c H locs 0 0 (MQ below (skI D (skT cI cJ cC cZ cS) (fun (r : Int32) (u : va_W) => ∃ (b : Nat), (b = 0 ∨ (b = 1 ∧ tb 2 ≤ 9)) ∧ ((b = 0 ∧ ¬ (1 ≤ il ∧ imgO tb n dm)) ∨ (b = 1 ∧ 1 ≤ il ∧ imgO tb n dm)) ∧ r = nI b ∧ u = [ro_ mm 12 (mo g (nI ta) (nI pa) (nI pe) pd (nI pb) pp pf pg pn rt rn (nI cd) sn (nI il) tk am at_ aa 0 0 (-1) wt wy 0 (nI rm) (nI ud) (nI nu) sd (nI qn) (nI qw) qo (nI qb) (nI qp) qa (nI qi) (nI oc)), ra_I (g 20) cI 4 (l4 (nI l0) (nI l1) (nI dm) (nI l3)), ra_N (g 0) cI 1600 tb]) A) ([.ref mm, .int (nI n)] : List Value).toArray s 0 0 A) (F0 m 67 ls []) := by
            intro n_18
            induction n_18 with
            | zero => intro i H locs ls hm; exact absurd hm (Nat.not_lt_zero _)
            | succ n_18 ih_lp_17 =>
              intro i H locs ls hm hi hi2 hal hP hD hS hl
              refine lv_iload_n hx hb dX12_isImage_67 rfl (lv_at hl 0 rfl) ?_
              refine lv_iload_n hx hb dX12_isImage_68 rfl (lv_at hl 2 rfl) ?_
              refine lv_iconst (v := 1) hx hb dX12_isImage_69 ic_1 ?_
              refine lv_isub hx hb dX12_isImage_70 ?_
              refine sk_top (nI (n - 1)) (nsub n 1 (by omega)) ?_
              refine lv_icmp_ge (tgt := 109) hx hb dX12_isImage_71 (by decide) (fun c_19 => ?_) (fun c_19 => ?_)
              · have c_19 : n - 1 ≤ i := (nle (n - 1) i (by omega) (by omega)).mp c_19
                refine lv_iconst (v := 1) hx hb dX12_isImage_109 ic_1 ?_
                exact sk_iret hx hb hr rfl hlocks hK hP hD hS (⟨1, (Or.inr ⟨rfl, (hal 2 (by omega) (by omega)).1⟩), (Or.inr ⟨rfl, by omega, by omega, (img_at hn1 hck_9).mp c_13, by omega, fun k h1 h2 => hal k h1 (by omega)⟩), rfl, rfl⟩) (Nat.le_of_ble_eq_true rfl) (Nat.le_of_ble_eq_true rfl) dX12_isImage_110
              · have c_19 : ¬ (n - 1 ≤ i) := fun h => c_19 ((nle (n - 1) i (by omega) (by omega)).mpr h)
                refine lv_aload_n hx hb dX12_isImage_74 rfl (lv_at hl 1 rfl) ?_
                refine sk_get (v := .ref (g 0)) (C := RX12) (T := TX12) (N := 92) hx hb hts inlX12 hown hK hP 0 rfl rfl 0 (Nat.le_of_ble_eq_true rfl) w_5_155 rfl dX12_isImage_75 ?_
                refine lv_iload_n hx hb dX12_isImage_78 rfl (lv_at hl 0 rfl) ?_
                refine va_iald hx hb hK.1 hP 2 0 rfl rfl (vin i 1600 (by omega) (Nat.le_of_ble_eq_true rfl)) dX12_isImage_79 ?_
                refine sk_top (nI (tb i)) (nrd tb i (by omega)) ?_
                have hb_20 := htb i
                refine lv_iload_n hx hb dX12_isImage_80 rfl (lv_at hl 0 rfl) ?_
                refine lv_iconst (v := 2) hx hb dX12_isImage_81 ic_2 ?_
                refine lv_icmp_le (tgt := 96) hx hb dX12_isImage_82 (by decide) (fun c_21 => ?_) (fun c_21 => ?_)
                · have c_21 : i ≤ 2 := (nle i 2 (by omega) (Nat.le_of_ble_eq_true rfl)).mp c_21
                  refine lv_bipush (v := 9) hx hb dX12_isImage_96 (by decide) ?_
                  refine lv_icmp_le (tgt := 103) hx hb dX12_isImage_98 (by decide) (fun c_22 => ?_) (fun c_22 => ?_)
                  · have c_22 : tb i ≤ 9 := (nle (tb i) 9 (by omega) (Nat.le_of_ble_eq_true rfl)).mp c_22
                    refine lv_iinc (v := nI (i + 1)) (lv' := [(2, .int (nI (i + 1))), (0, .ref mm), (1, .int (nI n))]) hx hb dX12_isImage_103 hl (k := 0) rfl (ninc i 1 (by decide)) (by decide) rfl (fun ls hl => ?_)
                    refine lv_goto (tgt := 67) hx hb dX12_isImage_106 (by decide) ?_
                    exact ih_lp_17 (i + 1) _ _ _ (by omega) (by omega) (by omega) (imgK_1 hal (by omega) (fun _ _ => by omega)) hP hD hS (lv_sub hl [0, 1, 2] rfl)
                  · have c_22 : ¬ (tb i ≤ 9) := fun h => c_22 ((nle (tb i) 9 (by omega) (Nat.le_of_ble_eq_true rfl)).mpr h)
                    refine lv_iconst (v := 0) hx hb dX12_isImage_101 ic_0 ?_
                    exact sk_iret hx hb hr rfl hlocks hK hP hD hS (⟨0, (Or.inl rfl), (Or.inl ⟨rfl, fun hq => by have h9 := hq.2.2.2.2 i (by omega) (by omega); first | (have h8 := h9.1; omega) | (have h8 := h9.2 (by omega) (by omega); omega)⟩), rfl, rfl⟩) (Nat.le_of_ble_eq_true rfl) (Nat.le_of_ble_eq_true rfl) dX12_isImage_102
                · have c_21 : ¬ (i ≤ 2) := fun h => c_21 ((nle i 2 (by omega) (Nat.le_of_ble_eq_true rfl)).mpr h)
                  refine lv_iload_n hx hb dX12_isImage_85 rfl (lv_at hl 0 rfl) ?_
                  refine lv_iconst (v := 3) hx hb dX12_isImage_86 ic_3 ?_
                  refine lv_irem hx hb dX12_isImage_87 (by decide) ?_
                  refine sk_top (nI (i % 3)) (nrem i 3 (by omega) (by omega) (by omega)) ?_
                  refine lv_iconst (v := 2) hx hb dX12_isImage_88 ic_2 ?_
                  refine lv_icmp_ne (tgt := 96) hx hb dX12_isImage_89 (by decide) (fun c_23 => ?_) (fun c_23 => ?_)
                  · have c_23 : ¬ (i % 3 = 2) := fun h => c_23 ((neq (i % 3) 2 (by omega) (Nat.le_of_ble_eq_true rfl)).mpr h)
                    refine lv_bipush (v := 9) hx hb dX12_isImage_96 (by decide) ?_
                    refine lv_icmp_le (tgt := 103) hx hb dX12_isImage_98 (by decide) (fun c_24 => ?_) (fun c_24 => ?_)
                    · have c_24 : tb i ≤ 9 := (nle (tb i) 9 (by omega) (Nat.le_of_ble_eq_true rfl)).mp c_24
                      refine lv_iinc (v := nI (i + 1)) (lv' := [(2, .int (nI (i + 1))), (0, .ref mm), (1, .int (nI n))]) hx hb dX12_isImage_103 hl (k := 0) rfl (ninc i 1 (by decide)) (by decide) rfl (fun ls hl => ?_)
                      refine lv_goto (tgt := 67) hx hb dX12_isImage_106 (by decide) ?_
                      exact ih_lp_17 (i + 1) _ _ _ (by omega) (by omega) (by omega) (imgK_1 hal (by omega) (fun _ _ => by omega)) hP hD hS (lv_sub hl [0, 1, 2] rfl)
                    · have c_24 : ¬ (tb i ≤ 9) := fun h => c_24 ((nle (tb i) 9 (by omega) (Nat.le_of_ble_eq_true rfl)).mpr h)
                      refine lv_iconst (v := 0) hx hb dX12_isImage_101 ic_0 ?_
                      exact sk_iret hx hb hr rfl hlocks hK hP hD hS (⟨0, (Or.inl rfl), (Or.inl ⟨rfl, fun hq => by have h9 := hq.2.2.2.2 i (by omega) (by omega); first | (have h8 := h9.1; omega) | (have h8 := h9.2 (by omega) (by omega); omega)⟩), rfl, rfl⟩) (Nat.le_of_ble_eq_true rfl) (Nat.le_of_ble_eq_true rfl) dX12_isImage_102
                  · have c_23 : i % 3 = 2 := (neq (i % 3) 2 (by omega) (Nat.le_of_ble_eq_true rfl)).mp c_23
                    refine lv_iconst (v := 1) hx hb dX12_isImage_92 ic_1 ?_
                    refine lv_goto (tgt := 98) hx hb dX12_isImage_93 (by decide) ?_
                    refine lv_icmp_le (tgt := 103) hx hb dX12_isImage_98 (by decide) (fun c_25 => ?_) (fun c_25 => ?_)
                    · have c_25 : tb i ≤ 1 := (nle (tb i) 1 (by omega) (Nat.le_of_ble_eq_true rfl)).mp c_25
                      refine lv_iinc (v := nI (i + 1)) (lv' := [(2, .int (nI (i + 1))), (0, .ref mm), (1, .int (nI n))]) hx hb dX12_isImage_103 hl (k := 0) rfl (ninc i 1 (by decide)) (by decide) rfl (fun ls hl => ?_)
                      refine lv_goto (tgt := 67) hx hb dX12_isImage_106 (by decide) ?_
                      exact ih_lp_17 (i + 1) _ _ _ (by omega) (by omega) (by omega) (imgK_1 hal (by omega) (fun _ _ => by omega)) hP hD hS (lv_sub hl [0, 1, 2] rfl)
                    · have c_25 : ¬ (tb i ≤ 1) := fun h => c_25 ((nle (tb i) 1 (by omega) (Nat.le_of_ble_eq_true rfl)).mpr h)
                      refine lv_iconst (v := 0) hx hb dX12_isImage_101 ic_0 ?_
                      exact sk_iret hx hb hr rfl hlocks hK hP hD hS (⟨0, (Or.inl rfl), (Or.inl ⟨rfl, fun hq => by have h9 := hq.2.2.2.2 i (by omega) (by omega); first | (have h8 := h9.1; omega) | (have h8 := h9.2 (by omega) (by omega); omega)⟩), rfl, rfl⟩) (Nat.le_of_ble_eq_true rfl) (Nat.le_of_ble_eq_true rfl) dX12_isImage_102
          exact lp_17 (n - 2 + 1) 2 _ _ _ (Nat.lt_succ_self _) (by omega) (by omega) (fun k h1 h2 => absurd h1 (by omega)) hP hD hS (lv_sub hl [0, 1, 2] rfl)
        · have c_16 : ¬ (256 * (tb 0) + (tb 1) ≤ 999) := fun h => c_16 ((nle (256 * (tb 0) + (tb 1)) 999 (by omega) (Nat.le_of_ble_eq_true rfl)).mpr h)
          refine lv_iconst (v := 0) hx hb dX12_isImage_63 ic_0 ?_
          exact sk_iret hx hb hr rfl hlocks hK hP hD hS (⟨0, (Or.inl rfl), (Or.inl ⟨rfl, fun hq => absurd hq.2.2.2.1 (by omega)⟩), rfl, rfl⟩) (Nat.le_of_ble_eq_true rfl) (Nat.le_of_ble_eq_true rfl) dX12_isImage_64
theorem dg_X12_fault_0_0 : bqL cX12_fault 0 [(0, [27]), (1, [154, 0, 10]), (11, [27]), (12, [4]), (13, [160, 0, 10]), (23, [2]), (24, [172]), (16, [42]), (17, [180, 0, 13]), (20, [167, 0, 4]), (4, [42]), (5, [180, 1, 40]), (8, [167, 0, 16])] = true := by decide +kernel
theorem dX12_fault_0 : decode cX12_fault 0 = .ok (.iload_n 1, 1) := q_iload_n1 (bat_get dg_X12_fault_0_0 0 rfl rfl)
theorem dX12_fault_1 : decode cX12_fault 1 = .ok (.ifCond .ne 10, 3) := q_ifCond_ne (bat_get dg_X12_fault_0_0 1 rfl rfl) rfl
theorem dX12_fault_11 : decode cX12_fault 11 = .ok (.iload_n 1, 1) := q_iload_n1 (bat_get dg_X12_fault_0_0 2 rfl rfl)
theorem dX12_fault_12 : decode cX12_fault 12 = .ok (.iconst 1, 1) := q_iconst1 (bat_get dg_X12_fault_0_0 3 rfl rfl)
theorem dX12_fault_13 : decode cX12_fault 13 = .ok (.if_icmp .ne 10, 3) := q_if_icmp_ne (bat_get dg_X12_fault_0_0 4 rfl rfl) rfl
theorem dX12_fault_23 : decode cX12_fault 23 = .ok (.iconst (-1), 1) := q_iconstm1 (bat_get dg_X12_fault_0_0 5 rfl rfl)
theorem dX12_fault_24 : decode cX12_fault 24 = .ok (.ireturn, 1) := q_ireturn (bat_get dg_X12_fault_0_0 6 rfl rfl)
theorem dX12_fault_16 : decode cX12_fault 16 = .ok (.aload_n 0, 1) := q_aload_n0 (bat_get dg_X12_fault_0_0 7 rfl rfl)
theorem dX12_fault_17 : decode cX12_fault 17 = .ok (.getfield 13, 3) := q_getfield (bat_get dg_X12_fault_0_0 8 rfl rfl) rfl
theorem dX12_fault_20 : decode cX12_fault 20 = .ok (.goto 4, 3) := q_goto (bat_get dg_X12_fault_0_0 9 rfl rfl) rfl
theorem dX12_fault_4 : decode cX12_fault 4 = .ok (.aload_n 0, 1) := q_aload_n0 (bat_get dg_X12_fault_0_0 10 rfl rfl)
theorem dX12_fault_5 : decode cX12_fault 5 = .ok (.getfield 296, 3) := q_getfield (bat_get dg_X12_fault_0_0 11 rfl rfl) rfl
theorem dX12_fault_8 : decode cX12_fault 8 = .ok (.goto 16, 3) := q_goto (bat_get dg_X12_fault_0_0 12 rfl rfl) rfl
theorem w_5_163 : (Cond.fieldLink RX12 13 "SameKeeperModel" "faultPlace" "I") ∈ wsL_law := sk_mem (ck_5 _ (List.mem_of_getElem? (i := 163) rfl)) rfl
theorem w_5_162 : (Cond.fieldLink RX12 296 "SameKeeperModel" "fault" "I") ∈ wsL_law := sk_mem (ck_5 _ (List.mem_of_getElem? (i := 162) rfl)) rfl
theorem w_7_93 : (Cond.code yX12_fault cX12_fault 2 (some .int)) ∈ wsL_law := sk_mem (ck_7 _ (List.mem_of_getElem? (i := 93) rfl)) rfl
set_option maxHeartbeats 4000000 in
set_option maxRecDepth 100000 in
theorem c_m_fault (l : Launch) (D : va_G) (cI cJ cC cZ cS : ClassId) (mm : Nat) (g : Nat → Nat) (ta : Nat) (pa : Nat) (pe : Nat) (pd : Int32) (pb : Nat) (pp : Int32) (pf : Int32) (pg : Int32) (pn : Int32) (rt : Int32) (rn : Int32) (cd : Nat) (sn : Int32) (il : Nat) (tk : Int32) (am : Int32) (at_ : Int32) (aa : Int32) (wt : Int32) (wy : Int64) (rm : Nat) (ud : Nat) (nu : Nat) (sd : Int64) (qn : Nat) (qw : Nat) (qo : Int32) (qb : Nat) (qp : Nat) (qa : Int64) (qi : Nat) (oc : Nat) (w : Int32)  : skM l yX12_fault cX12_fault 2 (some .int) 0 0 0 0 D (skT cI cJ cC cZ cS) [.ref mm, .int w] [ro_ mm 12 (mo g (nI ta) (nI pa) (nI pe) pd (nI pb) pp pf pg pn rt rn (nI cd) sn (nI il) tk am at_ aa 0 0 (-1) wt wy 0 (nI rm) (nI ud) (nI nu) sd (nI qn) (nI qw) qo (nI qb) (nI qp) qa (nI qi) (nI oc))] (skI D (skT cI cJ cC cZ cS) (fun (r : Int32) (u : va_W) => ((w = 0 ∧ r = pf) ∨ (w = 1 ∧ r = pg) ∨ (¬ w = 0 ∧ ¬ w = 1 ∧ r = -1)) ∧ u = [ro_ mm 12 (mo g (nI ta) (nI pa) (nI pe) pd (nI pb) pp pf pg pn rt rn (nI cd) sn (nI il) tk am at_ aa 0 0 (-1) wt wy 0 (nI rm) (nI ud) (nI nu) sd (nI qn) (nI qw) qo (nI qb) (nI qp) qa (nI qi) (nI oc))])) := by
  refine skM_of pf_X12_fault (Nat.le_of_ble_eq_true rfl) ?_
  intro p e s m below meth c A ls E hP hD hl
  refine skE_el E (fun hx hb hr hml hlocks hin hown hts hK hA => ?_)
  have hown : s.vm.findClass RX12 = some m.cls := hown
  have hS : va_S A s.heap s.heap [] := va_S.rf
  have hl : lv_has ls 2 [(0, .ref mm), (1, .int w)] := hl
  refine lv_iload_n hx hb dX12_fault_0 rfl (lv_at hl 1 rfl) ?_
  refine lv_if_ne (tgt := 11) hx hb dX12_fault_1 (by decide) (fun c_1 => ?_) (fun c_1 => ?_)
  · skip
    refine lv_iload_n hx hb dX12_fault_11 rfl (lv_at hl 1 rfl) ?_
    refine lv_iconst (v := 1) hx hb dX12_fault_12 ic_1 ?_
    refine lv_icmp_ne (tgt := 23) hx hb dX12_fault_13 (by decide) (fun c_2 => ?_) (fun c_2 => ?_)
    · skip
      refine lv_iconst (v := (-1)) hx hb dX12_fault_23 (by decide) ?_
      exact sk_iret hx hb hr rfl hlocks hK hP hD hS (⟨(Or.inr (Or.inr ⟨c_1, c_2, rfl⟩)), rfl⟩) (Nat.le_of_ble_eq_true rfl) (Nat.le_of_ble_eq_true rfl) dX12_fault_24
    · skip
      refine lv_aload_n hx hb dX12_fault_16 rfl (lv_at hl 0 rfl) ?_
      refine sk_get (v := .int pg) (C := RX12) (T := TX12) (N := 92) hx hb hts inlX12 hown hK hP 0 rfl rfl 8 (Nat.le_of_ble_eq_true rfl) w_5_163 rfl dX12_fault_17 ?_
      refine lv_goto (tgt := 24) hx hb dX12_fault_20 (by decide) ?_
      exact sk_iret hx hb hr rfl hlocks hK hP hD hS (⟨(Or.inr (Or.inl ⟨c_2, rfl⟩)), rfl⟩) (Nat.le_of_ble_eq_true rfl) (Nat.le_of_ble_eq_true rfl) dX12_fault_24
  · skip
    refine lv_aload_n hx hb dX12_fault_4 rfl (lv_at hl 0 rfl) ?_
    refine sk_get (v := .int pf) (C := RX12) (T := TX12) (N := 92) hx hb hts inlX12 hown hK hP 0 rfl rfl 7 (Nat.le_of_ble_eq_true rfl) w_5_162 rfl dX12_fault_5 ?_
    refine lv_goto (tgt := 24) hx hb dX12_fault_8 (by decide) ?_
    exact sk_iret hx hb hr rfl hlocks hK hP hD hS (⟨(Or.inl ⟨c_1, rfl⟩), rfl⟩) (Nat.le_of_ble_eq_true rfl) (Nat.le_of_ble_eq_true rfl) dX12_fault_24
/-! the reference's sums -/
theorem kbt {x v w : Int64} (hv : v = x - x / 10 * 10) {u : Int64} (hu : u = v + 10) (hw : w = u - u / 10 * 10) : w.toInt32 = nI (kcTen x) := by
  have e10 : (10 : Int64).toInt = 10 := rfl
  have h4 : v.toInt = x.toInt.tmod 10 := by rw [hv, lrem10]
  have h5 := Int.mul_tdiv_add_tmod x.toInt 10
  have hb1 : x.toInt.tmod 10 < 10 := Int.tmod_lt_of_pos _ (by decide)
  have hb2 : -10 < x.toInt.tmod 10 := by
    have h3 := Int.tmod_lt_of_pos (-x.toInt) (by decide : (0 : Int) < 10)
    rw [Int.neg_tmod] at h3
    omega
  have h6 : u.toInt = x.toInt.tmod 10 + 10 := by
    rw [hu, Jvm.Kit.i64_add (by rw [e10]; omega) (by rw [e10]; omega), e10, h4]
  have h7 : w.toInt = u.toInt.tmod 10 := by rw [hw, lrem10]
  rw [Int.tmod_eq_emod_of_nonneg (by omega)] at h7
  refine kten_i ?_ (by have := kcTen_lt x; omega)
  unfold kcTen
  omega
theorem kflr_e {x y : Int64} (hy : ¬ y = 0) (h : lg_cmp (x - x / y * y) 0 = 0) : x / y = kcFl x y := by
  unfold kcFl
  rw [if_neg hy, if_neg (fun q => q.1 ((lg_cmp_eq _ _).mp h))]
theorem kflr_s {x y : Int64} (hy : ¬ y = 0) (hs : x < 0 ↔ y < 0) : x / y = kcFl x y := by
  unfold kcFl
  rw [if_neg hy, if_neg (fun q => q.2 hs)]
theorem kflr_d {x y : Int64} (hy : ¬ y = 0) (h : ¬ lg_cmp (x - x / y * y) 0 = 0) (hs : ¬ (x < 0 ↔ y < 0)) : x / y - 1 = kcFl x y := by
  unfold kcFl
  rw [if_neg hy, if_pos ⟨fun q => h ((lg_cmp_eq _ _).mpr q), hs⟩]
theorem klt0 {x : Int64} (h : ¬ 0 ≤ lg_cmp x 0) : x < 0 := Int64.not_le.mp (fun q => h ((lg_cmp_ge x 0).mpr q))
theorem kge0 {x : Int64} (h : 0 ≤ lg_cmp x 0) : ¬ x < 0 := Int64.not_lt.mpr ((lg_cmp_ge x 0).mp h)
theorem kjo_c {c k : Nat} (h : nI c = nI k) (hc : c ≤ 6) (hk : k < 2147483648) : c = k := (neq _ _ (by omega) hk).mp h
theorem kjo_f {c : Nat} (h1 : 1 ≤ c) (h6 : c ≤ 6) (g1 : ¬ nI c = 1) (g2 : ¬ nI c = 2) (g3 : ¬ nI c = 3) (g4 : ¬ nI c = 4) (g5 : ¬ nI c = 5) (g6 : ¬ nI c = 6) : False := by
  rcases (show c = 1 ∨ c = 2 ∨ c = 3 ∨ c = 4 ∨ c = 5 ∨ c = 6 by omega) with rfl | rfl | rfl | rfl | rfl | rfl
  · exact g1 rfl
  · exact g2 rfl
  · exact g3 rfl
  · exact g4 rfl
  · exact g5 rfl
  · exact g6 rfl
theorem kjo_min {x y : Int64} (h : 0 ≤ lg_cmp x y) : y = kcOp 5 x y := by
  have h1 := (lg_cmp_ge x y).mp h
  show y = if y < x then y else x
  by_cases q : y < x
  · rw [if_pos q]
  · rw [if_neg q]; exact Int64.le_antisymm h1 (Int64.not_lt.mp q)
theorem kjo_min2 {x y : Int64} (h : ¬ 0 ≤ lg_cmp x y) : x = kcOp 5 x y := by
  have h1 : x < y := Int64.not_le.mp (fun q => h ((lg_cmp_ge x y).mpr q))
  show x = if y < x then y else x
  rw [if_neg (fun q => Int64.lt_irrefl (Int64.lt_trans h1 q))]
theorem kjo_max {x y : Int64} (h : lg_cmp x y ≤ 0) : y = kcOp 6 x y := by
  have h1 := (lg_cmp_le x y).mp h
  show y = if x < y then y else x
  by_cases q : x < y
  · rw [if_pos q]
  · rw [if_neg q]; exact Int64.le_antisymm (Int64.not_lt.mp q) h1
theorem kjo_max2 {x y : Int64} (h : ¬ lg_cmp x y ≤ 0) : x = kcOp 6 x y := by
  have h1 : y < x := Int64.not_le.mp (fun q => h ((lg_cmp_le x y).mpr q))
  show x = if x < y then y else x
  rw [if_neg (fun q => Int64.lt_irrefl (Int64.lt_trans h1 q))]
/-- what a name is, by the reference's fields -/
def mnO (nm : Nat → Int64) (am at_ aa : Int32) (nw : Nat → Int32) (d : Nat) : Prop := Int32.toInt64 am = nm 0 ∧ Int32.toInt64 (nw (2 + 3 * d)) = nm 1 ∧ Int32.toInt64 (nw (2 + 3 * d + 1)) = nm 2 ∧ Int32.toInt64 (nI d) = nm 3 ∧ Int32.toInt64 (nw 0) = nm 4 ∧ Int32.toInt64 at_ = nm 5 ∧ Int32.toInt64 aa = nm 6
theorem mn_k {k j : Nat} (h : nI k = nI j) (hk : k < 7) (hj : j < 2147483648) : k = j := (neq _ _ (by omega) hj).mp h
theorem mn_x {k j : Nat} {P : Prop} (h : nI k = nI j) (hk : k < 7) (hj : j < 2147483648) (h7 : 7 ≤ j) : P := by
  have := mn_k h hk hj
  exact absurd h7 (by omega)
theorem mn_f {k : Nat} (hk : k < 7) (g0 : ¬ nI k = 0) (g1 : ¬ nI k = 1) (g2 : ¬ nI k = 2) (g3 : ¬ nI k = 3) (g4 : ¬ nI k = 4) (g5 : ¬ nI k = 5) (g6 : ¬ nI k = 6) : False := by
  rcases (show k = 0 ∨ k = 1 ∨ k = 2 ∨ k = 3 ∨ k = 4 ∨ k = 5 ∨ k = 6 by omega) with rfl | rfl | rfl | rfl | rfl | rfl | rfl
  · exact g0 rfl
  · exact g1 rfl
  · exact g2 rfl
  · exact g3 rfl
  · exact g4 rfl
  · exact g5 rfl
  · exact g6 rfl
/-! the two counts are one -/
theorem sm_S (f : Nat → Nat) : ∀ n, sm f n = kcS f n
  | 0 => rfl
  | n + 1 => by
    show sm f n + f n = kcS f n + f n
    rw [sm_S f n]
theorem bk_C (C : Nat → Nat → Nat → Bool) : ∀ j d m, bk C j d m = kcC C j (d + 1) m
  | 0, _, _ => rfl
  | j + 1, d, m => by
    show sm (fun k => if C (d + 1) m k then bk C j (d + 1) k else 0) 10 = kcS (fun k => if C (d + 1) m k = true then kcC C j (d + 1 + 1) k else 0) 10
    rw [sm_S]
    exact kcS_cg 10 (fun k _ => by rw [bk_C C j (d + 1) k])
theorem bfo_B (C : Nat → Nat → Nat → Bool) (a0 : Nat) : ∀ d m, bfo C a0 d m = kcB C a0 d m
  | 0, _ => rfl
  | d + 1, m => by
    show sm (fun a => if C (d + 1) a m then bfo C a0 d a else 0) 10 = kcS (fun a => if C (d + 1) a m = true then kcB C a0 d a else 0) 10
    rw [sm_S]
    exact kcS_cg 10 (fun a _ => by rw [bfo_B C a0 d a])
theorem wys_C (C : Nat → Nat → Nat → Bool) (a0 : Nat) {n : Nat} (h : 1 ≤ n) : wys C a0 (n - 1) = kcC C n 0 a0 := by
  unfold wys
  rw [sm_S, kcS_cg (g := kcB C a0 (n - 1)) 10 (fun m _ => bfo_B C a0 (n - 1) m), kcB_all, show n - 1 + 1 = n by omega]
theorem gA_W (C : Nat → Nat → Nat → Bool) (n d a m : Nat) : gA C n d a m = kcW C n d a m := by
  unfold gA kcW
  rw [bk_C, show n - 1 - d = n - (d + 1) by omega]
set_option maxHeartbeats 4000000 in
set_option maxRecDepth 100000 in
theorem c_nm_byTen (l : Launch) (D : va_G) (cI cJ cC cZ cS : ClassId) (x : Int64)  : skM l yX12_byTen cX12_byTen 2 (some .int) 0 0 0 0 D (skT cI cJ cC cZ cS) [.long x] [] (skI D (skT cI cJ cC cZ cS) (fun (r : Int32) (u : va_W) => r = nI (kcTen x) ∧ u = [])) := by
  refine skM_of pf_X12_byTen (Nat.le_of_ble_eq_true rfl) ?_
  intro p e s m below meth c A ls E hP hD hl
  refine skE_el E (fun hx hb hr hml hlocks hin hown hts hK hA => ?_)
  have hown : s.vm.findClass RX12 = some m.cls := hown
  have hS : va_S A s.heap s.heap [] := va_S.rf
  have hl : lv_has ls 2 [(0, .long x)] := hl
  refine lv_lload_n hx hb dX12_byTen_0 rfl (lv_at hl 0 rfl) ?_
  refine lv_ldc2 (v := 10) hx hb hown (hts _ w_7_171) dX12_byTen_1 ?_
  refine lv_lrem hx hb dX12_byTen_4 (by decide) ?_
  refine lv_topl (fun v_1 ev_1 => ?_)
  refine lv_ldc2 (v := 10) hx hb hown (hts _ w_7_171) dX12_byTen_5 ?_
  refine lv_ladd hx hb dX12_byTen_8 ?_
  refine lv_topl (fun v_2 ev_2 => ?_)
  refine lv_ldc2 (v := 10) hx hb hown (hts _ w_7_171) dX12_byTen_9 ?_
  refine lv_lrem hx hb dX12_byTen_12 (by decide) ?_
  refine lv_topl (fun v_3 ev_3 => ?_)
  refine lv_l2i hx hb dX12_byTen_13 rfl ?_
  refine sk_top (nI (kcTen x)) (kbt ev_1 ev_2 ev_3) ?_
  exact sk_iret hx hb hr rfl hlocks hK hP hD hS (⟨rfl, rfl⟩) (Nat.le_of_ble_eq_true rfl) (Nat.le_of_ble_eq_true rfl) dX12_byTen_14
set_option maxHeartbeats 4000000 in
set_option maxRecDepth 100000 in
theorem c_nm_qClip (l : Launch) (D : va_G) (cI cJ cC cZ cS : ClassId) (x : Int64)  : skM l yX12_qClip cX12_qClip 2 (some .long) 0 0 0 0 D (skT cI cJ cC cZ cS) [.long x] [] (skL D (skT cI cJ cC cZ cS) (fun (r : Int64) (u : va_W) => r = kcClip x ∧ u = [])) := by
  refine skM_of pf_X12_qClip (Nat.le_of_ble_eq_true rfl) ?_
  intro p e s m below meth c A ls E hP hD hl
  refine skE_el E (fun hx hb hr hml hlocks hin hown hts hK hA => ?_)
  have hown : s.vm.findClass RX12 = some m.cls := hown
  have hS : va_S A s.heap s.heap [] := va_S.rf
  have hl : lv_has ls 2 [(0, .long x)] := hl
  refine lv_lload_n hx hb dX12_qClip_0 rfl (lv_at hl 0 rfl) ?_
  refine lv_ldc2 (v := 1000000) hx hb hown (hts _ w_7_163) dX12_qClip_1 ?_
  refine W.lcmp hx hb dX12_qClip_4 ?_
  refine lv_if_le (tgt := 14) hx hb dX12_qClip_5 (by decide) (fun c_1 => ?_) (fun c_1 => ?_)
  · skip
    refine lv_lload_n hx hb dX12_qClip_14 rfl (lv_at hl 0 rfl) ?_
    refine lv_ldc2 (v := (-1000000)) hx hb hown (hts _ w_7_164) dX12_qClip_15 ?_
    refine W.lcmp hx hb dX12_qClip_18 ?_
    refine lv_if_ge (tgt := 28) hx hb dX12_qClip_19 (by decide) (fun c_2 => ?_) (fun c_2 => ?_)
    · skip
      refine lv_lload_n hx hb dX12_qClip_28 rfl (lv_at hl 0 rfl) ?_
      exact sk_lret hx hb hr hlocks hK hP hD hS (⟨kclip_c c_1 c_2, rfl⟩) (Nat.le_of_ble_eq_true rfl) (Nat.le_of_ble_eq_true rfl) dX12_qClip_29
    · skip
      refine lv_ldc2 (v := (-1000000)) hx hb hown (hts _ w_7_164) dX12_qClip_22 ?_
      refine lv_goto (tgt := 29) hx hb dX12_qClip_25 (by decide) ?_
      exact sk_lret hx hb hr hlocks hK hP hD hS (⟨kclip_b c_1 c_2, rfl⟩) (Nat.le_of_ble_eq_true rfl) (Nat.le_of_ble_eq_true rfl) dX12_qClip_29
  · skip
    refine lv_ldc2 (v := 1000000) hx hb hown (hts _ w_7_163) dX12_qClip_8 ?_
    refine lv_goto (tgt := 29) hx hb dX12_qClip_11 (by decide) ?_
    exact sk_lret hx hb hr hlocks hK hP hD hS (⟨kclip_a c_1, rfl⟩) (Nat.le_of_ble_eq_true rfl) (Nat.le_of_ble_eq_true rfl) dX12_qClip_29
set_option maxHeartbeats 4000000 in
set_option maxRecDepth 100000 in
theorem c_nm_qFloor (l : Launch) (D : va_G) (cI cJ cC cZ cS : ClassId) (x : Int64) (y : Int64)  : skM l yX12_qFloor cX12_qFloor 6 (some .long) 0 0 0 0 D (skT cI cJ cC cZ cS) [.long x, .long y] [] (skL D (skT cI cJ cC cZ cS) (fun (r : Int64) (u : va_W) => r = kcFl x y ∧ u = [])) := by
  refine skM_of pf_X12_qFloor (Nat.le_of_ble_eq_true rfl) ?_
  intro p e s m below meth c A ls E hP hD hl
  refine skE_el E (fun hx hb hr hml hlocks hin hown hts hK hA => ?_)
  have hown : s.vm.findClass RX12 = some m.cls := hown
  have hS : va_S A s.heap s.heap [] := va_S.rf
  have hl : lv_has ls 6 [(0, .long x), (2, .long y)] := hl
  refine lv_lload_n hx hb dX12_qFloor_0 rfl (lv_at hl 1 rfl) ?_
  refine lv_lconst (v := 0) hx hb dX12_qFloor_1 (by decide) ?_
  refine W.lcmp hx hb dX12_qFloor_2 ?_
  refine lv_if_ne (tgt := 8) hx hb dX12_qFloor_3 (by decide) (fun c_1 => ?_) (fun c_1 => ?_)
  · skip
    refine lv_lload_n hx hb dX12_qFloor_8 rfl (lv_at hl 0 rfl) ?_
    refine lv_lload_n hx hb dX12_qFloor_9 rfl (lv_at hl 1 rfl) ?_
    refine lv_ldiv hx hb dX12_qFloor_10 (lg_ne0 c_1) ?_
    refine lv_lstore (lv' := [(4, .long (x / y)), (0, .long x), (2, .long y)]) hx hb dX12_qFloor_11 hl (by decide) rfl (fun ls hl => ?_)
    refine lv_lload_n hx hb dX12_qFloor_13 rfl (lv_at hl 1 rfl) ?_
    refine lv_lload_n hx hb dX12_qFloor_14 rfl (lv_at hl 2 rfl) ?_
    refine lv_lrem hx hb dX12_qFloor_15 (lg_ne0 c_1) ?_
    refine lv_lconst (v := 0) hx hb dX12_qFloor_16 (by decide) ?_
    refine W.lcmp hx hb dX12_qFloor_17 ?_
    refine lv_if_eq (tgt := 53) hx hb dX12_qFloor_18 (by decide) (fun c_2 => ?_) (fun c_2 => ?_)
    · skip
      refine lv_lload hx hb dX12_qFloor_53 (lv_at hl 0 rfl) ?_
      exact sk_lret hx hb hr hlocks hK hP hD hS (⟨kflr_e (lg_ne0 c_1) c_2, rfl⟩) (Nat.le_of_ble_eq_true rfl) (Nat.le_of_ble_eq_true rfl) dX12_qFloor_55
    · skip
      refine lv_lload_n hx hb dX12_qFloor_21 rfl (lv_at hl 1 rfl) ?_
      refine lv_lconst (v := 0) hx hb dX12_qFloor_22 (by decide) ?_
      refine W.lcmp hx hb dX12_qFloor_23 ?_
      refine lv_if_ge (tgt := 31) hx hb dX12_qFloor_24 (by decide) (fun c_3 => ?_) (fun c_3 => ?_)
      · skip
        refine lv_iconst (v := 0) hx hb dX12_qFloor_31 ic_0 ?_
        refine lv_lload_n hx hb dX12_qFloor_32 rfl (lv_at hl 2 rfl) ?_
        refine lv_lconst (v := 0) hx hb dX12_qFloor_33 (by decide) ?_
        refine W.lcmp hx hb dX12_qFloor_34 ?_
        refine lv_if_ge (tgt := 42) hx hb dX12_qFloor_35 (by decide) (fun c_4 => ?_) (fun c_4 => ?_)
        · skip
          refine lv_iconst (v := 0) hx hb dX12_qFloor_42 ic_0 ?_
          refine lv_icmp_eq (tgt := 53) hx hb dX12_qFloor_43 (by decide) (fun c_5 => ?_) (fun c => absurd c (by decide))
          refine lv_lload hx hb dX12_qFloor_53 (lv_at hl 0 rfl) ?_
          exact sk_lret hx hb hr hlocks hK hP hD hS (⟨kflr_s (lg_ne0 c_1) ⟨fun q => absurd q (kge0 c_3), fun q => absurd q (kge0 c_4)⟩, rfl⟩) (Nat.le_of_ble_eq_true rfl) (Nat.le_of_ble_eq_true rfl) dX12_qFloor_55
        · skip
          refine lv_iconst (v := 1) hx hb dX12_qFloor_38 ic_1 ?_
          refine lv_goto (tgt := 43) hx hb dX12_qFloor_39 (by decide) ?_
          refine lv_icmp_eq (tgt := 53) hx hb dX12_qFloor_43 (by decide) (fun c => absurd c (by decide)) (fun c_6 => ?_)
          refine lv_lload hx hb dX12_qFloor_46 (lv_at hl 0 rfl) ?_
          refine lv_lconst (v := 1) hx hb dX12_qFloor_48 (by decide) ?_
          refine lv_lsub hx hb dX12_qFloor_49 ?_
          refine lv_goto (tgt := 55) hx hb dX12_qFloor_50 (by decide) ?_
          exact sk_lret hx hb hr hlocks hK hP hD hS (⟨kflr_d (lg_ne0 c_1) c_2 (fun q => absurd (q.mpr (klt0 c_4)) (kge0 c_3)), rfl⟩) (Nat.le_of_ble_eq_true rfl) (Nat.le_of_ble_eq_true rfl) dX12_qFloor_55
      · skip
        refine lv_iconst (v := 1) hx hb dX12_qFloor_27 ic_1 ?_
        refine lv_goto (tgt := 32) hx hb dX12_qFloor_28 (by decide) ?_
        refine lv_lload_n hx hb dX12_qFloor_32 rfl (lv_at hl 2 rfl) ?_
        refine lv_lconst (v := 0) hx hb dX12_qFloor_33 (by decide) ?_
        refine W.lcmp hx hb dX12_qFloor_34 ?_
        refine lv_if_ge (tgt := 42) hx hb dX12_qFloor_35 (by decide) (fun c_7 => ?_) (fun c_7 => ?_)
        · skip
          refine lv_iconst (v := 0) hx hb dX12_qFloor_42 ic_0 ?_
          refine lv_icmp_eq (tgt := 53) hx hb dX12_qFloor_43 (by decide) (fun c => absurd c (by decide)) (fun c_8 => ?_)
          refine lv_lload hx hb dX12_qFloor_46 (lv_at hl 0 rfl) ?_
          refine lv_lconst (v := 1) hx hb dX12_qFloor_48 (by decide) ?_
          refine lv_lsub hx hb dX12_qFloor_49 ?_
          refine lv_goto (tgt := 55) hx hb dX12_qFloor_50 (by decide) ?_
          exact sk_lret hx hb hr hlocks hK hP hD hS (⟨kflr_d (lg_ne0 c_1) c_2 (fun q => absurd (q.mp (klt0 c_3)) (kge0 c_7)), rfl⟩) (Nat.le_of_ble_eq_true rfl) (Nat.le_of_ble_eq_true rfl) dX12_qFloor_55
        · skip
          refine lv_iconst (v := 1) hx hb dX12_qFloor_38 ic_1 ?_
          refine lv_goto (tgt := 43) hx hb dX12_qFloor_39 (by decide) ?_
          refine lv_icmp_eq (tgt := 53) hx hb dX12_qFloor_43 (by decide) (fun c_9 => ?_) (fun c => absurd c (by decide))
          refine lv_lload hx hb dX12_qFloor_53 (lv_at hl 0 rfl) ?_
          exact sk_lret hx hb hr hlocks hK hP hD hS (⟨kflr_s (lg_ne0 c_1) ⟨fun _ => (klt0 c_7), fun _ => (klt0 c_3)⟩, rfl⟩) (Nat.le_of_ble_eq_true rfl) (Nat.le_of_ble_eq_true rfl) dX12_qFloor_55
  · skip
    refine lv_lconst (v := 0) hx hb dX12_qFloor_6 (by decide) ?_
    exact sk_lret hx hb hr hlocks hK hP hD hS (⟨kfl_0 ((lg_cmp_eq _ _).mp c_1), rfl⟩) (Nat.le_of_ble_eq_true rfl) (Nat.le_of_ble_eq_true rfl) dX12_qFloor_7
set_option maxHeartbeats 4000000 in
set_option maxRecDepth 100000 in
theorem c_nm_qPuts (l : Launch) (D : va_G) (cI cJ cC cZ cS : ClassId) (mm : Nat) (g : Nat → Nat) (ta : Nat) (pa : Nat) (pe : Nat) (pd : Int32) (pb : Nat) (pp : Int32) (pf : Int32) (pg : Int32) (pn : Int32) (rt : Int32) (rn : Int32) (cd : Nat) (sn : Int32) (il : Nat) (tk : Int32) (am : Int32) (at_ : Int32) (aa : Int32) (mt_ : Int32) (wt : Int32) (wy : Int64) (it_ : Nat) (rm : Nat) (ud : Nat) (nu : Nat) (sd : Int64) (qn : Nat) (qw : Nat) (qo : Int32) (qb : Nat) (qp : Nat) (qa : Int64) (qi : Nat) (oc : Nat) (x : Int64) (ql : Nat → Int64) (hqp : qp < 1700) : skM l yX12_qPuts cX12_qPuts 3 none 0 0 0 0 D (skT cI cJ cC cZ cS) [.ref mm, .long x] [ro_ mm 12 (mo g (nI ta) (nI pa) (nI pe) pd (nI pb) pp pf pg pn rt rn (nI cd) sn (nI il) tk am at_ aa mt_ 0 (-1) wt wy (nI it_) (nI rm) (nI ud) (nI nu) sd (nI qn) (nI qw) qo (nI qb) (nI qp) qa (nI qi) (nI oc)), ra_J (g 86) cJ 1700 ql] (skV D (skT cI cJ cC cZ cS) (fun (u : va_W) => ∃ (ql2 : Nat → Int64), ql2 = vp_updL ql qp x ∧ u = [ro_ mm 12 (mo g (nI ta) (nI pa) (nI pe) pd (nI pb) pp pf pg pn rt rn (nI cd) sn (nI il) tk am at_ aa mt_ 0 (-1) wt wy (nI it_) (nI rm) (nI ud) (nI nu) sd (nI qn) (nI qw) qo (nI qb) (nI (qp + 1)) qa (nI qi) (nI oc)), ra_J (g 86) cJ 1700 ql2])) := by
  refine skM_of pf_X12_qPuts (Nat.le_of_ble_eq_true rfl) ?_
  intro p e s m below meth c A ls E hP hD hl
  refine skE_el E (fun hx hb hr hml hlocks hin hown hts hK hA => ?_)
  have hown : s.vm.findClass RX12 = some m.cls := hown
  have hS : va_S A s.heap s.heap [] := va_S.rf
  have hl : lv_has ls 3 [(0, .ref mm), (1, .long x)] := hl
  refine lv_aload_n hx hb dX12_qPuts_0 rfl (lv_at hl 0 rfl) ?_
  refine sk_get (v := .ref (g 86)) (C := RX12) (T := TX12) (N := 92) hx hb hts inlX12 hown hK hP 0 rfl rfl 86 (Nat.le_of_ble_eq_true rfl) w_6_1 rfl dX12_qPuts_1 ?_
  refine lv_aload_n hx hb dX12_qPuts_4 rfl (lv_at hl 0 rfl) ?_
  refine sk_get (v := .int (nI qp)) (C := RX12) (T := TX12) (N := 92) hx hb hts inlX12 hown hK hP 0 rfl rfl 87 (Nat.le_of_ble_eq_true rfl) w_6_2 rfl dX12_qPuts_5 ?_
  refine lv_lload_n hx hb dX12_qPuts_8 rfl (lv_at hl 1 rfl) ?_
  refine sk_lastE (k := qp) (ws' := fun f_1 => [ro_ mm 12 (mo g (nI ta) (nI pa) (nI pe) pd (nI pb) pp pf pg pn rt rn (nI cd) sn (nI il) tk am at_ aa mt_ 0 (-1) wt wy (nI it_) (nI rm) (nI ud) (nI nu) sd (nI qn) (nI qw) qo (nI qb) (nI qp) qa (nI qi) (nI oc)), ra_J (g 86) cJ 1700 f_1]) hx hb hK hP hD hS 1 1 rfl rfl (by omega) (by omega) (fun _ => rfl) dX12_qPuts_9 (fun f_1 H locs ef_2 hP hD hS => ?_)
  refine lv_aload_n hx hb dX12_qPuts_10 rfl (lv_at hl 0 rfl) ?_
  refine lv_dup hx hb dX12_qPuts_11 rfl ?_
  refine sk_get (v := .int (nI qp)) (C := RX12) (T := TX12) (N := 92) hx hb hts inlX12 hown hK hP 0 rfl rfl 87 (Nat.le_of_ble_eq_true rfl) w_6_2 rfl dX12_qPuts_12 ?_
  refine lv_iconst (v := 1) hx hb dX12_qPuts_15 ic_1 ?_
  refine lv_iadd hx hb dX12_qPuts_16 ?_
  refine sk_top (nI (qp + 1)) (nI_add qp 1) ?_
  refine sk_put (ws' := [ro_ mm 12 (mo g (nI ta) (nI pa) (nI pe) pd (nI pb) pp pf pg pn rt rn (nI cd) sn (nI il) tk am at_ aa mt_ 0 (-1) wt wy (nI it_) (nI rm) (nI ud) (nI nu) sd (nI qn) (nI qw) qo (nI qb) (nI (qp + 1)) qa (nI qi) (nI oc)), ra_J (g 86) cJ 1700 f_1]) (C := RX12) (T := TX12) (N := 92) (v := .int (nI (qp + 1))) hx hb hts inlX12 tyX12 tyX12_ok nmX12 hown hK hP hD hS 0 rfl rfl 87 (Nat.le_of_ble_eq_true rfl) w_6_2 rfl rfl rfl (Nat.le_of_ble_eq_true rfl) rfl dX12_qPuts_17 (fun H locs hP hD hS => ?_)
  exact sk_vret hx hb hr hlocks hK hP hD hS (⟨f_1, ef_2, rfl⟩) (Nat.le_of_ble_eq_true rfl) (Nat.le_of_ble_eq_true rfl) dX12_qPuts_20
set_option maxHeartbeats 4000000 in
set_option maxRecDepth 100000 in
theorem c_nm_qJoins (l : Launch) (D : va_G) (cI cJ cC cZ cS : ClassId) (mm : Nat) (g : Nat → Nat) (ta : Nat) (pa : Nat) (pe : Nat) (pd : Int32) (pb : Nat) (pp : Int32) (pf : Int32) (pg : Int32) (pn : Int32) (rt : Int32) (rn : Int32) (cd : Nat) (sn : Int32) (il : Nat) (tk : Int32) (am : Int32) (at_ : Int32) (aa : Int32) (mt_ : Int32) (wt : Int32) (wy : Int64) (it_ : Nat) (rm : Nat) (ud : Nat) (nu : Nat) (sd : Int64) (qn : Nat) (qw : Nat) (qo : Int32) (qb : Nat) (qp : Nat) (qa : Int64) (qi : Nat) (oc : Nat) (jop : Nat) (ql : Nat → Int64) (a1 : Int64) (b1 : Int64) (R1 : List Int64) (hc1 : 1 ≤ jop) (hc6 : jop ≤ 6) (hst : stkO ql (b1 :: a1 :: R1)) (hqp2 : qp = R1.length + 2) (hqp : qp ≤ 1700) : skM l yX12_qJoins cX12_qJoins 6 none 1 25 0 0 D (skT cI cJ cC cZ cS) [.ref mm, .int (nI jop)] [ro_ mm 12 (mo g (nI ta) (nI pa) (nI pe) pd (nI pb) pp pf pg pn rt rn (nI cd) sn (nI il) tk am at_ aa mt_ 0 (-1) wt wy (nI it_) (nI rm) (nI ud) (nI nu) sd (nI qn) (nI qw) qo (nI qb) (nI qp) qa (nI qi) (nI oc)), ra_J (g 86) cJ 1700 ql] (skV D (skT cI cJ cC cZ cS) (fun (u : va_W) => ∃ (ql2 : Nat → Int64), stkO ql2 (kcOp jop a1 b1 :: R1) ∧ u = [ro_ mm 12 (mo g (nI ta) (nI pa) (nI pe) pd (nI pb) pp pf pg pn rt rn (nI cd) sn (nI il) tk am at_ aa mt_ 0 (-1) wt wy (nI it_) (nI rm) (nI ud) (nI nu) sd (nI qn) (nI qw) qo (nI qb) (nI (qp - 2 + 1)) qa (nI qi) (nI oc)), ra_J (g 86) cJ 1700 ql2])) := by
  refine skM_of pf_X12_qJoins (Nat.le_of_ble_eq_true rfl) ?_
  intro p e s m below meth c A ls E hP hD hl
  refine skE_el E (fun hx hb hr hml hlocks hin hown hts hK hA => ?_)
  have hown : s.vm.findClass RX12 = some m.cls := hown
  have hS : va_S A s.heap s.heap [] := va_S.rf
  have hl : lv_has ls 6 [(0, .ref mm), (1, .int (nI jop))] := hl
  refine lv_aload_n hx hb dX12_qJoins_0 rfl (lv_at hl 0 rfl) ?_
  refine sk_get (v := .ref (g 86)) (C := RX12) (T := TX12) (N := 92) hx hb hts inlX12 hown hK hP 0 rfl rfl 86 (Nat.le_of_ble_eq_true rfl) w_6_1 rfl dX12_qJoins_1 ?_
  refine lv_aload_n hx hb dX12_qJoins_4 rfl (lv_at hl 0 rfl) ?_
  refine sk_get (v := .int (nI qp)) (C := RX12) (T := TX12) (N := 92) hx hb hts inlX12 hown hK hP 0 rfl rfl 87 (Nat.le_of_ble_eq_true rfl) w_6_2 rfl dX12_qJoins_5 ?_
  refine lv_iconst (v := 1) hx hb dX12_qJoins_8 ic_1 ?_
  refine lv_isub hx hb dX12_qJoins_9 ?_
  refine sk_top (nI (qp - 1)) (nsub qp 1 (by omega)) ?_
  refine va_lald hx hb hK.1 hP 1 1 rfl rfl (vin (qp - 1) 1700 (by omega) (Nat.le_of_ble_eq_true rfl)) dX12_qJoins_10 ?_
  refine sk_topl b1 (stk_b hst (by omega) (by omega)) ?_
  refine lv_lstore_n (lv' := [(2, .long b1), (0, .ref mm), (1, .int (nI jop))]) hx hb dX12_qJoins_11 rfl hl (by decide) rfl (fun ls hl => ?_)
  refine lv_aload_n hx hb dX12_qJoins_12 rfl (lv_at hl 1 rfl) ?_
  refine sk_get (v := .ref (g 86)) (C := RX12) (T := TX12) (N := 92) hx hb hts inlX12 hown hK hP 0 rfl rfl 86 (Nat.le_of_ble_eq_true rfl) w_6_1 rfl dX12_qJoins_13 ?_
  refine lv_aload_n hx hb dX12_qJoins_16 rfl (lv_at hl 1 rfl) ?_
  refine sk_get (v := .int (nI qp)) (C := RX12) (T := TX12) (N := 92) hx hb hts inlX12 hown hK hP 0 rfl rfl 87 (Nat.le_of_ble_eq_true rfl) w_6_2 rfl dX12_qJoins_17 ?_
  refine lv_iconst (v := 2) hx hb dX12_qJoins_20 ic_2 ?_
  refine lv_isub hx hb dX12_qJoins_21 ?_
  refine sk_top (nI (qp - 2)) (nsub qp 2 (by omega)) ?_
  refine va_lald hx hb hK.1 hP 1 1 rfl rfl (vin (qp - 2) 1700 (by omega) (Nat.le_of_ble_eq_true rfl)) dX12_qJoins_22 ?_
  refine sk_topl a1 (stk_a hst (by omega) (by omega)) ?_
  refine lv_lstore (lv' := [(4, .long a1), (2, .long b1), (0, .ref mm), (1, .int (nI jop))]) hx hb dX12_qJoins_23 hl (by decide) rfl (fun ls hl => ?_)
  refine lv_aload_n hx hb dX12_qJoins_25 rfl (lv_at hl 2 rfl) ?_
  refine lv_dup hx hb dX12_qJoins_26 rfl ?_
  refine sk_get (v := .int (nI qp)) (C := RX12) (T := TX12) (N := 92) hx hb hts inlX12 hown hK hP 0 rfl rfl 87 (Nat.le_of_ble_eq_true rfl) w_6_2 rfl dX12_qJoins_27 ?_
  refine lv_iconst (v := 2) hx hb dX12_qJoins_30 ic_2 ?_
  refine lv_isub hx hb dX12_qJoins_31 ?_
  refine sk_top (nI (qp - 2)) (nsub qp 2 (by omega)) ?_
  refine sk_put (ws' := [ro_ mm 12 (mo g (nI ta) (nI pa) (nI pe) pd (nI pb) pp pf pg pn rt rn (nI cd) sn (nI il) tk am at_ aa mt_ 0 (-1) wt wy (nI it_) (nI rm) (nI ud) (nI nu) sd (nI qn) (nI qw) qo (nI qb) (nI (qp - 2)) qa (nI qi) (nI oc)), ra_J (g 86) cJ 1700 ql]) (C := RX12) (T := TX12) (N := 92) (v := .int (nI (qp - 2))) hx hb hts inlX12 tyX12 tyX12_ok nmX12 hown hK hP hD hS 0 rfl rfl 87 (Nat.le_of_ble_eq_true rfl) w_6_2 rfl rfl rfl (Nat.le_of_ble_eq_true rfl) rfl dX12_qJoins_32 (fun H locs hP hD hS => ?_)
  refine lv_iload_n hx hb dX12_qJoins_35 rfl (lv_at hl 3 rfl) ?_
  by_cases g_1 : nI jop = 1
  · refine lv_tableIn (off := 56) (tgt := 92) hx hb dX12_qJoins_36 (by rw [g_1]; decide) (by rw [g_1]; decide) (by rw [g_1]; rfl) (by decide) ?_
    refine lv_aload_n hx hb dX12_qJoins_92 rfl (lv_at hl 2 rfl) ?_
    refine lv_lload hx hb dX12_qJoins_93 (lv_at hl 0 rfl) ?_
    refine lv_lload_n hx hb dX12_qJoins_95 rfl (lv_at hl 1 rfl) ?_
    refine lv_ladd hx hb dX12_qJoins_96 ?_
    refine sk_Sl (n := 1) (rest := [.ref mm]) (wr := [ro_ mm 12 (mo g (nI ta) (nI pa) (nI pe) pd (nI pb) pp pf pg pn rt rn (nI cd) sn (nI il) tk am at_ aa mt_ 0 (-1) wt wy (nI it_) (nI rm) (nI ud) (nI nu) sd (nI qn) (nI qw) qo (nI qb) (nI (qp - 2)) qa (nI qi) (nI oc)), ra_J (g 86) cJ 1700 ql]) ⟨hx, hb, hml, hown, hts⟩ hl.1 (c_nm_qClip l D cI cJ cC cZ cS (a1 + b1)) w_7_160 w_7_161 w_1_14 w_7_162 hd_X12_qClip_1 ⟨⟨(Nat.le_of_ble_eq_true rfl), (Nat.le_of_ble_eq_true rfl)⟩, (Nat.le_of_ble_eq_true rfl), (Nat.le_of_ble_eq_true rfl)⟩ hK hP hD hS hA [] [0, 1] rfl rfl (by decide +kernel) (by decide +kernel) (by decide +kernel) rfl rfl (Nat.le_of_ble_eq_true rfl) dX12_qJoins_97 (fun r_2 u H locs hw hP hD hS => ?_)
    obtain ⟨hr_3, rfl⟩ := hw
    refine o_re (ws' := [ro_ mm 12 (mo g (nI ta) (nI pa) (nI pe) pd (nI pb) pp pf pg pn rt rn (nI cd) sn (nI il) tk am at_ aa mt_ 0 (-1) wt wy (nI it_) (nI rm) (nI ud) (nI nu) sd (nI qn) (nI qw) qo (nI qb) (nI (qp - 2)) qa (nI qi) (nI oc)), ra_J (g 86) cJ 1700 ql]) hP hD rfl (fun hP hD => ?_)
    subst hr_3
    refine sk_Vv (q0 := 0) (n := 1) (rest := []) (wr := fmR om_2_3 _) ⟨hx, hb, hml, hown, hts⟩ hl.1 (c_nm_qPuts l D cI cJ cC cZ cS mm g ta pa pe pd pb pp pf pg pn rt rn cd sn il tk am at_ aa mt_ wt wy it_ rm ud nu sd qn qw qo qb (qp - 2) qa qi oc (kcClip (a1 + b1)) ql (by omega)) w_7_139 w_7_141 w_0_76 w_1_14 w_7_142 hd_X12_qPuts_1 ⟨⟨(Nat.le_of_ble_eq_true rfl), (Nat.le_of_ble_eq_true rfl)⟩, (Nat.le_of_ble_eq_true rfl), (Nat.le_of_ble_eq_true rfl)⟩ hK hP hD hS hA (fmT om_2_3 0) (fmF om_2_3 0) (fm_C1 rfl rfl) (fm_R rfl rfl) (fm_nT om_2_3 0) (fm_nF om_2_3 0) (fm_di om_2_3 0) rfl rfl rfl rfl (Nat.le_of_ble_eq_true rfl) dX12_qJoins_100 (fun u H locs hw hP hD hS => ?_)
    refine exE hw (fun ql2_4 hw1 => anE hw1 (fun hql_5 eu_6 => ?_))
    clear hw hw1
    refine o_mgE (ws' := [ro_ mm 12 (mo g (nI ta) (nI pa) (nI pe) pd (nI pb) pp pf pg pn rt rn (nI cd) sn (nI il) tk am at_ aa mt_ 0 (-1) wt wy (nI it_) (nI rm) (nI ud) (nI nu) sd (nI qn) (nI qw) qo (nI qb) (nI ((qp - 2) + 1)) qa (nI qi) (nI oc)), ra_J (g 86) cJ 1700 ql2_4]) eu_6 hP hD rfl (fun hP hD => ?_)
    refine lv_goto (tgt := 273) hx hb dX12_qJoins_103 (by decide) ?_
    exact sk_vret hx hb hr hlocks hK hP hD hS (⟨ql2_4, stk_push hst.2.2 (by omega) hql_5 (by obtain rfl := kjo_c (k := 1) g_1 hc6 (by decide); exact kop_1 (c := 1) (by decide) (by decide)), rfl⟩) (Nat.le_of_ble_eq_true rfl) (Nat.le_of_ble_eq_true rfl) dX12_qJoins_273
  by_cases g_7 : nI jop = 2
  · refine lv_tableIn (off := 70) (tgt := 106) hx hb dX12_qJoins_36 (by rw [g_7]; decide) (by rw [g_7]; decide) (by rw [g_7]; rfl) (by decide) ?_
    refine lv_aload_n hx hb dX12_qJoins_106 rfl (lv_at hl 2 rfl) ?_
    refine lv_lload hx hb dX12_qJoins_107 (lv_at hl 0 rfl) ?_
    refine lv_lload_n hx hb dX12_qJoins_109 rfl (lv_at hl 1 rfl) ?_
    refine lv_lsub hx hb dX12_qJoins_110 ?_
    refine sk_Sl (n := 1) (rest := [.ref mm]) (wr := [ro_ mm 12 (mo g (nI ta) (nI pa) (nI pe) pd (nI pb) pp pf pg pn rt rn (nI cd) sn (nI il) tk am at_ aa mt_ 0 (-1) wt wy (nI it_) (nI rm) (nI ud) (nI nu) sd (nI qn) (nI qw) qo (nI qb) (nI (qp - 2)) qa (nI qi) (nI oc)), ra_J (g 86) cJ 1700 ql]) ⟨hx, hb, hml, hown, hts⟩ hl.1 (c_nm_qClip l D cI cJ cC cZ cS (a1 - b1)) w_7_160 w_7_161 w_1_14 w_7_162 hd_X12_qClip_1 ⟨⟨(Nat.le_of_ble_eq_true rfl), (Nat.le_of_ble_eq_true rfl)⟩, (Nat.le_of_ble_eq_true rfl), (Nat.le_of_ble_eq_true rfl)⟩ hK hP hD hS hA [] [0, 1] rfl rfl (by decide +kernel) (by decide +kernel) (by decide +kernel) rfl rfl (Nat.le_of_ble_eq_true rfl) dX12_qJoins_111 (fun r_8 u H locs hw hP hD hS => ?_)
    obtain ⟨hr_9, rfl⟩ := hw
    refine o_re (ws' := [ro_ mm 12 (mo g (nI ta) (nI pa) (nI pe) pd (nI pb) pp pf pg pn rt rn (nI cd) sn (nI il) tk am at_ aa mt_ 0 (-1) wt wy (nI it_) (nI rm) (nI ud) (nI nu) sd (nI qn) (nI qw) qo (nI qb) (nI (qp - 2)) qa (nI qi) (nI oc)), ra_J (g 86) cJ 1700 ql]) hP hD rfl (fun hP hD => ?_)
    subst hr_9
    refine sk_Vv (q0 := 0) (n := 1) (rest := []) (wr := fmR om_2_3 _) ⟨hx, hb, hml, hown, hts⟩ hl.1 (c_nm_qPuts l D cI cJ cC cZ cS mm g ta pa pe pd pb pp pf pg pn rt rn cd sn il tk am at_ aa mt_ wt wy it_ rm ud nu sd qn qw qo qb (qp - 2) qa qi oc (kcClip (a1 - b1)) ql (by omega)) w_7_139 w_7_141 w_0_76 w_1_14 w_7_142 hd_X12_qPuts_1 ⟨⟨(Nat.le_of_ble_eq_true rfl), (Nat.le_of_ble_eq_true rfl)⟩, (Nat.le_of_ble_eq_true rfl), (Nat.le_of_ble_eq_true rfl)⟩ hK hP hD hS hA (fmT om_2_3 0) (fmF om_2_3 0) (fm_C1 rfl rfl) (fm_R rfl rfl) (fm_nT om_2_3 0) (fm_nF om_2_3 0) (fm_di om_2_3 0) rfl rfl rfl rfl (Nat.le_of_ble_eq_true rfl) dX12_qJoins_114 (fun u H locs hw hP hD hS => ?_)
    refine exE hw (fun ql2_10 hw1 => anE hw1 (fun hql_11 eu_12 => ?_))
    clear hw hw1
    refine o_mgE (ws' := [ro_ mm 12 (mo g (nI ta) (nI pa) (nI pe) pd (nI pb) pp pf pg pn rt rn (nI cd) sn (nI il) tk am at_ aa mt_ 0 (-1) wt wy (nI it_) (nI rm) (nI ud) (nI nu) sd (nI qn) (nI qw) qo (nI qb) (nI ((qp - 2) + 1)) qa (nI qi) (nI oc)), ra_J (g 86) cJ 1700 ql2_10]) eu_12 hP hD rfl (fun hP hD => ?_)
    refine lv_goto (tgt := 273) hx hb dX12_qJoins_117 (by decide) ?_
    exact sk_vret hx hb hr hlocks hK hP hD hS (⟨ql2_10, stk_push hst.2.2 (by omega) hql_11 (by obtain rfl := kjo_c (k := 2) g_7 hc6 (by decide); exact kop_2 (c := 2) (by decide) (by decide)), rfl⟩) (Nat.le_of_ble_eq_true rfl) (Nat.le_of_ble_eq_true rfl) dX12_qJoins_273
  by_cases g_13 : nI jop = 3
  · refine lv_tableIn (off := 84) (tgt := 120) hx hb dX12_qJoins_36 (by rw [g_13]; decide) (by rw [g_13]; decide) (by rw [g_13]; rfl) (by decide) ?_
    refine lv_aload_n hx hb dX12_qJoins_120 rfl (lv_at hl 2 rfl) ?_
    refine lv_lload hx hb dX12_qJoins_121 (lv_at hl 0 rfl) ?_
    refine lv_lload_n hx hb dX12_qJoins_123 rfl (lv_at hl 1 rfl) ?_
    refine lv_lmul hx hb dX12_qJoins_124 ?_
    refine sk_Sl (n := 1) (rest := [.ref mm]) (wr := [ro_ mm 12 (mo g (nI ta) (nI pa) (nI pe) pd (nI pb) pp pf pg pn rt rn (nI cd) sn (nI il) tk am at_ aa mt_ 0 (-1) wt wy (nI it_) (nI rm) (nI ud) (nI nu) sd (nI qn) (nI qw) qo (nI qb) (nI (qp - 2)) qa (nI qi) (nI oc)), ra_J (g 86) cJ 1700 ql]) ⟨hx, hb, hml, hown, hts⟩ hl.1 (c_nm_qClip l D cI cJ cC cZ cS (a1 * b1)) w_7_160 w_7_161 w_1_14 w_7_162 hd_X12_qClip_1 ⟨⟨(Nat.le_of_ble_eq_true rfl), (Nat.le_of_ble_eq_true rfl)⟩, (Nat.le_of_ble_eq_true rfl), (Nat.le_of_ble_eq_true rfl)⟩ hK hP hD hS hA [] [0, 1] rfl rfl (by decide +kernel) (by decide +kernel) (by decide +kernel) rfl rfl (Nat.le_of_ble_eq_true rfl) dX12_qJoins_125 (fun r_14 u H locs hw hP hD hS => ?_)
    obtain ⟨hr_15, rfl⟩ := hw
    refine o_re (ws' := [ro_ mm 12 (mo g (nI ta) (nI pa) (nI pe) pd (nI pb) pp pf pg pn rt rn (nI cd) sn (nI il) tk am at_ aa mt_ 0 (-1) wt wy (nI it_) (nI rm) (nI ud) (nI nu) sd (nI qn) (nI qw) qo (nI qb) (nI (qp - 2)) qa (nI qi) (nI oc)), ra_J (g 86) cJ 1700 ql]) hP hD rfl (fun hP hD => ?_)
    subst hr_15
    refine sk_Vv (q0 := 0) (n := 1) (rest := []) (wr := fmR om_2_3 _) ⟨hx, hb, hml, hown, hts⟩ hl.1 (c_nm_qPuts l D cI cJ cC cZ cS mm g ta pa pe pd pb pp pf pg pn rt rn cd sn il tk am at_ aa mt_ wt wy it_ rm ud nu sd qn qw qo qb (qp - 2) qa qi oc (kcClip (a1 * b1)) ql (by omega)) w_7_139 w_7_141 w_0_76 w_1_14 w_7_142 hd_X12_qPuts_1 ⟨⟨(Nat.le_of_ble_eq_true rfl), (Nat.le_of_ble_eq_true rfl)⟩, (Nat.le_of_ble_eq_true rfl), (Nat.le_of_ble_eq_true rfl)⟩ hK hP hD hS hA (fmT om_2_3 0) (fmF om_2_3 0) (fm_C1 rfl rfl) (fm_R rfl rfl) (fm_nT om_2_3 0) (fm_nF om_2_3 0) (fm_di om_2_3 0) rfl rfl rfl rfl (Nat.le_of_ble_eq_true rfl) dX12_qJoins_128 (fun u H locs hw hP hD hS => ?_)
    refine exE hw (fun ql2_16 hw1 => anE hw1 (fun hql_17 eu_18 => ?_))
    clear hw hw1
    refine o_mgE (ws' := [ro_ mm 12 (mo g (nI ta) (nI pa) (nI pe) pd (nI pb) pp pf pg pn rt rn (nI cd) sn (nI il) tk am at_ aa mt_ 0 (-1) wt wy (nI it_) (nI rm) (nI ud) (nI nu) sd (nI qn) (nI qw) qo (nI qb) (nI ((qp - 2) + 1)) qa (nI qi) (nI oc)), ra_J (g 86) cJ 1700 ql2_16]) eu_18 hP hD rfl (fun hP hD => ?_)
    refine lv_goto (tgt := 273) hx hb dX12_qJoins_131 (by decide) ?_
    exact sk_vret hx hb hr hlocks hK hP hD hS (⟨ql2_16, stk_push hst.2.2 (by omega) hql_17 (by obtain rfl := kjo_c (k := 3) g_13 hc6 (by decide); exact kop_3 (c := 3) (by decide) (by decide)), rfl⟩) (Nat.le_of_ble_eq_true rfl) (Nat.le_of_ble_eq_true rfl) dX12_qJoins_273
  by_cases g_19 : nI jop = 4
  · refine lv_tableIn (off := 98) (tgt := 134) hx hb dX12_qJoins_36 (by rw [g_19]; decide) (by rw [g_19]; decide) (by rw [g_19]; rfl) (by decide) ?_
    refine lv_aload_n hx hb dX12_qJoins_134 rfl (lv_at hl 2 rfl) ?_
    refine lv_lload hx hb dX12_qJoins_135 (lv_at hl 0 rfl) ?_
    refine lv_lload_n hx hb dX12_qJoins_137 rfl (lv_at hl 1 rfl) ?_
    refine sk_Sl (n := 2) (rest := [.ref mm]) (wr := [ro_ mm 12 (mo g (nI ta) (nI pa) (nI pe) pd (nI pb) pp pf pg pn rt rn (nI cd) sn (nI il) tk am at_ aa mt_ 0 (-1) wt wy (nI it_) (nI rm) (nI ud) (nI nu) sd (nI qn) (nI qw) qo (nI qb) (nI (qp - 2)) qa (nI qi) (nI oc)), ra_J (g 86) cJ 1700 ql]) ⟨hx, hb, hml, hown, hts⟩ hl.1 (c_nm_qFloor l D cI cJ cC cZ cS a1 b1) w_7_165 w_7_166 w_1_14 w_7_167 hd_X12_qFloor_2 ⟨⟨(Nat.le_of_ble_eq_true rfl), (Nat.le_of_ble_eq_true rfl)⟩, (Nat.le_of_ble_eq_true rfl), (Nat.le_of_ble_eq_true rfl)⟩ hK hP hD hS hA [] [0, 1] rfl rfl (by decide +kernel) (by decide +kernel) (by decide +kernel) rfl rfl (Nat.le_of_ble_eq_true rfl) dX12_qJoins_138 (fun r_20 u H locs hw hP hD hS => ?_)
    obtain ⟨hr_21, rfl⟩ := hw
    refine o_re (ws' := [ro_ mm 12 (mo g (nI ta) (nI pa) (nI pe) pd (nI pb) pp pf pg pn rt rn (nI cd) sn (nI il) tk am at_ aa mt_ 0 (-1) wt wy (nI it_) (nI rm) (nI ud) (nI nu) sd (nI qn) (nI qw) qo (nI qb) (nI (qp - 2)) qa (nI qi) (nI oc)), ra_J (g 86) cJ 1700 ql]) hP hD rfl (fun hP hD => ?_)
    subst hr_21
    refine sk_Vv (q0 := 0) (n := 1) (rest := []) (wr := fmR om_2_3 _) ⟨hx, hb, hml, hown, hts⟩ hl.1 (c_nm_qPuts l D cI cJ cC cZ cS mm g ta pa pe pd pb pp pf pg pn rt rn cd sn il tk am at_ aa mt_ wt wy it_ rm ud nu sd qn qw qo qb (qp - 2) qa qi oc (kcFl a1 b1) ql (by omega)) w_7_139 w_7_141 w_0_76 w_1_14 w_7_142 hd_X12_qPuts_1 ⟨⟨(Nat.le_of_ble_eq_true rfl), (Nat.le_of_ble_eq_true rfl)⟩, (Nat.le_of_ble_eq_true rfl), (Nat.le_of_ble_eq_true rfl)⟩ hK hP hD hS hA (fmT om_2_3 0) (fmF om_2_3 0) (fm_C1 rfl rfl) (fm_R rfl rfl) (fm_nT om_2_3 0) (fm_nF om_2_3 0) (fm_di om_2_3 0) rfl rfl rfl rfl (Nat.le_of_ble_eq_true rfl) dX12_qJoins_141 (fun u H locs hw hP hD hS => ?_)
    refine exE hw (fun ql2_22 hw1 => anE hw1 (fun hql_23 eu_24 => ?_))
    clear hw hw1
    refine o_mgE (ws' := [ro_ mm 12 (mo g (nI ta) (nI pa) (nI pe) pd (nI pb) pp pf pg pn rt rn (nI cd) sn (nI il) tk am at_ aa mt_ 0 (-1) wt wy (nI it_) (nI rm) (nI ud) (nI nu) sd (nI qn) (nI qw) qo (nI qb) (nI ((qp - 2) + 1)) qa (nI qi) (nI oc)), ra_J (g 86) cJ 1700 ql2_22]) eu_24 hP hD rfl (fun hP hD => ?_)
    refine lv_goto (tgt := 273) hx hb dX12_qJoins_144 (by decide) ?_
    exact sk_vret hx hb hr hlocks hK hP hD hS (⟨ql2_22, stk_push hst.2.2 (by omega) hql_23 (by obtain rfl := kjo_c (k := 4) g_19 hc6 (by decide); exact kop_4 (c := 4) (by decide) (by decide) rfl), rfl⟩) (Nat.le_of_ble_eq_true rfl) (Nat.le_of_ble_eq_true rfl) dX12_qJoins_273
  by_cases g_25 : nI jop = 5
  · refine lv_tableIn (off := 111) (tgt := 147) hx hb dX12_qJoins_36 (by rw [g_25]; decide) (by rw [g_25]; decide) (by rw [g_25]; rfl) (by decide) ?_
    refine lv_aload_n hx hb dX12_qJoins_147 rfl (lv_at hl 2 rfl) ?_
    refine lv_lload hx hb dX12_qJoins_148 (lv_at hl 0 rfl) ?_
    refine lv_lload_n hx hb dX12_qJoins_150 rfl (lv_at hl 1 rfl) ?_
    refine W.lcmp hx hb dX12_qJoins_151 ?_
    refine lv_if_ge (tgt := 160) hx hb dX12_qJoins_152 (by decide) (fun c_26 => ?_) (fun c_26 => ?_)
    · skip
      refine lv_lload_n hx hb dX12_qJoins_160 rfl (lv_at hl 1 rfl) ?_
      refine sk_Vv (q0 := 0) (n := 1) (rest := []) (wr := fmR om_2_3 _) ⟨hx, hb, hml, hown, hts⟩ hl.1 (c_nm_qPuts l D cI cJ cC cZ cS mm g ta pa pe pd pb pp pf pg pn rt rn cd sn il tk am at_ aa mt_ wt wy it_ rm ud nu sd qn qw qo qb (qp - 2) qa qi oc b1 ql (by omega)) w_7_139 w_7_141 w_0_76 w_1_14 w_7_142 hd_X12_qPuts_1 ⟨⟨(Nat.le_of_ble_eq_true rfl), (Nat.le_of_ble_eq_true rfl)⟩, (Nat.le_of_ble_eq_true rfl), (Nat.le_of_ble_eq_true rfl)⟩ hK hP hD hS hA (fmT om_2_3 0) (fmF om_2_3 0) (fm_C1 rfl rfl) (fm_R rfl rfl) (fm_nT om_2_3 0) (fm_nF om_2_3 0) (fm_di om_2_3 0) rfl rfl rfl rfl (Nat.le_of_ble_eq_true rfl) dX12_qJoins_161 (fun u H locs hw hP hD hS => ?_)
      refine exE hw (fun ql2_27 hw1 => anE hw1 (fun hql_28 eu_29 => ?_))
      clear hw hw1
      refine o_mgE (ws' := [ro_ mm 12 (mo g (nI ta) (nI pa) (nI pe) pd (nI pb) pp pf pg pn rt rn (nI cd) sn (nI il) tk am at_ aa mt_ 0 (-1) wt wy (nI it_) (nI rm) (nI ud) (nI nu) sd (nI qn) (nI qw) qo (nI qb) (nI ((qp - 2) + 1)) qa (nI qi) (nI oc)), ra_J (g 86) cJ 1700 ql2_27]) eu_29 hP hD rfl (fun hP hD => ?_)
      refine lv_goto (tgt := 273) hx hb dX12_qJoins_164 (by decide) ?_
      exact sk_vret hx hb hr hlocks hK hP hD hS (⟨ql2_27, stk_push hst.2.2 (by omega) hql_28 (by obtain rfl := kjo_c (k := 5) g_25 hc6 (by decide); exact kjo_min c_26), rfl⟩) (Nat.le_of_ble_eq_true rfl) (Nat.le_of_ble_eq_true rfl) dX12_qJoins_273
    · skip
      refine lv_lload hx hb dX12_qJoins_155 (lv_at hl 0 rfl) ?_
      refine lv_goto (tgt := 161) hx hb dX12_qJoins_157 (by decide) ?_
      refine sk_Vv (q0 := 0) (n := 1) (rest := []) (wr := fmR om_2_3 _) ⟨hx, hb, hml, hown, hts⟩ hl.1 (c_nm_qPuts l D cI cJ cC cZ cS mm g ta pa pe pd pb pp pf pg pn rt rn cd sn il tk am at_ aa mt_ wt wy it_ rm ud nu sd qn qw qo qb (qp - 2) qa qi oc a1 ql (by omega)) w_7_139 w_7_141 w_0_76 w_1_14 w_7_142 hd_X12_qPuts_1 ⟨⟨(Nat.le_of_ble_eq_true rfl), (Nat.le_of_ble_eq_true rfl)⟩, (Nat.le_of_ble_eq_true rfl), (Nat.le_of_ble_eq_true rfl)⟩ hK hP hD hS hA (fmT om_2_3 0) (fmF om_2_3 0) (fm_C1 rfl rfl) (fm_R rfl rfl) (fm_nT om_2_3 0) (fm_nF om_2_3 0) (fm_di om_2_3 0) rfl rfl rfl rfl (Nat.le_of_ble_eq_true rfl) dX12_qJoins_161 (fun u H locs hw hP hD hS => ?_)
      refine exE hw (fun ql2_30 hw1 => anE hw1 (fun hql_31 eu_32 => ?_))
      clear hw hw1
      refine o_mgE (ws' := [ro_ mm 12 (mo g (nI ta) (nI pa) (nI pe) pd (nI pb) pp pf pg pn rt rn (nI cd) sn (nI il) tk am at_ aa mt_ 0 (-1) wt wy (nI it_) (nI rm) (nI ud) (nI nu) sd (nI qn) (nI qw) qo (nI qb) (nI ((qp - 2) + 1)) qa (nI qi) (nI oc)), ra_J (g 86) cJ 1700 ql2_30]) eu_32 hP hD rfl (fun hP hD => ?_)
      refine lv_goto (tgt := 273) hx hb dX12_qJoins_164 (by decide) ?_
      exact sk_vret hx hb hr hlocks hK hP hD hS (⟨ql2_30, stk_push hst.2.2 (by omega) hql_31 (by obtain rfl := kjo_c (k := 5) g_25 hc6 (by decide); exact kjo_min2 c_26), rfl⟩) (Nat.le_of_ble_eq_true rfl) (Nat.le_of_ble_eq_true rfl) dX12_qJoins_273
  by_cases g_33 : nI jop = 6
  · refine lv_tableIn (off := 131) (tgt := 167) hx hb dX12_qJoins_36 (by rw [g_33]; decide) (by rw [g_33]; decide) (by rw [g_33]; rfl) (by decide) ?_
    refine lv_aload_n hx hb dX12_qJoins_167 rfl (lv_at hl 2 rfl) ?_
    refine lv_lload hx hb dX12_qJoins_168 (lv_at hl 0 rfl) ?_
    refine lv_lload_n hx hb dX12_qJoins_170 rfl (lv_at hl 1 rfl) ?_
    refine W.lcmp hx hb dX12_qJoins_171 ?_
    refine lv_if_le (tgt := 180) hx hb dX12_qJoins_172 (by decide) (fun c_34 => ?_) (fun c_34 => ?_)
    · skip
      refine lv_lload_n hx hb dX12_qJoins_180 rfl (lv_at hl 1 rfl) ?_
      refine sk_Vv (q0 := 0) (n := 1) (rest := []) (wr := fmR om_2_3 _) ⟨hx, hb, hml, hown, hts⟩ hl.1 (c_nm_qPuts l D cI cJ cC cZ cS mm g ta pa pe pd pb pp pf pg pn rt rn cd sn il tk am at_ aa mt_ wt wy it_ rm ud nu sd qn qw qo qb (qp - 2) qa qi oc b1 ql (by omega)) w_7_139 w_7_141 w_0_76 w_1_14 w_7_142 hd_X12_qPuts_1 ⟨⟨(Nat.le_of_ble_eq_true rfl), (Nat.le_of_ble_eq_true rfl)⟩, (Nat.le_of_ble_eq_true rfl), (Nat.le_of_ble_eq_true rfl)⟩ hK hP hD hS hA (fmT om_2_3 0) (fmF om_2_3 0) (fm_C1 rfl rfl) (fm_R rfl rfl) (fm_nT om_2_3 0) (fm_nF om_2_3 0) (fm_di om_2_3 0) rfl rfl rfl rfl (Nat.le_of_ble_eq_true rfl) dX12_qJoins_181 (fun u H locs hw hP hD hS => ?_)
      refine exE hw (fun ql2_35 hw1 => anE hw1 (fun hql_36 eu_37 => ?_))
      clear hw hw1
      refine o_mgE (ws' := [ro_ mm 12 (mo g (nI ta) (nI pa) (nI pe) pd (nI pb) pp pf pg pn rt rn (nI cd) sn (nI il) tk am at_ aa mt_ 0 (-1) wt wy (nI it_) (nI rm) (nI ud) (nI nu) sd (nI qn) (nI qw) qo (nI qb) (nI ((qp - 2) + 1)) qa (nI qi) (nI oc)), ra_J (g 86) cJ 1700 ql2_35]) eu_37 hP hD rfl (fun hP hD => ?_)
      refine lv_goto (tgt := 273) hx hb dX12_qJoins_184 (by decide) ?_
      exact sk_vret hx hb hr hlocks hK hP hD hS (⟨ql2_35, stk_push hst.2.2 (by omega) hql_36 (by obtain rfl := kjo_c (k := 6) g_33 hc6 (by decide); exact kjo_max c_34), rfl⟩) (Nat.le_of_ble_eq_true rfl) (Nat.le_of_ble_eq_true rfl) dX12_qJoins_273
    · skip
      refine lv_lload hx hb dX12_qJoins_175 (lv_at hl 0 rfl) ?_
      refine lv_goto (tgt := 181) hx hb dX12_qJoins_177 (by decide) ?_
      refine sk_Vv (q0 := 0) (n := 1) (rest := []) (wr := fmR om_2_3 _) ⟨hx, hb, hml, hown, hts⟩ hl.1 (c_nm_qPuts l D cI cJ cC cZ cS mm g ta pa pe pd pb pp pf pg pn rt rn cd sn il tk am at_ aa mt_ wt wy it_ rm ud nu sd qn qw qo qb (qp - 2) qa qi oc a1 ql (by omega)) w_7_139 w_7_141 w_0_76 w_1_14 w_7_142 hd_X12_qPuts_1 ⟨⟨(Nat.le_of_ble_eq_true rfl), (Nat.le_of_ble_eq_true rfl)⟩, (Nat.le_of_ble_eq_true rfl), (Nat.le_of_ble_eq_true rfl)⟩ hK hP hD hS hA (fmT om_2_3 0) (fmF om_2_3 0) (fm_C1 rfl rfl) (fm_R rfl rfl) (fm_nT om_2_3 0) (fm_nF om_2_3 0) (fm_di om_2_3 0) rfl rfl rfl rfl (Nat.le_of_ble_eq_true rfl) dX12_qJoins_181 (fun u H locs hw hP hD hS => ?_)
      refine exE hw (fun ql2_38 hw1 => anE hw1 (fun hql_39 eu_40 => ?_))
      clear hw hw1
      refine o_mgE (ws' := [ro_ mm 12 (mo g (nI ta) (nI pa) (nI pe) pd (nI pb) pp pf pg pn rt rn (nI cd) sn (nI il) tk am at_ aa mt_ 0 (-1) wt wy (nI it_) (nI rm) (nI ud) (nI nu) sd (nI qn) (nI qw) qo (nI qb) (nI ((qp - 2) + 1)) qa (nI qi) (nI oc)), ra_J (g 86) cJ 1700 ql2_38]) eu_40 hP hD rfl (fun hP hD => ?_)
      refine lv_goto (tgt := 273) hx hb dX12_qJoins_184 (by decide) ?_
      exact sk_vret hx hb hr hlocks hK hP hD hS (⟨ql2_38, stk_push hst.2.2 (by omega) hql_39 (by obtain rfl := kjo_c (k := 6) g_33 hc6 (by decide); exact kjo_max2 c_34), rfl⟩) (Nat.le_of_ble_eq_true rfl) (Nat.le_of_ble_eq_true rfl) dX12_qJoins_273
  by_cases g_41 : nI jop = 7
  · refine lv_tableIn (off := 151) (tgt := 187) hx hb dX12_qJoins_36 (by rw [g_41]; decide) (by rw [g_41]; decide) (by rw [g_41]; rfl) (by decide) ?_
    refine lv_aload_n hx hb dX12_qJoins_187 rfl (lv_at hl 2 rfl) ?_
    refine lv_lload hx hb dX12_qJoins_188 (lv_at hl 0 rfl) ?_
    refine lv_lload_n hx hb dX12_qJoins_190 rfl (lv_at hl 1 rfl) ?_
    refine W.lcmp hx hb dX12_qJoins_191 ?_
    refine lv_if_ge (tgt := 199) hx hb dX12_qJoins_192 (by decide) (fun c_42 => ?_) (fun c_42 => ?_)
    · skip
      refine lv_lconst (v := 0) hx hb dX12_qJoins_199 (by decide) ?_
      refine sk_Vv (q0 := 0) (n := 1) (rest := []) (wr := fmR om_2_3 _) ⟨hx, hb, hml, hown, hts⟩ hl.1 (c_nm_qPuts l D cI cJ cC cZ cS mm g ta pa pe pd pb pp pf pg pn rt rn cd sn il tk am at_ aa mt_ wt wy it_ rm ud nu sd qn qw qo qb (qp - 2) qa qi oc 0 ql (by omega)) w_7_139 w_7_141 w_0_76 w_1_14 w_7_142 hd_X12_qPuts_1 ⟨⟨(Nat.le_of_ble_eq_true rfl), (Nat.le_of_ble_eq_true rfl)⟩, (Nat.le_of_ble_eq_true rfl), (Nat.le_of_ble_eq_true rfl)⟩ hK hP hD hS hA (fmT om_2_3 0) (fmF om_2_3 0) (fm_C1 rfl rfl) (fm_R rfl rfl) (fm_nT om_2_3 0) (fm_nF om_2_3 0) (fm_di om_2_3 0) rfl rfl rfl rfl (Nat.le_of_ble_eq_true rfl) dX12_qJoins_200 (fun u H locs hw hP hD hS => ?_)
      refine exE hw (fun ql2_43 hw1 => anE hw1 (fun hql_44 eu_45 => ?_))
      clear hw hw1
      refine o_mgE (ws' := [ro_ mm 12 (mo g (nI ta) (nI pa) (nI pe) pd (nI pb) pp pf pg pn rt rn (nI cd) sn (nI il) tk am at_ aa mt_ 0 (-1) wt wy (nI it_) (nI rm) (nI ud) (nI nu) sd (nI qn) (nI qw) qo (nI qb) (nI ((qp - 2) + 1)) qa (nI qi) (nI oc)), ra_J (g 86) cJ 1700 ql2_43]) eu_45 hP hD rfl (fun hP hD => ?_)
      refine lv_goto (tgt := 273) hx hb dX12_qJoins_203 (by decide) ?_
      exact sk_vret hx hb hr hlocks hK hP hD hS (⟨ql2_43, (show _ from absurd (kjo_c (k := 7) g_41 hc6 (by decide)) (by omega)), rfl⟩) (Nat.le_of_ble_eq_true rfl) (Nat.le_of_ble_eq_true rfl) dX12_qJoins_273
    · skip
      refine lv_lconst (v := 1) hx hb dX12_qJoins_195 (by decide) ?_
      refine lv_goto (tgt := 200) hx hb dX12_qJoins_196 (by decide) ?_
      refine sk_Vv (q0 := 0) (n := 1) (rest := []) (wr := fmR om_2_3 _) ⟨hx, hb, hml, hown, hts⟩ hl.1 (c_nm_qPuts l D cI cJ cC cZ cS mm g ta pa pe pd pb pp pf pg pn rt rn cd sn il tk am at_ aa mt_ wt wy it_ rm ud nu sd qn qw qo qb (qp - 2) qa qi oc 1 ql (by omega)) w_7_139 w_7_141 w_0_76 w_1_14 w_7_142 hd_X12_qPuts_1 ⟨⟨(Nat.le_of_ble_eq_true rfl), (Nat.le_of_ble_eq_true rfl)⟩, (Nat.le_of_ble_eq_true rfl), (Nat.le_of_ble_eq_true rfl)⟩ hK hP hD hS hA (fmT om_2_3 0) (fmF om_2_3 0) (fm_C1 rfl rfl) (fm_R rfl rfl) (fm_nT om_2_3 0) (fm_nF om_2_3 0) (fm_di om_2_3 0) rfl rfl rfl rfl (Nat.le_of_ble_eq_true rfl) dX12_qJoins_200 (fun u H locs hw hP hD hS => ?_)
      refine exE hw (fun ql2_46 hw1 => anE hw1 (fun hql_47 eu_48 => ?_))
      clear hw hw1
      refine o_mgE (ws' := [ro_ mm 12 (mo g (nI ta) (nI pa) (nI pe) pd (nI pb) pp pf pg pn rt rn (nI cd) sn (nI il) tk am at_ aa mt_ 0 (-1) wt wy (nI it_) (nI rm) (nI ud) (nI nu) sd (nI qn) (nI qw) qo (nI qb) (nI ((qp - 2) + 1)) qa (nI qi) (nI oc)), ra_J (g 86) cJ 1700 ql2_46]) eu_48 hP hD rfl (fun hP hD => ?_)
      refine lv_goto (tgt := 273) hx hb dX12_qJoins_203 (by decide) ?_
      exact sk_vret hx hb hr hlocks hK hP hD hS (⟨ql2_46, (show _ from absurd (kjo_c (k := 7) g_41 hc6 (by decide)) (by omega)), rfl⟩) (Nat.le_of_ble_eq_true rfl) (Nat.le_of_ble_eq_true rfl) dX12_qJoins_273
  by_cases g_49 : nI jop = 8
  · refine lv_tableIn (off := 170) (tgt := 206) hx hb dX12_qJoins_36 (by rw [g_49]; decide) (by rw [g_49]; decide) (by rw [g_49]; rfl) (by decide) ?_
    refine lv_aload_n hx hb dX12_qJoins_206 rfl (lv_at hl 2 rfl) ?_
    refine lv_lload hx hb dX12_qJoins_207 (lv_at hl 0 rfl) ?_
    refine lv_lload_n hx hb dX12_qJoins_209 rfl (lv_at hl 1 rfl) ?_
    refine W.lcmp hx hb dX12_qJoins_210 ?_
    refine lv_if_le (tgt := 218) hx hb dX12_qJoins_211 (by decide) (fun c_50 => ?_) (fun c_50 => ?_)
    · skip
      refine lv_lconst (v := 0) hx hb dX12_qJoins_218 (by decide) ?_
      refine sk_Vv (q0 := 0) (n := 1) (rest := []) (wr := fmR om_2_3 _) ⟨hx, hb, hml, hown, hts⟩ hl.1 (c_nm_qPuts l D cI cJ cC cZ cS mm g ta pa pe pd pb pp pf pg pn rt rn cd sn il tk am at_ aa mt_ wt wy it_ rm ud nu sd qn qw qo qb (qp - 2) qa qi oc 0 ql (by omega)) w_7_139 w_7_141 w_0_76 w_1_14 w_7_142 hd_X12_qPuts_1 ⟨⟨(Nat.le_of_ble_eq_true rfl), (Nat.le_of_ble_eq_true rfl)⟩, (Nat.le_of_ble_eq_true rfl), (Nat.le_of_ble_eq_true rfl)⟩ hK hP hD hS hA (fmT om_2_3 0) (fmF om_2_3 0) (fm_C1 rfl rfl) (fm_R rfl rfl) (fm_nT om_2_3 0) (fm_nF om_2_3 0) (fm_di om_2_3 0) rfl rfl rfl rfl (Nat.le_of_ble_eq_true rfl) dX12_qJoins_219 (fun u H locs hw hP hD hS => ?_)
      refine exE hw (fun ql2_51 hw1 => anE hw1 (fun hql_52 eu_53 => ?_))
      clear hw hw1
      refine o_mgE (ws' := [ro_ mm 12 (mo g (nI ta) (nI pa) (nI pe) pd (nI pb) pp pf pg pn rt rn (nI cd) sn (nI il) tk am at_ aa mt_ 0 (-1) wt wy (nI it_) (nI rm) (nI ud) (nI nu) sd (nI qn) (nI qw) qo (nI qb) (nI ((qp - 2) + 1)) qa (nI qi) (nI oc)), ra_J (g 86) cJ 1700 ql2_51]) eu_53 hP hD rfl (fun hP hD => ?_)
      refine lv_goto (tgt := 273) hx hb dX12_qJoins_222 (by decide) ?_
      exact sk_vret hx hb hr hlocks hK hP hD hS (⟨ql2_51, (show _ from absurd (kjo_c (k := 8) g_49 hc6 (by decide)) (by omega)), rfl⟩) (Nat.le_of_ble_eq_true rfl) (Nat.le_of_ble_eq_true rfl) dX12_qJoins_273
    · skip
      refine lv_lconst (v := 1) hx hb dX12_qJoins_214 (by decide) ?_
      refine lv_goto (tgt := 219) hx hb dX12_qJoins_215 (by decide) ?_
      refine sk_Vv (q0 := 0) (n := 1) (rest := []) (wr := fmR om_2_3 _) ⟨hx, hb, hml, hown, hts⟩ hl.1 (c_nm_qPuts l D cI cJ cC cZ cS mm g ta pa pe pd pb pp pf pg pn rt rn cd sn il tk am at_ aa mt_ wt wy it_ rm ud nu sd qn qw qo qb (qp - 2) qa qi oc 1 ql (by omega)) w_7_139 w_7_141 w_0_76 w_1_14 w_7_142 hd_X12_qPuts_1 ⟨⟨(Nat.le_of_ble_eq_true rfl), (Nat.le_of_ble_eq_true rfl)⟩, (Nat.le_of_ble_eq_true rfl), (Nat.le_of_ble_eq_true rfl)⟩ hK hP hD hS hA (fmT om_2_3 0) (fmF om_2_3 0) (fm_C1 rfl rfl) (fm_R rfl rfl) (fm_nT om_2_3 0) (fm_nF om_2_3 0) (fm_di om_2_3 0) rfl rfl rfl rfl (Nat.le_of_ble_eq_true rfl) dX12_qJoins_219 (fun u H locs hw hP hD hS => ?_)
      refine exE hw (fun ql2_54 hw1 => anE hw1 (fun hql_55 eu_56 => ?_))
      clear hw hw1
      refine o_mgE (ws' := [ro_ mm 12 (mo g (nI ta) (nI pa) (nI pe) pd (nI pb) pp pf pg pn rt rn (nI cd) sn (nI il) tk am at_ aa mt_ 0 (-1) wt wy (nI it_) (nI rm) (nI ud) (nI nu) sd (nI qn) (nI qw) qo (nI qb) (nI ((qp - 2) + 1)) qa (nI qi) (nI oc)), ra_J (g 86) cJ 1700 ql2_54]) eu_56 hP hD rfl (fun hP hD => ?_)
      refine lv_goto (tgt := 273) hx hb dX12_qJoins_222 (by decide) ?_
      exact sk_vret hx hb hr hlocks hK hP hD hS (⟨ql2_54, (show _ from absurd (kjo_c (k := 8) g_49 hc6 (by decide)) (by omega)), rfl⟩) (Nat.le_of_ble_eq_true rfl) (Nat.le_of_ble_eq_true rfl) dX12_qJoins_273
  by_cases g_57 : nI jop = 9
  · refine lv_tableIn (off := 189) (tgt := 225) hx hb dX12_qJoins_36 (by rw [g_57]; decide) (by rw [g_57]; decide) (by rw [g_57]; rfl) (by decide) ?_
    refine lv_aload_n hx hb dX12_qJoins_225 rfl (lv_at hl 2 rfl) ?_
    refine lv_lload hx hb dX12_qJoins_226 (lv_at hl 0 rfl) ?_
    refine lv_lload_n hx hb dX12_qJoins_228 rfl (lv_at hl 1 rfl) ?_
    refine W.lcmp hx hb dX12_qJoins_229 ?_
    refine lv_if_ne (tgt := 237) hx hb dX12_qJoins_230 (by decide) (fun c_58 => ?_) (fun c_58 => ?_)
    · skip
      refine lv_lconst (v := 0) hx hb dX12_qJoins_237 (by decide) ?_
      refine sk_Vv (q0 := 0) (n := 1) (rest := []) (wr := fmR om_2_3 _) ⟨hx, hb, hml, hown, hts⟩ hl.1 (c_nm_qPuts l D cI cJ cC cZ cS mm g ta pa pe pd pb pp pf pg pn rt rn cd sn il tk am at_ aa mt_ wt wy it_ rm ud nu sd qn qw qo qb (qp - 2) qa qi oc 0 ql (by omega)) w_7_139 w_7_141 w_0_76 w_1_14 w_7_142 hd_X12_qPuts_1 ⟨⟨(Nat.le_of_ble_eq_true rfl), (Nat.le_of_ble_eq_true rfl)⟩, (Nat.le_of_ble_eq_true rfl), (Nat.le_of_ble_eq_true rfl)⟩ hK hP hD hS hA (fmT om_2_3 0) (fmF om_2_3 0) (fm_C1 rfl rfl) (fm_R rfl rfl) (fm_nT om_2_3 0) (fm_nF om_2_3 0) (fm_di om_2_3 0) rfl rfl rfl rfl (Nat.le_of_ble_eq_true rfl) dX12_qJoins_238 (fun u H locs hw hP hD hS => ?_)
      refine exE hw (fun ql2_59 hw1 => anE hw1 (fun hql_60 eu_61 => ?_))
      clear hw hw1
      refine o_mgE (ws' := [ro_ mm 12 (mo g (nI ta) (nI pa) (nI pe) pd (nI pb) pp pf pg pn rt rn (nI cd) sn (nI il) tk am at_ aa mt_ 0 (-1) wt wy (nI it_) (nI rm) (nI ud) (nI nu) sd (nI qn) (nI qw) qo (nI qb) (nI ((qp - 2) + 1)) qa (nI qi) (nI oc)), ra_J (g 86) cJ 1700 ql2_59]) eu_61 hP hD rfl (fun hP hD => ?_)
      refine lv_goto (tgt := 273) hx hb dX12_qJoins_241 (by decide) ?_
      exact sk_vret hx hb hr hlocks hK hP hD hS (⟨ql2_59, (show _ from absurd (kjo_c (k := 9) g_57 hc6 (by decide)) (by omega)), rfl⟩) (Nat.le_of_ble_eq_true rfl) (Nat.le_of_ble_eq_true rfl) dX12_qJoins_273
    · skip
      refine lv_lconst (v := 1) hx hb dX12_qJoins_233 (by decide) ?_
      refine lv_goto (tgt := 238) hx hb dX12_qJoins_234 (by decide) ?_
      refine sk_Vv (q0 := 0) (n := 1) (rest := []) (wr := fmR om_2_3 _) ⟨hx, hb, hml, hown, hts⟩ hl.1 (c_nm_qPuts l D cI cJ cC cZ cS mm g ta pa pe pd pb pp pf pg pn rt rn cd sn il tk am at_ aa mt_ wt wy it_ rm ud nu sd qn qw qo qb (qp - 2) qa qi oc 1 ql (by omega)) w_7_139 w_7_141 w_0_76 w_1_14 w_7_142 hd_X12_qPuts_1 ⟨⟨(Nat.le_of_ble_eq_true rfl), (Nat.le_of_ble_eq_true rfl)⟩, (Nat.le_of_ble_eq_true rfl), (Nat.le_of_ble_eq_true rfl)⟩ hK hP hD hS hA (fmT om_2_3 0) (fmF om_2_3 0) (fm_C1 rfl rfl) (fm_R rfl rfl) (fm_nT om_2_3 0) (fm_nF om_2_3 0) (fm_di om_2_3 0) rfl rfl rfl rfl (Nat.le_of_ble_eq_true rfl) dX12_qJoins_238 (fun u H locs hw hP hD hS => ?_)
      refine exE hw (fun ql2_62 hw1 => anE hw1 (fun hql_63 eu_64 => ?_))
      clear hw hw1
      refine o_mgE (ws' := [ro_ mm 12 (mo g (nI ta) (nI pa) (nI pe) pd (nI pb) pp pf pg pn rt rn (nI cd) sn (nI il) tk am at_ aa mt_ 0 (-1) wt wy (nI it_) (nI rm) (nI ud) (nI nu) sd (nI qn) (nI qw) qo (nI qb) (nI ((qp - 2) + 1)) qa (nI qi) (nI oc)), ra_J (g 86) cJ 1700 ql2_62]) eu_64 hP hD rfl (fun hP hD => ?_)
      refine lv_goto (tgt := 273) hx hb dX12_qJoins_241 (by decide) ?_
      exact sk_vret hx hb hr hlocks hK hP hD hS (⟨ql2_62, (show _ from absurd (kjo_c (k := 9) g_57 hc6 (by decide)) (by omega)), rfl⟩) (Nat.le_of_ble_eq_true rfl) (Nat.le_of_ble_eq_true rfl) dX12_qJoins_273
  by_cases g_65 : nI jop = 10
  · refine lv_tableIn (off := 208) (tgt := 244) hx hb dX12_qJoins_36 (by rw [g_65]; decide) (by rw [g_65]; decide) (by rw [g_65]; rfl) (by decide) ?_
    refine lv_aload_n hx hb dX12_qJoins_244 rfl (lv_at hl 2 rfl) ?_
    refine lv_lload hx hb dX12_qJoins_245 (lv_at hl 0 rfl) ?_
    refine lv_lload_n hx hb dX12_qJoins_247 rfl (lv_at hl 1 rfl) ?_
    refine lv_lmul hx hb dX12_qJoins_248 ?_
    refine lv_topl (fun v_66 ev_66 => ?_)
    refine sk_Vv (q0 := 0) (n := 1) (rest := []) (wr := fmR om_2_3 _) ⟨hx, hb, hml, hown, hts⟩ hl.1 (c_nm_qPuts l D cI cJ cC cZ cS mm g ta pa pe pd pb pp pf pg pn rt rn cd sn il tk am at_ aa mt_ wt wy it_ rm ud nu sd qn qw qo qb (qp - 2) qa qi oc v_66 ql (by omega)) w_7_139 w_7_141 w_0_76 w_1_14 w_7_142 hd_X12_qPuts_1 ⟨⟨(Nat.le_of_ble_eq_true rfl), (Nat.le_of_ble_eq_true rfl)⟩, (Nat.le_of_ble_eq_true rfl), (Nat.le_of_ble_eq_true rfl)⟩ hK hP hD hS hA (fmT om_2_3 0) (fmF om_2_3 0) (fm_C1 rfl rfl) (fm_R rfl rfl) (fm_nT om_2_3 0) (fm_nF om_2_3 0) (fm_di om_2_3 0) rfl rfl rfl rfl (Nat.le_of_ble_eq_true rfl) dX12_qJoins_249 (fun u H locs hw hP hD hS => ?_)
    refine exE hw (fun ql2_67 hw1 => anE hw1 (fun hql_68 eu_69 => ?_))
    clear hw hw1
    refine o_mgE (ws' := [ro_ mm 12 (mo g (nI ta) (nI pa) (nI pe) pd (nI pb) pp pf pg pn rt rn (nI cd) sn (nI il) tk am at_ aa mt_ 0 (-1) wt wy (nI it_) (nI rm) (nI ud) (nI nu) sd (nI qn) (nI qw) qo (nI qb) (nI ((qp - 2) + 1)) qa (nI qi) (nI oc)), ra_J (g 86) cJ 1700 ql2_67]) eu_69 hP hD rfl (fun hP hD => ?_)
    refine lv_goto (tgt := 273) hx hb dX12_qJoins_252 (by decide) ?_
    exact sk_vret hx hb hr hlocks hK hP hD hS (⟨ql2_67, (show _ from absurd (kjo_c (k := 10) g_65 hc6 (by decide)) (by omega)), rfl⟩) (Nat.le_of_ble_eq_true rfl) (Nat.le_of_ble_eq_true rfl) dX12_qJoins_273
  refine lv_tableOut (tgt := 255) hx hb dX12_qJoins_36 (sk_out2 1 10 (by intro k hk1 hk2; rcases (show k = 1 ∨ k = 2 ∨ k = 3 ∨ k = 4 ∨ k = 5 ∨ k = 6 ∨ k = 7 ∨ k = 8 ∨ k = 9 ∨ k = 10 by omega) with rfl | rfl | rfl | rfl | rfl | rfl | rfl | rfl | rfl | rfl <;> assumption)) (by decide) ?_
  refine lv_aload_n hx hb dX12_qJoins_255 rfl (lv_at hl 2 rfl) ?_
  refine lv_lload hx hb dX12_qJoins_256 (lv_at hl 0 rfl) ?_
  refine lv_lload_n hx hb dX12_qJoins_258 rfl (lv_at hl 1 rfl) ?_
  refine lv_ladd hx hb dX12_qJoins_259 ?_
  refine lv_topl (fun v_70 ev_70 => ?_)
  refine lv_lconst (v := 0) hx hb dX12_qJoins_260 (by decide) ?_
  refine W.lcmp hx hb dX12_qJoins_261 ?_
  refine lv_if_le (tgt := 269) hx hb dX12_qJoins_262 (by decide) (fun c_71 => ?_) (fun c_71 => ?_)
  · skip
    refine lv_lconst (v := 0) hx hb dX12_qJoins_269 (by decide) ?_
    refine sk_Vv (q0 := 0) (n := 1) (rest := []) (wr := fmR om_2_3 _) ⟨hx, hb, hml, hown, hts⟩ hl.1 (c_nm_qPuts l D cI cJ cC cZ cS mm g ta pa pe pd pb pp pf pg pn rt rn cd sn il tk am at_ aa mt_ wt wy it_ rm ud nu sd qn qw qo qb (qp - 2) qa qi oc 0 ql (by omega)) w_7_139 w_7_141 w_0_76 w_1_14 w_7_142 hd_X12_qPuts_1 ⟨⟨(Nat.le_of_ble_eq_true rfl), (Nat.le_of_ble_eq_true rfl)⟩, (Nat.le_of_ble_eq_true rfl), (Nat.le_of_ble_eq_true rfl)⟩ hK hP hD hS hA (fmT om_2_3 0) (fmF om_2_3 0) (fm_C1 rfl rfl) (fm_R rfl rfl) (fm_nT om_2_3 0) (fm_nF om_2_3 0) (fm_di om_2_3 0) rfl rfl rfl rfl (Nat.le_of_ble_eq_true rfl) dX12_qJoins_270 (fun u H locs hw hP hD hS => ?_)
    refine exE hw (fun ql2_72 hw1 => anE hw1 (fun hql_73 eu_74 => ?_))
    clear hw hw1
    refine o_mgE (ws' := [ro_ mm 12 (mo g (nI ta) (nI pa) (nI pe) pd (nI pb) pp pf pg pn rt rn (nI cd) sn (nI il) tk am at_ aa mt_ 0 (-1) wt wy (nI it_) (nI rm) (nI ud) (nI nu) sd (nI qn) (nI qw) qo (nI qb) (nI ((qp - 2) + 1)) qa (nI qi) (nI oc)), ra_J (g 86) cJ 1700 ql2_72]) eu_74 hP hD rfl (fun hP hD => ?_)
    exact sk_vret hx hb hr hlocks hK hP hD hS (⟨ql2_72, (kjo_f hc1 hc6 (by assumption) (by assumption) (by assumption) (by assumption) (by assumption) (by assumption)).elim, rfl⟩) (Nat.le_of_ble_eq_true rfl) (Nat.le_of_ble_eq_true rfl) dX12_qJoins_273
  · skip
    refine lv_lconst (v := 1) hx hb dX12_qJoins_265 (by decide) ?_
    refine lv_goto (tgt := 270) hx hb dX12_qJoins_266 (by decide) ?_
    refine sk_Vv (q0 := 0) (n := 1) (rest := []) (wr := fmR om_2_3 _) ⟨hx, hb, hml, hown, hts⟩ hl.1 (c_nm_qPuts l D cI cJ cC cZ cS mm g ta pa pe pd pb pp pf pg pn rt rn cd sn il tk am at_ aa mt_ wt wy it_ rm ud nu sd qn qw qo qb (qp - 2) qa qi oc 1 ql (by omega)) w_7_139 w_7_141 w_0_76 w_1_14 w_7_142 hd_X12_qPuts_1 ⟨⟨(Nat.le_of_ble_eq_true rfl), (Nat.le_of_ble_eq_true rfl)⟩, (Nat.le_of_ble_eq_true rfl), (Nat.le_of_ble_eq_true rfl)⟩ hK hP hD hS hA (fmT om_2_3 0) (fmF om_2_3 0) (fm_C1 rfl rfl) (fm_R rfl rfl) (fm_nT om_2_3 0) (fm_nF om_2_3 0) (fm_di om_2_3 0) rfl rfl rfl rfl (Nat.le_of_ble_eq_true rfl) dX12_qJoins_270 (fun u H locs hw hP hD hS => ?_)
    refine exE hw (fun ql2_75 hw1 => anE hw1 (fun hql_76 eu_77 => ?_))
    clear hw hw1
    refine o_mgE (ws' := [ro_ mm 12 (mo g (nI ta) (nI pa) (nI pe) pd (nI pb) pp pf pg pn rt rn (nI cd) sn (nI il) tk am at_ aa mt_ 0 (-1) wt wy (nI it_) (nI rm) (nI ud) (nI nu) sd (nI qn) (nI qw) qo (nI qb) (nI ((qp - 2) + 1)) qa (nI qi) (nI oc)), ra_J (g 86) cJ 1700 ql2_75]) eu_77 hP hD rfl (fun hP hD => ?_)
    exact sk_vret hx hb hr hlocks hK hP hD hS (⟨ql2_75, (kjo_f hc1 hc6 (by assumption) (by assumption) (by assumption) (by assumption) (by assumption) (by assumption)).elim, rfl⟩) (Nat.le_of_ble_eq_true rfl) (Nat.le_of_ble_eq_true rfl) dX12_qJoins_273
/-! the reference's lock, words and deeds -/
theorem kx_c3 {kind c : Nat} (hk : kind < 2) (h : kcN1 kind c) : (1 ≤ c ∧ c ≤ 6) ∨ (1000 ≤ c ∧ c < 11000) ∨ (40 ≤ c ∧ c < 47) := by
  rcases kx_cls hk h with ⟨a, b, -⟩ | ⟨a, b, -⟩ | ⟨a, b, -⟩
  · exact Or.inl ⟨a, b⟩
  · exact Or.inr (Or.inl ⟨a, b⟩)
  · exact Or.inr (Or.inr ⟨a, b⟩)
def mwO (L : LkS) (w : Nat) (u v : Int32) (cs : Nat → Nat) : Prop := match lG L w with
  | none => u = -1
  | some p => u = nI p.1 ∧ v = nI p.2 ∧ ∀ j, j < (lK L).length → cs (1600 + j) = (lK L).getD j 0
theorem mw_none {L : LkS} {w : Nat} {u v : Int32} {cs : Nat → Nat} (hL : kcLk L) (hl : (lK L).length ≤ 1600) (h : mwO L w u v cs) (hu : u = -1) : lG L w = none := by
  cases hg : lG L w with
  | none => rfl
  | some p =>
    unfold mwO at h
    rw [hg] at h
    have h1 := (hL w p hg)
    have h2 : nI p.1 = -1 := h.1.symm.trans hu
    have h3 : (nI p.1).toInt = -1 := by rw [h2]; rfl
    rw [nI_toInt (by omega)] at h3
    omega
theorem mw_some {L : LkS} {w : Nat} {u v : Int32} {cs : Nat → Nat} (hL : kcLk L) (h : mwO L w u v cs) (hu : ¬ u = -1) : ∃ a b : Nat, u = nI a ∧ v = nI b ∧ a ≤ b ∧ b ≤ (lK L).length ∧ (∀ j, j < (lK L).length → cs (1600 + j) = (lK L).getD j 0) ∧ lG L w = some (a, b) := by
  cases hg : lG L w with
  | none =>
    unfold mwO at h
    rw [hg] at h
    exact absurd h hu
  | some p =>
    unfold mwO at h
    rw [hg] at h
    have h1 := (hL w p hg)
    exact ⟨p.1, p.2, h.1, h.2.1, Nat.le_of_lt h1.1, h1.2.1, h.2.2, rfl⟩
theorem kw_ex {L : LkS} {w a b : Nat} (h : kcLk L) (hw : w < 3) (hp : lG L w = some (a, b)) (nm : Nat → Int64) : kcEx nm 64 (kcSub (lK L) (a, b)) [] = some [kcV L w nm] := by
  have h1 := kcV_ex h hw nm
  rw [kcSeg_some h hp] at h1
  exact h1
theorem kw_ns {L : LkS} {w k a b : Nat} (h : kcLk L) (hk : k = if w = 1 then 1 else 0) (hp : lG L w = some (a, b)) : kcNs k (kcSub (lK L) (a, b)) := by
  rw [hk]; exact (h w (a, b) hp).2.2.2
theorem kten_n {m : Nat} (h : m < 10) : kcTen (Int64.ofNat m) = m := by
  unfold kcTen
  rw [Int64.toInt_ofNat_of_lt (by omega)]
  omega
/-- a day as the reference has it -/
def mdO (nw : Nat → Int32) (wk b w d : Nat) : Prop := nw 0 = nI wk ∧ nw (2 + 3 * d) = nI b ∧ nw (2 + 3 * d + 1) = nI w
theorem mn_of {nw : Nat → Int32} {wk b w d m t al : Nat} {am at_ aa : Int32} (h : mdO nw wk b w d) (hm : am = nI m) (ht : at_ = nI t) (ha : aa = nI al) (h1 : wk < 2147483648) (h2 : b < 2147483648) (h3 : w < 2147483648) (h4 : d < 2147483648) (h5 : m < 2147483648) (h6 : t < 2147483648) (h7 : al < 2147483648) : mnO (kcNm wk b w d m t al) am at_ aa nw d := by
  obtain ⟨a1, a2, a3⟩ := h
  refine ⟨?_, ?_, ?_, ?_, ?_, ?_, ?_⟩
  · rw [hm, kx_i2l h5]; rfl
  · rw [a2, kx_i2l h2]; rfl
  · rw [a3, kx_i2l h3]; rfl
  · rw [kx_i2l h4]; rfl
  · rw [a1, kx_i2l h1]; rfl
  · rw [ht, kx_i2l h6]; rfl
  · rw [ha, kx_i2l h7]; rfl
/-- words and wages do not ask what he is told -/
theorem mn_any {nw : Nat → Int32} {wk b w d m : Nat} {am at_ aa : Int32} (h : mdO nw wk b w d) (hm : am = nI m) (h1 : wk < 2147483648) (h2 : b < 2147483648) (h3 : w < 2147483648) (h4 : d < 2147483648) (h5 : m < 2147483648) : ∃ nm, mnO nm am at_ aa nw d ∧ ∀ j, j < 5 → nm j = kcNm wk b w d m 0 0 j := by
  obtain ⟨a1, a2, a3⟩ := h
  refine ⟨fun k => if k < 5 then kcNm wk b w d m 0 0 k else if k = 5 then Int32.toInt64 at_ else Int32.toInt64 aa, ⟨?_, ?_, ?_, ?_, ?_, rfl, rfl⟩, fun j hj => if_pos hj⟩
  · rw [hm, kx_i2l h5]; rfl
  · rw [a2, kx_i2l h2]; rfl
  · rw [a3, kx_i2l h3]; rfl
  · rw [kx_i2l h4]; rfl
  · rw [a1, kx_i2l h1]; rfl
set_option maxHeartbeats 4000000 in
set_option maxRecDepth 100000 in
theorem c_nm_bargeOf (l : Launch) (D : va_G) (cI cJ cC cZ cS : ClassId) (mm : Nat) (g : Nat → Nat) (ta : Nat) (pa : Nat) (pe : Nat) (pd : Int32) (pb : Nat) (pp : Int32) (pf : Int32) (pg : Int32) (pn : Int32) (rt : Int32) (rn : Int32) (cd : Nat) (sn : Int32) (il : Nat) (tk : Int32) (am : Int32) (at_ : Int32) (aa : Int32) (mt_ : Int32) (wt : Int32) (wy : Int64) (it_ : Nat) (rm : Nat) (ud : Nat) (nu : Nat) (sd : Int64) (qn : Nat) (qw : Nat) (qo : Int32) (qb : Nat) (qp : Nat) (qa : Int64) (qi : Nat) (oc : Nat) (d : Nat) (nw : Nat → Int32) (hd : d < 9) (hnw : nowOk nw) : skM l yX12_bargeOf cX12_bargeOf 2 (some .int) 0 0 0 0 D (skT cI cJ cC cZ cS) [.ref mm, .int (nI d)] [ro_ mm 12 (mo g (nI ta) (nI pa) (nI pe) pd (nI pb) pp pf pg pn rt rn (nI cd) sn (nI il) tk am at_ aa mt_ 0 (-1) wt wy (nI it_) (nI rm) (nI ud) (nI nu) sd (nI qn) (nI qw) qo (nI qb) (nI qp) qa (nI qi) (nI oc)), ra_I (g 31) cI 120 nw] (skI D (skT cI cJ cC cZ cS) (fun (r : Int32) (u : va_W) => r = nw (2 + 3 * d) ∧ u = [ro_ mm 12 (mo g (nI ta) (nI pa) (nI pe) pd (nI pb) pp pf pg pn rt rn (nI cd) sn (nI il) tk am at_ aa mt_ 0 (-1) wt wy (nI it_) (nI rm) (nI ud) (nI nu) sd (nI qn) (nI qw) qo (nI qb) (nI qp) qa (nI qi) (nI oc)), ra_I (g 31) cI 120 nw])) := by
  refine skM_of pf_X12_bargeOf (Nat.le_of_ble_eq_true rfl) ?_
  intro p e s m below meth c A ls E hP hD hl
  refine skE_el E (fun hx hb hr hml hlocks hin hown hts hK hA => ?_)
  have hown : s.vm.findClass RX12 = some m.cls := hown
  have hS : va_S A s.heap s.heap [] := va_S.rf
  have hl : lv_has ls 2 [(0, .ref mm), (1, .int (nI d))] := hl
  refine lv_aload_n hx hb dX12_bargeOf_0 rfl (lv_at hl 0 rfl) ?_
  refine sk_get (v := .ref (g 31)) (C := RX12) (T := TX12) (N := 92) hx hb hts inlX12 hown hK hP 0 rfl rfl 31 (Nat.le_of_ble_eq_true rfl) w_5_186 rfl dX12_bargeOf_1 ?_
  refine lv_iconst (v := 2) hx hb dX12_bargeOf_4 ic_2 ?_
  refine lv_iconst (v := 3) hx hb dX12_bargeOf_5 ic_3 ?_
  refine lv_iload_n hx hb dX12_bargeOf_6 rfl (lv_at hl 1 rfl) ?_
  refine lv_imul hx hb dX12_bargeOf_7 ?_
  refine sk_top (nI (3 * d)) (nmul 3 d) ?_
  refine lv_iadd hx hb dX12_bargeOf_8 ?_
  refine sk_top (nI (2 + (3 * d))) (nI_add 2 (3 * d)) ?_
  refine va_iald hx hb hK.1 hP 1 0 rfl rfl (vin (2 + (3 * d)) 120 (by omega) (Nat.le_of_ble_eq_true rfl)) dX12_bargeOf_9 ?_
  refine sk_top (nw (2 + 3 * d)) (by rw [nI_clamp (by omega)]) ?_
  exact sk_iret hx hb hr rfl hlocks hK hP hD hS (⟨rfl, rfl⟩) (Nat.le_of_ble_eq_true rfl) (Nat.le_of_ble_eq_true rfl) dX12_bargeOf_10
set_option maxHeartbeats 4000000 in
set_option maxRecDepth 100000 in
theorem c_nm_wetOf (l : Launch) (D : va_G) (cI cJ cC cZ cS : ClassId) (mm : Nat) (g : Nat → Nat) (ta : Nat) (pa : Nat) (pe : Nat) (pd : Int32) (pb : Nat) (pp : Int32) (pf : Int32) (pg : Int32) (pn : Int32) (rt : Int32) (rn : Int32) (cd : Nat) (sn : Int32) (il : Nat) (tk : Int32) (am : Int32) (at_ : Int32) (aa : Int32) (mt_ : Int32) (wt : Int32) (wy : Int64) (it_ : Nat) (rm : Nat) (ud : Nat) (nu : Nat) (sd : Int64) (qn : Nat) (qw : Nat) (qo : Int32) (qb : Nat) (qp : Nat) (qa : Int64) (qi : Nat) (oc : Nat) (d : Nat) (nw : Nat → Int32) (hd : d < 9) (hnw : nowOk nw) : skM l yX12_wetOf cX12_wetOf 2 (some .int) 0 0 0 0 D (skT cI cJ cC cZ cS) [.ref mm, .int (nI d)] [ro_ mm 12 (mo g (nI ta) (nI pa) (nI pe) pd (nI pb) pp pf pg pn rt rn (nI cd) sn (nI il) tk am at_ aa mt_ 0 (-1) wt wy (nI it_) (nI rm) (nI ud) (nI nu) sd (nI qn) (nI qw) qo (nI qb) (nI qp) qa (nI qi) (nI oc)), ra_I (g 31) cI 120 nw] (skI D (skT cI cJ cC cZ cS) (fun (r : Int32) (u : va_W) => r = nw (2 + 3 * d + 1) ∧ u = [ro_ mm 12 (mo g (nI ta) (nI pa) (nI pe) pd (nI pb) pp pf pg pn rt rn (nI cd) sn (nI il) tk am at_ aa mt_ 0 (-1) wt wy (nI it_) (nI rm) (nI ud) (nI nu) sd (nI qn) (nI qw) qo (nI qb) (nI qp) qa (nI qi) (nI oc)), ra_I (g 31) cI 120 nw])) := by
  refine skM_of pf_X12_wetOf (Nat.le_of_ble_eq_true rfl) ?_
  intro p e s m below meth c A ls E hP hD hl
  refine skE_el E (fun hx hb hr hml hlocks hin hown hts hK hA => ?_)
  have hown : s.vm.findClass RX12 = some m.cls := hown
  have hS : va_S A s.heap s.heap [] := va_S.rf
  have hl : lv_has ls 2 [(0, .ref mm), (1, .int (nI d))] := hl
  refine lv_aload_n hx hb dX12_wetOf_0 rfl (lv_at hl 0 rfl) ?_
  refine sk_get (v := .ref (g 31)) (C := RX12) (T := TX12) (N := 92) hx hb hts inlX12 hown hK hP 0 rfl rfl 31 (Nat.le_of_ble_eq_true rfl) w_5_186 rfl dX12_wetOf_1 ?_
  refine lv_iconst (v := 2) hx hb dX12_wetOf_4 ic_2 ?_
  refine lv_iconst (v := 3) hx hb dX12_wetOf_5 ic_3 ?_
  refine lv_iload_n hx hb dX12_wetOf_6 rfl (lv_at hl 1 rfl) ?_
  refine lv_imul hx hb dX12_wetOf_7 ?_
  refine sk_top (nI (3 * d)) (nmul 3 d) ?_
  refine lv_iadd hx hb dX12_wetOf_8 ?_
  refine sk_top (nI (2 + (3 * d))) (nI_add 2 (3 * d)) ?_
  refine lv_iconst (v := 1) hx hb dX12_wetOf_9 ic_1 ?_
  refine lv_iadd hx hb dX12_wetOf_10 ?_
  refine sk_top (nI (2 + (3 * d) + 1)) (nI_add (2 + (3 * d)) 1) ?_
  refine va_iald hx hb hK.1 hP 1 0 rfl rfl (vin (2 + (3 * d) + 1) 120 (by omega) (Nat.le_of_ble_eq_true rfl)) dX12_wetOf_11 ?_
  refine sk_top (nw (2 + 3 * d + 1)) (by rw [nI_clamp (by omega)]) ?_
  exact sk_iret hx hb hr rfl hlocks hK hP hD hS (⟨rfl, rfl⟩) (Nat.le_of_ble_eq_true rfl) (Nat.le_of_ble_eq_true rfl) dX12_wetOf_12
set_option maxHeartbeats 4000000 in
set_option maxRecDepth 100000 in
theorem c_nm_qPartOf (l : Launch) (D : va_G) (cI cJ cC cZ cS : ClassId) (mm : Nat) (g : Nat → Nat) (ta : Nat) (pa : Nat) (pe : Nat) (pd : Int32) (pb : Nat) (pp : Int32) (pf : Int32) (pg : Int32) (pn : Int32) (rt : Int32) (rn : Int32) (cd : Nat) (sn : Int32) (il : Nat) (tk : Int32) (am : Int32) (at_ : Int32) (aa : Int32) (mt_ : Int32) (wt : Int32) (wy : Int64) (it_ : Nat) (rm : Nat) (ud : Nat) (nu : Nat) (sd : Int64) (qn : Nat) (qw : Nat) (qo : Int32) (qb : Nat) (qp : Nat) (qa : Int64) (qi : Nat) (oc : Nat) (k : Nat) (d : Nat) (nw : Nat → Int32) (pt : Nat → Nat) (nm : Nat → Int64) (hd : d < 9) (hk7 : k < 7) (hnm : mnO nm am at_ aa nw d) (hnw : nowOk nw) (hpt : ∀ j, pt j ≤ 9) : skM l yX12_qPartOf cX12_qPartOf 3 (some .long) 1 21 0 0 D (skT cI cJ cC cZ cS) [.ref mm, .int (nI k), .int (nI d)] [ro_ mm 12 (mo g (nI ta) (nI pa) (nI pe) pd (nI pb) pp pf pg pn rt rn (nI cd) sn (nI il) tk am at_ aa mt_ 0 (-1) wt wy (nI it_) (nI rm) (nI ud) (nI nu) sd (nI qn) (nI qw) qo (nI qb) (nI qp) qa (nI qi) (nI oc)), ra_I (g 31) cI 120 nw, ra_N (g 46) cI 9 pt] (skL D (skT cI cJ cC cZ cS) (fun (r : Int64) (u : va_W) => r = nm k ∧ u = [ro_ mm 12 (mo g (nI ta) (nI pa) (nI pe) pd (nI pb) pp pf pg pn rt rn (nI cd) sn (nI il) tk am at_ aa mt_ 0 (-1) wt wy (nI it_) (nI rm) (nI ud) (nI nu) sd (nI qn) (nI qw) qo (nI qb) (nI qp) qa (nI qi) (nI oc)), ra_I (g 31) cI 120 nw, ra_N (g 46) cI 9 pt])) := by
  refine skM_of pf_X12_qPartOf (Nat.le_of_ble_eq_true rfl) ?_
  intro p e s m below meth c A ls E hP hD hl
  refine skE_el E (fun hx hb hr hml hlocks hin hown hts hK hA => ?_)
  have hown : s.vm.findClass RX12 = some m.cls := hown
  have hS : va_S A s.heap s.heap [] := va_S.rf
  have hl : lv_has ls 3 [(0, .ref mm), (1, .int (nI k)), (2, .int (nI d))] := hl
  refine lv_iload_n hx hb dX12_qPartOf_0 rfl (lv_at hl 1 rfl) ?_
  by_cases g_1 : nI k = 0
  · refine lv_tableIn (off := 51) (tgt := 52) hx hb dX12_qPartOf_1 (by rw [g_1]; decide) (by rw [g_1]; decide) (by rw [g_1]; rfl) (by decide) ?_
    refine lv_aload_n hx hb dX12_qPartOf_52 rfl (lv_at hl 0 rfl) ?_
    refine sk_get (v := .int am) (C := RX12) (T := TX12) (N := 92) hx hb hts inlX12 hown hK hP 0 rfl rfl 33 (Nat.le_of_ble_eq_true rfl) w_5_188 rfl dX12_qPartOf_53 ?_
    refine lv_i2l hx hb dX12_qPartOf_56 rfl ?_
    exact sk_lret hx hb hr hlocks hK hP hD hS (⟨(by obtain rfl := mn_k (j := 0) g_1 hk7 (by decide); exact hnm.1), rfl⟩) (Nat.le_of_ble_eq_true rfl) (Nat.le_of_ble_eq_true rfl) dX12_qPartOf_57
  by_cases g_2 : nI k = 1
  · refine lv_tableIn (off := 57) (tgt := 58) hx hb dX12_qPartOf_1 (by rw [g_2]; decide) (by rw [g_2]; decide) (by rw [g_2]; rfl) (by decide) ?_
    refine lv_aload_n hx hb dX12_qPartOf_58 rfl (lv_at hl 0 rfl) ?_
    refine lv_iload_n hx hb dX12_qPartOf_59 rfl (lv_at hl 2 rfl) ?_
    refine sk_Vi (q0 := 0) (n := 1) (rest := []) (wr := fmR om_3_6 _) ⟨hx, hb, hml, hown, hts⟩ hl.1 (c_nm_bargeOf l D cI cJ cC cZ cS mm g ta pa pe pd pb pp pf pg pn rt rn cd sn il tk am at_ aa mt_ wt wy it_ rm ud nu sd qn qw qo qb qp qa qi oc d nw hd hnw) w_7_147 w_7_149 w_0_78 w_1_14 w_7_150 hd_X12_bargeOf_1 ⟨⟨(Nat.le_of_ble_eq_true rfl), (Nat.le_of_ble_eq_true rfl)⟩, (Nat.le_of_ble_eq_true rfl), (Nat.le_of_ble_eq_true rfl)⟩ hK hP hD hS hA (fmT om_3_6 0) (fmF om_3_6 0) (fm_C1 rfl rfl) (fm_R rfl rfl) (fm_nT om_3_6 0) (fm_nF om_3_6 0) (fm_di om_3_6 0) rfl rfl rfl rfl (Nat.le_of_ble_eq_true rfl) dX12_qPartOf_60 (fun r_3 u H locs hw hP hD hS => ?_)
    refine anE hw (fun hr_4 eu_5 => ?_)
    clear hw
    refine o_mgE (ws' := [ro_ mm 12 (mo g (nI ta) (nI pa) (nI pe) pd (nI pb) pp pf pg pn rt rn (nI cd) sn (nI il) tk am at_ aa mt_ 0 (-1) wt wy (nI it_) (nI rm) (nI ud) (nI nu) sd (nI qn) (nI qw) qo (nI qb) (nI qp) qa (nI qi) (nI oc)), ra_I (g 31) cI 120 nw, ra_N (g 46) cI 9 pt]) eu_5 hP hD rfl (fun hP hD => ?_)
    subst hr_4
    refine lv_i2l hx hb dX12_qPartOf_63 rfl ?_
    exact sk_lret hx hb hr hlocks hK hP hD hS (⟨(by obtain rfl := mn_k (j := 1) g_2 hk7 (by decide); exact hnm.2.1), rfl⟩) (Nat.le_of_ble_eq_true rfl) (Nat.le_of_ble_eq_true rfl) dX12_qPartOf_64
  by_cases g_6 : nI k = 2
  · refine lv_tableIn (off := 64) (tgt := 65) hx hb dX12_qPartOf_1 (by rw [g_6]; decide) (by rw [g_6]; decide) (by rw [g_6]; rfl) (by decide) ?_
    refine lv_aload_n hx hb dX12_qPartOf_65 rfl (lv_at hl 0 rfl) ?_
    refine lv_iload_n hx hb dX12_qPartOf_66 rfl (lv_at hl 2 rfl) ?_
    refine sk_Vi (q0 := 0) (n := 1) (rest := []) (wr := fmR om_3_6 _) ⟨hx, hb, hml, hown, hts⟩ hl.1 (c_nm_wetOf l D cI cJ cC cZ cS mm g ta pa pe pd pb pp pf pg pn rt rn cd sn il tk am at_ aa mt_ wt wy it_ rm ud nu sd qn qw qo qb qp qa qi oc d nw hd hnw) w_7_151 w_7_153 w_0_79 w_1_14 w_7_154 hd_X12_wetOf_1 ⟨⟨(Nat.le_of_ble_eq_true rfl), (Nat.le_of_ble_eq_true rfl)⟩, (Nat.le_of_ble_eq_true rfl), (Nat.le_of_ble_eq_true rfl)⟩ hK hP hD hS hA (fmT om_3_6 0) (fmF om_3_6 0) (fm_C1 rfl rfl) (fm_R rfl rfl) (fm_nT om_3_6 0) (fm_nF om_3_6 0) (fm_di om_3_6 0) rfl rfl rfl rfl (Nat.le_of_ble_eq_true rfl) dX12_qPartOf_67 (fun r_7 u H locs hw hP hD hS => ?_)
    refine anE hw (fun hr_8 eu_9 => ?_)
    clear hw
    refine o_mgE (ws' := [ro_ mm 12 (mo g (nI ta) (nI pa) (nI pe) pd (nI pb) pp pf pg pn rt rn (nI cd) sn (nI il) tk am at_ aa mt_ 0 (-1) wt wy (nI it_) (nI rm) (nI ud) (nI nu) sd (nI qn) (nI qw) qo (nI qb) (nI qp) qa (nI qi) (nI oc)), ra_I (g 31) cI 120 nw, ra_N (g 46) cI 9 pt]) eu_9 hP hD rfl (fun hP hD => ?_)
    subst hr_8
    refine lv_i2l hx hb dX12_qPartOf_70 rfl ?_
    exact sk_lret hx hb hr hlocks hK hP hD hS (⟨(by obtain rfl := mn_k (j := 2) g_6 hk7 (by decide); exact hnm.2.2.1), rfl⟩) (Nat.le_of_ble_eq_true rfl) (Nat.le_of_ble_eq_true rfl) dX12_qPartOf_71
  by_cases g_10 : nI k = 3
  · refine lv_tableIn (off := 71) (tgt := 72) hx hb dX12_qPartOf_1 (by rw [g_10]; decide) (by rw [g_10]; decide) (by rw [g_10]; rfl) (by decide) ?_
    refine lv_iload_n hx hb dX12_qPartOf_72 rfl (lv_at hl 2 rfl) ?_
    refine lv_i2l hx hb dX12_qPartOf_73 rfl ?_
    exact sk_lret hx hb hr hlocks hK hP hD hS (⟨(by obtain rfl := mn_k (j := 3) g_10 hk7 (by decide); exact hnm.2.2.2.1), rfl⟩) (Nat.le_of_ble_eq_true rfl) (Nat.le_of_ble_eq_true rfl) dX12_qPartOf_74
  by_cases g_11 : nI k = 4
  · refine lv_tableIn (off := 74) (tgt := 75) hx hb dX12_qPartOf_1 (by rw [g_11]; decide) (by rw [g_11]; decide) (by rw [g_11]; rfl) (by decide) ?_
    refine lv_aload_n hx hb dX12_qPartOf_75 rfl (lv_at hl 0 rfl) ?_
    refine sk_get (v := .ref (g 31)) (C := RX12) (T := TX12) (N := 92) hx hb hts inlX12 hown hK hP 0 rfl rfl 31 (Nat.le_of_ble_eq_true rfl) w_5_186 rfl dX12_qPartOf_76 ?_
    refine lv_iconst (v := 0) hx hb dX12_qPartOf_79 ic_0 ?_
    refine va_iald hx hb hK.1 hP 1 0 rfl rfl (by unfold vp_in; decide) dX12_qPartOf_80 ?_
    refine sk_top (nw 0) (rfl) ?_
    refine lv_i2l hx hb dX12_qPartOf_81 rfl ?_
    exact sk_lret hx hb hr hlocks hK hP hD hS (⟨(by obtain rfl := mn_k (j := 4) g_11 hk7 (by decide); exact hnm.2.2.2.2.1), rfl⟩) (Nat.le_of_ble_eq_true rfl) (Nat.le_of_ble_eq_true rfl) dX12_qPartOf_82
  by_cases g_12 : nI k = 5
  · refine lv_tableIn (off := 82) (tgt := 83) hx hb dX12_qPartOf_1 (by rw [g_12]; decide) (by rw [g_12]; decide) (by rw [g_12]; rfl) (by decide) ?_
    refine lv_aload_n hx hb dX12_qPartOf_83 rfl (lv_at hl 0 rfl) ?_
    refine sk_get (v := .int at_) (C := RX12) (T := TX12) (N := 92) hx hb hts inlX12 hown hK hP 0 rfl rfl 34 (Nat.le_of_ble_eq_true rfl) w_5_189 rfl dX12_qPartOf_84 ?_
    refine lv_i2l hx hb dX12_qPartOf_87 rfl ?_
    exact sk_lret hx hb hr hlocks hK hP hD hS (⟨(by obtain rfl := mn_k (j := 5) g_12 hk7 (by decide); exact hnm.2.2.2.2.2.1), rfl⟩) (Nat.le_of_ble_eq_true rfl) (Nat.le_of_ble_eq_true rfl) dX12_qPartOf_88
  by_cases g_13 : nI k = 6
  · refine lv_tableIn (off := 88) (tgt := 89) hx hb dX12_qPartOf_1 (by rw [g_13]; decide) (by rw [g_13]; decide) (by rw [g_13]; rfl) (by decide) ?_
    refine lv_aload_n hx hb dX12_qPartOf_89 rfl (lv_at hl 0 rfl) ?_
    refine sk_get (v := .int aa) (C := RX12) (T := TX12) (N := 92) hx hb hts inlX12 hown hK hP 0 rfl rfl 35 (Nat.le_of_ble_eq_true rfl) w_5_190 rfl dX12_qPartOf_90 ?_
    refine lv_i2l hx hb dX12_qPartOf_93 rfl ?_
    exact sk_lret hx hb hr hlocks hK hP hD hS (⟨(by obtain rfl := mn_k (j := 6) g_13 hk7 (by decide); exact hnm.2.2.2.2.2.2), rfl⟩) (Nat.le_of_ble_eq_true rfl) (Nat.le_of_ble_eq_true rfl) dX12_qPartOf_94
  by_cases g_14 : nI k = 7
  · refine lv_tableIn (off := 94) (tgt := 95) hx hb dX12_qPartOf_1 (by rw [g_14]; decide) (by rw [g_14]; decide) (by rw [g_14]; rfl) (by decide) ?_
    refine lv_iload_n hx hb dX12_qPartOf_95 rfl (lv_at hl 2 rfl) ?_
    refine lv_i2l hx hb dX12_qPartOf_96 rfl ?_
    exact sk_lret hx hb hr hlocks hK hP hD hS (⟨mn_x (j := 7) g_14 hk7 (by decide) (by decide), rfl⟩) (Nat.le_of_ble_eq_true rfl) (Nat.le_of_ble_eq_true rfl) dX12_qPartOf_97
  by_cases g_15 : nI k = 8
  · refine lv_tableIn (off := 97) (tgt := 98) hx hb dX12_qPartOf_1 (by rw [g_15]; decide) (by rw [g_15]; decide) (by rw [g_15]; rfl) (by decide) ?_
    refine lv_aload_n hx hb dX12_qPartOf_98 rfl (lv_at hl 0 rfl) ?_
    refine lv_iload_n hx hb dX12_qPartOf_99 rfl (lv_at hl 2 rfl) ?_
    refine sk_Vi (q0 := 0) (n := 1) (rest := []) (wr := fmR om_3_6 _) ⟨hx, hb, hml, hown, hts⟩ hl.1 (c_m_isMute l D cI cJ cC cZ cS mm g ta pa pe pd pb pp pf pg pn rt rn cd sn il tk am at_ aa mt_ 0 (-1) wt wy it_ rm ud nu sd qn qw qo qb qp qa qi oc d nw hd hnw) w_7_106 w_7_108 w_0_71 w_1_14 w_7_109 hd_X12_isMute_1 ⟨⟨(Nat.le_of_ble_eq_true rfl), (Nat.le_of_ble_eq_true rfl)⟩, (Nat.le_of_ble_eq_true rfl), (Nat.le_of_ble_eq_true rfl)⟩ hK hP hD hS hA (fmT om_3_6 0) (fmF om_3_6 0) (fm_C1 rfl rfl) (fm_R rfl rfl) (fm_nT om_3_6 0) (fm_nF om_3_6 0) (fm_di om_3_6 0) rfl rfl rfl rfl (Nat.le_of_ble_eq_true rfl) dX12_qPartOf_100 (fun r_17 u H locs hw hP hD hS => ?_)
    refine exE hw (fun b_16 hw1 => anE hw1 (fun hb1_18 hw2 => anE hw2 (fun hb2_19 hw3 => anE hw3 (fun er_21 eu_20 => ?_))))
    clear hw hw1 hw2 hw3
    subst er_21
    refine o_mgE (ws' := [ro_ mm 12 (mo g (nI ta) (nI pa) (nI pe) pd (nI pb) pp pf pg pn rt rn (nI cd) sn (nI il) tk am at_ aa mt_ 0 (-1) wt wy (nI it_) (nI rm) (nI ud) (nI nu) sd (nI qn) (nI qw) qo (nI qb) (nI qp) qa (nI qi) (nI oc)), ra_I (g 31) cI 120 nw, ra_N (g 46) cI 9 pt]) eu_20 hP hD rfl (fun hP hD => ?_)
    refine lv_if_eq (tgt := 110) hx hb dX12_qPartOf_103 (by decide) (fun c_22 => ?_) (fun c_22 => ?_)
    · have c_22 : b_16 = 0 := (neq b_16 0 (by omega) (Nat.le_of_ble_eq_true rfl)).mp c_22
      refine lv_lconst (v := 0) hx hb dX12_qPartOf_110 (by decide) ?_
      exact sk_lret hx hb hr hlocks hK hP hD hS (⟨mn_x (j := 8) g_15 hk7 (by decide) (by decide), rfl⟩) (Nat.le_of_ble_eq_true rfl) (Nat.le_of_ble_eq_true rfl) dX12_qPartOf_111
    · have c_22 : ¬ (b_16 = 0) := fun h => c_22 ((neq b_16 0 (by omega) (Nat.le_of_ble_eq_true rfl)).mpr h)
      refine lv_lconst (v := 1) hx hb dX12_qPartOf_106 (by decide) ?_
      refine lv_goto (tgt := 111) hx hb dX12_qPartOf_107 (by decide) ?_
      exact sk_lret hx hb hr hlocks hK hP hD hS (⟨mn_x (j := 8) g_15 hk7 (by decide) (by decide), rfl⟩) (Nat.le_of_ble_eq_true rfl) (Nat.le_of_ble_eq_true rfl) dX12_qPartOf_111
  refine lv_tableOut (tgt := 112) hx hb dX12_qPartOf_1 (sk_out (n := 8) (by intro k hk; rcases (show k = 0 ∨ k = 1 ∨ k = 2 ∨ k = 3 ∨ k = 4 ∨ k = 5 ∨ k = 6 ∨ k = 7 ∨ k = 8 by omega) with rfl | rfl | rfl | rfl | rfl | rfl | rfl | rfl | rfl <;> assumption)) (by decide) ?_
  refine lv_aload_n hx hb dX12_qPartOf_112 rfl (lv_at hl 0 rfl) ?_
  refine sk_get (v := .long wy) (C := RX12) (T := TX12) (N := 92) hx hb hts inlX12 hown hK hP 0 rfl rfl 45 (Nat.le_of_ble_eq_true rfl) w_5_200 rfl dX12_qPartOf_113 ?_
  refine lv_lconst (v := 0) hx hb dX12_qPartOf_116 (by decide) ?_
  refine W.lcmp hx hb dX12_qPartOf_117 ?_
  refine lv_if_ne (tgt := 127) hx hb dX12_qPartOf_118 (by decide) (fun c_23 => ?_) (fun c_23 => ?_)
  · skip
    refine lv_aload_n hx hb dX12_qPartOf_127 rfl (lv_at hl 0 rfl) ?_
    refine sk_get (v := .ref (g 46)) (C := RX12) (T := TX12) (N := 92) hx hb hts inlX12 hown hK hP 0 rfl rfl 46 (Nat.le_of_ble_eq_true rfl) w_5_201 rfl dX12_qPartOf_128 ?_
    refine lv_iload_n hx hb dX12_qPartOf_131 rfl (lv_at hl 2 rfl) ?_
    refine va_iald hx hb hK.1 hP 2 0 rfl rfl (vin d 9 (by omega) (Nat.le_of_ble_eq_true rfl)) dX12_qPartOf_132 ?_
    refine sk_top (nI (pt d)) (nrd pt d (by omega)) ?_
    have hb_24 := hpt d
    refine lv_i2l hx hb dX12_qPartOf_133 rfl ?_
    exact sk_lret hx hb hr hlocks hK hP hD hS (⟨(mn_f hk7 (by assumption) (by assumption) (by assumption) (by assumption) (by assumption) (by assumption) (by assumption)).elim, rfl⟩) (Nat.le_of_ble_eq_true rfl) (Nat.le_of_ble_eq_true rfl) dX12_qPartOf_134
  · skip
    refine lv_ldc2 (v := (-1)) hx hb hown (hts _ w_7_155) dX12_qPartOf_121 ?_
    refine lv_goto (tgt := 134) hx hb dX12_qPartOf_124 (by decide) ?_
    exact sk_lret hx hb hr hlocks hK hP hD hS (⟨(mn_f hk7 (by assumption) (by assumption) (by assumption) (by assumption) (by assumption) (by assumption) (by assumption)).elim, rfl⟩) (Nat.le_of_ble_eq_true rfl) (Nat.le_of_ble_eq_true rfl) dX12_qPartOf_134
set_option maxHeartbeats 4000000 in
set_option maxRecDepth 100000 in
theorem c_nm_codesTell0 (l : Launch) (D : va_G) (cI cJ cC cZ cS : ClassId) (mm : Nat) (g : Nat → Nat) (ta : Nat) (pa : Nat) (pe : Nat) (pd : Int32) (pb : Nat) (pp : Int32) (pf : Int32) (pg : Int32) (pn : Int32) (rt : Int32) (rn : Int32) (cd : Nat) (sn : Int32) (il : Nat) (tk : Int32) (am : Int32) (at_ : Int32) (aa : Int32) (mt_ : Int32) (wt : Int32) (wy : Int64) (it_ : Nat) (rm : Nat) (ud : Nat) (nu : Nat) (sd : Int64) (qn : Nat) (qw : Nat) (qo : Int32) (qb : Nat) (qp : Nat) (qa : Int64) (qi : Nat) (oc : Nat) (d : Nat) (u0 : Int32) (u1 : Int32) (u2 : Int32) (u4 : Int32) (u5 : Int32) (ca : Nat) (v0 : Int32) (v1 : Int32) (v2 : Int32) (v4 : Int32) (v5 : Int32) (cb : Nat) (cs : Nat → Nat) (nw : Nat → Int32) (pt : Nat → Nat) (ql : Nat → Int64) (K : List Nat) (nm : Nat → Int64) (v : Int64) (kn : Nat) (hd : d < 9) (hab : ca ≤ cb) (hbk : cb ≤ K.length) (hkl : K.length ≤ 1600) (hKc : ∀ j, j < K.length → cs (1600 + j) = K.getD j 0) (hkn : kn < 2) (hns : kcNs kn (kcSub K (ca, cb))) (hnm : mnO nm am at_ aa nw d) (hex : kcEx nm 64 (kcSub K (ca, cb)) [] = some [v]) (hcs : ∀ j, cs j ≤ 20000) (hnw : nowOk nw) (hpt : ∀ j, pt j ≤ 9) : skM l yX12_codesTell cX12_codesTell 5 (some .long) 2 50 0 0 D (skT cI cJ cC cZ cS) [.ref mm, .int 0, .int (nI d)] [ro_ mm 12 (mo g (nI ta) (nI pa) (nI pe) pd (nI pb) pp pf pg pn rt rn (nI cd) sn (nI il) tk am at_ aa mt_ 0 (-1) wt wy (nI it_) (nI rm) (nI ud) (nI nu) sd (nI qn) (nI qw) qo (nI qb) (nI qp) qa (nI qi) (nI oc)), ra_I (g 24) cI 6 (l6 u0 u1 u2 (nI ca) u4 u5), ra_I (g 25) cI 6 (l6 v0 v1 v2 (nI cb) v4 v5), ra_N (g 26) cI 3200 cs, ra_I (g 31) cI 120 nw, ra_N (g 46) cI 9 pt, ra_J (g 86) cJ 1700 ql] (skL D (skT cI cJ cC cZ cS) (fun (r : Int64) (u : va_W) => ∃ (qp2 : Nat), ∃ (ql2 : Nat → Int64), r = v ∧ u = [ro_ mm 12 (mo g (nI ta) (nI pa) (nI pe) pd (nI pb) pp pf pg pn rt rn (nI cd) sn (nI il) 0 am at_ aa mt_ 0 (-1) wt wy (nI it_) (nI rm) (nI ud) (nI nu) sd (nI qn) (nI qw) qo (nI qb) (nI qp2) qa (nI qi) (nI oc)), ra_I (g 24) cI 6 (l6 u0 u1 u2 (nI ca) u4 u5), ra_I (g 25) cI 6 (l6 v0 v1 v2 (nI cb) v4 v5), ra_N (g 26) cI 3200 cs, ra_I (g 31) cI 120 nw, ra_N (g 46) cI 9 pt, ra_J (g 86) cJ 1700 ql2])) := by
  refine skM_of pf_X12_codesTell (Nat.le_of_ble_eq_true rfl) ?_
  intro p e s m below meth c A ls E hP hD hl
  refine skE_el E (fun hx hb hr hml hlocks hin hown hts hK hA => ?_)
  have hown : s.vm.findClass RX12 = some m.cls := hown
  have hS : va_S A s.heap s.heap [] := va_S.rf
  have hl : lv_has ls 5 [(0, .ref mm), (1, .int 0), (2, .int (nI d))] := hl
  refine lv_aload_n hx hb dX12_codesTell_0 rfl (lv_at hl 0 rfl) ?_
  refine lv_iload_n hx hb dX12_codesTell_1 rfl (lv_at hl 1 rfl) ?_
  refine lv_iconst (v := 1) hx hb dX12_codesTell_2 ic_1 ?_
  refine lv_icmp_ne (tgt := 10) hx hb dX12_codesTell_3 (by decide) (fun c_1 => ?_) (fun c => absurd c (by decide))
  refine lv_iconst (v := 0) hx hb dX12_codesTell_10 ic_0 ?_
  refine sk_put (ws' := [ro_ mm 12 (mo g (nI ta) (nI pa) (nI pe) pd (nI pb) pp pf pg pn rt rn (nI cd) sn (nI il) 0 am at_ aa mt_ 0 (-1) wt wy (nI it_) (nI rm) (nI ud) (nI nu) sd (nI qn) (nI qw) qo (nI qb) (nI qp) qa (nI qi) (nI oc)), ra_I (g 24) cI 6 (l6 u0 u1 u2 (nI ca) u4 u5), ra_I (g 25) cI 6 (l6 v0 v1 v2 (nI cb) v4 v5), ra_N (g 26) cI 3200 cs, ra_I (g 31) cI 120 nw, ra_N (g 46) cI 9 pt, ra_J (g 86) cJ 1700 ql]) (C := RX12) (T := TX12) (N := 92) (v := .int 0) hx hb hts inlX12 tyX12 tyX12_ok nmX12 hown hK hP hD hS 0 rfl rfl 30 (Nat.le_of_ble_eq_true rfl) w_5_185 rfl rfl rfl (Nat.le_of_ble_eq_true rfl) rfl dX12_codesTell_11 (fun H locs hP hD hS => ?_)
  refine lv_aload_n hx hb dX12_codesTell_14 rfl (lv_at hl 0 rfl) ?_
  refine lv_iconst (v := 0) hx hb dX12_codesTell_15 ic_0 ?_
  refine sk_put (ws' := [ro_ mm 12 (mo g (nI ta) (nI pa) (nI pe) pd (nI pb) pp pf pg pn rt rn (nI cd) sn (nI il) 0 am at_ aa mt_ 0 (-1) wt wy (nI it_) (nI rm) (nI ud) (nI nu) sd (nI qn) (nI qw) qo (nI qb) 0 qa (nI qi) (nI oc)), ra_I (g 24) cI 6 (l6 u0 u1 u2 (nI ca) u4 u5), ra_I (g 25) cI 6 (l6 v0 v1 v2 (nI cb) v4 v5), ra_N (g 26) cI 3200 cs, ra_I (g 31) cI 120 nw, ra_N (g 46) cI 9 pt, ra_J (g 86) cJ 1700 ql]) (C := RX12) (T := TX12) (N := 92) (v := .int 0) hx hb hts inlX12 tyX12 tyX12_ok nmX12 hown hK hP hD hS 0 rfl rfl 87 (Nat.le_of_ble_eq_true rfl) w_6_2 rfl rfl rfl (Nat.le_of_ble_eq_true rfl) rfl dX12_codesTell_16 (fun H locs hP hD hS => ?_)
  refine lv_aload_n hx hb dX12_codesTell_19 rfl (lv_at hl 0 rfl) ?_
  refine sk_get (v := .ref (g 24)) (C := RX12) (T := TX12) (N := 92) hx hb hts inlX12 hown hK hP 0 rfl rfl 24 (Nat.le_of_ble_eq_true rfl) w_5_179 rfl dX12_codesTell_20 ?_
  refine lv_iconst (v := 3) hx hb dX12_codesTell_23 ic_3 ?_
  refine lv_iload_n hx hb dX12_codesTell_24 rfl (lv_at hl 1 rfl) ?_
  refine lv_iadd hx hb dX12_codesTell_25 ?_
  refine sk_top 3 (by decide) ?_
  refine va_iald hx hb hK.1 hP 1 0 rfl rfl (by unfold vp_in; decide) dX12_codesTell_26 ?_
  refine sk_top (nI ca) rfl ?_
  refine lv_istore_n (lv' := [(3, .int (nI ca)), (0, .ref mm), (1, .int 0), (2, .int (nI d))]) hx hb dX12_codesTell_27 rfl hl (by decide) rfl (fun ls hl => ?_)
  have lp_2 : ∀ (n_3 : Nat) (i : Nat) (zq : Nat) (zl : Nat → Int64) (SS : List Int64) (H : Heap) (locs : List Loc) (ls : Array Slot), cb - i < n_3 → (ca ≤ i) → (i ≤ cb) → (zq = SS.length) → (zq ≤ 64) → (stkO zl SS) → (kcNs kn (kcSub K (i, cb))) → (kcEx nm 64 (kcSub K (i, cb)) SS = some [v]) → va_P D vwCl [ro_ mm 12 (mo g (nI ta) (nI pa) (nI pe) pd (nI pb) pp pf pg pn rt rn (nI cd) sn (nI il) 0 am at_ aa mt_ 0 (-1) wt wy (nI it_) (nI rm) (nI ud) (nI nu) sd (nI qn) (nI qw) qo (nI qb) (nI zq) qa (nI qi) (nI oc)), ra_I (g 24) cI 6 (l6 u0 u1 u2 (nI ca) u4 u5), ra_I (g 25) cI 6 (l6 v0 v1 v2 (nI cb) v4 v5), ra_N (g 26) cI 3200 cs, ra_I (g 31) cI 120 nw, ra_N (g 46) cI 9 pt, ra_J (g 86) cJ 1700 zl] H → va_D A [ro_ mm 12 (mo g (nI ta) (nI pa) (nI pe) pd (nI pb) pp pf pg pn rt rn (nI cd) sn (nI il) 0 am at_ aa mt_ 0 (-1) wt wy (nI it_) (nI rm) (nI ud) (nI nu) sd (nI qn) (nI qw) qo (nI qb) (nI zq) qa (nI qi) (nI oc)), ra_I (g 24) cI 6 (l6 u0 u1 u2 (nI ca) u4 u5), ra_I (g 25) cI 6 (l6 v0 v1 v2 (nI cb) v4 v5), ra_N (g 26) cI 3200 cs, ra_I (g 31) cI 120 nw, ra_N (g 46) cI 9 pt, ra_J (g 86) cJ 1700 zl] → va_S A s.heap H locs → lv_has ls 5 [(3, .int (nI i)), (0, .ref mm), (1, .int 0), (2, .int (nI d))] → W p l e { frames := 2, cells := 0, slots := 0, locals := 50 } s m ([.ref mm, .int 0, .int (nI d)] : List Value).toArray below meth c H locs 0 0 (MQ below (skL D (skT cI cJ cC cZ cS) (fun (r : Int64) (u : va_W) => ∃ (qp2 : Nat), ∃ (ql2 : Nat → Int64), r = v ∧ u = [ro_ mm 12 (mo g (nI ta) (nI pa) (nI pe) pd (nI pb) pp pf pg pn rt rn (nI cd) sn (nI il) 0 am at_ aa mt_ 0 (-1) wt wy (nI it_) (nI rm) (nI ud) (nI nu) sd (nI qn) (nI qw) qo (nI qb) (nI qp2) qa (nI qi) (nI oc)), ra_I (g 24) cI 6 (l6 u0 u1 u2 (nI ca) u4 u5), ra_I (g 25) cI 6 (l6 v0 v1 v2 (nI cb) v4 v5), ra_N (g 26) cI 3200 cs, ra_I (g 31) cI 120 nw, ra_N (g 46) cI 9 pt, ra_J (g 86) cJ 1700 ql2]) A) ([.ref mm, .int 0, .int (nI d)] : List Value).toArray s 0 0 A) (F0 m 28 ls []) := by
    intro n_3
    induction n_3 with
    | zero => intro i zq zl SS H locs ls hm; exact absurd hm (Nat.not_lt_zero _)
    | succ n_3 ih_lp_2 =>
      intro i zq zl SS H locs ls hm hi1 hi2 hzq0 hzq1 hst hns2 hex2 hP hD hS hl
      refine lv_iload_n hx hb dX12_codesTell_28 rfl (lv_at hl 0 rfl) ?_
      refine lv_aload_n hx hb dX12_codesTell_29 rfl (lv_at hl 1 rfl) ?_
      refine sk_get (v := .ref (g 25)) (C := RX12) (T := TX12) (N := 92) hx hb hts inlX12 hown hK hP 0 rfl rfl 25 (Nat.le_of_ble_eq_true rfl) w_5_180 rfl dX12_codesTell_30 ?_
      refine lv_iconst (v := 3) hx hb dX12_codesTell_33 ic_3 ?_
      refine lv_iload_n hx hb dX12_codesTell_34 rfl (lv_at hl 2 rfl) ?_
      refine lv_iadd hx hb dX12_codesTell_35 ?_
      refine sk_top 3 (by decide) ?_
      refine va_iald hx hb hK.1 hP 2 0 rfl rfl (by unfold vp_in; decide) dX12_codesTell_36 ?_
      refine sk_top (nI cb) rfl ?_
      refine lv_icmp_ge (tgt := 110) hx hb dX12_codesTell_37 (by decide) (fun c_4 => ?_) (fun c_4 => ?_)
      · have c_4 : cb ≤ i := (nle cb i (by omega) (by omega)).mp c_4
        obtain rfl := kx_end hex2 (by omega)
        have htp3 : zq = 1 := hzq0
        refine lv_aload_n hx hb dX12_codesTell_110 rfl (lv_at hl 1 rfl) ?_
        refine sk_get (v := .ref (g 86)) (C := RX12) (T := TX12) (N := 92) hx hb hts inlX12 hown hK hP 0 rfl rfl 86 (Nat.le_of_ble_eq_true rfl) w_6_1 rfl dX12_codesTell_111 ?_
        refine lv_iconst (v := 0) hx hb dX12_codesTell_114 ic_0 ?_
        refine va_lald hx hb hK.1 hP 6 1 rfl rfl (by unfold vp_in; decide) dX12_codesTell_115 ?_
        refine sk_topl v (hst.1) ?_
        exact sk_lret hx hb hr hlocks hK hP hD hS (⟨zq, zl, rfl, rfl⟩) (Nat.le_of_ble_eq_true rfl) (Nat.le_of_ble_eq_true rfl) dX12_codesTell_116
      · have c_4 : ¬ (cb ≤ i) := fun h => c_4 ((nle cb i (by omega) (by omega)).mpr h)
        have hib : i < cb := by omega
        rw [kcSub_c hib (by omega), ← hKc i (by omega)] at hex2 hns2
        have hns3 : kcNs kn (kcSub K (i + 1, cb)) := fun x hx => hns2 x (List.mem_cons_of_mem _ hx)
        obtain ⟨T, hT1, hT2, hT3⟩ := kcEx_c hex2
        rcases kx_c3 hkn (hns2 _ (List.mem_cons_self ..)) with ⟨hc1, hc2⟩ | ⟨hc1, hc2⟩ | ⟨hc1, hc2⟩
        · obtain ⟨b1, a1, R1, rfl, rfl⟩ := kcSt_two (by omega) hT1
          have htp2 : zq = R1.length + 2 := hzq0
          refine lv_aload_n hx hb dX12_codesTell_40 rfl (lv_at hl 1 rfl) ?_
          refine sk_get (v := .ref (g 26)) (C := RX12) (T := TX12) (N := 92) hx hb hts inlX12 hown hK hP 0 rfl rfl 26 (Nat.le_of_ble_eq_true rfl) w_5_181 rfl dX12_codesTell_41 ?_
          refine lv_sipush (v := 1600) hx hb dX12_codesTell_44 (by decide) ?_
          refine lv_iload_n hx hb dX12_codesTell_47 rfl (lv_at hl 0 rfl) ?_
          refine lv_iadd hx hb dX12_codesTell_48 ?_
          refine sk_top (nI (1600 + i)) (nI_add 1600 i) ?_
          refine va_iald hx hb hK.1 hP 3 0 rfl rfl (vin (1600 + i) 3200 (by omega) (Nat.le_of_ble_eq_true rfl)) dX12_codesTell_49 ?_
          refine sk_top (nI (cs (1600 + i))) (nrd cs (1600 + i) (by omega)) ?_
          have hb_5 := hcs (1600 + i)
          refine lv_istore (lv' := [(4, .int (nI (cs (1600 + i)))), (3, .int (nI i)), (0, .ref mm), (1, .int 0), (2, .int (nI d))]) hx hb dX12_codesTell_50 hl (by decide) rfl (fun ls hl => ?_)
          refine lv_iload hx hb dX12_codesTell_52 (lv_at hl 0 rfl) ?_
          refine lv_sipush (v := 1000) hx hb dX12_codesTell_54 (by decide) ?_
          refine lv_icmp_lt (tgt := 74) hx hb dX12_codesTell_57 (by decide) (fun c_6 => ?_) (fun c => absurd ((nlt (cs (1600 + i)) 1000 (by omega) (Nat.le_of_ble_eq_true rfl)).mpr (by omega)) c)
          refine lv_iload hx hb dX12_codesTell_74 (lv_at hl 0 rfl) ?_
          refine lv_bipush (v := 40) hx hb dX12_codesTell_76 (by decide) ?_
          refine lv_icmp_lt (tgt := 98) hx hb dX12_codesTell_78 (by decide) (fun c_7 => ?_) (fun c => absurd ((nlt (cs (1600 + i)) 40 (by omega) (Nat.le_of_ble_eq_true rfl)).mpr (by omega)) c)
          refine lv_aload_n hx hb dX12_codesTell_98 rfl (lv_at hl 2 rfl) ?_
          refine lv_iload hx hb dX12_codesTell_99 (lv_at hl 0 rfl) ?_
          refine sk_Vv (q0 := 0) (n := 1) (rest := []) (wr := fmR om_7_41 _) ⟨hx, hb, hml, hown, hts⟩ hl.1 (c_nm_qJoins l D cI cJ cC cZ cS mm g ta pa pe pd pb pp pf pg pn rt rn cd sn il 0 am at_ aa mt_ wt wy it_ rm ud nu sd qn qw qo qb zq qa qi oc (cs (1600 + i)) zl a1 b1 R1 (by omega) (by omega) hst (by omega) (by omega)) w_7_156 w_7_158 w_0_80 w_1_14 w_7_159 hd_X12_qJoins_1 ⟨⟨(Nat.le_of_ble_eq_true rfl), (Nat.le_of_ble_eq_true rfl)⟩, (Nat.le_of_ble_eq_true rfl), (Nat.le_of_ble_eq_true rfl)⟩ hK hP hD hS hA (fmT om_7_41 0) (fmF om_7_41 0) (fm_C1 rfl rfl) (fm_R rfl rfl) (fm_nT om_7_41 0) (fm_nF om_7_41 0) (fm_di om_7_41 0) rfl rfl rfl rfl (Nat.le_of_ble_eq_true rfl) dX12_codesTell_101 (fun u H locs hw hP hD hS => ?_)
          refine exE hw (fun ql2_8 hw1 => anE hw1 (fun hst2_9 eu_10 => ?_))
          clear hw hw1
          refine o_mgE (ws' := [ro_ mm 12 (mo g (nI ta) (nI pa) (nI pe) pd (nI pb) pp pf pg pn rt rn (nI cd) sn (nI il) 0 am at_ aa mt_ 0 (-1) wt wy (nI it_) (nI rm) (nI ud) (nI nu) sd (nI qn) (nI qw) qo (nI qb) (nI (zq - 2 + 1)) qa (nI qi) (nI oc)), ra_I (g 24) cI 6 (l6 u0 u1 u2 (nI ca) u4 u5), ra_I (g 25) cI 6 (l6 v0 v1 v2 (nI cb) v4 v5), ra_N (g 26) cI 3200 cs, ra_I (g 31) cI 120 nw, ra_N (g 46) cI 9 pt, ra_J (g 86) cJ 1700 ql2_8]) eu_10 hP hD rfl (fun hP hD => ?_)
          refine lv_iinc (v := nI (i + 1)) (lv' := [(3, .int (nI (i + 1))), (4, .int (nI (cs (1600 + i)))), (0, .ref mm), (1, .int 0), (2, .int (nI d))]) hx hb dX12_codesTell_104 hl (k := 1) rfl (ninc i 1 (by decide)) (by decide) rfl (fun ls hl => ?_)
          refine lv_goto (tgt := 28) hx hb dX12_codesTell_107 (by decide) ?_
          exact ih_lp_2 (i + 1) (zq - 2 + 1) ql2_8 (kcOp (cs (1600 + i)) a1 b1 :: R1) _ _ _ (by omega) (by omega) (by omega) (show _ = R1.length + 1 by omega) (by omega) hst2_9 hns3 hT3 hP hD hS (lv_sub hl [0, 2, 3, 4] rfl)
        · rw [kcSt_num (by omega)] at hT1
          obtain rfl := Option.some.inj hT1
          have htp2 : SS.length + 1 ≤ 64 := hT2
          refine lv_aload_n hx hb dX12_codesTell_40 rfl (lv_at hl 1 rfl) ?_
          refine sk_get (v := .ref (g 26)) (C := RX12) (T := TX12) (N := 92) hx hb hts inlX12 hown hK hP 0 rfl rfl 26 (Nat.le_of_ble_eq_true rfl) w_5_181 rfl dX12_codesTell_41 ?_
          refine lv_sipush (v := 1600) hx hb dX12_codesTell_44 (by decide) ?_
          refine lv_iload_n hx hb dX12_codesTell_47 rfl (lv_at hl 0 rfl) ?_
          refine lv_iadd hx hb dX12_codesTell_48 ?_
          refine sk_top (nI (1600 + i)) (nI_add 1600 i) ?_
          refine va_iald hx hb hK.1 hP 3 0 rfl rfl (vin (1600 + i) 3200 (by omega) (Nat.le_of_ble_eq_true rfl)) dX12_codesTell_49 ?_
          refine sk_top (nI (cs (1600 + i))) (nrd cs (1600 + i) (by omega)) ?_
          have hb_11 := hcs (1600 + i)
          refine lv_istore (lv' := [(4, .int (nI (cs (1600 + i)))), (3, .int (nI i)), (0, .ref mm), (1, .int 0), (2, .int (nI d))]) hx hb dX12_codesTell_50 hl (by decide) rfl (fun ls hl => ?_)
          refine lv_iload hx hb dX12_codesTell_52 (lv_at hl 0 rfl) ?_
          refine lv_sipush (v := 1000) hx hb dX12_codesTell_54 (by decide) ?_
          refine lv_icmp_lt (tgt := 74) hx hb dX12_codesTell_57 (by decide) (fun c => absurd ((nlt (cs (1600 + i)) 1000 (by omega) (Nat.le_of_ble_eq_true rfl)).mp c) (by omega)) (fun c_12 => ?_)
          refine lv_aload_n hx hb dX12_codesTell_60 rfl (lv_at hl 2 rfl) ?_
          refine lv_iload hx hb dX12_codesTell_61 (lv_at hl 0 rfl) ?_
          refine lv_sipush (v := 1000) hx hb dX12_codesTell_63 (by decide) ?_
          refine lv_isub hx hb dX12_codesTell_66 ?_
          refine sk_top (nI (cs (1600 + i) - 1000)) (nsub (cs (1600 + i)) 1000 (by omega)) ?_
          refine lv_i2l hx hb dX12_codesTell_67 rfl ?_
          refine sk_Vv (q0 := 0) (n := 1) (rest := []) (wr := fmR om_7_41 _) ⟨hx, hb, hml, hown, hts⟩ hl.1 (c_nm_qPuts l D cI cJ cC cZ cS mm g ta pa pe pd pb pp pf pg pn rt rn cd sn il 0 am at_ aa mt_ wt wy it_ rm ud nu sd qn qw qo qb zq qa qi oc (Int32.toInt64 (nI (cs (1600 + i) - 1000))) zl (by omega)) w_7_139 w_7_141 w_0_76 w_1_14 w_7_142 hd_X12_qPuts_1 ⟨⟨(Nat.le_of_ble_eq_true rfl), (Nat.le_of_ble_eq_true rfl)⟩, (Nat.le_of_ble_eq_true rfl), (Nat.le_of_ble_eq_true rfl)⟩ hK hP hD hS hA (fmT om_7_41 0) (fmF om_7_41 0) (fm_C1 rfl rfl) (fm_R rfl rfl) (fm_nT om_7_41 0) (fm_nF om_7_41 0) (fm_di om_7_41 0) rfl rfl rfl rfl (Nat.le_of_ble_eq_true rfl) dX12_codesTell_68 (fun u H locs hw hP hD hS => ?_)
          refine exE hw (fun ql2_13 hw1 => anE hw1 (fun hql_14 eu_15 => ?_))
          clear hw hw1
          refine o_mgE (ws' := [ro_ mm 12 (mo g (nI ta) (nI pa) (nI pe) pd (nI pb) pp pf pg pn rt rn (nI cd) sn (nI il) 0 am at_ aa mt_ 0 (-1) wt wy (nI it_) (nI rm) (nI ud) (nI nu) sd (nI qn) (nI qw) qo (nI qb) (nI (zq + 1)) qa (nI qi) (nI oc)), ra_I (g 24) cI 6 (l6 u0 u1 u2 (nI ca) u4 u5), ra_I (g 25) cI 6 (l6 v0 v1 v2 (nI cb) v4 v5), ra_N (g 26) cI 3200 cs, ra_I (g 31) cI 120 nw, ra_N (g 46) cI 9 pt, ra_J (g 86) cJ 1700 ql2_13]) eu_15 hP hD rfl (fun hP hD => ?_)
          have hs_16 := stk_push hst hzq0 hql_14 (kx_i2l (by omega))
          refine lv_goto (tgt := 104) hx hb dX12_codesTell_71 (by decide) ?_
          refine lv_iinc (v := nI (i + 1)) (lv' := [(3, .int (nI (i + 1))), (4, .int (nI (cs (1600 + i)))), (0, .ref mm), (1, .int 0), (2, .int (nI d))]) hx hb dX12_codesTell_104 hl (k := 1) rfl (ninc i 1 (by decide)) (by decide) rfl (fun ls hl => ?_)
          refine lv_goto (tgt := 28) hx hb dX12_codesTell_107 (by decide) ?_
          exact ih_lp_2 (i + 1) (zq + 1) ql2_13 (Int64.ofNat (cs (1600 + i) - 1000) :: SS) _ _ _ (by omega) (by omega) (by omega) (show _ = SS.length + 1 by omega) (by omega) hs_16 hns3 hT3 hP hD hS (lv_sub hl [0, 2, 3, 4] rfl)
        · rw [kcSt_nm (by omega) (by omega)] at hT1
          obtain rfl := Option.some.inj hT1
          have htp2 : SS.length + 1 ≤ 64 := hT2
          refine lv_aload_n hx hb dX12_codesTell_40 rfl (lv_at hl 1 rfl) ?_
          refine sk_get (v := .ref (g 26)) (C := RX12) (T := TX12) (N := 92) hx hb hts inlX12 hown hK hP 0 rfl rfl 26 (Nat.le_of_ble_eq_true rfl) w_5_181 rfl dX12_codesTell_41 ?_
          refine lv_sipush (v := 1600) hx hb dX12_codesTell_44 (by decide) ?_
          refine lv_iload_n hx hb dX12_codesTell_47 rfl (lv_at hl 0 rfl) ?_
          refine lv_iadd hx hb dX12_codesTell_48 ?_
          refine sk_top (nI (1600 + i)) (nI_add 1600 i) ?_
          refine va_iald hx hb hK.1 hP 3 0 rfl rfl (vin (1600 + i) 3200 (by omega) (Nat.le_of_ble_eq_true rfl)) dX12_codesTell_49 ?_
          refine sk_top (nI (cs (1600 + i))) (nrd cs (1600 + i) (by omega)) ?_
          have hb_17 := hcs (1600 + i)
          refine lv_istore (lv' := [(4, .int (nI (cs (1600 + i)))), (3, .int (nI i)), (0, .ref mm), (1, .int 0), (2, .int (nI d))]) hx hb dX12_codesTell_50 hl (by decide) rfl (fun ls hl => ?_)
          refine lv_iload hx hb dX12_codesTell_52 (lv_at hl 0 rfl) ?_
          refine lv_sipush (v := 1000) hx hb dX12_codesTell_54 (by decide) ?_
          refine lv_icmp_lt (tgt := 74) hx hb dX12_codesTell_57 (by decide) (fun c_18 => ?_) (fun c => absurd ((nlt (cs (1600 + i)) 1000 (by omega) (Nat.le_of_ble_eq_true rfl)).mpr (by omega)) c)
          refine lv_iload hx hb dX12_codesTell_74 (lv_at hl 0 rfl) ?_
          refine lv_bipush (v := 40) hx hb dX12_codesTell_76 (by decide) ?_
          refine lv_icmp_lt (tgt := 98) hx hb dX12_codesTell_78 (by decide) (fun c => absurd ((nlt (cs (1600 + i)) 40 (by omega) (Nat.le_of_ble_eq_true rfl)).mp c) (by omega)) (fun c_19 => ?_)
          refine lv_aload_n hx hb dX12_codesTell_81 rfl (lv_at hl 2 rfl) ?_
          refine lv_aload_n hx hb dX12_codesTell_82 rfl (lv_at hl 2 rfl) ?_
          refine lv_iload hx hb dX12_codesTell_83 (lv_at hl 0 rfl) ?_
          refine lv_bipush (v := 40) hx hb dX12_codesTell_85 (by decide) ?_
          refine lv_isub hx hb dX12_codesTell_87 ?_
          refine sk_top (nI (cs (1600 + i) - 40)) (nsub (cs (1600 + i)) 40 (by omega)) ?_
          refine lv_iload_n hx hb dX12_codesTell_88 rfl (lv_at hl 4 rfl) ?_
          refine sk_Vl (q0 := 0) (n := 2) (rest := [.ref mm]) (wr := fmR om_7_46 _) ⟨hx, hb, hml, hown, hts⟩ hl.1 (c_nm_qPartOf l D cI cJ cC cZ cS mm g ta pa pe pd pb pp pf pg pn rt rn cd sn il 0 am at_ aa mt_ wt wy it_ rm ud nu sd qn qw qo qb zq qa qi oc (cs (1600 + i) - 40) d nw pt nm hd (by omega) hnm hnw hpt) w_7_143 w_7_145 w_0_77 w_1_14 w_7_146 hd_X12_qPartOf_2 ⟨⟨(Nat.le_of_ble_eq_true rfl), (Nat.le_of_ble_eq_true rfl)⟩, (Nat.le_of_ble_eq_true rfl), (Nat.le_of_ble_eq_true rfl)⟩ hK hP hD hS hA (fmT om_7_46 0) (fmF om_7_46 0) (fm_C1 rfl rfl) (fm_R rfl rfl) (fm_nT om_7_46 0) (fm_nF om_7_46 0) (fm_di om_7_46 0) rfl rfl rfl rfl (Nat.le_of_ble_eq_true rfl) dX12_codesTell_89 (fun r_20 u H locs hw hP hD hS => ?_)
          refine anE hw (fun hr_21 eu_22 => ?_)
          clear hw
          refine o_mgE (ws' := [ro_ mm 12 (mo g (nI ta) (nI pa) (nI pe) pd (nI pb) pp pf pg pn rt rn (nI cd) sn (nI il) 0 am at_ aa mt_ 0 (-1) wt wy (nI it_) (nI rm) (nI ud) (nI nu) sd (nI qn) (nI qw) qo (nI qb) (nI zq) qa (nI qi) (nI oc)), ra_I (g 24) cI 6 (l6 u0 u1 u2 (nI ca) u4 u5), ra_I (g 25) cI 6 (l6 v0 v1 v2 (nI cb) v4 v5), ra_N (g 26) cI 3200 cs, ra_I (g 31) cI 120 nw, ra_N (g 46) cI 9 pt, ra_J (g 86) cJ 1700 zl]) eu_22 hP hD rfl (fun hP hD => ?_)
          subst hr_21
          refine sk_Vv (q0 := 0) (n := 1) (rest := []) (wr := fmR om_7_41 _) ⟨hx, hb, hml, hown, hts⟩ hl.1 (c_nm_qPuts l D cI cJ cC cZ cS mm g ta pa pe pd pb pp pf pg pn rt rn cd sn il 0 am at_ aa mt_ wt wy it_ rm ud nu sd qn qw qo qb zq qa qi oc (nm (cs (1600 + i) - 40)) zl (by omega)) w_7_139 w_7_141 w_0_76 w_1_14 w_7_142 hd_X12_qPuts_1 ⟨⟨(Nat.le_of_ble_eq_true rfl), (Nat.le_of_ble_eq_true rfl)⟩, (Nat.le_of_ble_eq_true rfl), (Nat.le_of_ble_eq_true rfl)⟩ hK hP hD hS hA (fmT om_7_41 0) (fmF om_7_41 0) (fm_C1 rfl rfl) (fm_R rfl rfl) (fm_nT om_7_41 0) (fm_nF om_7_41 0) (fm_di om_7_41 0) rfl rfl rfl rfl (Nat.le_of_ble_eq_true rfl) dX12_codesTell_92 (fun u H locs hw hP hD hS => ?_)
          refine exE hw (fun ql2_23 hw1 => anE hw1 (fun hql_24 eu_25 => ?_))
          clear hw hw1
          refine o_mgE (ws' := [ro_ mm 12 (mo g (nI ta) (nI pa) (nI pe) pd (nI pb) pp pf pg pn rt rn (nI cd) sn (nI il) 0 am at_ aa mt_ 0 (-1) wt wy (nI it_) (nI rm) (nI ud) (nI nu) sd (nI qn) (nI qw) qo (nI qb) (nI (zq + 1)) qa (nI qi) (nI oc)), ra_I (g 24) cI 6 (l6 u0 u1 u2 (nI ca) u4 u5), ra_I (g 25) cI 6 (l6 v0 v1 v2 (nI cb) v4 v5), ra_N (g 26) cI 3200 cs, ra_I (g 31) cI 120 nw, ra_N (g 46) cI 9 pt, ra_J (g 86) cJ 1700 ql2_23]) eu_25 hP hD rfl (fun hP hD => ?_)
          have hs_26 := stk_push hst hzq0 hql_24 rfl
          refine lv_goto (tgt := 104) hx hb dX12_codesTell_95 (by decide) ?_
          refine lv_iinc (v := nI (i + 1)) (lv' := [(3, .int (nI (i + 1))), (4, .int (nI (cs (1600 + i)))), (0, .ref mm), (1, .int 0), (2, .int (nI d))]) hx hb dX12_codesTell_104 hl (k := 1) rfl (ninc i 1 (by decide)) (by decide) rfl (fun ls hl => ?_)
          refine lv_goto (tgt := 28) hx hb dX12_codesTell_107 (by decide) ?_
          exact ih_lp_2 (i + 1) (zq + 1) ql2_23 (nm (cs (1600 + i) - 40) :: SS) _ _ _ (by omega) (by omega) (by omega) (show _ = SS.length + 1 by omega) (by omega) hs_26 hns3 hT3 hP hD hS (lv_sub hl [0, 2, 3, 4] rfl)
  exact lp_2 (cb - ca + 1) ca 0 ql ([]) _ _ _ (Nat.lt_succ_self _) (by omega) hab rfl (by omega) True.intro hns hex hP hD hS (lv_sub hl [0, 1, 2, 3] rfl)
set_option maxHeartbeats 4000000 in
set_option maxRecDepth 100000 in
theorem c_nm_codesTell1 (l : Launch) (D : va_G) (cI cJ cC cZ cS : ClassId) (mm : Nat) (g : Nat → Nat) (ta : Nat) (pa : Nat) (pe : Nat) (pd : Int32) (pb : Nat) (pp : Int32) (pf : Int32) (pg : Int32) (pn : Int32) (rt : Int32) (rn : Int32) (cd : Nat) (sn : Int32) (il : Nat) (tk : Int32) (am : Int32) (at_ : Int32) (aa : Int32) (mt_ : Int32) (wt : Int32) (wy : Int64) (it_ : Nat) (rm : Nat) (ud : Nat) (nu : Nat) (sd : Int64) (qn : Nat) (qw : Nat) (qo : Int32) (qb : Nat) (qp : Nat) (qa : Int64) (qi : Nat) (oc : Nat) (d : Nat) (u0 : Int32) (u1 : Int32) (u2 : Int32) (u3 : Int32) (u5 : Int32) (ca : Nat) (v0 : Int32) (v1 : Int32) (v2 : Int32) (v3 : Int32) (v5 : Int32) (cb : Nat) (cs : Nat → Nat) (nw : Nat → Int32) (pt : Nat → Nat) (ql : Nat → Int64) (K : List Nat) (nm : Nat → Int64) (v : Int64) (kn : Nat) (hd : d < 9) (hab : ca ≤ cb) (hbk : cb ≤ K.length) (hkl : K.length ≤ 1600) (hKc : ∀ j, j < K.length → cs (1600 + j) = K.getD j 0) (hkn : kn < 2) (hns : kcNs kn (kcSub K (ca, cb))) (hnm : mnO nm am at_ aa nw d) (hex : kcEx nm 64 (kcSub K (ca, cb)) [] = some [v]) (hcs : ∀ j, cs j ≤ 20000) (hnw : nowOk nw) (hpt : ∀ j, pt j ≤ 9) : skM l yX12_codesTell cX12_codesTell 5 (some .long) 2 50 0 0 D (skT cI cJ cC cZ cS) [.ref mm, .int 1, .int (nI d)] [ro_ mm 12 (mo g (nI ta) (nI pa) (nI pe) pd (nI pb) pp pf pg pn rt rn (nI cd) sn (nI il) tk am at_ aa mt_ 0 (-1) wt wy (nI it_) (nI rm) (nI ud) (nI nu) sd (nI qn) (nI qw) qo (nI qb) (nI qp) qa (nI qi) (nI oc)), ra_I (g 24) cI 6 (l6 u0 u1 u2 u3 (nI ca) u5), ra_I (g 25) cI 6 (l6 v0 v1 v2 v3 (nI cb) v5), ra_N (g 26) cI 3200 cs, ra_I (g 31) cI 120 nw, ra_N (g 46) cI 9 pt, ra_J (g 86) cJ 1700 ql] (skL D (skT cI cJ cC cZ cS) (fun (r : Int64) (u : va_W) => ∃ (qp2 : Nat), ∃ (ql2 : Nat → Int64), r = v ∧ u = [ro_ mm 12 (mo g (nI ta) (nI pa) (nI pe) pd (nI pb) pp pf pg pn rt rn (nI cd) sn (nI il) 1 am at_ aa mt_ 0 (-1) wt wy (nI it_) (nI rm) (nI ud) (nI nu) sd (nI qn) (nI qw) qo (nI qb) (nI qp2) qa (nI qi) (nI oc)), ra_I (g 24) cI 6 (l6 u0 u1 u2 u3 (nI ca) u5), ra_I (g 25) cI 6 (l6 v0 v1 v2 v3 (nI cb) v5), ra_N (g 26) cI 3200 cs, ra_I (g 31) cI 120 nw, ra_N (g 46) cI 9 pt, ra_J (g 86) cJ 1700 ql2])) := by
  refine skM_of pf_X12_codesTell (Nat.le_of_ble_eq_true rfl) ?_
  intro p e s m below meth c A ls E hP hD hl
  refine skE_el E (fun hx hb hr hml hlocks hin hown hts hK hA => ?_)
  have hown : s.vm.findClass RX12 = some m.cls := hown
  have hS : va_S A s.heap s.heap [] := va_S.rf
  have hl : lv_has ls 5 [(0, .ref mm), (1, .int 1), (2, .int (nI d))] := hl
  refine lv_aload_n hx hb dX12_codesTell_0 rfl (lv_at hl 0 rfl) ?_
  refine lv_iload_n hx hb dX12_codesTell_1 rfl (lv_at hl 1 rfl) ?_
  refine lv_iconst (v := 1) hx hb dX12_codesTell_2 ic_1 ?_
  refine lv_icmp_ne (tgt := 10) hx hb dX12_codesTell_3 (by decide) (fun c => absurd c (by decide)) (fun c_1 => ?_)
  refine lv_iconst (v := 1) hx hb dX12_codesTell_6 ic_1 ?_
  refine lv_goto (tgt := 11) hx hb dX12_codesTell_7 (by decide) ?_
  refine sk_put (ws' := [ro_ mm 12 (mo g (nI ta) (nI pa) (nI pe) pd (nI pb) pp pf pg pn rt rn (nI cd) sn (nI il) 1 am at_ aa mt_ 0 (-1) wt wy (nI it_) (nI rm) (nI ud) (nI nu) sd (nI qn) (nI qw) qo (nI qb) (nI qp) qa (nI qi) (nI oc)), ra_I (g 24) cI 6 (l6 u0 u1 u2 u3 (nI ca) u5), ra_I (g 25) cI 6 (l6 v0 v1 v2 v3 (nI cb) v5), ra_N (g 26) cI 3200 cs, ra_I (g 31) cI 120 nw, ra_N (g 46) cI 9 pt, ra_J (g 86) cJ 1700 ql]) (C := RX12) (T := TX12) (N := 92) (v := .int 1) hx hb hts inlX12 tyX12 tyX12_ok nmX12 hown hK hP hD hS 0 rfl rfl 30 (Nat.le_of_ble_eq_true rfl) w_5_185 rfl rfl rfl (Nat.le_of_ble_eq_true rfl) rfl dX12_codesTell_11 (fun H locs hP hD hS => ?_)
  refine lv_aload_n hx hb dX12_codesTell_14 rfl (lv_at hl 0 rfl) ?_
  refine lv_iconst (v := 0) hx hb dX12_codesTell_15 ic_0 ?_
  refine sk_put (ws' := [ro_ mm 12 (mo g (nI ta) (nI pa) (nI pe) pd (nI pb) pp pf pg pn rt rn (nI cd) sn (nI il) 1 am at_ aa mt_ 0 (-1) wt wy (nI it_) (nI rm) (nI ud) (nI nu) sd (nI qn) (nI qw) qo (nI qb) 0 qa (nI qi) (nI oc)), ra_I (g 24) cI 6 (l6 u0 u1 u2 u3 (nI ca) u5), ra_I (g 25) cI 6 (l6 v0 v1 v2 v3 (nI cb) v5), ra_N (g 26) cI 3200 cs, ra_I (g 31) cI 120 nw, ra_N (g 46) cI 9 pt, ra_J (g 86) cJ 1700 ql]) (C := RX12) (T := TX12) (N := 92) (v := .int 0) hx hb hts inlX12 tyX12 tyX12_ok nmX12 hown hK hP hD hS 0 rfl rfl 87 (Nat.le_of_ble_eq_true rfl) w_6_2 rfl rfl rfl (Nat.le_of_ble_eq_true rfl) rfl dX12_codesTell_16 (fun H locs hP hD hS => ?_)
  refine lv_aload_n hx hb dX12_codesTell_19 rfl (lv_at hl 0 rfl) ?_
  refine sk_get (v := .ref (g 24)) (C := RX12) (T := TX12) (N := 92) hx hb hts inlX12 hown hK hP 0 rfl rfl 24 (Nat.le_of_ble_eq_true rfl) w_5_179 rfl dX12_codesTell_20 ?_
  refine lv_iconst (v := 3) hx hb dX12_codesTell_23 ic_3 ?_
  refine lv_iload_n hx hb dX12_codesTell_24 rfl (lv_at hl 1 rfl) ?_
  refine lv_iadd hx hb dX12_codesTell_25 ?_
  refine sk_top 4 (by decide) ?_
  refine va_iald hx hb hK.1 hP 1 0 rfl rfl (by unfold vp_in; decide) dX12_codesTell_26 ?_
  refine sk_top (nI ca) rfl ?_
  refine lv_istore_n (lv' := [(3, .int (nI ca)), (0, .ref mm), (1, .int 1), (2, .int (nI d))]) hx hb dX12_codesTell_27 rfl hl (by decide) rfl (fun ls hl => ?_)
  have lp_2 : ∀ (n_3 : Nat) (i : Nat) (zq : Nat) (zl : Nat → Int64) (SS : List Int64) (H : Heap) (locs : List Loc) (ls : Array Slot), cb - i < n_3 → (ca ≤ i) → (i ≤ cb) → (zq = SS.length) → (zq ≤ 64) → (stkO zl SS) → (kcNs kn (kcSub K (i, cb))) → (kcEx nm 64 (kcSub K (i, cb)) SS = some [v]) → va_P D vwCl [ro_ mm 12 (mo g (nI ta) (nI pa) (nI pe) pd (nI pb) pp pf pg pn rt rn (nI cd) sn (nI il) 1 am at_ aa mt_ 0 (-1) wt wy (nI it_) (nI rm) (nI ud) (nI nu) sd (nI qn) (nI qw) qo (nI qb) (nI zq) qa (nI qi) (nI oc)), ra_I (g 24) cI 6 (l6 u0 u1 u2 u3 (nI ca) u5), ra_I (g 25) cI 6 (l6 v0 v1 v2 v3 (nI cb) v5), ra_N (g 26) cI 3200 cs, ra_I (g 31) cI 120 nw, ra_N (g 46) cI 9 pt, ra_J (g 86) cJ 1700 zl] H → va_D A [ro_ mm 12 (mo g (nI ta) (nI pa) (nI pe) pd (nI pb) pp pf pg pn rt rn (nI cd) sn (nI il) 1 am at_ aa mt_ 0 (-1) wt wy (nI it_) (nI rm) (nI ud) (nI nu) sd (nI qn) (nI qw) qo (nI qb) (nI zq) qa (nI qi) (nI oc)), ra_I (g 24) cI 6 (l6 u0 u1 u2 u3 (nI ca) u5), ra_I (g 25) cI 6 (l6 v0 v1 v2 v3 (nI cb) v5), ra_N (g 26) cI 3200 cs, ra_I (g 31) cI 120 nw, ra_N (g 46) cI 9 pt, ra_J (g 86) cJ 1700 zl] → va_S A s.heap H locs → lv_has ls 5 [(3, .int (nI i)), (0, .ref mm), (1, .int 1), (2, .int (nI d))] → W p l e { frames := 2, cells := 0, slots := 0, locals := 50 } s m ([.ref mm, .int 1, .int (nI d)] : List Value).toArray below meth c H locs 0 0 (MQ below (skL D (skT cI cJ cC cZ cS) (fun (r : Int64) (u : va_W) => ∃ (qp2 : Nat), ∃ (ql2 : Nat → Int64), r = v ∧ u = [ro_ mm 12 (mo g (nI ta) (nI pa) (nI pe) pd (nI pb) pp pf pg pn rt rn (nI cd) sn (nI il) 1 am at_ aa mt_ 0 (-1) wt wy (nI it_) (nI rm) (nI ud) (nI nu) sd (nI qn) (nI qw) qo (nI qb) (nI qp2) qa (nI qi) (nI oc)), ra_I (g 24) cI 6 (l6 u0 u1 u2 u3 (nI ca) u5), ra_I (g 25) cI 6 (l6 v0 v1 v2 v3 (nI cb) v5), ra_N (g 26) cI 3200 cs, ra_I (g 31) cI 120 nw, ra_N (g 46) cI 9 pt, ra_J (g 86) cJ 1700 ql2]) A) ([.ref mm, .int 1, .int (nI d)] : List Value).toArray s 0 0 A) (F0 m 28 ls []) := by
    intro n_3
    induction n_3 with
    | zero => intro i zq zl SS H locs ls hm; exact absurd hm (Nat.not_lt_zero _)
    | succ n_3 ih_lp_2 =>
      intro i zq zl SS H locs ls hm hi1 hi2 hzq0 hzq1 hst hns2 hex2 hP hD hS hl
      refine lv_iload_n hx hb dX12_codesTell_28 rfl (lv_at hl 0 rfl) ?_
      refine lv_aload_n hx hb dX12_codesTell_29 rfl (lv_at hl 1 rfl) ?_
      refine sk_get (v := .ref (g 25)) (C := RX12) (T := TX12) (N := 92) hx hb hts inlX12 hown hK hP 0 rfl rfl 25 (Nat.le_of_ble_eq_true rfl) w_5_180 rfl dX12_codesTell_30 ?_
      refine lv_iconst (v := 3) hx hb dX12_codesTell_33 ic_3 ?_
      refine lv_iload_n hx hb dX12_codesTell_34 rfl (lv_at hl 2 rfl) ?_
      refine lv_iadd hx hb dX12_codesTell_35 ?_
      refine sk_top 4 (by decide) ?_
      refine va_iald hx hb hK.1 hP 2 0 rfl rfl (by unfold vp_in; decide) dX12_codesTell_36 ?_
      refine sk_top (nI cb) rfl ?_
      refine lv_icmp_ge (tgt := 110) hx hb dX12_codesTell_37 (by decide) (fun c_4 => ?_) (fun c_4 => ?_)
      · have c_4 : cb ≤ i := (nle cb i (by omega) (by omega)).mp c_4
        obtain rfl := kx_end hex2 (by omega)
        have htp3 : zq = 1 := hzq0
        refine lv_aload_n hx hb dX12_codesTell_110 rfl (lv_at hl 1 rfl) ?_
        refine sk_get (v := .ref (g 86)) (C := RX12) (T := TX12) (N := 92) hx hb hts inlX12 hown hK hP 0 rfl rfl 86 (Nat.le_of_ble_eq_true rfl) w_6_1 rfl dX12_codesTell_111 ?_
        refine lv_iconst (v := 0) hx hb dX12_codesTell_114 ic_0 ?_
        refine va_lald hx hb hK.1 hP 6 1 rfl rfl (by unfold vp_in; decide) dX12_codesTell_115 ?_
        refine sk_topl v (hst.1) ?_
        exact sk_lret hx hb hr hlocks hK hP hD hS (⟨zq, zl, rfl, rfl⟩) (Nat.le_of_ble_eq_true rfl) (Nat.le_of_ble_eq_true rfl) dX12_codesTell_116
      · have c_4 : ¬ (cb ≤ i) := fun h => c_4 ((nle cb i (by omega) (by omega)).mpr h)
        have hib : i < cb := by omega
        rw [kcSub_c hib (by omega), ← hKc i (by omega)] at hex2 hns2
        have hns3 : kcNs kn (kcSub K (i + 1, cb)) := fun x hx => hns2 x (List.mem_cons_of_mem _ hx)
        obtain ⟨T, hT1, hT2, hT3⟩ := kcEx_c hex2
        rcases kx_c3 hkn (hns2 _ (List.mem_cons_self ..)) with ⟨hc1, hc2⟩ | ⟨hc1, hc2⟩ | ⟨hc1, hc2⟩
        · obtain ⟨b1, a1, R1, rfl, rfl⟩ := kcSt_two (by omega) hT1
          have htp2 : zq = R1.length + 2 := hzq0
          refine lv_aload_n hx hb dX12_codesTell_40 rfl (lv_at hl 1 rfl) ?_
          refine sk_get (v := .ref (g 26)) (C := RX12) (T := TX12) (N := 92) hx hb hts inlX12 hown hK hP 0 rfl rfl 26 (Nat.le_of_ble_eq_true rfl) w_5_181 rfl dX12_codesTell_41 ?_
          refine lv_sipush (v := 1600) hx hb dX12_codesTell_44 (by decide) ?_
          refine lv_iload_n hx hb dX12_codesTell_47 rfl (lv_at hl 0 rfl) ?_
          refine lv_iadd hx hb dX12_codesTell_48 ?_
          refine sk_top (nI (1600 + i)) (nI_add 1600 i) ?_
          refine va_iald hx hb hK.1 hP 3 0 rfl rfl (vin (1600 + i) 3200 (by omega) (Nat.le_of_ble_eq_true rfl)) dX12_codesTell_49 ?_
          refine sk_top (nI (cs (1600 + i))) (nrd cs (1600 + i) (by omega)) ?_
          have hb_5 := hcs (1600 + i)
          refine lv_istore (lv' := [(4, .int (nI (cs (1600 + i)))), (3, .int (nI i)), (0, .ref mm), (1, .int 1), (2, .int (nI d))]) hx hb dX12_codesTell_50 hl (by decide) rfl (fun ls hl => ?_)
          refine lv_iload hx hb dX12_codesTell_52 (lv_at hl 0 rfl) ?_
          refine lv_sipush (v := 1000) hx hb dX12_codesTell_54 (by decide) ?_
          refine lv_icmp_lt (tgt := 74) hx hb dX12_codesTell_57 (by decide) (fun c_6 => ?_) (fun c => absurd ((nlt (cs (1600 + i)) 1000 (by omega) (Nat.le_of_ble_eq_true rfl)).mpr (by omega)) c)
          refine lv_iload hx hb dX12_codesTell_74 (lv_at hl 0 rfl) ?_
          refine lv_bipush (v := 40) hx hb dX12_codesTell_76 (by decide) ?_
          refine lv_icmp_lt (tgt := 98) hx hb dX12_codesTell_78 (by decide) (fun c_7 => ?_) (fun c => absurd ((nlt (cs (1600 + i)) 40 (by omega) (Nat.le_of_ble_eq_true rfl)).mpr (by omega)) c)
          refine lv_aload_n hx hb dX12_codesTell_98 rfl (lv_at hl 2 rfl) ?_
          refine lv_iload hx hb dX12_codesTell_99 (lv_at hl 0 rfl) ?_
          refine sk_Vv (q0 := 0) (n := 1) (rest := []) (wr := fmR om_7_41 _) ⟨hx, hb, hml, hown, hts⟩ hl.1 (c_nm_qJoins l D cI cJ cC cZ cS mm g ta pa pe pd pb pp pf pg pn rt rn cd sn il 1 am at_ aa mt_ wt wy it_ rm ud nu sd qn qw qo qb zq qa qi oc (cs (1600 + i)) zl a1 b1 R1 (by omega) (by omega) hst (by omega) (by omega)) w_7_156 w_7_158 w_0_80 w_1_14 w_7_159 hd_X12_qJoins_1 ⟨⟨(Nat.le_of_ble_eq_true rfl), (Nat.le_of_ble_eq_true rfl)⟩, (Nat.le_of_ble_eq_true rfl), (Nat.le_of_ble_eq_true rfl)⟩ hK hP hD hS hA (fmT om_7_41 0) (fmF om_7_41 0) (fm_C1 rfl rfl) (fm_R rfl rfl) (fm_nT om_7_41 0) (fm_nF om_7_41 0) (fm_di om_7_41 0) rfl rfl rfl rfl (Nat.le_of_ble_eq_true rfl) dX12_codesTell_101 (fun u H locs hw hP hD hS => ?_)
          refine exE hw (fun ql2_8 hw1 => anE hw1 (fun hst2_9 eu_10 => ?_))
          clear hw hw1
          refine o_mgE (ws' := [ro_ mm 12 (mo g (nI ta) (nI pa) (nI pe) pd (nI pb) pp pf pg pn rt rn (nI cd) sn (nI il) 1 am at_ aa mt_ 0 (-1) wt wy (nI it_) (nI rm) (nI ud) (nI nu) sd (nI qn) (nI qw) qo (nI qb) (nI (zq - 2 + 1)) qa (nI qi) (nI oc)), ra_I (g 24) cI 6 (l6 u0 u1 u2 u3 (nI ca) u5), ra_I (g 25) cI 6 (l6 v0 v1 v2 v3 (nI cb) v5), ra_N (g 26) cI 3200 cs, ra_I (g 31) cI 120 nw, ra_N (g 46) cI 9 pt, ra_J (g 86) cJ 1700 ql2_8]) eu_10 hP hD rfl (fun hP hD => ?_)
          refine lv_iinc (v := nI (i + 1)) (lv' := [(3, .int (nI (i + 1))), (4, .int (nI (cs (1600 + i)))), (0, .ref mm), (1, .int 1), (2, .int (nI d))]) hx hb dX12_codesTell_104 hl (k := 1) rfl (ninc i 1 (by decide)) (by decide) rfl (fun ls hl => ?_)
          refine lv_goto (tgt := 28) hx hb dX12_codesTell_107 (by decide) ?_
          exact ih_lp_2 (i + 1) (zq - 2 + 1) ql2_8 (kcOp (cs (1600 + i)) a1 b1 :: R1) _ _ _ (by omega) (by omega) (by omega) (show _ = R1.length + 1 by omega) (by omega) hst2_9 hns3 hT3 hP hD hS (lv_sub hl [0, 2, 3, 4] rfl)
        · rw [kcSt_num (by omega)] at hT1
          obtain rfl := Option.some.inj hT1
          have htp2 : SS.length + 1 ≤ 64 := hT2
          refine lv_aload_n hx hb dX12_codesTell_40 rfl (lv_at hl 1 rfl) ?_
          refine sk_get (v := .ref (g 26)) (C := RX12) (T := TX12) (N := 92) hx hb hts inlX12 hown hK hP 0 rfl rfl 26 (Nat.le_of_ble_eq_true rfl) w_5_181 rfl dX12_codesTell_41 ?_
          refine lv_sipush (v := 1600) hx hb dX12_codesTell_44 (by decide) ?_
          refine lv_iload_n hx hb dX12_codesTell_47 rfl (lv_at hl 0 rfl) ?_
          refine lv_iadd hx hb dX12_codesTell_48 ?_
          refine sk_top (nI (1600 + i)) (nI_add 1600 i) ?_
          refine va_iald hx hb hK.1 hP 3 0 rfl rfl (vin (1600 + i) 3200 (by omega) (Nat.le_of_ble_eq_true rfl)) dX12_codesTell_49 ?_
          refine sk_top (nI (cs (1600 + i))) (nrd cs (1600 + i) (by omega)) ?_
          have hb_11 := hcs (1600 + i)
          refine lv_istore (lv' := [(4, .int (nI (cs (1600 + i)))), (3, .int (nI i)), (0, .ref mm), (1, .int 1), (2, .int (nI d))]) hx hb dX12_codesTell_50 hl (by decide) rfl (fun ls hl => ?_)
          refine lv_iload hx hb dX12_codesTell_52 (lv_at hl 0 rfl) ?_
          refine lv_sipush (v := 1000) hx hb dX12_codesTell_54 (by decide) ?_
          refine lv_icmp_lt (tgt := 74) hx hb dX12_codesTell_57 (by decide) (fun c => absurd ((nlt (cs (1600 + i)) 1000 (by omega) (Nat.le_of_ble_eq_true rfl)).mp c) (by omega)) (fun c_12 => ?_)
          refine lv_aload_n hx hb dX12_codesTell_60 rfl (lv_at hl 2 rfl) ?_
          refine lv_iload hx hb dX12_codesTell_61 (lv_at hl 0 rfl) ?_
          refine lv_sipush (v := 1000) hx hb dX12_codesTell_63 (by decide) ?_
          refine lv_isub hx hb dX12_codesTell_66 ?_
          refine sk_top (nI (cs (1600 + i) - 1000)) (nsub (cs (1600 + i)) 1000 (by omega)) ?_
          refine lv_i2l hx hb dX12_codesTell_67 rfl ?_
          refine sk_Vv (q0 := 0) (n := 1) (rest := []) (wr := fmR om_7_41 _) ⟨hx, hb, hml, hown, hts⟩ hl.1 (c_nm_qPuts l D cI cJ cC cZ cS mm g ta pa pe pd pb pp pf pg pn rt rn cd sn il 1 am at_ aa mt_ wt wy it_ rm ud nu sd qn qw qo qb zq qa qi oc (Int32.toInt64 (nI (cs (1600 + i) - 1000))) zl (by omega)) w_7_139 w_7_141 w_0_76 w_1_14 w_7_142 hd_X12_qPuts_1 ⟨⟨(Nat.le_of_ble_eq_true rfl), (Nat.le_of_ble_eq_true rfl)⟩, (Nat.le_of_ble_eq_true rfl), (Nat.le_of_ble_eq_true rfl)⟩ hK hP hD hS hA (fmT om_7_41 0) (fmF om_7_41 0) (fm_C1 rfl rfl) (fm_R rfl rfl) (fm_nT om_7_41 0) (fm_nF om_7_41 0) (fm_di om_7_41 0) rfl rfl rfl rfl (Nat.le_of_ble_eq_true rfl) dX12_codesTell_68 (fun u H locs hw hP hD hS => ?_)
          refine exE hw (fun ql2_13 hw1 => anE hw1 (fun hql_14 eu_15 => ?_))
          clear hw hw1
          refine o_mgE (ws' := [ro_ mm 12 (mo g (nI ta) (nI pa) (nI pe) pd (nI pb) pp pf pg pn rt rn (nI cd) sn (nI il) 1 am at_ aa mt_ 0 (-1) wt wy (nI it_) (nI rm) (nI ud) (nI nu) sd (nI qn) (nI qw) qo (nI qb) (nI (zq + 1)) qa (nI qi) (nI oc)), ra_I (g 24) cI 6 (l6 u0 u1 u2 u3 (nI ca) u5), ra_I (g 25) cI 6 (l6 v0 v1 v2 v3 (nI cb) v5), ra_N (g 26) cI 3200 cs, ra_I (g 31) cI 120 nw, ra_N (g 46) cI 9 pt, ra_J (g 86) cJ 1700 ql2_13]) eu_15 hP hD rfl (fun hP hD => ?_)
          have hs_16 := stk_push hst hzq0 hql_14 (kx_i2l (by omega))
          refine lv_goto (tgt := 104) hx hb dX12_codesTell_71 (by decide) ?_
          refine lv_iinc (v := nI (i + 1)) (lv' := [(3, .int (nI (i + 1))), (4, .int (nI (cs (1600 + i)))), (0, .ref mm), (1, .int 1), (2, .int (nI d))]) hx hb dX12_codesTell_104 hl (k := 1) rfl (ninc i 1 (by decide)) (by decide) rfl (fun ls hl => ?_)
          refine lv_goto (tgt := 28) hx hb dX12_codesTell_107 (by decide) ?_
          exact ih_lp_2 (i + 1) (zq + 1) ql2_13 (Int64.ofNat (cs (1600 + i) - 1000) :: SS) _ _ _ (by omega) (by omega) (by omega) (show _ = SS.length + 1 by omega) (by omega) hs_16 hns3 hT3 hP hD hS (lv_sub hl [0, 2, 3, 4] rfl)
        · rw [kcSt_nm (by omega) (by omega)] at hT1
          obtain rfl := Option.some.inj hT1
          have htp2 : SS.length + 1 ≤ 64 := hT2
          refine lv_aload_n hx hb dX12_codesTell_40 rfl (lv_at hl 1 rfl) ?_
          refine sk_get (v := .ref (g 26)) (C := RX12) (T := TX12) (N := 92) hx hb hts inlX12 hown hK hP 0 rfl rfl 26 (Nat.le_of_ble_eq_true rfl) w_5_181 rfl dX12_codesTell_41 ?_
          refine lv_sipush (v := 1600) hx hb dX12_codesTell_44 (by decide) ?_
          refine lv_iload_n hx hb dX12_codesTell_47 rfl (lv_at hl 0 rfl) ?_
          refine lv_iadd hx hb dX12_codesTell_48 ?_
          refine sk_top (nI (1600 + i)) (nI_add 1600 i) ?_
          refine va_iald hx hb hK.1 hP 3 0 rfl rfl (vin (1600 + i) 3200 (by omega) (Nat.le_of_ble_eq_true rfl)) dX12_codesTell_49 ?_
          refine sk_top (nI (cs (1600 + i))) (nrd cs (1600 + i) (by omega)) ?_
          have hb_17 := hcs (1600 + i)
          refine lv_istore (lv' := [(4, .int (nI (cs (1600 + i)))), (3, .int (nI i)), (0, .ref mm), (1, .int 1), (2, .int (nI d))]) hx hb dX12_codesTell_50 hl (by decide) rfl (fun ls hl => ?_)
          refine lv_iload hx hb dX12_codesTell_52 (lv_at hl 0 rfl) ?_
          refine lv_sipush (v := 1000) hx hb dX12_codesTell_54 (by decide) ?_
          refine lv_icmp_lt (tgt := 74) hx hb dX12_codesTell_57 (by decide) (fun c_18 => ?_) (fun c => absurd ((nlt (cs (1600 + i)) 1000 (by omega) (Nat.le_of_ble_eq_true rfl)).mpr (by omega)) c)
          refine lv_iload hx hb dX12_codesTell_74 (lv_at hl 0 rfl) ?_
          refine lv_bipush (v := 40) hx hb dX12_codesTell_76 (by decide) ?_
          refine lv_icmp_lt (tgt := 98) hx hb dX12_codesTell_78 (by decide) (fun c => absurd ((nlt (cs (1600 + i)) 40 (by omega) (Nat.le_of_ble_eq_true rfl)).mp c) (by omega)) (fun c_19 => ?_)
          refine lv_aload_n hx hb dX12_codesTell_81 rfl (lv_at hl 2 rfl) ?_
          refine lv_aload_n hx hb dX12_codesTell_82 rfl (lv_at hl 2 rfl) ?_
          refine lv_iload hx hb dX12_codesTell_83 (lv_at hl 0 rfl) ?_
          refine lv_bipush (v := 40) hx hb dX12_codesTell_85 (by decide) ?_
          refine lv_isub hx hb dX12_codesTell_87 ?_
          refine sk_top (nI (cs (1600 + i) - 40)) (nsub (cs (1600 + i)) 40 (by omega)) ?_
          refine lv_iload_n hx hb dX12_codesTell_88 rfl (lv_at hl 4 rfl) ?_
          refine sk_Vl (q0 := 0) (n := 2) (rest := [.ref mm]) (wr := fmR om_7_46 _) ⟨hx, hb, hml, hown, hts⟩ hl.1 (c_nm_qPartOf l D cI cJ cC cZ cS mm g ta pa pe pd pb pp pf pg pn rt rn cd sn il 1 am at_ aa mt_ wt wy it_ rm ud nu sd qn qw qo qb zq qa qi oc (cs (1600 + i) - 40) d nw pt nm hd (by omega) hnm hnw hpt) w_7_143 w_7_145 w_0_77 w_1_14 w_7_146 hd_X12_qPartOf_2 ⟨⟨(Nat.le_of_ble_eq_true rfl), (Nat.le_of_ble_eq_true rfl)⟩, (Nat.le_of_ble_eq_true rfl), (Nat.le_of_ble_eq_true rfl)⟩ hK hP hD hS hA (fmT om_7_46 0) (fmF om_7_46 0) (fm_C1 rfl rfl) (fm_R rfl rfl) (fm_nT om_7_46 0) (fm_nF om_7_46 0) (fm_di om_7_46 0) rfl rfl rfl rfl (Nat.le_of_ble_eq_true rfl) dX12_codesTell_89 (fun r_20 u H locs hw hP hD hS => ?_)
          refine anE hw (fun hr_21 eu_22 => ?_)
          clear hw
          refine o_mgE (ws' := [ro_ mm 12 (mo g (nI ta) (nI pa) (nI pe) pd (nI pb) pp pf pg pn rt rn (nI cd) sn (nI il) 1 am at_ aa mt_ 0 (-1) wt wy (nI it_) (nI rm) (nI ud) (nI nu) sd (nI qn) (nI qw) qo (nI qb) (nI zq) qa (nI qi) (nI oc)), ra_I (g 24) cI 6 (l6 u0 u1 u2 u3 (nI ca) u5), ra_I (g 25) cI 6 (l6 v0 v1 v2 v3 (nI cb) v5), ra_N (g 26) cI 3200 cs, ra_I (g 31) cI 120 nw, ra_N (g 46) cI 9 pt, ra_J (g 86) cJ 1700 zl]) eu_22 hP hD rfl (fun hP hD => ?_)
          subst hr_21
          refine sk_Vv (q0 := 0) (n := 1) (rest := []) (wr := fmR om_7_41 _) ⟨hx, hb, hml, hown, hts⟩ hl.1 (c_nm_qPuts l D cI cJ cC cZ cS mm g ta pa pe pd pb pp pf pg pn rt rn cd sn il 1 am at_ aa mt_ wt wy it_ rm ud nu sd qn qw qo qb zq qa qi oc (nm (cs (1600 + i) - 40)) zl (by omega)) w_7_139 w_7_141 w_0_76 w_1_14 w_7_142 hd_X12_qPuts_1 ⟨⟨(Nat.le_of_ble_eq_true rfl), (Nat.le_of_ble_eq_true rfl)⟩, (Nat.le_of_ble_eq_true rfl), (Nat.le_of_ble_eq_true rfl)⟩ hK hP hD hS hA (fmT om_7_41 0) (fmF om_7_41 0) (fm_C1 rfl rfl) (fm_R rfl rfl) (fm_nT om_7_41 0) (fm_nF om_7_41 0) (fm_di om_7_41 0) rfl rfl rfl rfl (Nat.le_of_ble_eq_true rfl) dX12_codesTell_92 (fun u H locs hw hP hD hS => ?_)
          refine exE hw (fun ql2_23 hw1 => anE hw1 (fun hql_24 eu_25 => ?_))
          clear hw hw1
          refine o_mgE (ws' := [ro_ mm 12 (mo g (nI ta) (nI pa) (nI pe) pd (nI pb) pp pf pg pn rt rn (nI cd) sn (nI il) 1 am at_ aa mt_ 0 (-1) wt wy (nI it_) (nI rm) (nI ud) (nI nu) sd (nI qn) (nI qw) qo (nI qb) (nI (zq + 1)) qa (nI qi) (nI oc)), ra_I (g 24) cI 6 (l6 u0 u1 u2 u3 (nI ca) u5), ra_I (g 25) cI 6 (l6 v0 v1 v2 v3 (nI cb) v5), ra_N (g 26) cI 3200 cs, ra_I (g 31) cI 120 nw, ra_N (g 46) cI 9 pt, ra_J (g 86) cJ 1700 ql2_23]) eu_25 hP hD rfl (fun hP hD => ?_)
          have hs_26 := stk_push hst hzq0 hql_24 rfl
          refine lv_goto (tgt := 104) hx hb dX12_codesTell_95 (by decide) ?_
          refine lv_iinc (v := nI (i + 1)) (lv' := [(3, .int (nI (i + 1))), (4, .int (nI (cs (1600 + i)))), (0, .ref mm), (1, .int 1), (2, .int (nI d))]) hx hb dX12_codesTell_104 hl (k := 1) rfl (ninc i 1 (by decide)) (by decide) rfl (fun ls hl => ?_)
          refine lv_goto (tgt := 28) hx hb dX12_codesTell_107 (by decide) ?_
          exact ih_lp_2 (i + 1) (zq + 1) ql2_23 (nm (cs (1600 + i) - 40) :: SS) _ _ _ (by omega) (by omega) (by omega) (show _ = SS.length + 1 by omega) (by omega) hs_26 hns3 hT3 hP hD hS (lv_sub hl [0, 2, 3, 4] rfl)
  exact lp_2 (cb - ca + 1) ca 0 ql ([]) _ _ _ (Nat.lt_succ_self _) (by omega) hab rfl (by omega) True.intro hns hex hP hD hS (lv_sub hl [0, 1, 2, 3] rfl)
set_option maxHeartbeats 4000000 in
set_option maxRecDepth 100000 in
theorem c_nm_codesTell2 (l : Launch) (D : va_G) (cI cJ cC cZ cS : ClassId) (mm : Nat) (g : Nat → Nat) (ta : Nat) (pa : Nat) (pe : Nat) (pd : Int32) (pb : Nat) (pp : Int32) (pf : Int32) (pg : Int32) (pn : Int32) (rt : Int32) (rn : Int32) (cd : Nat) (sn : Int32) (il : Nat) (tk : Int32) (am : Int32) (at_ : Int32) (aa : Int32) (mt_ : Int32) (wt : Int32) (wy : Int64) (it_ : Nat) (rm : Nat) (ud : Nat) (nu : Nat) (sd : Int64) (qn : Nat) (qw : Nat) (qo : Int32) (qb : Nat) (qp : Nat) (qa : Int64) (qi : Nat) (oc : Nat) (d : Nat) (u0 : Int32) (u1 : Int32) (u2 : Int32) (u3 : Int32) (u4 : Int32) (ca : Nat) (v0 : Int32) (v1 : Int32) (v2 : Int32) (v3 : Int32) (v4 : Int32) (cb : Nat) (cs : Nat → Nat) (nw : Nat → Int32) (pt : Nat → Nat) (ql : Nat → Int64) (K : List Nat) (nm : Nat → Int64) (v : Int64) (kn : Nat) (hd : d < 9) (hab : ca ≤ cb) (hbk : cb ≤ K.length) (hkl : K.length ≤ 1600) (hKc : ∀ j, j < K.length → cs (1600 + j) = K.getD j 0) (hkn : kn < 2) (hns : kcNs kn (kcSub K (ca, cb))) (hnm : mnO nm am at_ aa nw d) (hex : kcEx nm 64 (kcSub K (ca, cb)) [] = some [v]) (hcs : ∀ j, cs j ≤ 20000) (hnw : nowOk nw) (hpt : ∀ j, pt j ≤ 9) : skM l yX12_codesTell cX12_codesTell 5 (some .long) 2 50 0 0 D (skT cI cJ cC cZ cS) [.ref mm, .int 2, .int (nI d)] [ro_ mm 12 (mo g (nI ta) (nI pa) (nI pe) pd (nI pb) pp pf pg pn rt rn (nI cd) sn (nI il) tk am at_ aa mt_ 0 (-1) wt wy (nI it_) (nI rm) (nI ud) (nI nu) sd (nI qn) (nI qw) qo (nI qb) (nI qp) qa (nI qi) (nI oc)), ra_I (g 24) cI 6 (l6 u0 u1 u2 u3 u4 (nI ca)), ra_I (g 25) cI 6 (l6 v0 v1 v2 v3 v4 (nI cb)), ra_N (g 26) cI 3200 cs, ra_I (g 31) cI 120 nw, ra_N (g 46) cI 9 pt, ra_J (g 86) cJ 1700 ql] (skL D (skT cI cJ cC cZ cS) (fun (r : Int64) (u : va_W) => ∃ (qp2 : Nat), ∃ (ql2 : Nat → Int64), r = v ∧ u = [ro_ mm 12 (mo g (nI ta) (nI pa) (nI pe) pd (nI pb) pp pf pg pn rt rn (nI cd) sn (nI il) 0 am at_ aa mt_ 0 (-1) wt wy (nI it_) (nI rm) (nI ud) (nI nu) sd (nI qn) (nI qw) qo (nI qb) (nI qp2) qa (nI qi) (nI oc)), ra_I (g 24) cI 6 (l6 u0 u1 u2 u3 u4 (nI ca)), ra_I (g 25) cI 6 (l6 v0 v1 v2 v3 v4 (nI cb)), ra_N (g 26) cI 3200 cs, ra_I (g 31) cI 120 nw, ra_N (g 46) cI 9 pt, ra_J (g 86) cJ 1700 ql2])) := by
  refine skM_of pf_X12_codesTell (Nat.le_of_ble_eq_true rfl) ?_
  intro p e s m below meth c A ls E hP hD hl
  refine skE_el E (fun hx hb hr hml hlocks hin hown hts hK hA => ?_)
  have hown : s.vm.findClass RX12 = some m.cls := hown
  have hS : va_S A s.heap s.heap [] := va_S.rf
  have hl : lv_has ls 5 [(0, .ref mm), (1, .int 2), (2, .int (nI d))] := hl
  refine lv_aload_n hx hb dX12_codesTell_0 rfl (lv_at hl 0 rfl) ?_
  refine lv_iload_n hx hb dX12_codesTell_1 rfl (lv_at hl 1 rfl) ?_
  refine lv_iconst (v := 1) hx hb dX12_codesTell_2 ic_1 ?_
  refine lv_icmp_ne (tgt := 10) hx hb dX12_codesTell_3 (by decide) (fun c_1 => ?_) (fun c => absurd c (by decide))
  refine lv_iconst (v := 0) hx hb dX12_codesTell_10 ic_0 ?_
  refine sk_put (ws' := [ro_ mm 12 (mo g (nI ta) (nI pa) (nI pe) pd (nI pb) pp pf pg pn rt rn (nI cd) sn (nI il) 0 am at_ aa mt_ 0 (-1) wt wy (nI it_) (nI rm) (nI ud) (nI nu) sd (nI qn) (nI qw) qo (nI qb) (nI qp) qa (nI qi) (nI oc)), ra_I (g 24) cI 6 (l6 u0 u1 u2 u3 u4 (nI ca)), ra_I (g 25) cI 6 (l6 v0 v1 v2 v3 v4 (nI cb)), ra_N (g 26) cI 3200 cs, ra_I (g 31) cI 120 nw, ra_N (g 46) cI 9 pt, ra_J (g 86) cJ 1700 ql]) (C := RX12) (T := TX12) (N := 92) (v := .int 0) hx hb hts inlX12 tyX12 tyX12_ok nmX12 hown hK hP hD hS 0 rfl rfl 30 (Nat.le_of_ble_eq_true rfl) w_5_185 rfl rfl rfl (Nat.le_of_ble_eq_true rfl) rfl dX12_codesTell_11 (fun H locs hP hD hS => ?_)
  refine lv_aload_n hx hb dX12_codesTell_14 rfl (lv_at hl 0 rfl) ?_
  refine lv_iconst (v := 0) hx hb dX12_codesTell_15 ic_0 ?_
  refine sk_put (ws' := [ro_ mm 12 (mo g (nI ta) (nI pa) (nI pe) pd (nI pb) pp pf pg pn rt rn (nI cd) sn (nI il) 0 am at_ aa mt_ 0 (-1) wt wy (nI it_) (nI rm) (nI ud) (nI nu) sd (nI qn) (nI qw) qo (nI qb) 0 qa (nI qi) (nI oc)), ra_I (g 24) cI 6 (l6 u0 u1 u2 u3 u4 (nI ca)), ra_I (g 25) cI 6 (l6 v0 v1 v2 v3 v4 (nI cb)), ra_N (g 26) cI 3200 cs, ra_I (g 31) cI 120 nw, ra_N (g 46) cI 9 pt, ra_J (g 86) cJ 1700 ql]) (C := RX12) (T := TX12) (N := 92) (v := .int 0) hx hb hts inlX12 tyX12 tyX12_ok nmX12 hown hK hP hD hS 0 rfl rfl 87 (Nat.le_of_ble_eq_true rfl) w_6_2 rfl rfl rfl (Nat.le_of_ble_eq_true rfl) rfl dX12_codesTell_16 (fun H locs hP hD hS => ?_)
  refine lv_aload_n hx hb dX12_codesTell_19 rfl (lv_at hl 0 rfl) ?_
  refine sk_get (v := .ref (g 24)) (C := RX12) (T := TX12) (N := 92) hx hb hts inlX12 hown hK hP 0 rfl rfl 24 (Nat.le_of_ble_eq_true rfl) w_5_179 rfl dX12_codesTell_20 ?_
  refine lv_iconst (v := 3) hx hb dX12_codesTell_23 ic_3 ?_
  refine lv_iload_n hx hb dX12_codesTell_24 rfl (lv_at hl 1 rfl) ?_
  refine lv_iadd hx hb dX12_codesTell_25 ?_
  refine sk_top 5 (by decide) ?_
  refine va_iald hx hb hK.1 hP 1 0 rfl rfl (by unfold vp_in; decide) dX12_codesTell_26 ?_
  refine sk_top (nI ca) rfl ?_
  refine lv_istore_n (lv' := [(3, .int (nI ca)), (0, .ref mm), (1, .int 2), (2, .int (nI d))]) hx hb dX12_codesTell_27 rfl hl (by decide) rfl (fun ls hl => ?_)
  have lp_2 : ∀ (n_3 : Nat) (i : Nat) (zq : Nat) (zl : Nat → Int64) (SS : List Int64) (H : Heap) (locs : List Loc) (ls : Array Slot), cb - i < n_3 → (ca ≤ i) → (i ≤ cb) → (zq = SS.length) → (zq ≤ 64) → (stkO zl SS) → (kcNs kn (kcSub K (i, cb))) → (kcEx nm 64 (kcSub K (i, cb)) SS = some [v]) → va_P D vwCl [ro_ mm 12 (mo g (nI ta) (nI pa) (nI pe) pd (nI pb) pp pf pg pn rt rn (nI cd) sn (nI il) 0 am at_ aa mt_ 0 (-1) wt wy (nI it_) (nI rm) (nI ud) (nI nu) sd (nI qn) (nI qw) qo (nI qb) (nI zq) qa (nI qi) (nI oc)), ra_I (g 24) cI 6 (l6 u0 u1 u2 u3 u4 (nI ca)), ra_I (g 25) cI 6 (l6 v0 v1 v2 v3 v4 (nI cb)), ra_N (g 26) cI 3200 cs, ra_I (g 31) cI 120 nw, ra_N (g 46) cI 9 pt, ra_J (g 86) cJ 1700 zl] H → va_D A [ro_ mm 12 (mo g (nI ta) (nI pa) (nI pe) pd (nI pb) pp pf pg pn rt rn (nI cd) sn (nI il) 0 am at_ aa mt_ 0 (-1) wt wy (nI it_) (nI rm) (nI ud) (nI nu) sd (nI qn) (nI qw) qo (nI qb) (nI zq) qa (nI qi) (nI oc)), ra_I (g 24) cI 6 (l6 u0 u1 u2 u3 u4 (nI ca)), ra_I (g 25) cI 6 (l6 v0 v1 v2 v3 v4 (nI cb)), ra_N (g 26) cI 3200 cs, ra_I (g 31) cI 120 nw, ra_N (g 46) cI 9 pt, ra_J (g 86) cJ 1700 zl] → va_S A s.heap H locs → lv_has ls 5 [(3, .int (nI i)), (0, .ref mm), (1, .int 2), (2, .int (nI d))] → W p l e { frames := 2, cells := 0, slots := 0, locals := 50 } s m ([.ref mm, .int 2, .int (nI d)] : List Value).toArray below meth c H locs 0 0 (MQ below (skL D (skT cI cJ cC cZ cS) (fun (r : Int64) (u : va_W) => ∃ (qp2 : Nat), ∃ (ql2 : Nat → Int64), r = v ∧ u = [ro_ mm 12 (mo g (nI ta) (nI pa) (nI pe) pd (nI pb) pp pf pg pn rt rn (nI cd) sn (nI il) 0 am at_ aa mt_ 0 (-1) wt wy (nI it_) (nI rm) (nI ud) (nI nu) sd (nI qn) (nI qw) qo (nI qb) (nI qp2) qa (nI qi) (nI oc)), ra_I (g 24) cI 6 (l6 u0 u1 u2 u3 u4 (nI ca)), ra_I (g 25) cI 6 (l6 v0 v1 v2 v3 v4 (nI cb)), ra_N (g 26) cI 3200 cs, ra_I (g 31) cI 120 nw, ra_N (g 46) cI 9 pt, ra_J (g 86) cJ 1700 ql2]) A) ([.ref mm, .int 2, .int (nI d)] : List Value).toArray s 0 0 A) (F0 m 28 ls []) := by
    intro n_3
    induction n_3 with
    | zero => intro i zq zl SS H locs ls hm; exact absurd hm (Nat.not_lt_zero _)
    | succ n_3 ih_lp_2 =>
      intro i zq zl SS H locs ls hm hi1 hi2 hzq0 hzq1 hst hns2 hex2 hP hD hS hl
      refine lv_iload_n hx hb dX12_codesTell_28 rfl (lv_at hl 0 rfl) ?_
      refine lv_aload_n hx hb dX12_codesTell_29 rfl (lv_at hl 1 rfl) ?_
      refine sk_get (v := .ref (g 25)) (C := RX12) (T := TX12) (N := 92) hx hb hts inlX12 hown hK hP 0 rfl rfl 25 (Nat.le_of_ble_eq_true rfl) w_5_180 rfl dX12_codesTell_30 ?_
      refine lv_iconst (v := 3) hx hb dX12_codesTell_33 ic_3 ?_
      refine lv_iload_n hx hb dX12_codesTell_34 rfl (lv_at hl 2 rfl) ?_
      refine lv_iadd hx hb dX12_codesTell_35 ?_
      refine sk_top 5 (by decide) ?_
      refine va_iald hx hb hK.1 hP 2 0 rfl rfl (by unfold vp_in; decide) dX12_codesTell_36 ?_
      refine sk_top (nI cb) rfl ?_
      refine lv_icmp_ge (tgt := 110) hx hb dX12_codesTell_37 (by decide) (fun c_4 => ?_) (fun c_4 => ?_)
      · have c_4 : cb ≤ i := (nle cb i (by omega) (by omega)).mp c_4
        obtain rfl := kx_end hex2 (by omega)
        have htp3 : zq = 1 := hzq0
        refine lv_aload_n hx hb dX12_codesTell_110 rfl (lv_at hl 1 rfl) ?_
        refine sk_get (v := .ref (g 86)) (C := RX12) (T := TX12) (N := 92) hx hb hts inlX12 hown hK hP 0 rfl rfl 86 (Nat.le_of_ble_eq_true rfl) w_6_1 rfl dX12_codesTell_111 ?_
        refine lv_iconst (v := 0) hx hb dX12_codesTell_114 ic_0 ?_
        refine va_lald hx hb hK.1 hP 6 1 rfl rfl (by unfold vp_in; decide) dX12_codesTell_115 ?_
        refine sk_topl v (hst.1) ?_
        exact sk_lret hx hb hr hlocks hK hP hD hS (⟨zq, zl, rfl, rfl⟩) (Nat.le_of_ble_eq_true rfl) (Nat.le_of_ble_eq_true rfl) dX12_codesTell_116
      · have c_4 : ¬ (cb ≤ i) := fun h => c_4 ((nle cb i (by omega) (by omega)).mpr h)
        have hib : i < cb := by omega
        rw [kcSub_c hib (by omega), ← hKc i (by omega)] at hex2 hns2
        have hns3 : kcNs kn (kcSub K (i + 1, cb)) := fun x hx => hns2 x (List.mem_cons_of_mem _ hx)
        obtain ⟨T, hT1, hT2, hT3⟩ := kcEx_c hex2
        rcases kx_c3 hkn (hns2 _ (List.mem_cons_self ..)) with ⟨hc1, hc2⟩ | ⟨hc1, hc2⟩ | ⟨hc1, hc2⟩
        · obtain ⟨b1, a1, R1, rfl, rfl⟩ := kcSt_two (by omega) hT1
          have htp2 : zq = R1.length + 2 := hzq0
          refine lv_aload_n hx hb dX12_codesTell_40 rfl (lv_at hl 1 rfl) ?_
          refine sk_get (v := .ref (g 26)) (C := RX12) (T := TX12) (N := 92) hx hb hts inlX12 hown hK hP 0 rfl rfl 26 (Nat.le_of_ble_eq_true rfl) w_5_181 rfl dX12_codesTell_41 ?_
          refine lv_sipush (v := 1600) hx hb dX12_codesTell_44 (by decide) ?_
          refine lv_iload_n hx hb dX12_codesTell_47 rfl (lv_at hl 0 rfl) ?_
          refine lv_iadd hx hb dX12_codesTell_48 ?_
          refine sk_top (nI (1600 + i)) (nI_add 1600 i) ?_
          refine va_iald hx hb hK.1 hP 3 0 rfl rfl (vin (1600 + i) 3200 (by omega) (Nat.le_of_ble_eq_true rfl)) dX12_codesTell_49 ?_
          refine sk_top (nI (cs (1600 + i))) (nrd cs (1600 + i) (by omega)) ?_
          have hb_5 := hcs (1600 + i)
          refine lv_istore (lv' := [(4, .int (nI (cs (1600 + i)))), (3, .int (nI i)), (0, .ref mm), (1, .int 2), (2, .int (nI d))]) hx hb dX12_codesTell_50 hl (by decide) rfl (fun ls hl => ?_)
          refine lv_iload hx hb dX12_codesTell_52 (lv_at hl 0 rfl) ?_
          refine lv_sipush (v := 1000) hx hb dX12_codesTell_54 (by decide) ?_
          refine lv_icmp_lt (tgt := 74) hx hb dX12_codesTell_57 (by decide) (fun c_6 => ?_) (fun c => absurd ((nlt (cs (1600 + i)) 1000 (by omega) (Nat.le_of_ble_eq_true rfl)).mpr (by omega)) c)
          refine lv_iload hx hb dX12_codesTell_74 (lv_at hl 0 rfl) ?_
          refine lv_bipush (v := 40) hx hb dX12_codesTell_76 (by decide) ?_
          refine lv_icmp_lt (tgt := 98) hx hb dX12_codesTell_78 (by decide) (fun c_7 => ?_) (fun c => absurd ((nlt (cs (1600 + i)) 40 (by omega) (Nat.le_of_ble_eq_true rfl)).mpr (by omega)) c)
          refine lv_aload_n hx hb dX12_codesTell_98 rfl (lv_at hl 2 rfl) ?_
          refine lv_iload hx hb dX12_codesTell_99 (lv_at hl 0 rfl) ?_
          refine sk_Vv (q0 := 0) (n := 1) (rest := []) (wr := fmR om_7_41 _) ⟨hx, hb, hml, hown, hts⟩ hl.1 (c_nm_qJoins l D cI cJ cC cZ cS mm g ta pa pe pd pb pp pf pg pn rt rn cd sn il 0 am at_ aa mt_ wt wy it_ rm ud nu sd qn qw qo qb zq qa qi oc (cs (1600 + i)) zl a1 b1 R1 (by omega) (by omega) hst (by omega) (by omega)) w_7_156 w_7_158 w_0_80 w_1_14 w_7_159 hd_X12_qJoins_1 ⟨⟨(Nat.le_of_ble_eq_true rfl), (Nat.le_of_ble_eq_true rfl)⟩, (Nat.le_of_ble_eq_true rfl), (Nat.le_of_ble_eq_true rfl)⟩ hK hP hD hS hA (fmT om_7_41 0) (fmF om_7_41 0) (fm_C1 rfl rfl) (fm_R rfl rfl) (fm_nT om_7_41 0) (fm_nF om_7_41 0) (fm_di om_7_41 0) rfl rfl rfl rfl (Nat.le_of_ble_eq_true rfl) dX12_codesTell_101 (fun u H locs hw hP hD hS => ?_)
          refine exE hw (fun ql2_8 hw1 => anE hw1 (fun hst2_9 eu_10 => ?_))
          clear hw hw1
          refine o_mgE (ws' := [ro_ mm 12 (mo g (nI ta) (nI pa) (nI pe) pd (nI pb) pp pf pg pn rt rn (nI cd) sn (nI il) 0 am at_ aa mt_ 0 (-1) wt wy (nI it_) (nI rm) (nI ud) (nI nu) sd (nI qn) (nI qw) qo (nI qb) (nI (zq - 2 + 1)) qa (nI qi) (nI oc)), ra_I (g 24) cI 6 (l6 u0 u1 u2 u3 u4 (nI ca)), ra_I (g 25) cI 6 (l6 v0 v1 v2 v3 v4 (nI cb)), ra_N (g 26) cI 3200 cs, ra_I (g 31) cI 120 nw, ra_N (g 46) cI 9 pt, ra_J (g 86) cJ 1700 ql2_8]) eu_10 hP hD rfl (fun hP hD => ?_)
          refine lv_iinc (v := nI (i + 1)) (lv' := [(3, .int (nI (i + 1))), (4, .int (nI (cs (1600 + i)))), (0, .ref mm), (1, .int 2), (2, .int (nI d))]) hx hb dX12_codesTell_104 hl (k := 1) rfl (ninc i 1 (by decide)) (by decide) rfl (fun ls hl => ?_)
          refine lv_goto (tgt := 28) hx hb dX12_codesTell_107 (by decide) ?_
          exact ih_lp_2 (i + 1) (zq - 2 + 1) ql2_8 (kcOp (cs (1600 + i)) a1 b1 :: R1) _ _ _ (by omega) (by omega) (by omega) (show _ = R1.length + 1 by omega) (by omega) hst2_9 hns3 hT3 hP hD hS (lv_sub hl [0, 2, 3, 4] rfl)
        · rw [kcSt_num (by omega)] at hT1
          obtain rfl := Option.some.inj hT1
          have htp2 : SS.length + 1 ≤ 64 := hT2
          refine lv_aload_n hx hb dX12_codesTell_40 rfl (lv_at hl 1 rfl) ?_
          refine sk_get (v := .ref (g 26)) (C := RX12) (T := TX12) (N := 92) hx hb hts inlX12 hown hK hP 0 rfl rfl 26 (Nat.le_of_ble_eq_true rfl) w_5_181 rfl dX12_codesTell_41 ?_
          refine lv_sipush (v := 1600) hx hb dX12_codesTell_44 (by decide) ?_
          refine lv_iload_n hx hb dX12_codesTell_47 rfl (lv_at hl 0 rfl) ?_
          refine lv_iadd hx hb dX12_codesTell_48 ?_
          refine sk_top (nI (1600 + i)) (nI_add 1600 i) ?_
          refine va_iald hx hb hK.1 hP 3 0 rfl rfl (vin (1600 + i) 3200 (by omega) (Nat.le_of_ble_eq_true rfl)) dX12_codesTell_49 ?_
          refine sk_top (nI (cs (1600 + i))) (nrd cs (1600 + i) (by omega)) ?_
          have hb_11 := hcs (1600 + i)
          refine lv_istore (lv' := [(4, .int (nI (cs (1600 + i)))), (3, .int (nI i)), (0, .ref mm), (1, .int 2), (2, .int (nI d))]) hx hb dX12_codesTell_50 hl (by decide) rfl (fun ls hl => ?_)
          refine lv_iload hx hb dX12_codesTell_52 (lv_at hl 0 rfl) ?_
          refine lv_sipush (v := 1000) hx hb dX12_codesTell_54 (by decide) ?_
          refine lv_icmp_lt (tgt := 74) hx hb dX12_codesTell_57 (by decide) (fun c => absurd ((nlt (cs (1600 + i)) 1000 (by omega) (Nat.le_of_ble_eq_true rfl)).mp c) (by omega)) (fun c_12 => ?_)
          refine lv_aload_n hx hb dX12_codesTell_60 rfl (lv_at hl 2 rfl) ?_
          refine lv_iload hx hb dX12_codesTell_61 (lv_at hl 0 rfl) ?_
          refine lv_sipush (v := 1000) hx hb dX12_codesTell_63 (by decide) ?_
          refine lv_isub hx hb dX12_codesTell_66 ?_
          refine sk_top (nI (cs (1600 + i) - 1000)) (nsub (cs (1600 + i)) 1000 (by omega)) ?_
          refine lv_i2l hx hb dX12_codesTell_67 rfl ?_
          refine sk_Vv (q0 := 0) (n := 1) (rest := []) (wr := fmR om_7_41 _) ⟨hx, hb, hml, hown, hts⟩ hl.1 (c_nm_qPuts l D cI cJ cC cZ cS mm g ta pa pe pd pb pp pf pg pn rt rn cd sn il 0 am at_ aa mt_ wt wy it_ rm ud nu sd qn qw qo qb zq qa qi oc (Int32.toInt64 (nI (cs (1600 + i) - 1000))) zl (by omega)) w_7_139 w_7_141 w_0_76 w_1_14 w_7_142 hd_X12_qPuts_1 ⟨⟨(Nat.le_of_ble_eq_true rfl), (Nat.le_of_ble_eq_true rfl)⟩, (Nat.le_of_ble_eq_true rfl), (Nat.le_of_ble_eq_true rfl)⟩ hK hP hD hS hA (fmT om_7_41 0) (fmF om_7_41 0) (fm_C1 rfl rfl) (fm_R rfl rfl) (fm_nT om_7_41 0) (fm_nF om_7_41 0) (fm_di om_7_41 0) rfl rfl rfl rfl (Nat.le_of_ble_eq_true rfl) dX12_codesTell_68 (fun u H locs hw hP hD hS => ?_)
          refine exE hw (fun ql2_13 hw1 => anE hw1 (fun hql_14 eu_15 => ?_))
          clear hw hw1
          refine o_mgE (ws' := [ro_ mm 12 (mo g (nI ta) (nI pa) (nI pe) pd (nI pb) pp pf pg pn rt rn (nI cd) sn (nI il) 0 am at_ aa mt_ 0 (-1) wt wy (nI it_) (nI rm) (nI ud) (nI nu) sd (nI qn) (nI qw) qo (nI qb) (nI (zq + 1)) qa (nI qi) (nI oc)), ra_I (g 24) cI 6 (l6 u0 u1 u2 u3 u4 (nI ca)), ra_I (g 25) cI 6 (l6 v0 v1 v2 v3 v4 (nI cb)), ra_N (g 26) cI 3200 cs, ra_I (g 31) cI 120 nw, ra_N (g 46) cI 9 pt, ra_J (g 86) cJ 1700 ql2_13]) eu_15 hP hD rfl (fun hP hD => ?_)
          have hs_16 := stk_push hst hzq0 hql_14 (kx_i2l (by omega))
          refine lv_goto (tgt := 104) hx hb dX12_codesTell_71 (by decide) ?_
          refine lv_iinc (v := nI (i + 1)) (lv' := [(3, .int (nI (i + 1))), (4, .int (nI (cs (1600 + i)))), (0, .ref mm), (1, .int 2), (2, .int (nI d))]) hx hb dX12_codesTell_104 hl (k := 1) rfl (ninc i 1 (by decide)) (by decide) rfl (fun ls hl => ?_)
          refine lv_goto (tgt := 28) hx hb dX12_codesTell_107 (by decide) ?_
          exact ih_lp_2 (i + 1) (zq + 1) ql2_13 (Int64.ofNat (cs (1600 + i) - 1000) :: SS) _ _ _ (by omega) (by omega) (by omega) (show _ = SS.length + 1 by omega) (by omega) hs_16 hns3 hT3 hP hD hS (lv_sub hl [0, 2, 3, 4] rfl)
        · rw [kcSt_nm (by omega) (by omega)] at hT1
          obtain rfl := Option.some.inj hT1
          have htp2 : SS.length + 1 ≤ 64 := hT2
          refine lv_aload_n hx hb dX12_codesTell_40 rfl (lv_at hl 1 rfl) ?_
          refine sk_get (v := .ref (g 26)) (C := RX12) (T := TX12) (N := 92) hx hb hts inlX12 hown hK hP 0 rfl rfl 26 (Nat.le_of_ble_eq_true rfl) w_5_181 rfl dX12_codesTell_41 ?_
          refine lv_sipush (v := 1600) hx hb dX12_codesTell_44 (by decide) ?_
          refine lv_iload_n hx hb dX12_codesTell_47 rfl (lv_at hl 0 rfl) ?_
          refine lv_iadd hx hb dX12_codesTell_48 ?_
          refine sk_top (nI (1600 + i)) (nI_add 1600 i) ?_
          refine va_iald hx hb hK.1 hP 3 0 rfl rfl (vin (1600 + i) 3200 (by omega) (Nat.le_of_ble_eq_true rfl)) dX12_codesTell_49 ?_
          refine sk_top (nI (cs (1600 + i))) (nrd cs (1600 + i) (by omega)) ?_
          have hb_17 := hcs (1600 + i)
          refine lv_istore (lv' := [(4, .int (nI (cs (1600 + i)))), (3, .int (nI i)), (0, .ref mm), (1, .int 2), (2, .int (nI d))]) hx hb dX12_codesTell_50 hl (by decide) rfl (fun ls hl => ?_)
          refine lv_iload hx hb dX12_codesTell_52 (lv_at hl 0 rfl) ?_
          refine lv_sipush (v := 1000) hx hb dX12_codesTell_54 (by decide) ?_
          refine lv_icmp_lt (tgt := 74) hx hb dX12_codesTell_57 (by decide) (fun c_18 => ?_) (fun c => absurd ((nlt (cs (1600 + i)) 1000 (by omega) (Nat.le_of_ble_eq_true rfl)).mpr (by omega)) c)
          refine lv_iload hx hb dX12_codesTell_74 (lv_at hl 0 rfl) ?_
          refine lv_bipush (v := 40) hx hb dX12_codesTell_76 (by decide) ?_
          refine lv_icmp_lt (tgt := 98) hx hb dX12_codesTell_78 (by decide) (fun c => absurd ((nlt (cs (1600 + i)) 40 (by omega) (Nat.le_of_ble_eq_true rfl)).mp c) (by omega)) (fun c_19 => ?_)
          refine lv_aload_n hx hb dX12_codesTell_81 rfl (lv_at hl 2 rfl) ?_
          refine lv_aload_n hx hb dX12_codesTell_82 rfl (lv_at hl 2 rfl) ?_
          refine lv_iload hx hb dX12_codesTell_83 (lv_at hl 0 rfl) ?_
          refine lv_bipush (v := 40) hx hb dX12_codesTell_85 (by decide) ?_
          refine lv_isub hx hb dX12_codesTell_87 ?_
          refine sk_top (nI (cs (1600 + i) - 40)) (nsub (cs (1600 + i)) 40 (by omega)) ?_
          refine lv_iload_n hx hb dX12_codesTell_88 rfl (lv_at hl 4 rfl) ?_
          refine sk_Vl (q0 := 0) (n := 2) (rest := [.ref mm]) (wr := fmR om_7_46 _) ⟨hx, hb, hml, hown, hts⟩ hl.1 (c_nm_qPartOf l D cI cJ cC cZ cS mm g ta pa pe pd pb pp pf pg pn rt rn cd sn il 0 am at_ aa mt_ wt wy it_ rm ud nu sd qn qw qo qb zq qa qi oc (cs (1600 + i) - 40) d nw pt nm hd (by omega) hnm hnw hpt) w_7_143 w_7_145 w_0_77 w_1_14 w_7_146 hd_X12_qPartOf_2 ⟨⟨(Nat.le_of_ble_eq_true rfl), (Nat.le_of_ble_eq_true rfl)⟩, (Nat.le_of_ble_eq_true rfl), (Nat.le_of_ble_eq_true rfl)⟩ hK hP hD hS hA (fmT om_7_46 0) (fmF om_7_46 0) (fm_C1 rfl rfl) (fm_R rfl rfl) (fm_nT om_7_46 0) (fm_nF om_7_46 0) (fm_di om_7_46 0) rfl rfl rfl rfl (Nat.le_of_ble_eq_true rfl) dX12_codesTell_89 (fun r_20 u H locs hw hP hD hS => ?_)
          refine anE hw (fun hr_21 eu_22 => ?_)
          clear hw
          refine o_mgE (ws' := [ro_ mm 12 (mo g (nI ta) (nI pa) (nI pe) pd (nI pb) pp pf pg pn rt rn (nI cd) sn (nI il) 0 am at_ aa mt_ 0 (-1) wt wy (nI it_) (nI rm) (nI ud) (nI nu) sd (nI qn) (nI qw) qo (nI qb) (nI zq) qa (nI qi) (nI oc)), ra_I (g 24) cI 6 (l6 u0 u1 u2 u3 u4 (nI ca)), ra_I (g 25) cI 6 (l6 v0 v1 v2 v3 v4 (nI cb)), ra_N (g 26) cI 3200 cs, ra_I (g 31) cI 120 nw, ra_N (g 46) cI 9 pt, ra_J (g 86) cJ 1700 zl]) eu_22 hP hD rfl (fun hP hD => ?_)
          subst hr_21
          refine sk_Vv (q0 := 0) (n := 1) (rest := []) (wr := fmR om_7_41 _) ⟨hx, hb, hml, hown, hts⟩ hl.1 (c_nm_qPuts l D cI cJ cC cZ cS mm g ta pa pe pd pb pp pf pg pn rt rn cd sn il 0 am at_ aa mt_ wt wy it_ rm ud nu sd qn qw qo qb zq qa qi oc (nm (cs (1600 + i) - 40)) zl (by omega)) w_7_139 w_7_141 w_0_76 w_1_14 w_7_142 hd_X12_qPuts_1 ⟨⟨(Nat.le_of_ble_eq_true rfl), (Nat.le_of_ble_eq_true rfl)⟩, (Nat.le_of_ble_eq_true rfl), (Nat.le_of_ble_eq_true rfl)⟩ hK hP hD hS hA (fmT om_7_41 0) (fmF om_7_41 0) (fm_C1 rfl rfl) (fm_R rfl rfl) (fm_nT om_7_41 0) (fm_nF om_7_41 0) (fm_di om_7_41 0) rfl rfl rfl rfl (Nat.le_of_ble_eq_true rfl) dX12_codesTell_92 (fun u H locs hw hP hD hS => ?_)
          refine exE hw (fun ql2_23 hw1 => anE hw1 (fun hql_24 eu_25 => ?_))
          clear hw hw1
          refine o_mgE (ws' := [ro_ mm 12 (mo g (nI ta) (nI pa) (nI pe) pd (nI pb) pp pf pg pn rt rn (nI cd) sn (nI il) 0 am at_ aa mt_ 0 (-1) wt wy (nI it_) (nI rm) (nI ud) (nI nu) sd (nI qn) (nI qw) qo (nI qb) (nI (zq + 1)) qa (nI qi) (nI oc)), ra_I (g 24) cI 6 (l6 u0 u1 u2 u3 u4 (nI ca)), ra_I (g 25) cI 6 (l6 v0 v1 v2 v3 v4 (nI cb)), ra_N (g 26) cI 3200 cs, ra_I (g 31) cI 120 nw, ra_N (g 46) cI 9 pt, ra_J (g 86) cJ 1700 ql2_23]) eu_25 hP hD rfl (fun hP hD => ?_)
          have hs_26 := stk_push hst hzq0 hql_24 rfl
          refine lv_goto (tgt := 104) hx hb dX12_codesTell_95 (by decide) ?_
          refine lv_iinc (v := nI (i + 1)) (lv' := [(3, .int (nI (i + 1))), (4, .int (nI (cs (1600 + i)))), (0, .ref mm), (1, .int 2), (2, .int (nI d))]) hx hb dX12_codesTell_104 hl (k := 1) rfl (ninc i 1 (by decide)) (by decide) rfl (fun ls hl => ?_)
          refine lv_goto (tgt := 28) hx hb dX12_codesTell_107 (by decide) ?_
          exact ih_lp_2 (i + 1) (zq + 1) ql2_23 (nm (cs (1600 + i) - 40) :: SS) _ _ _ (by omega) (by omega) (by omega) (show _ = SS.length + 1 by omega) (by omega) hs_26 hns3 hT3 hP hD hS (lv_sub hl [0, 2, 3, 4] rfl)
  exact lp_2 (cb - ca + 1) ca 0 ql ([]) _ _ _ (Nat.lt_succ_self _) (by omega) hab rfl (by omega) True.intro hns hex hP hD hS (lv_sub hl [0, 1, 2, 3] rfl)
