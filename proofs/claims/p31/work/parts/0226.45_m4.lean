theorem dg_X12_laysWays_0_0 : bqL cX12_laysWays 0 [(0, [42]), (1, [182, 1, 59]), (4, [4]), (5, [100]), (6, [60]), (7, [27]), (8, [61]), (9, [28]), (10, [155, 0, 101]), (111, [42]), (112, [9]), (113, [181, 1, 126]), (116, [3]), (117, [61]), (118, [28]), (119, [27]), (120, [163, 0, 128]), (248, [177]), (123, [3]), (124, [62]), (125, [29]), (126, [16, 10]), (128, [162, 0, 114]), (242, [132, 2, 1]), (245, [167, 255, 129]), (131, [28]), (132, [154, 0, 22]), (154, [9]), (155, [55, 4]), (157, [3]), (158, [54, 6]), (160, [21, 6]), (162, [16, 10]), (164, [162, 0, 43]), (207, [42]), (208, [180, 0, 86]), (211, [16, 10]), (213, [28]), (214, [104]), (215, [29])] = true := by decide +kernel
theorem dX12_laysWays_0 : decode cX12_laysWays 0 = .ok (.aload_n 0, 1) := q_aload_n0 (bat_get dg_X12_laysWays_0_0 0 rfl rfl)
theorem dX12_laysWays_1 : decode cX12_laysWays 1 = .ok (.invokevirtual 315, 3) := q_invokevirtual (bat_get dg_X12_laysWays_0_0 1 rfl rfl) rfl
theorem dX12_laysWays_4 : decode cX12_laysWays 4 = .ok (.iconst 1, 1) := q_iconst1 (bat_get dg_X12_laysWays_0_0 2 rfl rfl)
theorem dX12_laysWays_5 : decode cX12_laysWays 5 = .ok (.isub, 1) := q_isub (bat_get dg_X12_laysWays_0_0 3 rfl rfl)
theorem dX12_laysWays_6 : decode cX12_laysWays 6 = .ok (.istore_n 1, 1) := q_istore_n1 (bat_get dg_X12_laysWays_0_0 4 rfl rfl)
theorem dX12_laysWays_7 : decode cX12_laysWays 7 = .ok (.iload_n 1, 1) := q_iload_n1 (bat_get dg_X12_laysWays_0_0 5 rfl rfl)
theorem dX12_laysWays_8 : decode cX12_laysWays 8 = .ok (.istore_n 2, 1) := q_istore_n2 (bat_get dg_X12_laysWays_0_0 6 rfl rfl)
theorem dX12_laysWays_9 : decode cX12_laysWays 9 = .ok (.iload_n 2, 1) := q_iload_n2 (bat_get dg_X12_laysWays_0_0 7 rfl rfl)
theorem dX12_laysWays_10 : decode cX12_laysWays 10 = .ok (.ifCond .lt 101, 3) := q_ifCond_lt (bat_get dg_X12_laysWays_0_0 8 rfl rfl) rfl
theorem dX12_laysWays_111 : decode cX12_laysWays 111 = .ok (.aload_n 0, 1) := q_aload_n0 (bat_get dg_X12_laysWays_0_0 9 rfl rfl)
theorem dX12_laysWays_112 : decode cX12_laysWays 112 = .ok (.lconst 0, 1) := q_lconst0 (bat_get dg_X12_laysWays_0_0 10 rfl rfl)
theorem dX12_laysWays_113 : decode cX12_laysWays 113 = .ok (.putfield 382, 3) := q_putfield (bat_get dg_X12_laysWays_0_0 11 rfl rfl) rfl
theorem dX12_laysWays_116 : decode cX12_laysWays 116 = .ok (.iconst 0, 1) := q_iconst0 (bat_get dg_X12_laysWays_0_0 12 rfl rfl)
theorem dX12_laysWays_117 : decode cX12_laysWays 117 = .ok (.istore_n 2, 1) := q_istore_n2 (bat_get dg_X12_laysWays_0_0 13 rfl rfl)
theorem dX12_laysWays_118 : decode cX12_laysWays 118 = .ok (.iload_n 2, 1) := q_iload_n2 (bat_get dg_X12_laysWays_0_0 14 rfl rfl)
theorem dX12_laysWays_119 : decode cX12_laysWays 119 = .ok (.iload_n 1, 1) := q_iload_n1 (bat_get dg_X12_laysWays_0_0 15 rfl rfl)
theorem dX12_laysWays_120 : decode cX12_laysWays 120 = .ok (.if_icmp .gt 128, 3) := q_if_icmp_gt (bat_get dg_X12_laysWays_0_0 16 rfl rfl) rfl
theorem dX12_laysWays_248 : decode cX12_laysWays 248 = .ok (.return_, 1) := q_return_ (bat_get dg_X12_laysWays_0_0 17 rfl rfl)
theorem dX12_laysWays_123 : decode cX12_laysWays 123 = .ok (.iconst 0, 1) := q_iconst0 (bat_get dg_X12_laysWays_0_0 18 rfl rfl)
theorem dX12_laysWays_124 : decode cX12_laysWays 124 = .ok (.istore_n 3, 1) := q_istore_n3 (bat_get dg_X12_laysWays_0_0 19 rfl rfl)
theorem dX12_laysWays_125 : decode cX12_laysWays 125 = .ok (.iload_n 3, 1) := q_iload_n3 (bat_get dg_X12_laysWays_0_0 20 rfl rfl)
theorem dX12_laysWays_126 : decode cX12_laysWays 126 = .ok (.bipush 10, 2) := q_bipush (bat_get dg_X12_laysWays_0_0 21 rfl rfl) rfl
theorem dX12_laysWays_128 : decode cX12_laysWays 128 = .ok (.if_icmp .ge 114, 3) := q_if_icmp_ge (bat_get dg_X12_laysWays_0_0 22 rfl rfl) rfl
theorem dX12_laysWays_242 : decode cX12_laysWays 242 = .ok (.iinc 2 1, 3) := q_iinc (bat_get dg_X12_laysWays_0_0 23 rfl rfl) rfl
theorem dX12_laysWays_245 : decode cX12_laysWays 245 = .ok (.goto (-127), 3) := q_goto (bat_get dg_X12_laysWays_0_0 24 rfl rfl) rfl
theorem dX12_laysWays_131 : decode cX12_laysWays 131 = .ok (.iload_n 2, 1) := q_iload_n2 (bat_get dg_X12_laysWays_0_0 25 rfl rfl)
theorem dX12_laysWays_132 : decode cX12_laysWays 132 = .ok (.ifCond .ne 22, 3) := q_ifCond_ne (bat_get dg_X12_laysWays_0_0 26 rfl rfl) rfl
theorem dX12_laysWays_154 : decode cX12_laysWays 154 = .ok (.lconst 0, 1) := q_lconst0 (bat_get dg_X12_laysWays_0_0 27 rfl rfl)
theorem dX12_laysWays_155 : decode cX12_laysWays 155 = .ok (.lstore 4, 2) := q_lstore (bat_get dg_X12_laysWays_0_0 28 rfl rfl)
theorem dX12_laysWays_157 : decode cX12_laysWays 157 = .ok (.iconst 0, 1) := q_iconst0 (bat_get dg_X12_laysWays_0_0 29 rfl rfl)
theorem dX12_laysWays_158 : decode cX12_laysWays 158 = .ok (.istore 6, 2) := q_istore (bat_get dg_X12_laysWays_0_0 30 rfl rfl)
theorem dX12_laysWays_160 : decode cX12_laysWays 160 = .ok (.iload 6, 2) := q_iload (bat_get dg_X12_laysWays_0_0 31 rfl rfl)
theorem dX12_laysWays_162 : decode cX12_laysWays 162 = .ok (.bipush 10, 2) := q_bipush (bat_get dg_X12_laysWays_0_0 32 rfl rfl) rfl
theorem dX12_laysWays_164 : decode cX12_laysWays 164 = .ok (.if_icmp .ge 43, 3) := q_if_icmp_ge (bat_get dg_X12_laysWays_0_0 33 rfl rfl) rfl
theorem dX12_laysWays_207 : decode cX12_laysWays 207 = .ok (.aload_n 0, 1) := q_aload_n0 (bat_get dg_X12_laysWays_0_0 34 rfl rfl)
theorem dX12_laysWays_208 : decode cX12_laysWays 208 = .ok (.getfield 86, 3) := q_getfield (bat_get dg_X12_laysWays_0_0 35 rfl rfl) rfl
theorem dX12_laysWays_211 : decode cX12_laysWays 211 = .ok (.bipush 10, 2) := q_bipush (bat_get dg_X12_laysWays_0_0 36 rfl rfl) rfl
theorem dX12_laysWays_213 : decode cX12_laysWays 213 = .ok (.iload_n 2, 1) := q_iload_n2 (bat_get dg_X12_laysWays_0_0 37 rfl rfl)
theorem dX12_laysWays_214 : decode cX12_laysWays 214 = .ok (.imul, 1) := q_imul (bat_get dg_X12_laysWays_0_0 38 rfl rfl)
theorem dX12_laysWays_215 : decode cX12_laysWays 215 = .ok (.iload_n 3, 1) := q_iload_n3 (bat_get dg_X12_laysWays_0_0 39 rfl rfl)
theorem dg_X12_laysWays_135_216 : bqL cX12_laysWays 135 [(81, [96]), (82, [22, 4]), (84, [80]), (85, [28]), (86, [27]), (87, [160, 0, 14]), (101, [132, 3, 1]), (104, [167, 255, 142]), (90, [42]), (91, [89]), (92, [180, 1, 126]), (95, [22, 4]), (97, [97]), (98, [181, 1, 126]), (32, [28]), (33, [158, 0, 39]), (36, [42]), (37, [28]), (38, [21, 6]), (40, [29]), (41, [182, 1, 122]), (44, [153, 0, 22]), (66, [132, 6, 1]), (69, [167, 255, 212]), (47, [22, 4]), (49, [42]), (50, [180, 0, 86]), (53, [16, 10]), (55, [28]), (56, [4]), (57, [100]), (58, [104]), (59, [21, 6]), (61, [96]), (62, [47]), (63, [97]), (64, [55, 4]), (0, [42]), (1, [3]), (2, [42])] = true := by decide +kernel
theorem dX12_laysWays_216 : decode cX12_laysWays 216 = .ok (.iadd, 1) := q_iadd (bat_get dg_X12_laysWays_135_216 0 rfl rfl)
theorem dX12_laysWays_217 : decode cX12_laysWays 217 = .ok (.lload 4, 2) := q_lload (bat_get dg_X12_laysWays_135_216 1 rfl rfl)
theorem dX12_laysWays_219 : decode cX12_laysWays 219 = .ok (.lastore, 1) := q_lastore (bat_get dg_X12_laysWays_135_216 2 rfl rfl)
theorem dX12_laysWays_220 : decode cX12_laysWays 220 = .ok (.iload_n 2, 1) := q_iload_n2 (bat_get dg_X12_laysWays_135_216 3 rfl rfl)
theorem dX12_laysWays_221 : decode cX12_laysWays 221 = .ok (.iload_n 1, 1) := q_iload_n1 (bat_get dg_X12_laysWays_135_216 4 rfl rfl)
theorem dX12_laysWays_222 : decode cX12_laysWays 222 = .ok (.if_icmp .ne 14, 3) := q_if_icmp_ne (bat_get dg_X12_laysWays_135_216 5 rfl rfl) rfl
theorem dX12_laysWays_236 : decode cX12_laysWays 236 = .ok (.iinc 3 1, 3) := q_iinc (bat_get dg_X12_laysWays_135_216 6 rfl rfl) rfl
theorem dX12_laysWays_239 : decode cX12_laysWays 239 = .ok (.goto (-114), 3) := q_goto (bat_get dg_X12_laysWays_135_216 7 rfl rfl) rfl
theorem dX12_laysWays_225 : decode cX12_laysWays 225 = .ok (.aload_n 0, 1) := q_aload_n0 (bat_get dg_X12_laysWays_135_216 8 rfl rfl)
theorem dX12_laysWays_226 : decode cX12_laysWays 226 = .ok (.dup, 1) := q_dup (bat_get dg_X12_laysWays_135_216 9 rfl rfl)
theorem dX12_laysWays_227 : decode cX12_laysWays 227 = .ok (.getfield 382, 3) := q_getfield (bat_get dg_X12_laysWays_135_216 10 rfl rfl) rfl
theorem dX12_laysWays_230 : decode cX12_laysWays 230 = .ok (.lload 4, 2) := q_lload (bat_get dg_X12_laysWays_135_216 11 rfl rfl)
theorem dX12_laysWays_232 : decode cX12_laysWays 232 = .ok (.ladd, 1) := q_ladd (bat_get dg_X12_laysWays_135_216 12 rfl rfl)
theorem dX12_laysWays_233 : decode cX12_laysWays 233 = .ok (.putfield 382, 3) := q_putfield (bat_get dg_X12_laysWays_135_216 13 rfl rfl) rfl
theorem dX12_laysWays_167 : decode cX12_laysWays 167 = .ok (.iload_n 2, 1) := q_iload_n2 (bat_get dg_X12_laysWays_135_216 14 rfl rfl)
theorem dX12_laysWays_168 : decode cX12_laysWays 168 = .ok (.ifCond .le 39, 3) := q_ifCond_le (bat_get dg_X12_laysWays_135_216 15 rfl rfl) rfl
theorem dX12_laysWays_171 : decode cX12_laysWays 171 = .ok (.aload_n 0, 1) := q_aload_n0 (bat_get dg_X12_laysWays_135_216 16 rfl rfl)
theorem dX12_laysWays_172 : decode cX12_laysWays 172 = .ok (.iload_n 2, 1) := q_iload_n2 (bat_get dg_X12_laysWays_135_216 17 rfl rfl)
theorem dX12_laysWays_173 : decode cX12_laysWays 173 = .ok (.iload 6, 2) := q_iload (bat_get dg_X12_laysWays_135_216 18 rfl rfl)
theorem dX12_laysWays_175 : decode cX12_laysWays 175 = .ok (.iload_n 3, 1) := q_iload_n3 (bat_get dg_X12_laysWays_135_216 19 rfl rfl)
theorem dX12_laysWays_176 : decode cX12_laysWays 176 = .ok (.invokevirtual 378, 3) := q_invokevirtual (bat_get dg_X12_laysWays_135_216 20 rfl rfl) rfl
theorem dX12_laysWays_179 : decode cX12_laysWays 179 = .ok (.ifCond .eq 22, 3) := q_ifCond_eq (bat_get dg_X12_laysWays_135_216 21 rfl rfl) rfl
theorem dX12_laysWays_201 : decode cX12_laysWays 201 = .ok (.iinc 6 1, 3) := q_iinc (bat_get dg_X12_laysWays_135_216 22 rfl rfl) rfl
theorem dX12_laysWays_204 : decode cX12_laysWays 204 = .ok (.goto (-44), 3) := q_goto (bat_get dg_X12_laysWays_135_216 23 rfl rfl) rfl
theorem dX12_laysWays_182 : decode cX12_laysWays 182 = .ok (.lload 4, 2) := q_lload (bat_get dg_X12_laysWays_135_216 24 rfl rfl)
theorem dX12_laysWays_184 : decode cX12_laysWays 184 = .ok (.aload_n 0, 1) := q_aload_n0 (bat_get dg_X12_laysWays_135_216 25 rfl rfl)
theorem dX12_laysWays_185 : decode cX12_laysWays 185 = .ok (.getfield 86, 3) := q_getfield (bat_get dg_X12_laysWays_135_216 26 rfl rfl) rfl
theorem dX12_laysWays_188 : decode cX12_laysWays 188 = .ok (.bipush 10, 2) := q_bipush (bat_get dg_X12_laysWays_135_216 27 rfl rfl) rfl
theorem dX12_laysWays_190 : decode cX12_laysWays 190 = .ok (.iload_n 2, 1) := q_iload_n2 (bat_get dg_X12_laysWays_135_216 28 rfl rfl)
theorem dX12_laysWays_191 : decode cX12_laysWays 191 = .ok (.iconst 1, 1) := q_iconst1 (bat_get dg_X12_laysWays_135_216 29 rfl rfl)
theorem dX12_laysWays_192 : decode cX12_laysWays 192 = .ok (.isub, 1) := q_isub (bat_get dg_X12_laysWays_135_216 30 rfl rfl)
theorem dX12_laysWays_193 : decode cX12_laysWays 193 = .ok (.imul, 1) := q_imul (bat_get dg_X12_laysWays_135_216 31 rfl rfl)
theorem dX12_laysWays_194 : decode cX12_laysWays 194 = .ok (.iload 6, 2) := q_iload (bat_get dg_X12_laysWays_135_216 32 rfl rfl)
theorem dX12_laysWays_196 : decode cX12_laysWays 196 = .ok (.iadd, 1) := q_iadd (bat_get dg_X12_laysWays_135_216 33 rfl rfl)
theorem dX12_laysWays_197 : decode cX12_laysWays 197 = .ok (.laload, 1) := q_laload (bat_get dg_X12_laysWays_135_216 34 rfl rfl)
theorem dX12_laysWays_198 : decode cX12_laysWays 198 = .ok (.ladd, 1) := q_ladd (bat_get dg_X12_laysWays_135_216 35 rfl rfl)
theorem dX12_laysWays_199 : decode cX12_laysWays 199 = .ok (.lstore 4, 2) := q_lstore (bat_get dg_X12_laysWays_135_216 36 rfl rfl)
theorem dX12_laysWays_135 : decode cX12_laysWays 135 = .ok (.aload_n 0, 1) := q_aload_n0 (bat_get dg_X12_laysWays_135_216 37 rfl rfl)
theorem dX12_laysWays_136 : decode cX12_laysWays 136 = .ok (.iconst 0, 1) := q_iconst0 (bat_get dg_X12_laysWays_135_216 38 rfl rfl)
theorem dX12_laysWays_137 : decode cX12_laysWays 137 = .ok (.aload_n 0, 1) := q_aload_n0 (bat_get dg_X12_laysWays_135_216 39 rfl rfl)
theorem dg_X12_laysWays_13_138 : bqL cX12_laysWays 13 [(125, [180, 0, 63]), (128, [4]), (129, [46]), (130, [29]), (131, [182, 1, 122]), (134, [153, 0, 7]), (137, [10]), (138, [167, 0, 4]), (0, [3]), (1, [62]), (2, [29]), (3, [16, 10]), (5, [162, 0, 87]), (92, [132, 2, 255]), (95, [167, 255, 157]), (8, [28]), (9, [27]), (10, [160, 0, 7]), (17, [9]), (18, [55, 4]), (20, [3]), (21, [54, 6]), (23, [21, 6]), (25, [16, 10]), (27, [162, 0, 46]), (73, [42]), (74, [180, 0, 82]), (77, [16, 10]), (79, [28]), (80, [104]), (81, [29]), (82, [96]), (83, [22, 4]), (85, [80]), (86, [132, 3, 1]), (89, [167, 255, 169]), (30, [28]), (31, [27]), (32, [162, 0, 41]), (35, [42])] = true := by decide +kernel
theorem dX12_laysWays_138 : decode cX12_laysWays 138 = .ok (.getfield 63, 3) := q_getfield (bat_get dg_X12_laysWays_13_138 0 rfl rfl) rfl
theorem dX12_laysWays_141 : decode cX12_laysWays 141 = .ok (.iconst 1, 1) := q_iconst1 (bat_get dg_X12_laysWays_13_138 1 rfl rfl)
theorem dX12_laysWays_142 : decode cX12_laysWays 142 = .ok (.iaload, 1) := q_iaload (bat_get dg_X12_laysWays_13_138 2 rfl rfl)
theorem dX12_laysWays_143 : decode cX12_laysWays 143 = .ok (.iload_n 3, 1) := q_iload_n3 (bat_get dg_X12_laysWays_13_138 3 rfl rfl)
theorem dX12_laysWays_144 : decode cX12_laysWays 144 = .ok (.invokevirtual 378, 3) := q_invokevirtual (bat_get dg_X12_laysWays_13_138 4 rfl rfl) rfl
theorem dX12_laysWays_147 : decode cX12_laysWays 147 = .ok (.ifCond .eq 7, 3) := q_ifCond_eq (bat_get dg_X12_laysWays_13_138 5 rfl rfl) rfl
theorem dX12_laysWays_150 : decode cX12_laysWays 150 = .ok (.lconst 1, 1) := q_lconst1 (bat_get dg_X12_laysWays_13_138 6 rfl rfl)
theorem dX12_laysWays_151 : decode cX12_laysWays 151 = .ok (.goto 4, 3) := q_goto (bat_get dg_X12_laysWays_13_138 7 rfl rfl) rfl
theorem dX12_laysWays_13 : decode cX12_laysWays 13 = .ok (.iconst 0, 1) := q_iconst0 (bat_get dg_X12_laysWays_13_138 8 rfl rfl)
theorem dX12_laysWays_14 : decode cX12_laysWays 14 = .ok (.istore_n 3, 1) := q_istore_n3 (bat_get dg_X12_laysWays_13_138 9 rfl rfl)
theorem dX12_laysWays_15 : decode cX12_laysWays 15 = .ok (.iload_n 3, 1) := q_iload_n3 (bat_get dg_X12_laysWays_13_138 10 rfl rfl)
theorem dX12_laysWays_16 : decode cX12_laysWays 16 = .ok (.bipush 10, 2) := q_bipush (bat_get dg_X12_laysWays_13_138 11 rfl rfl) rfl
theorem dX12_laysWays_18 : decode cX12_laysWays 18 = .ok (.if_icmp .ge 87, 3) := q_if_icmp_ge (bat_get dg_X12_laysWays_13_138 12 rfl rfl) rfl
theorem dX12_laysWays_105 : decode cX12_laysWays 105 = .ok (.iinc 2 (-1), 3) := q_iinc (bat_get dg_X12_laysWays_13_138 13 rfl rfl) rfl
theorem dX12_laysWays_108 : decode cX12_laysWays 108 = .ok (.goto (-99), 3) := q_goto (bat_get dg_X12_laysWays_13_138 14 rfl rfl) rfl
theorem dX12_laysWays_21 : decode cX12_laysWays 21 = .ok (.iload_n 2, 1) := q_iload_n2 (bat_get dg_X12_laysWays_13_138 15 rfl rfl)
theorem dX12_laysWays_22 : decode cX12_laysWays 22 = .ok (.iload_n 1, 1) := q_iload_n1 (bat_get dg_X12_laysWays_13_138 16 rfl rfl)
theorem dX12_laysWays_23 : decode cX12_laysWays 23 = .ok (.if_icmp .ne 7, 3) := q_if_icmp_ne (bat_get dg_X12_laysWays_13_138 17 rfl rfl) rfl
theorem dX12_laysWays_30 : decode cX12_laysWays 30 = .ok (.lconst 0, 1) := q_lconst0 (bat_get dg_X12_laysWays_13_138 18 rfl rfl)
theorem dX12_laysWays_31 : decode cX12_laysWays 31 = .ok (.lstore 4, 2) := q_lstore (bat_get dg_X12_laysWays_13_138 19 rfl rfl)
theorem dX12_laysWays_33 : decode cX12_laysWays 33 = .ok (.iconst 0, 1) := q_iconst0 (bat_get dg_X12_laysWays_13_138 20 rfl rfl)
theorem dX12_laysWays_34 : decode cX12_laysWays 34 = .ok (.istore 6, 2) := q_istore (bat_get dg_X12_laysWays_13_138 21 rfl rfl)
theorem dX12_laysWays_36 : decode cX12_laysWays 36 = .ok (.iload 6, 2) := q_iload (bat_get dg_X12_laysWays_13_138 22 rfl rfl)
theorem dX12_laysWays_38 : decode cX12_laysWays 38 = .ok (.bipush 10, 2) := q_bipush (bat_get dg_X12_laysWays_13_138 23 rfl rfl) rfl
theorem dX12_laysWays_40 : decode cX12_laysWays 40 = .ok (.if_icmp .ge 46, 3) := q_if_icmp_ge (bat_get dg_X12_laysWays_13_138 24 rfl rfl) rfl
theorem dX12_laysWays_86 : decode cX12_laysWays 86 = .ok (.aload_n 0, 1) := q_aload_n0 (bat_get dg_X12_laysWays_13_138 25 rfl rfl)
theorem dX12_laysWays_87 : decode cX12_laysWays 87 = .ok (.getfield 82, 3) := q_getfield (bat_get dg_X12_laysWays_13_138 26 rfl rfl) rfl
