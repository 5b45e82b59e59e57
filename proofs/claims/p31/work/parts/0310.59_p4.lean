theorem dg_X12_qGoesOn_0_0 : bqL cX12_qGoesOn 0 [(0, [42]), (1, [180, 0, 195]), (4, [154, 0, 118]), (122, [42]), (140, [42]), (141, [180, 0, 7]), (144, [42]), (145, [180, 0, 201]), (148, [4]), (149, [100]), (150, [46]), (151, [16, 42]), (153, [160, 0, 7]), (160, [7]), (161, [60]), (162, [42]), (163, [6]), (164, [182, 2, 19]), (167, [154, 0, 11]), (178, [42]), (179, [182, 1, 248]), (182, [167, 255, 236]), (170, [42]), (171, [7]), (172, [182, 2, 19]), (175, [153, 0, 10]), (185, [42]), (186, [180, 0, 183]), (189, [42]), (190, [180, 1, 4]), (193, [27]), (194, [79]), (195, [42]), (196, [89]), (197, [180, 1, 4]), (200, [4]), (201, [96]), (202, [181, 1, 4]), (205, [4]), (206, [172])] = true := by decide +kernel
theorem dX12_qGoesOn_0 : decode cX12_qGoesOn 0 = .ok (.aload_n 0, 1) := q_aload_n0 (bat_get dg_X12_qGoesOn_0_0 0 rfl rfl)
theorem dX12_qGoesOn_1 : decode cX12_qGoesOn 1 = .ok (.getfield 195, 3) := q_getfield (bat_get dg_X12_qGoesOn_0_0 1 rfl rfl) rfl
theorem dX12_qGoesOn_4 : decode cX12_qGoesOn 4 = .ok (.ifCond .ne 118, 3) := q_ifCond_ne (bat_get dg_X12_qGoesOn_0_0 2 rfl rfl) rfl
theorem dX12_qGoesOn_122 : decode cX12_qGoesOn 122 = .ok (.aload_n 0, 1) := q_aload_n0 (bat_get dg_X12_qGoesOn_0_0 3 rfl rfl)
theorem dX12_qGoesOn_140 : decode cX12_qGoesOn 140 = .ok (.aload_n 0, 1) := q_aload_n0 (bat_get dg_X12_qGoesOn_0_0 4 rfl rfl)
theorem dX12_qGoesOn_141 : decode cX12_qGoesOn 141 = .ok (.getfield 7, 3) := q_getfield (bat_get dg_X12_qGoesOn_0_0 5 rfl rfl) rfl
theorem dX12_qGoesOn_144 : decode cX12_qGoesOn 144 = .ok (.aload_n 0, 1) := q_aload_n0 (bat_get dg_X12_qGoesOn_0_0 6 rfl rfl)
theorem dX12_qGoesOn_145 : decode cX12_qGoesOn 145 = .ok (.getfield 201, 3) := q_getfield (bat_get dg_X12_qGoesOn_0_0 7 rfl rfl) rfl
theorem dX12_qGoesOn_148 : decode cX12_qGoesOn 148 = .ok (.iconst 1, 1) := q_iconst1 (bat_get dg_X12_qGoesOn_0_0 8 rfl rfl)
theorem dX12_qGoesOn_149 : decode cX12_qGoesOn 149 = .ok (.isub, 1) := q_isub (bat_get dg_X12_qGoesOn_0_0 9 rfl rfl)
theorem dX12_qGoesOn_150 : decode cX12_qGoesOn 150 = .ok (.iaload, 1) := q_iaload (bat_get dg_X12_qGoesOn_0_0 10 rfl rfl)
theorem dX12_qGoesOn_151 : decode cX12_qGoesOn 151 = .ok (.bipush 42, 2) := q_bipush (bat_get dg_X12_qGoesOn_0_0 11 rfl rfl) rfl
theorem dX12_qGoesOn_153 : decode cX12_qGoesOn 153 = .ok (.if_icmp .ne 7, 3) := q_if_icmp_ne (bat_get dg_X12_qGoesOn_0_0 12 rfl rfl) rfl
theorem dX12_qGoesOn_160 : decode cX12_qGoesOn 160 = .ok (.iconst 4, 1) := q_iconst4 (bat_get dg_X12_qGoesOn_0_0 13 rfl rfl)
theorem dX12_qGoesOn_161 : decode cX12_qGoesOn 161 = .ok (.istore_n 1, 1) := q_istore_n1 (bat_get dg_X12_qGoesOn_0_0 14 rfl rfl)
theorem dX12_qGoesOn_162 : decode cX12_qGoesOn 162 = .ok (.aload_n 0, 1) := q_aload_n0 (bat_get dg_X12_qGoesOn_0_0 15 rfl rfl)
theorem dX12_qGoesOn_163 : decode cX12_qGoesOn 163 = .ok (.iconst 3, 1) := q_iconst3 (bat_get dg_X12_qGoesOn_0_0 16 rfl rfl)
theorem dX12_qGoesOn_164 : decode cX12_qGoesOn 164 = .ok (.invokevirtual 531, 3) := q_invokevirtual (bat_get dg_X12_qGoesOn_0_0 17 rfl rfl) rfl
theorem dX12_qGoesOn_167 : decode cX12_qGoesOn 167 = .ok (.ifCond .ne 11, 3) := q_ifCond_ne (bat_get dg_X12_qGoesOn_0_0 18 rfl rfl) rfl
theorem dX12_qGoesOn_178 : decode cX12_qGoesOn 178 = .ok (.aload_n 0, 1) := q_aload_n0 (bat_get dg_X12_qGoesOn_0_0 19 rfl rfl)
theorem dX12_qGoesOn_179 : decode cX12_qGoesOn 179 = .ok (.invokevirtual 504, 3) := q_invokevirtual (bat_get dg_X12_qGoesOn_0_0 20 rfl rfl) rfl
theorem dX12_qGoesOn_182 : decode cX12_qGoesOn 182 = .ok (.goto (-20), 3) := q_goto (bat_get dg_X12_qGoesOn_0_0 21 rfl rfl) rfl
theorem dX12_qGoesOn_170 : decode cX12_qGoesOn 170 = .ok (.aload_n 0, 1) := q_aload_n0 (bat_get dg_X12_qGoesOn_0_0 22 rfl rfl)
theorem dX12_qGoesOn_171 : decode cX12_qGoesOn 171 = .ok (.iconst 4, 1) := q_iconst4 (bat_get dg_X12_qGoesOn_0_0 23 rfl rfl)
theorem dX12_qGoesOn_172 : decode cX12_qGoesOn 172 = .ok (.invokevirtual 531, 3) := q_invokevirtual (bat_get dg_X12_qGoesOn_0_0 24 rfl rfl) rfl
theorem dX12_qGoesOn_175 : decode cX12_qGoesOn 175 = .ok (.ifCond .eq 10, 3) := q_ifCond_eq (bat_get dg_X12_qGoesOn_0_0 25 rfl rfl) rfl
theorem dX12_qGoesOn_185 : decode cX12_qGoesOn 185 = .ok (.aload_n 0, 1) := q_aload_n0 (bat_get dg_X12_qGoesOn_0_0 26 rfl rfl)
theorem dX12_qGoesOn_186 : decode cX12_qGoesOn 186 = .ok (.getfield 183, 3) := q_getfield (bat_get dg_X12_qGoesOn_0_0 27 rfl rfl) rfl
theorem dX12_qGoesOn_189 : decode cX12_qGoesOn 189 = .ok (.aload_n 0, 1) := q_aload_n0 (bat_get dg_X12_qGoesOn_0_0 28 rfl rfl)
theorem dX12_qGoesOn_190 : decode cX12_qGoesOn 190 = .ok (.getfield 260, 3) := q_getfield (bat_get dg_X12_qGoesOn_0_0 29 rfl rfl) rfl
theorem dX12_qGoesOn_193 : decode cX12_qGoesOn 193 = .ok (.iload_n 1, 1) := q_iload_n1 (bat_get dg_X12_qGoesOn_0_0 30 rfl rfl)
theorem dX12_qGoesOn_194 : decode cX12_qGoesOn 194 = .ok (.iastore, 1) := q_iastore (bat_get dg_X12_qGoesOn_0_0 31 rfl rfl)
theorem dX12_qGoesOn_195 : decode cX12_qGoesOn 195 = .ok (.aload_n 0, 1) := q_aload_n0 (bat_get dg_X12_qGoesOn_0_0 32 rfl rfl)
theorem dX12_qGoesOn_196 : decode cX12_qGoesOn 196 = .ok (.dup, 1) := q_dup (bat_get dg_X12_qGoesOn_0_0 33 rfl rfl)
theorem dX12_qGoesOn_197 : decode cX12_qGoesOn 197 = .ok (.getfield 260, 3) := q_getfield (bat_get dg_X12_qGoesOn_0_0 34 rfl rfl) rfl
theorem dX12_qGoesOn_200 : decode cX12_qGoesOn 200 = .ok (.iconst 1, 1) := q_iconst1 (bat_get dg_X12_qGoesOn_0_0 35 rfl rfl)
theorem dX12_qGoesOn_201 : decode cX12_qGoesOn 201 = .ok (.iadd, 1) := q_iadd (bat_get dg_X12_qGoesOn_0_0 36 rfl rfl)
theorem dX12_qGoesOn_202 : decode cX12_qGoesOn 202 = .ok (.putfield 260, 3) := q_putfield (bat_get dg_X12_qGoesOn_0_0 37 rfl rfl) rfl
theorem dX12_qGoesOn_205 : decode cX12_qGoesOn 205 = .ok (.iconst 1, 1) := q_iconst1 (bat_get dg_X12_qGoesOn_0_0 38 rfl rfl)
theorem dX12_qGoesOn_206 : decode cX12_qGoesOn 206 = .ok (.ireturn, 1) := q_ireturn (bat_get dg_X12_qGoesOn_0_0 39 rfl rfl)
theorem dg_X12_qGoesOn_156_156 : bqL cX12_qGoesOn 156 [(0, [6]), (1, [167, 0, 4]), (69, [42]), (70, [180, 0, 7]), (73, [42]), (74, [180, 0, 201]), (77, [4]), (78, [100]), (79, [46]), (80, [16, 43]), (82, [160, 0, 7]), (89, [5]), (90, [60]), (91, [42]), (92, [6]), (93, [182, 2, 19]), (96, [154, 0, 27]), (123, [42]), (124, [182, 1, 248]), (127, [167, 255, 220]), (99, [42]), (100, [7]), (101, [182, 2, 19]), (104, [154, 0, 19]), (107, [42]), (108, [4]), (109, [182, 2, 19]), (112, [154, 0, 11]), (115, [42]), (116, [5]), (117, [182, 2, 19]), (120, [153, 0, 10]), (130, [42]), (131, [180, 0, 183]), (134, [42]), (135, [180, 1, 4]), (138, [27]), (139, [79]), (140, [42]), (141, [89])] = true := by decide +kernel
theorem dX12_qGoesOn_156 : decode cX12_qGoesOn 156 = .ok (.iconst 3, 1) := q_iconst3 (bat_get dg_X12_qGoesOn_156_156 0 rfl rfl)
theorem dX12_qGoesOn_157 : decode cX12_qGoesOn 157 = .ok (.goto 4, 3) := q_goto (bat_get dg_X12_qGoesOn_156_156 1 rfl rfl) rfl
theorem dX12_qGoesOn_225 : decode cX12_qGoesOn 225 = .ok (.aload_n 0, 1) := q_aload_n0 (bat_get dg_X12_qGoesOn_156_156 2 rfl rfl)
theorem dX12_qGoesOn_226 : decode cX12_qGoesOn 226 = .ok (.getfield 7, 3) := q_getfield (bat_get dg_X12_qGoesOn_156_156 3 rfl rfl) rfl
theorem dX12_qGoesOn_229 : decode cX12_qGoesOn 229 = .ok (.aload_n 0, 1) := q_aload_n0 (bat_get dg_X12_qGoesOn_156_156 4 rfl rfl)
theorem dX12_qGoesOn_230 : decode cX12_qGoesOn 230 = .ok (.getfield 201, 3) := q_getfield (bat_get dg_X12_qGoesOn_156_156 5 rfl rfl) rfl
theorem dX12_qGoesOn_233 : decode cX12_qGoesOn 233 = .ok (.iconst 1, 1) := q_iconst1 (bat_get dg_X12_qGoesOn_156_156 6 rfl rfl)
theorem dX12_qGoesOn_234 : decode cX12_qGoesOn 234 = .ok (.isub, 1) := q_isub (bat_get dg_X12_qGoesOn_156_156 7 rfl rfl)
theorem dX12_qGoesOn_235 : decode cX12_qGoesOn 235 = .ok (.iaload, 1) := q_iaload (bat_get dg_X12_qGoesOn_156_156 8 rfl rfl)
theorem dX12_qGoesOn_236 : decode cX12_qGoesOn 236 = .ok (.bipush 43, 2) := q_bipush (bat_get dg_X12_qGoesOn_156_156 9 rfl rfl) rfl
theorem dX12_qGoesOn_238 : decode cX12_qGoesOn 238 = .ok (.if_icmp .ne 7, 3) := q_if_icmp_ne (bat_get dg_X12_qGoesOn_156_156 10 rfl rfl) rfl
theorem dX12_qGoesOn_245 : decode cX12_qGoesOn 245 = .ok (.iconst 2, 1) := q_iconst2 (bat_get dg_X12_qGoesOn_156_156 11 rfl rfl)
theorem dX12_qGoesOn_246 : decode cX12_qGoesOn 246 = .ok (.istore_n 1, 1) := q_istore_n1 (bat_get dg_X12_qGoesOn_156_156 12 rfl rfl)
theorem dX12_qGoesOn_247 : decode cX12_qGoesOn 247 = .ok (.aload_n 0, 1) := q_aload_n0 (bat_get dg_X12_qGoesOn_156_156 13 rfl rfl)
theorem dX12_qGoesOn_248 : decode cX12_qGoesOn 248 = .ok (.iconst 3, 1) := q_iconst3 (bat_get dg_X12_qGoesOn_156_156 14 rfl rfl)
theorem dX12_qGoesOn_249 : decode cX12_qGoesOn 249 = .ok (.invokevirtual 531, 3) := q_invokevirtual (bat_get dg_X12_qGoesOn_156_156 15 rfl rfl) rfl
theorem dX12_qGoesOn_252 : decode cX12_qGoesOn 252 = .ok (.ifCond .ne 27, 3) := q_ifCond_ne (bat_get dg_X12_qGoesOn_156_156 16 rfl rfl) rfl
theorem dX12_qGoesOn_279 : decode cX12_qGoesOn 279 = .ok (.aload_n 0, 1) := q_aload_n0 (bat_get dg_X12_qGoesOn_156_156 17 rfl rfl)
theorem dX12_qGoesOn_280 : decode cX12_qGoesOn 280 = .ok (.invokevirtual 504, 3) := q_invokevirtual (bat_get dg_X12_qGoesOn_156_156 18 rfl rfl) rfl
theorem dX12_qGoesOn_283 : decode cX12_qGoesOn 283 = .ok (.goto (-36), 3) := q_goto (bat_get dg_X12_qGoesOn_156_156 19 rfl rfl) rfl
theorem dX12_qGoesOn_255 : decode cX12_qGoesOn 255 = .ok (.aload_n 0, 1) := q_aload_n0 (bat_get dg_X12_qGoesOn_156_156 20 rfl rfl)
theorem dX12_qGoesOn_256 : decode cX12_qGoesOn 256 = .ok (.iconst 4, 1) := q_iconst4 (bat_get dg_X12_qGoesOn_156_156 21 rfl rfl)
theorem dX12_qGoesOn_257 : decode cX12_qGoesOn 257 = .ok (.invokevirtual 531, 3) := q_invokevirtual (bat_get dg_X12_qGoesOn_156_156 22 rfl rfl) rfl
theorem dX12_qGoesOn_260 : decode cX12_qGoesOn 260 = .ok (.ifCond .ne 19, 3) := q_ifCond_ne (bat_get dg_X12_qGoesOn_156_156 23 rfl rfl) rfl
theorem dX12_qGoesOn_263 : decode cX12_qGoesOn 263 = .ok (.aload_n 0, 1) := q_aload_n0 (bat_get dg_X12_qGoesOn_156_156 24 rfl rfl)
theorem dX12_qGoesOn_264 : decode cX12_qGoesOn 264 = .ok (.iconst 1, 1) := q_iconst1 (bat_get dg_X12_qGoesOn_156_156 25 rfl rfl)
theorem dX12_qGoesOn_265 : decode cX12_qGoesOn 265 = .ok (.invokevirtual 531, 3) := q_invokevirtual (bat_get dg_X12_qGoesOn_156_156 26 rfl rfl) rfl
theorem dX12_qGoesOn_268 : decode cX12_qGoesOn 268 = .ok (.ifCond .ne 11, 3) := q_ifCond_ne (bat_get dg_X12_qGoesOn_156_156 27 rfl rfl) rfl
theorem dX12_qGoesOn_271 : decode cX12_qGoesOn 271 = .ok (.aload_n 0, 1) := q_aload_n0 (bat_get dg_X12_qGoesOn_156_156 28 rfl rfl)
theorem dX12_qGoesOn_272 : decode cX12_qGoesOn 272 = .ok (.iconst 2, 1) := q_iconst2 (bat_get dg_X12_qGoesOn_156_156 29 rfl rfl)
theorem dX12_qGoesOn_273 : decode cX12_qGoesOn 273 = .ok (.invokevirtual 531, 3) := q_invokevirtual (bat_get dg_X12_qGoesOn_156_156 30 rfl rfl) rfl
theorem dX12_qGoesOn_276 : decode cX12_qGoesOn 276 = .ok (.ifCond .eq 10, 3) := q_ifCond_eq (bat_get dg_X12_qGoesOn_156_156 31 rfl rfl) rfl
theorem dX12_qGoesOn_286 : decode cX12_qGoesOn 286 = .ok (.aload_n 0, 1) := q_aload_n0 (bat_get dg_X12_qGoesOn_156_156 32 rfl rfl)
theorem dX12_qGoesOn_287 : decode cX12_qGoesOn 287 = .ok (.getfield 183, 3) := q_getfield (bat_get dg_X12_qGoesOn_156_156 33 rfl rfl) rfl
theorem dX12_qGoesOn_290 : decode cX12_qGoesOn 290 = .ok (.aload_n 0, 1) := q_aload_n0 (bat_get dg_X12_qGoesOn_156_156 34 rfl rfl)
theorem dX12_qGoesOn_291 : decode cX12_qGoesOn 291 = .ok (.getfield 260, 3) := q_getfield (bat_get dg_X12_qGoesOn_156_156 35 rfl rfl) rfl
theorem dX12_qGoesOn_294 : decode cX12_qGoesOn 294 = .ok (.iload_n 1, 1) := q_iload_n1 (bat_get dg_X12_qGoesOn_156_156 36 rfl rfl)
theorem dX12_qGoesOn_295 : decode cX12_qGoesOn 295 = .ok (.iastore, 1) := q_iastore (bat_get dg_X12_qGoesOn_156_156 37 rfl rfl)
theorem dX12_qGoesOn_296 : decode cX12_qGoesOn 296 = .ok (.aload_n 0, 1) := q_aload_n0 (bat_get dg_X12_qGoesOn_156_156 38 rfl rfl)
theorem dX12_qGoesOn_297 : decode cX12_qGoesOn 297 = .ok (.dup, 1) := q_dup (bat_get dg_X12_qGoesOn_156_156 39 rfl rfl)
theorem dg_X12_qGoesOn_123_298 : bqL cX12_qGoesOn 123 [(175, [180, 1, 4]), (178, [4]), (179, [96]), (180, [181, 1, 4]), (183, [4]), (184, [172]), (118, [4]), (119, [167, 0, 4]), (0, [16, 42]), (2, [182, 0, 229]), (5, [154, 0, 12]), (8, [42]), (9, [16, 47]), (11, [182, 0, 229]), (14, [153, 0, 70]), (84, [42]), (85, [16, 43]), (87, [182, 0, 229]), (90, [154, 0, 12]), (93, [42]), (94, [16, 45]), (96, [182, 0, 229]), (99, [153, 0, 86]), (185, [42]), (186, [182, 2, 13]), (189, [16, 21]), (191, [159, 0, 12]), (203, [42]), (204, [16, 44]), (206, [182, 0, 253]), (209, [42]), (210, [180, 0, 195]), (213, [153, 0, 5]), (218, [42]), (219, [182, 2, 16]), (222, [42]), (223, [180, 0, 183]), (226, [42]), (227, [180, 1, 4]), (230, [4])] = true := by decide +kernel
theorem dX12_qGoesOn_298 : decode cX12_qGoesOn 298 = .ok (.getfield 260, 3) := q_getfield (bat_get dg_X12_qGoesOn_123_298 0 rfl rfl) rfl
theorem dX12_qGoesOn_301 : decode cX12_qGoesOn 301 = .ok (.iconst 1, 1) := q_iconst1 (bat_get dg_X12_qGoesOn_123_298 1 rfl rfl)
theorem dX12_qGoesOn_302 : decode cX12_qGoesOn 302 = .ok (.iadd, 1) := q_iadd (bat_get dg_X12_qGoesOn_123_298 2 rfl rfl)
theorem dX12_qGoesOn_303 : decode cX12_qGoesOn 303 = .ok (.putfield 260, 3) := q_putfield (bat_get dg_X12_qGoesOn_123_298 3 rfl rfl) rfl
theorem dX12_qGoesOn_306 : decode cX12_qGoesOn 306 = .ok (.iconst 1, 1) := q_iconst1 (bat_get dg_X12_qGoesOn_123_298 4 rfl rfl)
theorem dX12_qGoesOn_307 : decode cX12_qGoesOn 307 = .ok (.ireturn, 1) := q_ireturn (bat_get dg_X12_qGoesOn_123_298 5 rfl rfl)
theorem dX12_qGoesOn_241 : decode cX12_qGoesOn 241 = .ok (.iconst 1, 1) := q_iconst1 (bat_get dg_X12_qGoesOn_123_298 6 rfl rfl)
theorem dX12_qGoesOn_242 : decode cX12_qGoesOn 242 = .ok (.goto 4, 3) := q_goto (bat_get dg_X12_qGoesOn_123_298 7 rfl rfl) rfl
theorem dX12_qGoesOn_123 : decode cX12_qGoesOn 123 = .ok (.bipush 42, 2) := q_bipush (bat_get dg_X12_qGoesOn_123_298 8 rfl rfl) rfl
theorem dX12_qGoesOn_125 : decode cX12_qGoesOn 125 = .ok (.invokevirtual 229, 3) := q_invokevirtual (bat_get dg_X12_qGoesOn_123_298 9 rfl rfl) rfl
theorem dX12_qGoesOn_128 : decode cX12_qGoesOn 128 = .ok (.ifCond .ne 12, 3) := q_ifCond_ne (bat_get dg_X12_qGoesOn_123_298 10 rfl rfl) rfl
theorem dX12_qGoesOn_131 : decode cX12_qGoesOn 131 = .ok (.aload_n 0, 1) := q_aload_n0 (bat_get dg_X12_qGoesOn_123_298 11 rfl rfl)
theorem dX12_qGoesOn_132 : decode cX12_qGoesOn 132 = .ok (.bipush 47, 2) := q_bipush (bat_get dg_X12_qGoesOn_123_298 12 rfl rfl) rfl
theorem dX12_qGoesOn_134 : decode cX12_qGoesOn 134 = .ok (.invokevirtual 229, 3) := q_invokevirtual (bat_get dg_X12_qGoesOn_123_298 13 rfl rfl) rfl
theorem dX12_qGoesOn_137 : decode cX12_qGoesOn 137 = .ok (.ifCond .eq 70, 3) := q_ifCond_eq (bat_get dg_X12_qGoesOn_123_298 14 rfl rfl) rfl
theorem dX12_qGoesOn_207 : decode cX12_qGoesOn 207 = .ok (.aload_n 0, 1) := q_aload_n0 (bat_get dg_X12_qGoesOn_123_298 15 rfl rfl)
theorem dX12_qGoesOn_208 : decode cX12_qGoesOn 208 = .ok (.bipush 43, 2) := q_bipush (bat_get dg_X12_qGoesOn_123_298 16 rfl rfl) rfl
theorem dX12_qGoesOn_210 : decode cX12_qGoesOn 210 = .ok (.invokevirtual 229, 3) := q_invokevirtual (bat_get dg_X12_qGoesOn_123_298 17 rfl rfl) rfl
theorem dX12_qGoesOn_213 : decode cX12_qGoesOn 213 = .ok (.ifCond .ne 12, 3) := q_ifCond_ne (bat_get dg_X12_qGoesOn_123_298 18 rfl rfl) rfl
theorem dX12_qGoesOn_216 : decode cX12_qGoesOn 216 = .ok (.aload_n 0, 1) := q_aload_n0 (bat_get dg_X12_qGoesOn_123_298 19 rfl rfl)
theorem dX12_qGoesOn_217 : decode cX12_qGoesOn 217 = .ok (.bipush 45, 2) := q_bipush (bat_get dg_X12_qGoesOn_123_298 20 rfl rfl) rfl
theorem dX12_qGoesOn_219 : decode cX12_qGoesOn 219 = .ok (.invokevirtual 229, 3) := q_invokevirtual (bat_get dg_X12_qGoesOn_123_298 21 rfl rfl) rfl
theorem dX12_qGoesOn_222 : decode cX12_qGoesOn 222 = .ok (.ifCond .eq 86, 3) := q_ifCond_eq (bat_get dg_X12_qGoesOn_123_298 22 rfl rfl) rfl
theorem dX12_qGoesOn_308 : decode cX12_qGoesOn 308 = .ok (.aload_n 0, 1) := q_aload_n0 (bat_get dg_X12_qGoesOn_123_298 23 rfl rfl)
theorem dX12_qGoesOn_309 : decode cX12_qGoesOn 309 = .ok (.invokevirtual 525, 3) := q_invokevirtual (bat_get dg_X12_qGoesOn_123_298 24 rfl rfl) rfl
theorem dX12_qGoesOn_312 : decode cX12_qGoesOn 312 = .ok (.bipush 21, 2) := q_bipush (bat_get dg_X12_qGoesOn_123_298 25 rfl rfl) rfl
