theorem dX12_init_142 : decode cX12_init 142 = .ok (.castore, 1) := q_castore (bat_get dg_X12_init_116_116 19 rfl rfl)
theorem dX12_init_143 : decode cX12_init 143 = .ok (.dup, 1) := q_dup (bat_get dg_X12_init_116_116 20 rfl rfl)
theorem dX12_init_144 : decode cX12_init 144 = .ok (.iconst 1, 1) := q_iconst1 (bat_get dg_X12_init_116_116 21 rfl rfl)
theorem dX12_init_145 : decode cX12_init 145 = .ok (.bipush 117, 2) := q_bipush (bat_get dg_X12_init_116_116 22 rfl rfl) rfl
theorem dX12_init_147 : decode cX12_init 147 = .ok (.castore, 1) := q_castore (bat_get dg_X12_init_116_116 23 rfl rfl)
theorem dX12_init_148 : decode cX12_init 148 = .ok (.dup, 1) := q_dup (bat_get dg_X12_init_116_116 24 rfl rfl)
theorem dX12_init_149 : decode cX12_init 149 = .ok (.iconst 2, 1) := q_iconst2 (bat_get dg_X12_init_116_116 25 rfl rfl)
theorem dX12_init_150 : decode cX12_init 150 = .ok (.bipush 116, 2) := q_bipush (bat_get dg_X12_init_116_116 26 rfl rfl) rfl
theorem dX12_init_152 : decode cX12_init 152 = .ok (.castore, 1) := q_castore (bat_get dg_X12_init_116_116 27 rfl rfl)
theorem dX12_init_153 : decode cX12_init 153 = .ok (.dup, 1) := q_dup (bat_get dg_X12_init_116_116 28 rfl rfl)
theorem dX12_init_154 : decode cX12_init 154 = .ok (.iconst 3, 1) := q_iconst3 (bat_get dg_X12_init_116_116 29 rfl rfl)
theorem dX12_init_155 : decode cX12_init 155 = .ok (.bipush 101, 2) := q_bipush (bat_get dg_X12_init_116_116 30 rfl rfl) rfl
theorem dX12_init_157 : decode cX12_init 157 = .ok (.castore, 1) := q_castore (bat_get dg_X12_init_116_116 31 rfl rfl)
theorem dX12_init_158 : decode cX12_init 158 = .ok (.putfield 33, 3) := q_putfield (bat_get dg_X12_init_116_116 32 rfl rfl) rfl
theorem dX12_init_161 : decode cX12_init 161 = .ok (.aload_n 0, 1) := q_aload_n0 (bat_get dg_X12_init_116_116 33 rfl rfl)
theorem dX12_init_162 : decode cX12_init 162 = .ok (.iconst 4, 1) := q_iconst4 (bat_get dg_X12_init_116_116 34 rfl rfl)
theorem dX12_init_163 : decode cX12_init 163 = .ok (.newarray .char, 2) := q_newarray_char (bat_get dg_X12_init_116_116 35 rfl rfl)
theorem dX12_init_165 : decode cX12_init 165 = .ok (.dup, 1) := q_dup (bat_get dg_X12_init_116_116 36 rfl rfl)
theorem dX12_init_166 : decode cX12_init 166 = .ok (.iconst 0, 1) := q_iconst0 (bat_get dg_X12_init_116_116 37 rfl rfl)
theorem dX12_init_167 : decode cX12_init 167 = .ok (.bipush 115, 2) := q_bipush (bat_get dg_X12_init_116_116 38 rfl rfl) rfl
theorem dX12_init_169 : decode cX12_init 169 = .ok (.castore, 1) := q_castore (bat_get dg_X12_init_116_116 39 rfl rfl)
theorem dg_X12_init_170_170 : bqL cX12_init 170 [(0, [89]), (1, [4]), (2, [16, 97]), (4, [85]), (5, [89]), (6, [5]), (7, [16, 121]), (9, [85]), (10, [89]), (11, [6]), (12, [16, 115]), (14, [85]), (15, [181, 0, 36]), (18, [42]), (19, [7]), (20, [188, 5]), (22, [89]), (23, [3]), (24, [16, 100]), (26, [85]), (27, [89]), (28, [4]), (29, [16, 111]), (31, [85]), (32, [89]), (33, [5]), (34, [16, 101]), (36, [85]), (37, [89]), (38, [6]), (39, [16, 115]), (41, [85]), (42, [181, 0, 39]), (45, [42]), (46, [7]), (47, [188, 5]), (49, [89]), (50, [3]), (51, [16, 119]), (53, [85])] = true := by decide +kernel
theorem dX12_init_170 : decode cX12_init 170 = .ok (.dup, 1) := q_dup (bat_get dg_X12_init_170_170 0 rfl rfl)
theorem dX12_init_171 : decode cX12_init 171 = .ok (.iconst 1, 1) := q_iconst1 (bat_get dg_X12_init_170_170 1 rfl rfl)
theorem dX12_init_172 : decode cX12_init 172 = .ok (.bipush 97, 2) := q_bipush (bat_get dg_X12_init_170_170 2 rfl rfl) rfl
theorem dX12_init_174 : decode cX12_init 174 = .ok (.castore, 1) := q_castore (bat_get dg_X12_init_170_170 3 rfl rfl)
theorem dX12_init_175 : decode cX12_init 175 = .ok (.dup, 1) := q_dup (bat_get dg_X12_init_170_170 4 rfl rfl)
theorem dX12_init_176 : decode cX12_init 176 = .ok (.iconst 2, 1) := q_iconst2 (bat_get dg_X12_init_170_170 5 rfl rfl)
theorem dX12_init_177 : decode cX12_init 177 = .ok (.bipush 121, 2) := q_bipush (bat_get dg_X12_init_170_170 6 rfl rfl) rfl
theorem dX12_init_179 : decode cX12_init 179 = .ok (.castore, 1) := q_castore (bat_get dg_X12_init_170_170 7 rfl rfl)
theorem dX12_init_180 : decode cX12_init 180 = .ok (.dup, 1) := q_dup (bat_get dg_X12_init_170_170 8 rfl rfl)
theorem dX12_init_181 : decode cX12_init 181 = .ok (.iconst 3, 1) := q_iconst3 (bat_get dg_X12_init_170_170 9 rfl rfl)
theorem dX12_init_182 : decode cX12_init 182 = .ok (.bipush 115, 2) := q_bipush (bat_get dg_X12_init_170_170 10 rfl rfl) rfl
theorem dX12_init_184 : decode cX12_init 184 = .ok (.castore, 1) := q_castore (bat_get dg_X12_init_170_170 11 rfl rfl)
theorem dX12_init_185 : decode cX12_init 185 = .ok (.putfield 36, 3) := q_putfield (bat_get dg_X12_init_170_170 12 rfl rfl) rfl
theorem dX12_init_188 : decode cX12_init 188 = .ok (.aload_n 0, 1) := q_aload_n0 (bat_get dg_X12_init_170_170 13 rfl rfl)
theorem dX12_init_189 : decode cX12_init 189 = .ok (.iconst 4, 1) := q_iconst4 (bat_get dg_X12_init_170_170 14 rfl rfl)
theorem dX12_init_190 : decode cX12_init 190 = .ok (.newarray .char, 2) := q_newarray_char (bat_get dg_X12_init_170_170 15 rfl rfl)
theorem dX12_init_192 : decode cX12_init 192 = .ok (.dup, 1) := q_dup (bat_get dg_X12_init_170_170 16 rfl rfl)
theorem dX12_init_193 : decode cX12_init 193 = .ok (.iconst 0, 1) := q_iconst0 (bat_get dg_X12_init_170_170 17 rfl rfl)
theorem dX12_init_194 : decode cX12_init 194 = .ok (.bipush 100, 2) := q_bipush (bat_get dg_X12_init_170_170 18 rfl rfl) rfl
theorem dX12_init_196 : decode cX12_init 196 = .ok (.castore, 1) := q_castore (bat_get dg_X12_init_170_170 19 rfl rfl)
theorem dX12_init_197 : decode cX12_init 197 = .ok (.dup, 1) := q_dup (bat_get dg_X12_init_170_170 20 rfl rfl)
theorem dX12_init_198 : decode cX12_init 198 = .ok (.iconst 1, 1) := q_iconst1 (bat_get dg_X12_init_170_170 21 rfl rfl)
theorem dX12_init_199 : decode cX12_init 199 = .ok (.bipush 111, 2) := q_bipush (bat_get dg_X12_init_170_170 22 rfl rfl) rfl
theorem dX12_init_201 : decode cX12_init 201 = .ok (.castore, 1) := q_castore (bat_get dg_X12_init_170_170 23 rfl rfl)
theorem dX12_init_202 : decode cX12_init 202 = .ok (.dup, 1) := q_dup (bat_get dg_X12_init_170_170 24 rfl rfl)
theorem dX12_init_203 : decode cX12_init 203 = .ok (.iconst 2, 1) := q_iconst2 (bat_get dg_X12_init_170_170 25 rfl rfl)
theorem dX12_init_204 : decode cX12_init 204 = .ok (.bipush 101, 2) := q_bipush (bat_get dg_X12_init_170_170 26 rfl rfl) rfl
theorem dX12_init_206 : decode cX12_init 206 = .ok (.castore, 1) := q_castore (bat_get dg_X12_init_170_170 27 rfl rfl)
theorem dX12_init_207 : decode cX12_init 207 = .ok (.dup, 1) := q_dup (bat_get dg_X12_init_170_170 28 rfl rfl)
theorem dX12_init_208 : decode cX12_init 208 = .ok (.iconst 3, 1) := q_iconst3 (bat_get dg_X12_init_170_170 29 rfl rfl)
theorem dX12_init_209 : decode cX12_init 209 = .ok (.bipush 115, 2) := q_bipush (bat_get dg_X12_init_170_170 30 rfl rfl) rfl
theorem dX12_init_211 : decode cX12_init 211 = .ok (.castore, 1) := q_castore (bat_get dg_X12_init_170_170 31 rfl rfl)
theorem dX12_init_212 : decode cX12_init 212 = .ok (.putfield 39, 3) := q_putfield (bat_get dg_X12_init_170_170 32 rfl rfl) rfl
theorem dX12_init_215 : decode cX12_init 215 = .ok (.aload_n 0, 1) := q_aload_n0 (bat_get dg_X12_init_170_170 33 rfl rfl)
theorem dX12_init_216 : decode cX12_init 216 = .ok (.iconst 4, 1) := q_iconst4 (bat_get dg_X12_init_170_170 34 rfl rfl)
theorem dX12_init_217 : decode cX12_init 217 = .ok (.newarray .char, 2) := q_newarray_char (bat_get dg_X12_init_170_170 35 rfl rfl)
theorem dX12_init_219 : decode cX12_init 219 = .ok (.dup, 1) := q_dup (bat_get dg_X12_init_170_170 36 rfl rfl)
theorem dX12_init_220 : decode cX12_init 220 = .ok (.iconst 0, 1) := q_iconst0 (bat_get dg_X12_init_170_170 37 rfl rfl)
theorem dX12_init_221 : decode cX12_init 221 = .ok (.bipush 119, 2) := q_bipush (bat_get dg_X12_init_170_170 38 rfl rfl) rfl
theorem dX12_init_223 : decode cX12_init 223 = .ok (.castore, 1) := q_castore (bat_get dg_X12_init_170_170 39 rfl rfl)
theorem dg_X12_init_224_224 : bqL cX12_init 224 [(0, [89]), (1, [4]), (2, [16, 97]), (4, [85]), (5, [89]), (6, [5]), (7, [16, 103]), (9, [85]), (10, [89]), (11, [6]), (12, [16, 101]), (14, [85]), (15, [181, 0, 42]), (18, [42]), (19, [7]), (20, [188, 5]), (22, [89]), (23, [3]), (24, [16, 114]), (26, [85]), (27, [89]), (28, [4]), (29, [16, 97]), (31, [85]), (32, [89]), (33, [5]), (34, [16, 105]), (36, [85]), (37, [89]), (38, [6]), (39, [16, 110]), (41, [85]), (42, [181, 0, 45]), (45, [42]), (46, [7]), (47, [188, 10]), (49, [181, 0, 48]), (52, [42]), (53, [16, 27]), (55, [188, 10])] = true := by decide +kernel
theorem dX12_init_224 : decode cX12_init 224 = .ok (.dup, 1) := q_dup (bat_get dg_X12_init_224_224 0 rfl rfl)
theorem dX12_init_225 : decode cX12_init 225 = .ok (.iconst 1, 1) := q_iconst1 (bat_get dg_X12_init_224_224 1 rfl rfl)
theorem dX12_init_226 : decode cX12_init 226 = .ok (.bipush 97, 2) := q_bipush (bat_get dg_X12_init_224_224 2 rfl rfl) rfl
theorem dX12_init_228 : decode cX12_init 228 = .ok (.castore, 1) := q_castore (bat_get dg_X12_init_224_224 3 rfl rfl)
theorem dX12_init_229 : decode cX12_init 229 = .ok (.dup, 1) := q_dup (bat_get dg_X12_init_224_224 4 rfl rfl)
theorem dX12_init_230 : decode cX12_init 230 = .ok (.iconst 2, 1) := q_iconst2 (bat_get dg_X12_init_224_224 5 rfl rfl)
theorem dX12_init_231 : decode cX12_init 231 = .ok (.bipush 103, 2) := q_bipush (bat_get dg_X12_init_224_224 6 rfl rfl) rfl
theorem dX12_init_233 : decode cX12_init 233 = .ok (.castore, 1) := q_castore (bat_get dg_X12_init_224_224 7 rfl rfl)
theorem dX12_init_234 : decode cX12_init 234 = .ok (.dup, 1) := q_dup (bat_get dg_X12_init_224_224 8 rfl rfl)
theorem dX12_init_235 : decode cX12_init 235 = .ok (.iconst 3, 1) := q_iconst3 (bat_get dg_X12_init_224_224 9 rfl rfl)
theorem dX12_init_236 : decode cX12_init 236 = .ok (.bipush 101, 2) := q_bipush (bat_get dg_X12_init_224_224 10 rfl rfl) rfl
theorem dX12_init_238 : decode cX12_init 238 = .ok (.castore, 1) := q_castore (bat_get dg_X12_init_224_224 11 rfl rfl)
theorem dX12_init_239 : decode cX12_init 239 = .ok (.putfield 42, 3) := q_putfield (bat_get dg_X12_init_224_224 12 rfl rfl) rfl
theorem dX12_init_242 : decode cX12_init 242 = .ok (.aload_n 0, 1) := q_aload_n0 (bat_get dg_X12_init_224_224 13 rfl rfl)
theorem dX12_init_243 : decode cX12_init 243 = .ok (.iconst 4, 1) := q_iconst4 (bat_get dg_X12_init_224_224 14 rfl rfl)
theorem dX12_init_244 : decode cX12_init 244 = .ok (.newarray .char, 2) := q_newarray_char (bat_get dg_X12_init_224_224 15 rfl rfl)
theorem dX12_init_246 : decode cX12_init 246 = .ok (.dup, 1) := q_dup (bat_get dg_X12_init_224_224 16 rfl rfl)
theorem dX12_init_247 : decode cX12_init 247 = .ok (.iconst 0, 1) := q_iconst0 (bat_get dg_X12_init_224_224 17 rfl rfl)
theorem dX12_init_248 : decode cX12_init 248 = .ok (.bipush 114, 2) := q_bipush (bat_get dg_X12_init_224_224 18 rfl rfl) rfl
theorem dX12_init_250 : decode cX12_init 250 = .ok (.castore, 1) := q_castore (bat_get dg_X12_init_224_224 19 rfl rfl)
theorem dX12_init_251 : decode cX12_init 251 = .ok (.dup, 1) := q_dup (bat_get dg_X12_init_224_224 20 rfl rfl)
theorem dX12_init_252 : decode cX12_init 252 = .ok (.iconst 1, 1) := q_iconst1 (bat_get dg_X12_init_224_224 21 rfl rfl)
theorem dX12_init_253 : decode cX12_init 253 = .ok (.bipush 97, 2) := q_bipush (bat_get dg_X12_init_224_224 22 rfl rfl) rfl
theorem dX12_init_255 : decode cX12_init 255 = .ok (.castore, 1) := q_castore (bat_get dg_X12_init_224_224 23 rfl rfl)
theorem dX12_init_256 : decode cX12_init 256 = .ok (.dup, 1) := q_dup (bat_get dg_X12_init_224_224 24 rfl rfl)
theorem dX12_init_257 : decode cX12_init 257 = .ok (.iconst 2, 1) := q_iconst2 (bat_get dg_X12_init_224_224 25 rfl rfl)
theorem dX12_init_258 : decode cX12_init 258 = .ok (.bipush 105, 2) := q_bipush (bat_get dg_X12_init_224_224 26 rfl rfl) rfl
theorem dX12_init_260 : decode cX12_init 260 = .ok (.castore, 1) := q_castore (bat_get dg_X12_init_224_224 27 rfl rfl)
theorem dX12_init_261 : decode cX12_init 261 = .ok (.dup, 1) := q_dup (bat_get dg_X12_init_224_224 28 rfl rfl)
theorem dX12_init_262 : decode cX12_init 262 = .ok (.iconst 3, 1) := q_iconst3 (bat_get dg_X12_init_224_224 29 rfl rfl)
theorem dX12_init_263 : decode cX12_init 263 = .ok (.bipush 110, 2) := q_bipush (bat_get dg_X12_init_224_224 30 rfl rfl) rfl
theorem dX12_init_265 : decode cX12_init 265 = .ok (.castore, 1) := q_castore (bat_get dg_X12_init_224_224 31 rfl rfl)
theorem dX12_init_266 : decode cX12_init 266 = .ok (.putfield 45, 3) := q_putfield (bat_get dg_X12_init_224_224 32 rfl rfl) rfl
theorem dX12_init_269 : decode cX12_init 269 = .ok (.aload_n 0, 1) := q_aload_n0 (bat_get dg_X12_init_224_224 33 rfl rfl)
theorem dX12_init_270 : decode cX12_init 270 = .ok (.iconst 4, 1) := q_iconst4 (bat_get dg_X12_init_224_224 34 rfl rfl)
theorem dX12_init_271 : decode cX12_init 271 = .ok (.newarray .int, 2) := q_newarray_int (bat_get dg_X12_init_224_224 35 rfl rfl)
theorem dX12_init_273 : decode cX12_init 273 = .ok (.putfield 48, 3) := q_putfield (bat_get dg_X12_init_224_224 36 rfl rfl) rfl
theorem dX12_init_276 : decode cX12_init 276 = .ok (.aload_n 0, 1) := q_aload_n0 (bat_get dg_X12_init_224_224 37 rfl rfl)
theorem dX12_init_277 : decode cX12_init 277 = .ok (.bipush 27, 2) := q_bipush (bat_get dg_X12_init_224_224 38 rfl rfl) rfl
theorem dX12_init_279 : decode cX12_init 279 = .ok (.newarray .int, 2) := q_newarray_int (bat_get dg_X12_init_224_224 39 rfl rfl)
theorem dg_X12_init_281_281 : bqL cX12_init 281 [(0, [181, 0, 51]), (3, [42]), (4, [16, 6]), (6, [188, 10]), (8, [89]), (9, [3]), (10, [2]), (11, [79]), (12, [89]), (13, [4]), (14, [2]), (15, [79]), (16, [89]), (17, [5]), (18, [2]), (19, [79]), (20, [89]), (21, [6]), (22, [2]), (23, [79]), (24, [89]), (25, [7]), (26, [2]), (27, [79]), (28, [89]), (29, [8]), (30, [2]), (31, [79]), (32, [181, 0, 54]), (35, [42]), (36, [16, 6]), (38, [188, 10]), (40, [181, 0, 57]), (43, [42]), (44, [17, 12, 128]), (47, [188, 10]), (49, [181, 0, 60]), (52, [42]), (53, [16, 120]), (55, [188, 10])] = true := by decide +kernel
theorem dX12_init_281 : decode cX12_init 281 = .ok (.putfield 51, 3) := q_putfield (bat_get dg_X12_init_281_281 0 rfl rfl) rfl
theorem dX12_init_284 : decode cX12_init 284 = .ok (.aload_n 0, 1) := q_aload_n0 (bat_get dg_X12_init_281_281 1 rfl rfl)
theorem dX12_init_285 : decode cX12_init 285 = .ok (.bipush 6, 2) := q_bipush (bat_get dg_X12_init_281_281 2 rfl rfl) rfl
theorem dX12_init_287 : decode cX12_init 287 = .ok (.newarray .int, 2) := q_newarray_int (bat_get dg_X12_init_281_281 3 rfl rfl)
theorem dX12_init_289 : decode cX12_init 289 = .ok (.dup, 1) := q_dup (bat_get dg_X12_init_281_281 4 rfl rfl)
theorem dX12_init_290 : decode cX12_init 290 = .ok (.iconst 0, 1) := q_iconst0 (bat_get dg_X12_init_281_281 5 rfl rfl)
theorem dX12_init_291 : decode cX12_init 291 = .ok (.iconst (-1), 1) := q_iconstm1 (bat_get dg_X12_init_281_281 6 rfl rfl)
theorem dX12_init_292 : decode cX12_init 292 = .ok (.iastore, 1) := q_iastore (bat_get dg_X12_init_281_281 7 rfl rfl)
theorem dX12_init_293 : decode cX12_init 293 = .ok (.dup, 1) := q_dup (bat_get dg_X12_init_281_281 8 rfl rfl)
theorem dX12_init_294 : decode cX12_init 294 = .ok (.iconst 1, 1) := q_iconst1 (bat_get dg_X12_init_281_281 9 rfl rfl)
theorem dX12_init_295 : decode cX12_init 295 = .ok (.iconst (-1), 1) := q_iconstm1 (bat_get dg_X12_init_281_281 10 rfl rfl)
theorem dX12_init_296 : decode cX12_init 296 = .ok (.iastore, 1) := q_iastore (bat_get dg_X12_init_281_281 11 rfl rfl)
theorem dX12_init_297 : decode cX12_init 297 = .ok (.dup, 1) := q_dup (bat_get dg_X12_init_281_281 12 rfl rfl)
theorem dX12_init_298 : decode cX12_init 298 = .ok (.iconst 2, 1) := q_iconst2 (bat_get dg_X12_init_281_281 13 rfl rfl)
theorem dX12_init_299 : decode cX12_init 299 = .ok (.iconst (-1), 1) := q_iconstm1 (bat_get dg_X12_init_281_281 14 rfl rfl)
theorem dX12_init_300 : decode cX12_init 300 = .ok (.iastore, 1) := q_iastore (bat_get dg_X12_init_281_281 15 rfl rfl)
theorem dX12_init_301 : decode cX12_init 301 = .ok (.dup, 1) := q_dup (bat_get dg_X12_init_281_281 16 rfl rfl)
theorem dX12_init_302 : decode cX12_init 302 = .ok (.iconst 3, 1) := q_iconst3 (bat_get dg_X12_init_281_281 17 rfl rfl)
theorem dX12_init_303 : decode cX12_init 303 = .ok (.iconst (-1), 1) := q_iconstm1 (bat_get dg_X12_init_281_281 18 rfl rfl)
