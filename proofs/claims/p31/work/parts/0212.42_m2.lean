theorem dX12_qJoins_168 : decode cX12_qJoins 168 = .ok (.lload 4, 2) := q_lload (bat_get dg_X12_qJoins_123_123 22 rfl rfl)
theorem dX12_qJoins_170 : decode cX12_qJoins 170 = .ok (.lload_n 2, 1) := q_lload_n2 (bat_get dg_X12_qJoins_123_123 23 rfl rfl)
theorem dX12_qJoins_171 : decode cX12_qJoins 171 = .ok (.lcmp, 1) := q_lcmp (bat_get dg_X12_qJoins_123_123 24 rfl rfl)
theorem dX12_qJoins_172 : decode cX12_qJoins 172 = .ok (.ifCond .le 8, 3) := q_ifCond_le (bat_get dg_X12_qJoins_123_123 25 rfl rfl) rfl
theorem dX12_qJoins_180 : decode cX12_qJoins 180 = .ok (.lload_n 2, 1) := q_lload_n2 (bat_get dg_X12_qJoins_123_123 26 rfl rfl)
theorem dX12_qJoins_181 : decode cX12_qJoins 181 = .ok (.invokevirtual 323, 3) := q_invokevirtual (bat_get dg_X12_qJoins_123_123 27 rfl rfl) rfl
theorem dX12_qJoins_184 : decode cX12_qJoins 184 = .ok (.goto 89, 3) := q_goto (bat_get dg_X12_qJoins_123_123 28 rfl rfl) rfl
theorem dX12_qJoins_175 : decode cX12_qJoins 175 = .ok (.lload 4, 2) := q_lload (bat_get dg_X12_qJoins_123_123 29 rfl rfl)
theorem dX12_qJoins_177 : decode cX12_qJoins 177 = .ok (.goto 4, 3) := q_goto (bat_get dg_X12_qJoins_123_123 30 rfl rfl) rfl
theorem dX12_qJoins_187 : decode cX12_qJoins 187 = .ok (.aload_n 0, 1) := q_aload_n0 (bat_get dg_X12_qJoins_123_123 31 rfl rfl)
theorem dX12_qJoins_188 : decode cX12_qJoins 188 = .ok (.lload 4, 2) := q_lload (bat_get dg_X12_qJoins_123_123 32 rfl rfl)
theorem dX12_qJoins_190 : decode cX12_qJoins 190 = .ok (.lload_n 2, 1) := q_lload_n2 (bat_get dg_X12_qJoins_123_123 33 rfl rfl)
theorem dX12_qJoins_191 : decode cX12_qJoins 191 = .ok (.lcmp, 1) := q_lcmp (bat_get dg_X12_qJoins_123_123 34 rfl rfl)
theorem dX12_qJoins_192 : decode cX12_qJoins 192 = .ok (.ifCond .ge 7, 3) := q_ifCond_ge (bat_get dg_X12_qJoins_123_123 35 rfl rfl) rfl
theorem dX12_qJoins_199 : decode cX12_qJoins 199 = .ok (.lconst 0, 1) := q_lconst0 (bat_get dg_X12_qJoins_123_123 36 rfl rfl)
theorem dX12_qJoins_200 : decode cX12_qJoins 200 = .ok (.invokevirtual 323, 3) := q_invokevirtual (bat_get dg_X12_qJoins_123_123 37 rfl rfl) rfl
theorem dX12_qJoins_203 : decode cX12_qJoins 203 = .ok (.goto 70, 3) := q_goto (bat_get dg_X12_qJoins_123_123 38 rfl rfl) rfl
theorem dX12_qJoins_195 : decode cX12_qJoins 195 = .ok (.lconst 1, 1) := q_lconst1 (bat_get dg_X12_qJoins_123_123 39 rfl rfl)
theorem dg_X12_qJoins_196_196 : bqL cX12_qJoins 196 [(0, [167, 0, 4]), (10, [42]), (11, [22, 4]), (13, [32]), (14, [148]), (15, [158, 0, 7]), (22, [9]), (23, [182, 1, 67]), (26, [167, 0, 51]), (18, [10]), (19, [167, 0, 4]), (29, [42]), (30, [22, 4]), (32, [32]), (33, [148]), (34, [154, 0, 7]), (41, [9]), (42, [182, 1, 67]), (45, [167, 0, 32]), (37, [10]), (38, [167, 0, 4]), (48, [42]), (49, [22, 4]), (51, [32]), (52, [105]), (53, [182, 1, 67]), (56, [167, 0, 21]), (59, [42]), (60, [22, 4]), (62, [32]), (63, [97]), (64, [9]), (65, [148]), (66, [158, 0, 7]), (73, [9]), (74, [182, 1, 67]), (69, [10]), (70, [167, 0, 4])] = true := by decide +kernel
theorem dX12_qJoins_196 : decode cX12_qJoins 196 = .ok (.goto 4, 3) := q_goto (bat_get dg_X12_qJoins_196_196 0 rfl rfl) rfl
theorem dX12_qJoins_206 : decode cX12_qJoins 206 = .ok (.aload_n 0, 1) := q_aload_n0 (bat_get dg_X12_qJoins_196_196 1 rfl rfl)
theorem dX12_qJoins_207 : decode cX12_qJoins 207 = .ok (.lload 4, 2) := q_lload (bat_get dg_X12_qJoins_196_196 2 rfl rfl)
theorem dX12_qJoins_209 : decode cX12_qJoins 209 = .ok (.lload_n 2, 1) := q_lload_n2 (bat_get dg_X12_qJoins_196_196 3 rfl rfl)
theorem dX12_qJoins_210 : decode cX12_qJoins 210 = .ok (.lcmp, 1) := q_lcmp (bat_get dg_X12_qJoins_196_196 4 rfl rfl)
theorem dX12_qJoins_211 : decode cX12_qJoins 211 = .ok (.ifCond .le 7, 3) := q_ifCond_le (bat_get dg_X12_qJoins_196_196 5 rfl rfl) rfl
theorem dX12_qJoins_218 : decode cX12_qJoins 218 = .ok (.lconst 0, 1) := q_lconst0 (bat_get dg_X12_qJoins_196_196 6 rfl rfl)
theorem dX12_qJoins_219 : decode cX12_qJoins 219 = .ok (.invokevirtual 323, 3) := q_invokevirtual (bat_get dg_X12_qJoins_196_196 7 rfl rfl) rfl
theorem dX12_qJoins_222 : decode cX12_qJoins 222 = .ok (.goto 51, 3) := q_goto (bat_get dg_X12_qJoins_196_196 8 rfl rfl) rfl
theorem dX12_qJoins_214 : decode cX12_qJoins 214 = .ok (.lconst 1, 1) := q_lconst1 (bat_get dg_X12_qJoins_196_196 9 rfl rfl)
theorem dX12_qJoins_215 : decode cX12_qJoins 215 = .ok (.goto 4, 3) := q_goto (bat_get dg_X12_qJoins_196_196 10 rfl rfl) rfl
theorem dX12_qJoins_225 : decode cX12_qJoins 225 = .ok (.aload_n 0, 1) := q_aload_n0 (bat_get dg_X12_qJoins_196_196 11 rfl rfl)
theorem dX12_qJoins_226 : decode cX12_qJoins 226 = .ok (.lload 4, 2) := q_lload (bat_get dg_X12_qJoins_196_196 12 rfl rfl)
theorem dX12_qJoins_228 : decode cX12_qJoins 228 = .ok (.lload_n 2, 1) := q_lload_n2 (bat_get dg_X12_qJoins_196_196 13 rfl rfl)
theorem dX12_qJoins_229 : decode cX12_qJoins 229 = .ok (.lcmp, 1) := q_lcmp (bat_get dg_X12_qJoins_196_196 14 rfl rfl)
theorem dX12_qJoins_230 : decode cX12_qJoins 230 = .ok (.ifCond .ne 7, 3) := q_ifCond_ne (bat_get dg_X12_qJoins_196_196 15 rfl rfl) rfl
theorem dX12_qJoins_237 : decode cX12_qJoins 237 = .ok (.lconst 0, 1) := q_lconst0 (bat_get dg_X12_qJoins_196_196 16 rfl rfl)
theorem dX12_qJoins_238 : decode cX12_qJoins 238 = .ok (.invokevirtual 323, 3) := q_invokevirtual (bat_get dg_X12_qJoins_196_196 17 rfl rfl) rfl
theorem dX12_qJoins_241 : decode cX12_qJoins 241 = .ok (.goto 32, 3) := q_goto (bat_get dg_X12_qJoins_196_196 18 rfl rfl) rfl
theorem dX12_qJoins_233 : decode cX12_qJoins 233 = .ok (.lconst 1, 1) := q_lconst1 (bat_get dg_X12_qJoins_196_196 19 rfl rfl)
theorem dX12_qJoins_234 : decode cX12_qJoins 234 = .ok (.goto 4, 3) := q_goto (bat_get dg_X12_qJoins_196_196 20 rfl rfl) rfl
theorem dX12_qJoins_244 : decode cX12_qJoins 244 = .ok (.aload_n 0, 1) := q_aload_n0 (bat_get dg_X12_qJoins_196_196 21 rfl rfl)
theorem dX12_qJoins_245 : decode cX12_qJoins 245 = .ok (.lload 4, 2) := q_lload (bat_get dg_X12_qJoins_196_196 22 rfl rfl)
theorem dX12_qJoins_247 : decode cX12_qJoins 247 = .ok (.lload_n 2, 1) := q_lload_n2 (bat_get dg_X12_qJoins_196_196 23 rfl rfl)
theorem dX12_qJoins_248 : decode cX12_qJoins 248 = .ok (.lmul, 1) := q_lmul (bat_get dg_X12_qJoins_196_196 24 rfl rfl)
theorem dX12_qJoins_249 : decode cX12_qJoins 249 = .ok (.invokevirtual 323, 3) := q_invokevirtual (bat_get dg_X12_qJoins_196_196 25 rfl rfl) rfl
theorem dX12_qJoins_252 : decode cX12_qJoins 252 = .ok (.goto 21, 3) := q_goto (bat_get dg_X12_qJoins_196_196 26 rfl rfl) rfl
theorem dX12_qJoins_255 : decode cX12_qJoins 255 = .ok (.aload_n 0, 1) := q_aload_n0 (bat_get dg_X12_qJoins_196_196 27 rfl rfl)
theorem dX12_qJoins_256 : decode cX12_qJoins 256 = .ok (.lload 4, 2) := q_lload (bat_get dg_X12_qJoins_196_196 28 rfl rfl)
theorem dX12_qJoins_258 : decode cX12_qJoins 258 = .ok (.lload_n 2, 1) := q_lload_n2 (bat_get dg_X12_qJoins_196_196 29 rfl rfl)
theorem dX12_qJoins_259 : decode cX12_qJoins 259 = .ok (.ladd, 1) := q_ladd (bat_get dg_X12_qJoins_196_196 30 rfl rfl)
theorem dX12_qJoins_260 : decode cX12_qJoins 260 = .ok (.lconst 0, 1) := q_lconst0 (bat_get dg_X12_qJoins_196_196 31 rfl rfl)
theorem dX12_qJoins_261 : decode cX12_qJoins 261 = .ok (.lcmp, 1) := q_lcmp (bat_get dg_X12_qJoins_196_196 32 rfl rfl)
theorem dX12_qJoins_262 : decode cX12_qJoins 262 = .ok (.ifCond .le 7, 3) := q_ifCond_le (bat_get dg_X12_qJoins_196_196 33 rfl rfl) rfl
theorem dX12_qJoins_269 : decode cX12_qJoins 269 = .ok (.lconst 0, 1) := q_lconst0 (bat_get dg_X12_qJoins_196_196 34 rfl rfl)
theorem dX12_qJoins_270 : decode cX12_qJoins 270 = .ok (.invokevirtual 323, 3) := q_invokevirtual (bat_get dg_X12_qJoins_196_196 35 rfl rfl) rfl
theorem dX12_qJoins_265 : decode cX12_qJoins 265 = .ok (.lconst 1, 1) := q_lconst1 (bat_get dg_X12_qJoins_196_196 36 rfl rfl)
theorem dX12_qJoins_266 : decode cX12_qJoins 266 = .ok (.goto 4, 3) := q_goto (bat_get dg_X12_qJoins_196_196 37 rfl rfl) rfl
theorem w_7_160 : (Cond.methodLink RX12 556 yX12_qClip) ∈ wsL_law := sk_mem (ck_7 _ (List.mem_of_getElem? (i := 160) rfl)) rfl
theorem w_7_161 : (Cond.static yX12_qClip) ∈ wsL_law := sk_mem (ck_7 _ (List.mem_of_getElem? (i := 161) rfl)) rfl
theorem w_7_139 : (Cond.methodLink RX12 323 yX12_qPuts) ∈ wsL_law := sk_mem (ck_7 _ (List.mem_of_getElem? (i := 139) rfl)) rfl
theorem w_7_141 : (Cond.instanceMethod yX12_qPuts) ∈ wsL_law := sk_mem (ck_7 _ (List.mem_of_getElem? (i := 141) rfl)) rfl
theorem w_0_76 : (Cond.selects RX12 yX12_qPuts yX12_qPuts) ∈ wsL_law := sk_mem (ck_0 _ (List.mem_of_getElem? (i := 76) rfl)) rfl
theorem w_7_165 : (Cond.methodLink RX12 559 yX12_qFloor) ∈ wsL_law := sk_mem (ck_7 _ (List.mem_of_getElem? (i := 165) rfl)) rfl
theorem w_7_166 : (Cond.static yX12_qFloor) ∈ wsL_law := sk_mem (ck_7 _ (List.mem_of_getElem? (i := 166) rfl)) rfl
theorem w_7_159 : (Cond.code yX12_qJoins cX12_qJoins 6 none) ∈ wsL_law := sk_mem (ck_7 _ (List.mem_of_getElem? (i := 159) rfl)) rfl
theorem hd_X12_qClip_1 : skD yX12_qClip 1 := by decide +kernel
theorem hd_X12_qPuts_1 : skD yX12_qPuts 1 := by decide +kernel
theorem hd_X12_qFloor_2 : skD yX12_qFloor 2 := by decide +kernel
set_option maxHeartbeats 4000000 in
set_option maxRecDepth 100000 in
theorem c_m_qJoins (l : Launch) (D : va_G) (cI cJ cC cZ cS : ClassId) (mm : Nat) (g : Nat → Nat) (ta : Nat) (pa : Nat) (pe : Nat) (pd : Int32) (pb : Nat) (pp : Int32) (pf : Int32) (pg : Int32) (pn : Int32) (rt : Int32) (rn : Int32) (cd : Nat) (sn : Int32) (il : Nat) (tk : Int32) (am : Int32) (at_ : Int32) (aa : Int32) (mt_ : Int32) (bh : Nat) (wd : Int32) (wt : Int32) (wy : Int64) (it_ : Nat) (rm : Nat) (ud : Nat) (nu : Nat) (sd : Int64) (qn : Nat) (qw : Nat) (qo : Int32) (qb : Nat) (qp : Nat) (qa : Int64) (qi : Nat) (oc : Nat) (w : Int32) (ql : Nat → Int64) (hqp2 : 2 ≤ qp) (hqp : qp ≤ 1700) : skM l yX12_qJoins cX12_qJoins 6 none 1 25 0 0 D (skT cI cJ cC cZ cS) [.ref mm, .int w] [(mm, .inr (12, mo g (nI ta) (nI pa) (nI pe) pd (nI pb) pp pf pg pn rt rn (nI cd) sn (nI il) tk am at_ aa mt_ (nI bh) wd wt wy (nI it_) (nI rm) (nI ud) (nI nu) sd (nI qn) (nI qw) qo (nI qb) (nI qp) qa (nI qi) (nI oc))), (g 86, .inl (cJ, 1700, .inr (.inl ql)))] (skV D (skT cI cJ cC cZ cS) (fun (u : va_W) => ∃ (ql2 : Nat → Int64), u = [(mm, .inr (12, mo g (nI ta) (nI pa) (nI pe) pd (nI pb) pp pf pg pn rt rn (nI cd) sn (nI il) tk am at_ aa mt_ (nI bh) wd wt wy (nI it_) (nI rm) (nI ud) (nI nu) sd (nI qn) (nI qw) qo (nI qb) (nI (qp - 2 + 1)) qa (nI qi) (nI oc))), (g 86, .inl (cJ, 1700, .inr (.inl ql2)))])) := by
  refine skM_of pf_X12_qJoins (Nat.le_of_ble_eq_true rfl) ?_
  intro p e s m below meth c A ls E hP hD hl
  refine skE_el E (fun hx hb hr hml hlocks hin hown hts hK hA => ?_)
  have hown : s.vm.findClass RX12 = some m.cls := hown
  have hS : va_S A s.heap s.heap [] := va_S.rf
  have hl : lv_has ls 6 [(0, .ref mm), (1, .int w)] := hl
  refine lv_aload_n hx hb dX12_qJoins_0 rfl (lv_at hl 0 rfl) ?_
  refine sk_get (v := .ref (g 86)) (C := RX12) (T := TX12) (N := 92) hx hb hts inlX12 hown hK hP 0 rfl rfl 86 (by decide) w_6_1 rfl dX12_qJoins_1 ?_
  refine lv_aload_n hx hb dX12_qJoins_4 rfl (lv_at hl 0 rfl) ?_
  refine sk_get (v := .int (nI qp)) (C := RX12) (T := TX12) (N := 92) hx hb hts inlX12 hown hK hP 0 rfl rfl 87 (by decide) w_6_2 rfl dX12_qJoins_5 ?_
  refine lv_iconst (v := 1) hx hb dX12_qJoins_8 (by decide) ?_
  refine lv_isub hx hb dX12_qJoins_9 ?_
  refine sk_top (nI (qp - 1)) (nsub qp 1 (by omega)) ?_
  refine va_lald hx hb hK.1 hP 1 1 rfl rfl (vin (qp - 1) 1700 (by omega) (by omega)) dX12_qJoins_10 ?_
  refine lv_topl (fun v_1 ev_1 => ?_)
  refine lv_lstore_n (lv' := [(2, .long v_1), (0, .ref mm), (1, .int w)]) hx hb dX12_qJoins_11 rfl hl (by decide) rfl (fun ls hl => ?_)
  refine lv_aload_n hx hb dX12_qJoins_12 rfl (lv_at hl 1 rfl) ?_
  refine sk_get (v := .ref (g 86)) (C := RX12) (T := TX12) (N := 92) hx hb hts inlX12 hown hK hP 0 rfl rfl 86 (by decide) w_6_1 rfl dX12_qJoins_13 ?_
  refine lv_aload_n hx hb dX12_qJoins_16 rfl (lv_at hl 1 rfl) ?_
  refine sk_get (v := .int (nI qp)) (C := RX12) (T := TX12) (N := 92) hx hb hts inlX12 hown hK hP 0 rfl rfl 87 (by decide) w_6_2 rfl dX12_qJoins_17 ?_
  refine lv_iconst (v := 2) hx hb dX12_qJoins_20 (by decide) ?_
  refine lv_isub hx hb dX12_qJoins_21 ?_
  refine sk_top (nI (qp - 2)) (nsub qp 2 (by omega)) ?_
  refine va_lald hx hb hK.1 hP 1 1 rfl rfl (vin (qp - 2) 1700 (by omega) (by omega)) dX12_qJoins_22 ?_
  refine lv_topl (fun v_2 ev_2 => ?_)
  refine lv_lstore (lv' := [(4, .long v_2), (2, .long v_1), (0, .ref mm), (1, .int w)]) hx hb dX12_qJoins_23 hl (by decide) rfl (fun ls hl => ?_)
  refine lv_aload_n hx hb dX12_qJoins_25 rfl (lv_at hl 2 rfl) ?_
  refine lv_dup hx hb dX12_qJoins_26 rfl ?_
  refine sk_get (v := .int (nI qp)) (C := RX12) (T := TX12) (N := 92) hx hb hts inlX12 hown hK hP 0 rfl rfl 87 (by decide) w_6_2 rfl dX12_qJoins_27 ?_
  refine lv_iconst (v := 2) hx hb dX12_qJoins_30 (by decide) ?_
  refine lv_isub hx hb dX12_qJoins_31 ?_
  refine sk_top (nI (qp - 2)) (nsub qp 2 (by omega)) ?_
  refine sk_put (ws' := [(mm, .inr (12, mo g (nI ta) (nI pa) (nI pe) pd (nI pb) pp pf pg pn rt rn (nI cd) sn (nI il) tk am at_ aa mt_ (nI bh) wd wt wy (nI it_) (nI rm) (nI ud) (nI nu) sd (nI qn) (nI qw) qo (nI qb) (nI (qp - 2)) qa (nI qi) (nI oc))), (g 86, .inl (cJ, 1700, .inr (.inl ql)))]) (C := RX12) (T := TX12) (N := 92) (v := .int (nI (qp - 2))) hx hb hts inlX12 tyX12 tyX12_ok nmX12 hown hK hP hD hS 0 rfl rfl 87 (by decide) w_6_2 rfl rfl rfl (Nat.le_of_ble_eq_true rfl) rfl dX12_qJoins_32 (fun H locs hP hD hS => ?_)
  refine lv_iload_n hx hb dX12_qJoins_35 rfl (lv_at hl 3 rfl) ?_
  by_cases g_3 : w = 1
  · refine lv_tableIn (off := 56) (tgt := 92) hx hb dX12_qJoins_36 (by rw [g_3]; decide) (by rw [g_3]; decide) (by rw [g_3]; rfl) (by decide) ?_
    refine lv_aload_n hx hb dX12_qJoins_92 rfl (lv_at hl 2 rfl) ?_
    refine lv_lload hx hb dX12_qJoins_93 (lv_at hl 0 rfl) ?_
    refine lv_lload_n hx hb dX12_qJoins_95 rfl (lv_at hl 1 rfl) ?_
    refine lv_ladd hx hb dX12_qJoins_96 ?_
    refine lv_topl (fun v_4 ev_4 => ?_)
    refine sk_Sl (n := 1) (rest := [.ref mm]) (wr := [(mm, .inr (12, mo g (nI ta) (nI pa) (nI pe) pd (nI pb) pp pf pg pn rt rn (nI cd) sn (nI il) tk am at_ aa mt_ (nI bh) wd wt wy (nI it_) (nI rm) (nI ud) (nI nu) sd (nI qn) (nI qw) qo (nI qb) (nI (qp - 2)) qa (nI qi) (nI oc))), (g 86, .inl (cJ, 1700, .inr (.inl ql)))]) ⟨hx, hb, hml, hown, hts⟩ hl.1 (c_m_qClip l D cI cJ cC cZ cS v_4) w_7_160 w_7_161 w_1_14 w_7_162 hd_X12_qClip_1 ⟨⟨(Nat.le_of_ble_eq_true rfl), (Nat.le_of_ble_eq_true rfl)⟩, (Nat.le_of_ble_eq_true rfl), (Nat.le_of_ble_eq_true rfl)⟩ hK hP hD hS hA [] [0, 1] rfl rfl (by decide +kernel) (by decide +kernel) (by decide +kernel) rfl rfl (Nat.le_of_ble_eq_true rfl) dX12_qJoins_97 (fun r_5 u H locs hw hP hD hS => ?_)
    obtain rfl := hw
    refine o_re (ws' := [(mm, .inr (12, mo g (nI ta) (nI pa) (nI pe) pd (nI pb) pp pf pg pn rt rn (nI cd) sn (nI il) tk am at_ aa mt_ (nI bh) wd wt wy (nI it_) (nI rm) (nI ud) (nI nu) sd (nI qn) (nI qw) qo (nI qb) (nI (qp - 2)) qa (nI qi) (nI oc))), (g 86, .inl (cJ, 1700, .inr (.inl ql)))]) hP hD rfl (fun hP hD => ?_)
    refine sk_Vv (q0 := 0) (n := 1) (rest := []) (wr := fmR om_2_3 _) ⟨hx, hb, hml, hown, hts⟩ hl.1 (c_m_qPuts l D cI cJ cC cZ cS mm g ta pa pe pd pb pp pf pg pn rt rn cd sn il tk am at_ aa mt_ bh wd wt wy it_ rm ud nu sd qn qw qo qb (qp - 2) qa qi oc r_5 ql (by omega)) w_7_139 w_7_141 w_0_76 w_1_14 w_7_142 hd_X12_qPuts_1 ⟨⟨(Nat.le_of_ble_eq_true rfl), (Nat.le_of_ble_eq_true rfl)⟩, (Nat.le_of_ble_eq_true rfl), (Nat.le_of_ble_eq_true rfl)⟩ hK hP hD hS hA (fmT om_2_3 0) (fmF om_2_3 0) (fm_C1 rfl rfl) (fm_R rfl rfl) (fm_nT om_2_3 0) (fm_nF om_2_3 0) (fm_di om_2_3 0) rfl rfl rfl rfl (Nat.le_of_ble_eq_true rfl) dX12_qJoins_100 (fun u H locs hw hP hD hS => ?_)
    refine exE hw (fun ql2_6 eu_7 => ?_)
    clear hw
    refine o_mgE (ws' := [(mm, .inr (12, mo g (nI ta) (nI pa) (nI pe) pd (nI pb) pp pf pg pn rt rn (nI cd) sn (nI il) tk am at_ aa mt_ (nI bh) wd wt wy (nI it_) (nI rm) (nI ud) (nI nu) sd (nI qn) (nI qw) qo (nI qb) (nI ((qp - 2) + 1)) qa (nI qi) (nI oc))), (g 86, .inl (cJ, 1700, .inr (.inl ql2_6)))]) eu_7 hP hD rfl (fun hP hD => ?_)
    refine lv_goto (tgt := 273) hx hb dX12_qJoins_103 (by decide) ?_
    exact sk_vret hx hb hr hlocks hK hP hD hS (⟨ql2_6, rfl⟩) (Nat.le_of_ble_eq_true rfl) (Nat.le_of_ble_eq_true rfl) dX12_qJoins_273
  by_cases g_8 : w = 2
  · refine lv_tableIn (off := 70) (tgt := 106) hx hb dX12_qJoins_36 (by rw [g_8]; decide) (by rw [g_8]; decide) (by rw [g_8]; rfl) (by decide) ?_
    refine lv_aload_n hx hb dX12_qJoins_106 rfl (lv_at hl 2 rfl) ?_
    refine lv_lload hx hb dX12_qJoins_107 (lv_at hl 0 rfl) ?_
    refine lv_lload_n hx hb dX12_qJoins_109 rfl (lv_at hl 1 rfl) ?_
    refine lv_lsub hx hb dX12_qJoins_110 ?_
    refine lv_topl (fun v_9 ev_9 => ?_)
    refine sk_Sl (n := 1) (rest := [.ref mm]) (wr := [(mm, .inr (12, mo g (nI ta) (nI pa) (nI pe) pd (nI pb) pp pf pg pn rt rn (nI cd) sn (nI il) tk am at_ aa mt_ (nI bh) wd wt wy (nI it_) (nI rm) (nI ud) (nI nu) sd (nI qn) (nI qw) qo (nI qb) (nI (qp - 2)) qa (nI qi) (nI oc))), (g 86, .inl (cJ, 1700, .inr (.inl ql)))]) ⟨hx, hb, hml, hown, hts⟩ hl.1 (c_m_qClip l D cI cJ cC cZ cS v_9) w_7_160 w_7_161 w_1_14 w_7_162 hd_X12_qClip_1 ⟨⟨(Nat.le_of_ble_eq_true rfl), (Nat.le_of_ble_eq_true rfl)⟩, (Nat.le_of_ble_eq_true rfl), (Nat.le_of_ble_eq_true rfl)⟩ hK hP hD hS hA [] [0, 1] rfl rfl (by decide +kernel) (by decide +kernel) (by decide +kernel) rfl rfl (Nat.le_of_ble_eq_true rfl) dX12_qJoins_111 (fun r_10 u H locs hw hP hD hS => ?_)
    obtain rfl := hw
    refine o_re (ws' := [(mm, .inr (12, mo g (nI ta) (nI pa) (nI pe) pd (nI pb) pp pf pg pn rt rn (nI cd) sn (nI il) tk am at_ aa mt_ (nI bh) wd wt wy (nI it_) (nI rm) (nI ud) (nI nu) sd (nI qn) (nI qw) qo (nI qb) (nI (qp - 2)) qa (nI qi) (nI oc))), (g 86, .inl (cJ, 1700, .inr (.inl ql)))]) hP hD rfl (fun hP hD => ?_)
    refine sk_Vv (q0 := 0) (n := 1) (rest := []) (wr := fmR om_2_3 _) ⟨hx, hb, hml, hown, hts⟩ hl.1 (c_m_qPuts l D cI cJ cC cZ cS mm g ta pa pe pd pb pp pf pg pn rt rn cd sn il tk am at_ aa mt_ bh wd wt wy it_ rm ud nu sd qn qw qo qb (qp - 2) qa qi oc r_10 ql (by omega)) w_7_139 w_7_141 w_0_76 w_1_14 w_7_142 hd_X12_qPuts_1 ⟨⟨(Nat.le_of_ble_eq_true rfl), (Nat.le_of_ble_eq_true rfl)⟩, (Nat.le_of_ble_eq_true rfl), (Nat.le_of_ble_eq_true rfl)⟩ hK hP hD hS hA (fmT om_2_3 0) (fmF om_2_3 0) (fm_C1 rfl rfl) (fm_R rfl rfl) (fm_nT om_2_3 0) (fm_nF om_2_3 0) (fm_di om_2_3 0) rfl rfl rfl rfl (Nat.le_of_ble_eq_true rfl) dX12_qJoins_114 (fun u H locs hw hP hD hS => ?_)
    refine exE hw (fun ql2_11 eu_12 => ?_)
    clear hw
    refine o_mgE (ws' := [(mm, .inr (12, mo g (nI ta) (nI pa) (nI pe) pd (nI pb) pp pf pg pn rt rn (nI cd) sn (nI il) tk am at_ aa mt_ (nI bh) wd wt wy (nI it_) (nI rm) (nI ud) (nI nu) sd (nI qn) (nI qw) qo (nI qb) (nI ((qp - 2) + 1)) qa (nI qi) (nI oc))), (g 86, .inl (cJ, 1700, .inr (.inl ql2_11)))]) eu_12 hP hD rfl (fun hP hD => ?_)
    refine lv_goto (tgt := 273) hx hb dX12_qJoins_117 (by decide) ?_
    exact sk_vret hx hb hr hlocks hK hP hD hS (⟨ql2_11, rfl⟩) (Nat.le_of_ble_eq_true rfl) (Nat.le_of_ble_eq_true rfl) dX12_qJoins_273
  by_cases g_13 : w = 3
  · refine lv_tableIn (off := 84) (tgt := 120) hx hb dX12_qJoins_36 (by rw [g_13]; decide) (by rw [g_13]; decide) (by rw [g_13]; rfl) (by decide) ?_
    refine lv_aload_n hx hb dX12_qJoins_120 rfl (lv_at hl 2 rfl) ?_
    refine lv_lload hx hb dX12_qJoins_121 (lv_at hl 0 rfl) ?_
    refine lv_lload_n hx hb dX12_qJoins_123 rfl (lv_at hl 1 rfl) ?_
    refine lv_lmul hx hb dX12_qJoins_124 ?_
    refine lv_topl (fun v_14 ev_14 => ?_)
    refine sk_Sl (n := 1) (rest := [.ref mm]) (wr := [(mm, .inr (12, mo g (nI ta) (nI pa) (nI pe) pd (nI pb) pp pf pg pn rt rn (nI cd) sn (nI il) tk am at_ aa mt_ (nI bh) wd wt wy (nI it_) (nI rm) (nI ud) (nI nu) sd (nI qn) (nI qw) qo (nI qb) (nI (qp - 2)) qa (nI qi) (nI oc))), (g 86, .inl (cJ, 1700, .inr (.inl ql)))]) ⟨hx, hb, hml, hown, hts⟩ hl.1 (c_m_qClip l D cI cJ cC cZ cS v_14) w_7_160 w_7_161 w_1_14 w_7_162 hd_X12_qClip_1 ⟨⟨(Nat.le_of_ble_eq_true rfl), (Nat.le_of_ble_eq_true rfl)⟩, (Nat.le_of_ble_eq_true rfl), (Nat.le_of_ble_eq_true rfl)⟩ hK hP hD hS hA [] [0, 1] rfl rfl (by decide +kernel) (by decide +kernel) (by decide +kernel) rfl rfl (Nat.le_of_ble_eq_true rfl) dX12_qJoins_125 (fun r_15 u H locs hw hP hD hS => ?_)
    obtain rfl := hw
    refine o_re (ws' := [(mm, .inr (12, mo g (nI ta) (nI pa) (nI pe) pd (nI pb) pp pf pg pn rt rn (nI cd) sn (nI il) tk am at_ aa mt_ (nI bh) wd wt wy (nI it_) (nI rm) (nI ud) (nI nu) sd (nI qn) (nI qw) qo (nI qb) (nI (qp - 2)) qa (nI qi) (nI oc))), (g 86, .inl (cJ, 1700, .inr (.inl ql)))]) hP hD rfl (fun hP hD => ?_)
    refine sk_Vv (q0 := 0) (n := 1) (rest := []) (wr := fmR om_2_3 _) ⟨hx, hb, hml, hown, hts⟩ hl.1 (c_m_qPuts l D cI cJ cC cZ cS mm g ta pa pe pd pb pp pf pg pn rt rn cd sn il tk am at_ aa mt_ bh wd wt wy it_ rm ud nu sd qn qw qo qb (qp - 2) qa qi oc r_15 ql (by omega)) w_7_139 w_7_141 w_0_76 w_1_14 w_7_142 hd_X12_qPuts_1 ⟨⟨(Nat.le_of_ble_eq_true rfl), (Nat.le_of_ble_eq_true rfl)⟩, (Nat.le_of_ble_eq_true rfl), (Nat.le_of_ble_eq_true rfl)⟩ hK hP hD hS hA (fmT om_2_3 0) (fmF om_2_3 0) (fm_C1 rfl rfl) (fm_R rfl rfl) (fm_nT om_2_3 0) (fm_nF om_2_3 0) (fm_di om_2_3 0) rfl rfl rfl rfl (Nat.le_of_ble_eq_true rfl) dX12_qJoins_128 (fun u H locs hw hP hD hS => ?_)
    refine exE hw (fun ql2_16 eu_17 => ?_)
    clear hw
    refine o_mgE (ws' := [(mm, .inr (12, mo g (nI ta) (nI pa) (nI pe) pd (nI pb) pp pf pg pn rt rn (nI cd) sn (nI il) tk am at_ aa mt_ (nI bh) wd wt wy (nI it_) (nI rm) (nI ud) (nI nu) sd (nI qn) (nI qw) qo (nI qb) (nI ((qp - 2) + 1)) qa (nI qi) (nI oc))), (g 86, .inl (cJ, 1700, .inr (.inl ql2_16)))]) eu_17 hP hD rfl (fun hP hD => ?_)
    refine lv_goto (tgt := 273) hx hb dX12_qJoins_131 (by decide) ?_
    exact sk_vret hx hb hr hlocks hK hP hD hS (⟨ql2_16, rfl⟩) (Nat.le_of_ble_eq_true rfl) (Nat.le_of_ble_eq_true rfl) dX12_qJoins_273
  by_cases g_18 : w = 4
  · refine lv_tableIn (off := 98) (tgt := 134) hx hb dX12_qJoins_36 (by rw [g_18]; decide) (by rw [g_18]; decide) (by rw [g_18]; rfl) (by decide) ?_
    refine lv_aload_n hx hb dX12_qJoins_134 rfl (lv_at hl 2 rfl) ?_
    refine lv_lload hx hb dX12_qJoins_135 (lv_at hl 0 rfl) ?_
    refine lv_lload_n hx hb dX12_qJoins_137 rfl (lv_at hl 1 rfl) ?_
    refine sk_Sl (n := 2) (rest := [.ref mm]) (wr := [(mm, .inr (12, mo g (nI ta) (nI pa) (nI pe) pd (nI pb) pp pf pg pn rt rn (nI cd) sn (nI il) tk am at_ aa mt_ (nI bh) wd wt wy (nI it_) (nI rm) (nI ud) (nI nu) sd (nI qn) (nI qw) qo (nI qb) (nI (qp - 2)) qa (nI qi) (nI oc))), (g 86, .inl (cJ, 1700, .inr (.inl ql)))]) ⟨hx, hb, hml, hown, hts⟩ hl.1 (c_m_qFloor l D cI cJ cC cZ cS v_2 v_1) w_7_165 w_7_166 w_1_14 w_7_167 hd_X12_qFloor_2 ⟨⟨(Nat.le_of_ble_eq_true rfl), (Nat.le_of_ble_eq_true rfl)⟩, (Nat.le_of_ble_eq_true rfl), (Nat.le_of_ble_eq_true rfl)⟩ hK hP hD hS hA [] [0, 1] rfl rfl (by decide +kernel) (by decide +kernel) (by decide +kernel) rfl rfl (Nat.le_of_ble_eq_true rfl) dX12_qJoins_138 (fun r_19 u H locs hw hP hD hS => ?_)
    obtain rfl := hw
    refine o_re (ws' := [(mm, .inr (12, mo g (nI ta) (nI pa) (nI pe) pd (nI pb) pp pf pg pn rt rn (nI cd) sn (nI il) tk am at_ aa mt_ (nI bh) wd wt wy (nI it_) (nI rm) (nI ud) (nI nu) sd (nI qn) (nI qw) qo (nI qb) (nI (qp - 2)) qa (nI qi) (nI oc))), (g 86, .inl (cJ, 1700, .inr (.inl ql)))]) hP hD rfl (fun hP hD => ?_)
    refine sk_Vv (q0 := 0) (n := 1) (rest := []) (wr := fmR om_2_3 _) ⟨hx, hb, hml, hown, hts⟩ hl.1 (c_m_qPuts l D cI cJ cC cZ cS mm g ta pa pe pd pb pp pf pg pn rt rn cd sn il tk am at_ aa mt_ bh wd wt wy it_ rm ud nu sd qn qw qo qb (qp - 2) qa qi oc r_19 ql (by omega)) w_7_139 w_7_141 w_0_76 w_1_14 w_7_142 hd_X12_qPuts_1 ⟨⟨(Nat.le_of_ble_eq_true rfl), (Nat.le_of_ble_eq_true rfl)⟩, (Nat.le_of_ble_eq_true rfl), (Nat.le_of_ble_eq_true rfl)⟩ hK hP hD hS hA (fmT om_2_3 0) (fmF om_2_3 0) (fm_C1 rfl rfl) (fm_R rfl rfl) (fm_nT om_2_3 0) (fm_nF om_2_3 0) (fm_di om_2_3 0) rfl rfl rfl rfl (Nat.le_of_ble_eq_true rfl) dX12_qJoins_141 (fun u H locs hw hP hD hS => ?_)
    refine exE hw (fun ql2_20 eu_21 => ?_)
    clear hw
    refine o_mgE (ws' := [(mm, .inr (12, mo g (nI ta) (nI pa) (nI pe) pd (nI pb) pp pf pg pn rt rn (nI cd) sn (nI il) tk am at_ aa mt_ (nI bh) wd wt wy (nI it_) (nI rm) (nI ud) (nI nu) sd (nI qn) (nI qw) qo (nI qb) (nI ((qp - 2) + 1)) qa (nI qi) (nI oc))), (g 86, .inl (cJ, 1700, .inr (.inl ql2_20)))]) eu_21 hP hD rfl (fun hP hD => ?_)
    refine lv_goto (tgt := 273) hx hb dX12_qJoins_144 (by decide) ?_
    exact sk_vret hx hb hr hlocks hK hP hD hS (⟨ql2_20, rfl⟩) (Nat.le_of_ble_eq_true rfl) (Nat.le_of_ble_eq_true rfl) dX12_qJoins_273
  by_cases g_22 : w = 5
  · refine lv_tableIn (off := 111) (tgt := 147) hx hb dX12_qJoins_36 (by rw [g_22]; decide) (by rw [g_22]; decide) (by rw [g_22]; rfl) (by decide) ?_
    refine lv_aload_n hx hb dX12_qJoins_147 rfl (lv_at hl 2 rfl) ?_
    refine lv_lload hx hb dX12_qJoins_148 (lv_at hl 0 rfl) ?_
    refine lv_lload_n hx hb dX12_qJoins_150 rfl (lv_at hl 1 rfl) ?_
    refine W.lcmp hx hb dX12_qJoins_151 ?_
    refine lv_if_ge (tgt := 160) hx hb dX12_qJoins_152 (by decide) (fun c_23 => ?_) (fun c_23 => ?_)
    · skip
      refine lv_lload_n hx hb dX12_qJoins_160 rfl (lv_at hl 1 rfl) ?_
      refine sk_Vv (q0 := 0) (n := 1) (rest := []) (wr := fmR om_2_3 _) ⟨hx, hb, hml, hown, hts⟩ hl.1 (c_m_qPuts l D cI cJ cC cZ cS mm g ta pa pe pd pb pp pf pg pn rt rn cd sn il tk am at_ aa mt_ bh wd wt wy it_ rm ud nu sd qn qw qo qb (qp - 2) qa qi oc v_1 ql (by omega)) w_7_139 w_7_141 w_0_76 w_1_14 w_7_142 hd_X12_qPuts_1 ⟨⟨(Nat.le_of_ble_eq_true rfl), (Nat.le_of_ble_eq_true rfl)⟩, (Nat.le_of_ble_eq_true rfl), (Nat.le_of_ble_eq_true rfl)⟩ hK hP hD hS hA (fmT om_2_3 0) (fmF om_2_3 0) (fm_C1 rfl rfl) (fm_R rfl rfl) (fm_nT om_2_3 0) (fm_nF om_2_3 0) (fm_di om_2_3 0) rfl rfl rfl rfl (Nat.le_of_ble_eq_true rfl) dX12_qJoins_161 (fun u H locs hw hP hD hS => ?_)
      refine exE hw (fun ql2_24 eu_25 => ?_)
      clear hw
      refine o_mgE (ws' := [(mm, .inr (12, mo g (nI ta) (nI pa) (nI pe) pd (nI pb) pp pf pg pn rt rn (nI cd) sn (nI il) tk am at_ aa mt_ (nI bh) wd wt wy (nI it_) (nI rm) (nI ud) (nI nu) sd (nI qn) (nI qw) qo (nI qb) (nI ((qp - 2) + 1)) qa (nI qi) (nI oc))), (g 86, .inl (cJ, 1700, .inr (.inl ql2_24)))]) eu_25 hP hD rfl (fun hP hD => ?_)
      refine lv_goto (tgt := 273) hx hb dX12_qJoins_164 (by decide) ?_
      exact sk_vret hx hb hr hlocks hK hP hD hS (⟨ql2_24, rfl⟩) (Nat.le_of_ble_eq_true rfl) (Nat.le_of_ble_eq_true rfl) dX12_qJoins_273
    · skip
      refine lv_lload hx hb dX12_qJoins_155 (lv_at hl 0 rfl) ?_
      refine lv_goto (tgt := 161) hx hb dX12_qJoins_157 (by decide) ?_
      refine sk_Vv (q0 := 0) (n := 1) (rest := []) (wr := fmR om_2_3 _) ⟨hx, hb, hml, hown, hts⟩ hl.1 (c_m_qPuts l D cI cJ cC cZ cS mm g ta pa pe pd pb pp pf pg pn rt rn cd sn il tk am at_ aa mt_ bh wd wt wy it_ rm ud nu sd qn qw qo qb (qp - 2) qa qi oc v_2 ql (by omega)) w_7_139 w_7_141 w_0_76 w_1_14 w_7_142 hd_X12_qPuts_1 ⟨⟨(Nat.le_of_ble_eq_true rfl), (Nat.le_of_ble_eq_true rfl)⟩, (Nat.le_of_ble_eq_true rfl), (Nat.le_of_ble_eq_true rfl)⟩ hK hP hD hS hA (fmT om_2_3 0) (fmF om_2_3 0) (fm_C1 rfl rfl) (fm_R rfl rfl) (fm_nT om_2_3 0) (fm_nF om_2_3 0) (fm_di om_2_3 0) rfl rfl rfl rfl (Nat.le_of_ble_eq_true rfl) dX12_qJoins_161 (fun u H locs hw hP hD hS => ?_)
      refine exE hw (fun ql2_26 eu_27 => ?_)
      clear hw
      refine o_mgE (ws' := [(mm, .inr (12, mo g (nI ta) (nI pa) (nI pe) pd (nI pb) pp pf pg pn rt rn (nI cd) sn (nI il) tk am at_ aa mt_ (nI bh) wd wt wy (nI it_) (nI rm) (nI ud) (nI nu) sd (nI qn) (nI qw) qo (nI qb) (nI ((qp - 2) + 1)) qa (nI qi) (nI oc))), (g 86, .inl (cJ, 1700, .inr (.inl ql2_26)))]) eu_27 hP hD rfl (fun hP hD => ?_)
      refine lv_goto (tgt := 273) hx hb dX12_qJoins_164 (by decide) ?_
      exact sk_vret hx hb hr hlocks hK hP hD hS (⟨ql2_26, rfl⟩) (Nat.le_of_ble_eq_true rfl) (Nat.le_of_ble_eq_true rfl) dX12_qJoins_273
  by_cases g_28 : w = 6
  · refine lv_tableIn (off := 131) (tgt := 167) hx hb dX12_qJoins_36 (by rw [g_28]; decide) (by rw [g_28]; decide) (by rw [g_28]; rfl) (by decide) ?_
    refine lv_aload_n hx hb dX12_qJoins_167 rfl (lv_at hl 2 rfl) ?_
    refine lv_lload hx hb dX12_qJoins_168 (lv_at hl 0 rfl) ?_
    refine lv_lload_n hx hb dX12_qJoins_170 rfl (lv_at hl 1 rfl) ?_
    refine W.lcmp hx hb dX12_qJoins_171 ?_
    refine lv_if_le (tgt := 180) hx hb dX12_qJoins_172 (by decide) (fun c_29 => ?_) (fun c_29 => ?_)
    · skip
      refine lv_lload_n hx hb dX12_qJoins_180 rfl (lv_at hl 1 rfl) ?_
      refine sk_Vv (q0 := 0) (n := 1) (rest := []) (wr := fmR om_2_3 _) ⟨hx, hb, hml, hown, hts⟩ hl.1 (c_m_qPuts l D cI cJ cC cZ cS mm g ta pa pe pd pb pp pf pg pn rt rn cd sn il tk am at_ aa mt_ bh wd wt wy it_ rm ud nu sd qn qw qo qb (qp - 2) qa qi oc v_1 ql (by omega)) w_7_139 w_7_141 w_0_76 w_1_14 w_7_142 hd_X12_qPuts_1 ⟨⟨(Nat.le_of_ble_eq_true rfl), (Nat.le_of_ble_eq_true rfl)⟩, (Nat.le_of_ble_eq_true rfl), (Nat.le_of_ble_eq_true rfl)⟩ hK hP hD hS hA (fmT om_2_3 0) (fmF om_2_3 0) (fm_C1 rfl rfl) (fm_R rfl rfl) (fm_nT om_2_3 0) (fm_nF om_2_3 0) (fm_di om_2_3 0) rfl rfl rfl rfl (Nat.le_of_ble_eq_true rfl) dX12_qJoins_181 (fun u H locs hw hP hD hS => ?_)
      refine exE hw (fun ql2_30 eu_31 => ?_)
      clear hw
      refine o_mgE (ws' := [(mm, .inr (12, mo g (nI ta) (nI pa) (nI pe) pd (nI pb) pp pf pg pn rt rn (nI cd) sn (nI il) tk am at_ aa mt_ (nI bh) wd wt wy (nI it_) (nI rm) (nI ud) (nI nu) sd (nI qn) (nI qw) qo (nI qb) (nI ((qp - 2) + 1)) qa (nI qi) (nI oc))), (g 86, .inl (cJ, 1700, .inr (.inl ql2_30)))]) eu_31 hP hD rfl (fun hP hD => ?_)
      refine lv_goto (tgt := 273) hx hb dX12_qJoins_184 (by decide) ?_
      exact sk_vret hx hb hr hlocks hK hP hD hS (⟨ql2_30, rfl⟩) (Nat.le_of_ble_eq_true rfl) (Nat.le_of_ble_eq_true rfl) dX12_qJoins_273
    · skip
      refine lv_lload hx hb dX12_qJoins_175 (lv_at hl 0 rfl) ?_
      refine lv_goto (tgt := 181) hx hb dX12_qJoins_177 (by decide) ?_
      refine sk_Vv (q0 := 0) (n := 1) (rest := []) (wr := fmR om_2_3 _) ⟨hx, hb, hml, hown, hts⟩ hl.1 (c_m_qPuts l D cI cJ cC cZ cS mm g ta pa pe pd pb pp pf pg pn rt rn cd sn il tk am at_ aa mt_ bh wd wt wy it_ rm ud nu sd qn qw qo qb (qp - 2) qa qi oc v_2 ql (by omega)) w_7_139 w_7_141 w_0_76 w_1_14 w_7_142 hd_X12_qPuts_1 ⟨⟨(Nat.le_of_ble_eq_true rfl), (Nat.le_of_ble_eq_true rfl)⟩, (Nat.le_of_ble_eq_true rfl), (Nat.le_of_ble_eq_true rfl)⟩ hK hP hD hS hA (fmT om_2_3 0) (fmF om_2_3 0) (fm_C1 rfl rfl) (fm_R rfl rfl) (fm_nT om_2_3 0) (fm_nF om_2_3 0) (fm_di om_2_3 0) rfl rfl rfl rfl (Nat.le_of_ble_eq_true rfl) dX12_qJoins_181 (fun u H locs hw hP hD hS => ?_)
      refine exE hw (fun ql2_32 eu_33 => ?_)
      clear hw
      refine o_mgE (ws' := [(mm, .inr (12, mo g (nI ta) (nI pa) (nI pe) pd (nI pb) pp pf pg pn rt rn (nI cd) sn (nI il) tk am at_ aa mt_ (nI bh) wd wt wy (nI it_) (nI rm) (nI ud) (nI nu) sd (nI qn) (nI qw) qo (nI qb) (nI ((qp - 2) + 1)) qa (nI qi) (nI oc))), (g 86, .inl (cJ, 1700, .inr (.inl ql2_32)))]) eu_33 hP hD rfl (fun hP hD => ?_)
      refine lv_goto (tgt := 273) hx hb dX12_qJoins_184 (by decide) ?_
      exact sk_vret hx hb hr hlocks hK hP hD hS (⟨ql2_32, rfl⟩) (Nat.le_of_ble_eq_true rfl) (Nat.le_of_ble_eq_true rfl) dX12_qJoins_273
  by_cases g_34 : w = 7
  · refine lv_tableIn (off := 151) (tgt := 187) hx hb dX12_qJoins_36 (by rw [g_34]; decide) (by rw [g_34]; decide) (by rw [g_34]; rfl) (by decide) ?_
    refine lv_aload_n hx hb dX12_qJoins_187 rfl (lv_at hl 2 rfl) ?_
    refine lv_lload hx hb dX12_qJoins_188 (lv_at hl 0 rfl) ?_
    refine lv_lload_n hx hb dX12_qJoins_190 rfl (lv_at hl 1 rfl) ?_
    refine W.lcmp hx hb dX12_qJoins_191 ?_
    refine lv_if_ge (tgt := 199) hx hb dX12_qJoins_192 (by decide) (fun c_35 => ?_) (fun c_35 => ?_)
    · skip
      refine lv_lconst (v := 0) hx hb dX12_qJoins_199 (by decide) ?_
      refine sk_Vv (q0 := 0) (n := 1) (rest := []) (wr := fmR om_2_3 _) ⟨hx, hb, hml, hown, hts⟩ hl.1 (c_m_qPuts l D cI cJ cC cZ cS mm g ta pa pe pd pb pp pf pg pn rt rn cd sn il tk am at_ aa mt_ bh wd wt wy it_ rm ud nu sd qn qw qo qb (qp - 2) qa qi oc 0 ql (by omega)) w_7_139 w_7_141 w_0_76 w_1_14 w_7_142 hd_X12_qPuts_1 ⟨⟨(Nat.le_of_ble_eq_true rfl), (Nat.le_of_ble_eq_true rfl)⟩, (Nat.le_of_ble_eq_true rfl), (Nat.le_of_ble_eq_true rfl)⟩ hK hP hD hS hA (fmT om_2_3 0) (fmF om_2_3 0) (fm_C1 rfl rfl) (fm_R rfl rfl) (fm_nT om_2_3 0) (fm_nF om_2_3 0) (fm_di om_2_3 0) rfl rfl rfl rfl (Nat.le_of_ble_eq_true rfl) dX12_qJoins_200 (fun u H locs hw hP hD hS => ?_)
      refine exE hw (fun ql2_36 eu_37 => ?_)
      clear hw
      refine o_mgE (ws' := [(mm, .inr (12, mo g (nI ta) (nI pa) (nI pe) pd (nI pb) pp pf pg pn rt rn (nI cd) sn (nI il) tk am at_ aa mt_ (nI bh) wd wt wy (nI it_) (nI rm) (nI ud) (nI nu) sd (nI qn) (nI qw) qo (nI qb) (nI ((qp - 2) + 1)) qa (nI qi) (nI oc))), (g 86, .inl (cJ, 1700, .inr (.inl ql2_36)))]) eu_37 hP hD rfl (fun hP hD => ?_)
      refine lv_goto (tgt := 273) hx hb dX12_qJoins_203 (by decide) ?_
      exact sk_vret hx hb hr hlocks hK hP hD hS (⟨ql2_36, rfl⟩) (Nat.le_of_ble_eq_true rfl) (Nat.le_of_ble_eq_true rfl) dX12_qJoins_273
    · skip
      refine lv_lconst (v := 1) hx hb dX12_qJoins_195 (by decide) ?_
      refine lv_goto (tgt := 200) hx hb dX12_qJoins_196 (by decide) ?_
      refine sk_Vv (q0 := 0) (n := 1) (rest := []) (wr := fmR om_2_3 _) ⟨hx, hb, hml, hown, hts⟩ hl.1 (c_m_qPuts l D cI cJ cC cZ cS mm g ta pa pe pd pb pp pf pg pn rt rn cd sn il tk am at_ aa mt_ bh wd wt wy it_ rm ud nu sd qn qw qo qb (qp - 2) qa qi oc 1 ql (by omega)) w_7_139 w_7_141 w_0_76 w_1_14 w_7_142 hd_X12_qPuts_1 ⟨⟨(Nat.le_of_ble_eq_true rfl), (Nat.le_of_ble_eq_true rfl)⟩, (Nat.le_of_ble_eq_true rfl), (Nat.le_of_ble_eq_true rfl)⟩ hK hP hD hS hA (fmT om_2_3 0) (fmF om_2_3 0) (fm_C1 rfl rfl) (fm_R rfl rfl) (fm_nT om_2_3 0) (fm_nF om_2_3 0) (fm_di om_2_3 0) rfl rfl rfl rfl (Nat.le_of_ble_eq_true rfl) dX12_qJoins_200 (fun u H locs hw hP hD hS => ?_)
      refine exE hw (fun ql2_38 eu_39 => ?_)
      clear hw
      refine o_mgE (ws' := [(mm, .inr (12, mo g (nI ta) (nI pa) (nI pe) pd (nI pb) pp pf pg pn rt rn (nI cd) sn (nI il) tk am at_ aa mt_ (nI bh) wd wt wy (nI it_) (nI rm) (nI ud) (nI nu) sd (nI qn) (nI qw) qo (nI qb) (nI ((qp - 2) + 1)) qa (nI qi) (nI oc))), (g 86, .inl (cJ, 1700, .inr (.inl ql2_38)))]) eu_39 hP hD rfl (fun hP hD => ?_)
      refine lv_goto (tgt := 273) hx hb dX12_qJoins_203 (by decide) ?_
      exact sk_vret hx hb hr hlocks hK hP hD hS (⟨ql2_38, rfl⟩) (Nat.le_of_ble_eq_true rfl) (Nat.le_of_ble_eq_true rfl) dX12_qJoins_273
  by_cases g_40 : w = 8
  · refine lv_tableIn (off := 170) (tgt := 206) hx hb dX12_qJoins_36 (by rw [g_40]; decide) (by rw [g_40]; decide) (by rw [g_40]; rfl) (by decide) ?_
    refine lv_aload_n hx hb dX12_qJoins_206 rfl (lv_at hl 2 rfl) ?_
    refine lv_lload hx hb dX12_qJoins_207 (lv_at hl 0 rfl) ?_
    refine lv_lload_n hx hb dX12_qJoins_209 rfl (lv_at hl 1 rfl) ?_
    refine W.lcmp hx hb dX12_qJoins_210 ?_
    refine lv_if_le (tgt := 218) hx hb dX12_qJoins_211 (by decide) (fun c_41 => ?_) (fun c_41 => ?_)
    · skip
      refine lv_lconst (v := 0) hx hb dX12_qJoins_218 (by decide) ?_
      refine sk_Vv (q0 := 0) (n := 1) (rest := []) (wr := fmR om_2_3 _) ⟨hx, hb, hml, hown, hts⟩ hl.1 (c_m_qPuts l D cI cJ cC cZ cS mm g ta pa pe pd pb pp pf pg pn rt rn cd sn il tk am at_ aa mt_ bh wd wt wy it_ rm ud nu sd qn qw qo qb (qp - 2) qa qi oc 0 ql (by omega)) w_7_139 w_7_141 w_0_76 w_1_14 w_7_142 hd_X12_qPuts_1 ⟨⟨(Nat.le_of_ble_eq_true rfl), (Nat.le_of_ble_eq_true rfl)⟩, (Nat.le_of_ble_eq_true rfl), (Nat.le_of_ble_eq_true rfl)⟩ hK hP hD hS hA (fmT om_2_3 0) (fmF om_2_3 0) (fm_C1 rfl rfl) (fm_R rfl rfl) (fm_nT om_2_3 0) (fm_nF om_2_3 0) (fm_di om_2_3 0) rfl rfl rfl rfl (Nat.le_of_ble_eq_true rfl) dX12_qJoins_219 (fun u H locs hw hP hD hS => ?_)
      refine exE hw (fun ql2_42 eu_43 => ?_)
      clear hw
      refine o_mgE (ws' := [(mm, .inr (12, mo g (nI ta) (nI pa) (nI pe) pd (nI pb) pp pf pg pn rt rn (nI cd) sn (nI il) tk am at_ aa mt_ (nI bh) wd wt wy (nI it_) (nI rm) (nI ud) (nI nu) sd (nI qn) (nI qw) qo (nI qb) (nI ((qp - 2) + 1)) qa (nI qi) (nI oc))), (g 86, .inl (cJ, 1700, .inr (.inl ql2_42)))]) eu_43 hP hD rfl (fun hP hD => ?_)
      refine lv_goto (tgt := 273) hx hb dX12_qJoins_222 (by decide) ?_
      exact sk_vret hx hb hr hlocks hK hP hD hS (⟨ql2_42, rfl⟩) (Nat.le_of_ble_eq_true rfl) (Nat.le_of_ble_eq_true rfl) dX12_qJoins_273
    · skip
      refine lv_lconst (v := 1) hx hb dX12_qJoins_214 (by decide) ?_
      refine lv_goto (tgt := 219) hx hb dX12_qJoins_215 (by decide) ?_
      refine sk_Vv (q0 := 0) (n := 1) (rest := []) (wr := fmR om_2_3 _) ⟨hx, hb, hml, hown, hts⟩ hl.1 (c_m_qPuts l D cI cJ cC cZ cS mm g ta pa pe pd pb pp pf pg pn rt rn cd sn il tk am at_ aa mt_ bh wd wt wy it_ rm ud nu sd qn qw qo qb (qp - 2) qa qi oc 1 ql (by omega)) w_7_139 w_7_141 w_0_76 w_1_14 w_7_142 hd_X12_qPuts_1 ⟨⟨(Nat.le_of_ble_eq_true rfl), (Nat.le_of_ble_eq_true rfl)⟩, (Nat.le_of_ble_eq_true rfl), (Nat.le_of_ble_eq_true rfl)⟩ hK hP hD hS hA (fmT om_2_3 0) (fmF om_2_3 0) (fm_C1 rfl rfl) (fm_R rfl rfl) (fm_nT om_2_3 0) (fm_nF om_2_3 0) (fm_di om_2_3 0) rfl rfl rfl rfl (Nat.le_of_ble_eq_true rfl) dX12_qJoins_219 (fun u H locs hw hP hD hS => ?_)
      refine exE hw (fun ql2_44 eu_45 => ?_)
      clear hw
      refine o_mgE (ws' := [(mm, .inr (12, mo g (nI ta) (nI pa) (nI pe) pd (nI pb) pp pf pg pn rt rn (nI cd) sn (nI il) tk am at_ aa mt_ (nI bh) wd wt wy (nI it_) (nI rm) (nI ud) (nI nu) sd (nI qn) (nI qw) qo (nI qb) (nI ((qp - 2) + 1)) qa (nI qi) (nI oc))), (g 86, .inl (cJ, 1700, .inr (.inl ql2_44)))]) eu_45 hP hD rfl (fun hP hD => ?_)
      refine lv_goto (tgt := 273) hx hb dX12_qJoins_222 (by decide) ?_
      exact sk_vret hx hb hr hlocks hK hP hD hS (⟨ql2_44, rfl⟩) (Nat.le_of_ble_eq_true rfl) (Nat.le_of_ble_eq_true rfl) dX12_qJoins_273
  by_cases g_46 : w = 9
  · refine lv_tableIn (off := 189) (tgt := 225) hx hb dX12_qJoins_36 (by rw [g_46]; decide) (by rw [g_46]; decide) (by rw [g_46]; rfl) (by decide) ?_
    refine lv_aload_n hx hb dX12_qJoins_225 rfl (lv_at hl 2 rfl) ?_
    refine lv_lload hx hb dX12_qJoins_226 (lv_at hl 0 rfl) ?_
    refine lv_lload_n hx hb dX12_qJoins_228 rfl (lv_at hl 1 rfl) ?_
    refine W.lcmp hx hb dX12_qJoins_229 ?_
    refine lv_if_ne (tgt := 237) hx hb dX12_qJoins_230 (by decide) (fun c_47 => ?_) (fun c_47 => ?_)
    · skip
      refine lv_lconst (v := 0) hx hb dX12_qJoins_237 (by decide) ?_
      refine sk_Vv (q0 := 0) (n := 1) (rest := []) (wr := fmR om_2_3 _) ⟨hx, hb, hml, hown, hts⟩ hl.1 (c_m_qPuts l D cI cJ cC cZ cS mm g ta pa pe pd pb pp pf pg pn rt rn cd sn il tk am at_ aa mt_ bh wd wt wy it_ rm ud nu sd qn qw qo qb (qp - 2) qa qi oc 0 ql (by omega)) w_7_139 w_7_141 w_0_76 w_1_14 w_7_142 hd_X12_qPuts_1 ⟨⟨(Nat.le_of_ble_eq_true rfl), (Nat.le_of_ble_eq_true rfl)⟩, (Nat.le_of_ble_eq_true rfl), (Nat.le_of_ble_eq_true rfl)⟩ hK hP hD hS hA (fmT om_2_3 0) (fmF om_2_3 0) (fm_C1 rfl rfl) (fm_R rfl rfl) (fm_nT om_2_3 0) (fm_nF om_2_3 0) (fm_di om_2_3 0) rfl rfl rfl rfl (Nat.le_of_ble_eq_true rfl) dX12_qJoins_238 (fun u H locs hw hP hD hS => ?_)
      refine exE hw (fun ql2_48 eu_49 => ?_)
      clear hw
      refine o_mgE (ws' := [(mm, .inr (12, mo g (nI ta) (nI pa) (nI pe) pd (nI pb) pp pf pg pn rt rn (nI cd) sn (nI il) tk am at_ aa mt_ (nI bh) wd wt wy (nI it_) (nI rm) (nI ud) (nI nu) sd (nI qn) (nI qw) qo (nI qb) (nI ((qp - 2) + 1)) qa (nI qi) (nI oc))), (g 86, .inl (cJ, 1700, .inr (.inl ql2_48)))]) eu_49 hP hD rfl (fun hP hD => ?_)
      refine lv_goto (tgt := 273) hx hb dX12_qJoins_241 (by decide) ?_
      exact sk_vret hx hb hr hlocks hK hP hD hS (⟨ql2_48, rfl⟩) (Nat.le_of_ble_eq_true rfl) (Nat.le_of_ble_eq_true rfl) dX12_qJoins_273
    · skip
      refine lv_lconst (v := 1) hx hb dX12_qJoins_233 (by decide) ?_
      refine lv_goto (tgt := 238) hx hb dX12_qJoins_234 (by decide) ?_
      refine sk_Vv (q0 := 0) (n := 1) (rest := []) (wr := fmR om_2_3 _) ⟨hx, hb, hml, hown, hts⟩ hl.1 (c_m_qPuts l D cI cJ cC cZ cS mm g ta pa pe pd pb pp pf pg pn rt rn cd sn il tk am at_ aa mt_ bh wd wt wy it_ rm ud nu sd qn qw qo qb (qp - 2) qa qi oc 1 ql (by omega)) w_7_139 w_7_141 w_0_76 w_1_14 w_7_142 hd_X12_qPuts_1 ⟨⟨(Nat.le_of_ble_eq_true rfl), (Nat.le_of_ble_eq_true rfl)⟩, (Nat.le_of_ble_eq_true rfl), (Nat.le_of_ble_eq_true rfl)⟩ hK hP hD hS hA (fmT om_2_3 0) (fmF om_2_3 0) (fm_C1 rfl rfl) (fm_R rfl rfl) (fm_nT om_2_3 0) (fm_nF om_2_3 0) (fm_di om_2_3 0) rfl rfl rfl rfl (Nat.le_of_ble_eq_true rfl) dX12_qJoins_238 (fun u H locs hw hP hD hS => ?_)
      refine exE hw (fun ql2_50 eu_51 => ?_)
      clear hw
      refine o_mgE (ws' := [(mm, .inr (12, mo g (nI ta) (nI pa) (nI pe) pd (nI pb) pp pf pg pn rt rn (nI cd) sn (nI il) tk am at_ aa mt_ (nI bh) wd wt wy (nI it_) (nI rm) (nI ud) (nI nu) sd (nI qn) (nI qw) qo (nI qb) (nI ((qp - 2) + 1)) qa (nI qi) (nI oc))), (g 86, .inl (cJ, 1700, .inr (.inl ql2_50)))]) eu_51 hP hD rfl (fun hP hD => ?_)
      refine lv_goto (tgt := 273) hx hb dX12_qJoins_241 (by decide) ?_
      exact sk_vret hx hb hr hlocks hK hP hD hS (⟨ql2_50, rfl⟩) (Nat.le_of_ble_eq_true rfl) (Nat.le_of_ble_eq_true rfl) dX12_qJoins_273
  by_cases g_52 : w = 10
  · refine lv_tableIn (off := 208) (tgt := 244) hx hb dX12_qJoins_36 (by rw [g_52]; decide) (by rw [g_52]; decide) (by rw [g_52]; rfl) (by decide) ?_
    refine lv_aload_n hx hb dX12_qJoins_244 rfl (lv_at hl 2 rfl) ?_
    refine lv_lload hx hb dX12_qJoins_245 (lv_at hl 0 rfl) ?_
    refine lv_lload_n hx hb dX12_qJoins_247 rfl (lv_at hl 1 rfl) ?_
    refine lv_lmul hx hb dX12_qJoins_248 ?_
    refine lv_topl (fun v_53 ev_53 => ?_)
    refine sk_Vv (q0 := 0) (n := 1) (rest := []) (wr := fmR om_2_3 _) ⟨hx, hb, hml, hown, hts⟩ hl.1 (c_m_qPuts l D cI cJ cC cZ cS mm g ta pa pe pd pb pp pf pg pn rt rn cd sn il tk am at_ aa mt_ bh wd wt wy it_ rm ud nu sd qn qw qo qb (qp - 2) qa qi oc v_53 ql (by omega)) w_7_139 w_7_141 w_0_76 w_1_14 w_7_142 hd_X12_qPuts_1 ⟨⟨(Nat.le_of_ble_eq_true rfl), (Nat.le_of_ble_eq_true rfl)⟩, (Nat.le_of_ble_eq_true rfl), (Nat.le_of_ble_eq_true rfl)⟩ hK hP hD hS hA (fmT om_2_3 0) (fmF om_2_3 0) (fm_C1 rfl rfl) (fm_R rfl rfl) (fm_nT om_2_3 0) (fm_nF om_2_3 0) (fm_di om_2_3 0) rfl rfl rfl rfl (Nat.le_of_ble_eq_true rfl) dX12_qJoins_249 (fun u H locs hw hP hD hS => ?_)
    refine exE hw (fun ql2_54 eu_55 => ?_)
    clear hw
    refine o_mgE (ws' := [(mm, .inr (12, mo g (nI ta) (nI pa) (nI pe) pd (nI pb) pp pf pg pn rt rn (nI cd) sn (nI il) tk am at_ aa mt_ (nI bh) wd wt wy (nI it_) (nI rm) (nI ud) (nI nu) sd (nI qn) (nI qw) qo (nI qb) (nI ((qp - 2) + 1)) qa (nI qi) (nI oc))), (g 86, .inl (cJ, 1700, .inr (.inl ql2_54)))]) eu_55 hP hD rfl (fun hP hD => ?_)
    refine lv_goto (tgt := 273) hx hb dX12_qJoins_252 (by decide) ?_
    exact sk_vret hx hb hr hlocks hK hP hD hS (⟨ql2_54, rfl⟩) (Nat.le_of_ble_eq_true rfl) (Nat.le_of_ble_eq_true rfl) dX12_qJoins_273
  refine lv_tableOut (tgt := 255) hx hb dX12_qJoins_36 (sk_out2 1 10 (by intro k hk1 hk2; rcases (show k = 1 ∨ k = 2 ∨ k = 3 ∨ k = 4 ∨ k = 5 ∨ k = 6 ∨ k = 7 ∨ k = 8 ∨ k = 9 ∨ k = 10 by omega) with rfl | rfl | rfl | rfl | rfl | rfl | rfl | rfl | rfl | rfl <;> assumption)) (by decide) ?_
  refine lv_aload_n hx hb dX12_qJoins_255 rfl (lv_at hl 2 rfl) ?_
  refine lv_lload hx hb dX12_qJoins_256 (lv_at hl 0 rfl) ?_
  refine lv_lload_n hx hb dX12_qJoins_258 rfl (lv_at hl 1 rfl) ?_
  refine lv_ladd hx hb dX12_qJoins_259 ?_
  refine lv_topl (fun v_56 ev_56 => ?_)
  refine lv_lconst (v := 0) hx hb dX12_qJoins_260 (by decide) ?_
  refine W.lcmp hx hb dX12_qJoins_261 ?_
  refine lv_if_le (tgt := 269) hx hb dX12_qJoins_262 (by decide) (fun c_57 => ?_) (fun c_57 => ?_)
  · skip
    refine lv_lconst (v := 0) hx hb dX12_qJoins_269 (by decide) ?_
    refine sk_Vv (q0 := 0) (n := 1) (rest := []) (wr := fmR om_2_3 _) ⟨hx, hb, hml, hown, hts⟩ hl.1 (c_m_qPuts l D cI cJ cC cZ cS mm g ta pa pe pd pb pp pf pg pn rt rn cd sn il tk am at_ aa mt_ bh wd wt wy it_ rm ud nu sd qn qw qo qb (qp - 2) qa qi oc 0 ql (by omega)) w_7_139 w_7_141 w_0_76 w_1_14 w_7_142 hd_X12_qPuts_1 ⟨⟨(Nat.le_of_ble_eq_true rfl), (Nat.le_of_ble_eq_true rfl)⟩, (Nat.le_of_ble_eq_true rfl), (Nat.le_of_ble_eq_true rfl)⟩ hK hP hD hS hA (fmT om_2_3 0) (fmF om_2_3 0) (fm_C1 rfl rfl) (fm_R rfl rfl) (fm_nT om_2_3 0) (fm_nF om_2_3 0) (fm_di om_2_3 0) rfl rfl rfl rfl (Nat.le_of_ble_eq_true rfl) dX12_qJoins_270 (fun u H locs hw hP hD hS => ?_)
    refine exE hw (fun ql2_58 eu_59 => ?_)
    clear hw
    refine o_mgE (ws' := [(mm, .inr (12, mo g (nI ta) (nI pa) (nI pe) pd (nI pb) pp pf pg pn rt rn (nI cd) sn (nI il) tk am at_ aa mt_ (nI bh) wd wt wy (nI it_) (nI rm) (nI ud) (nI nu) sd (nI qn) (nI qw) qo (nI qb) (nI ((qp - 2) + 1)) qa (nI qi) (nI oc))), (g 86, .inl (cJ, 1700, .inr (.inl ql2_58)))]) eu_59 hP hD rfl (fun hP hD => ?_)
    exact sk_vret hx hb hr hlocks hK hP hD hS (⟨ql2_58, rfl⟩) (Nat.le_of_ble_eq_true rfl) (Nat.le_of_ble_eq_true rfl) dX12_qJoins_273
  · skip
    refine lv_lconst (v := 1) hx hb dX12_qJoins_265 (by decide) ?_
    refine lv_goto (tgt := 270) hx hb dX12_qJoins_266 (by decide) ?_
    refine sk_Vv (q0 := 0) (n := 1) (rest := []) (wr := fmR om_2_3 _) ⟨hx, hb, hml, hown, hts⟩ hl.1 (c_m_qPuts l D cI cJ cC cZ cS mm g ta pa pe pd pb pp pf pg pn rt rn cd sn il tk am at_ aa mt_ bh wd wt wy it_ rm ud nu sd qn qw qo qb (qp - 2) qa qi oc 1 ql (by omega)) w_7_139 w_7_141 w_0_76 w_1_14 w_7_142 hd_X12_qPuts_1 ⟨⟨(Nat.le_of_ble_eq_true rfl), (Nat.le_of_ble_eq_true rfl)⟩, (Nat.le_of_ble_eq_true rfl), (Nat.le_of_ble_eq_true rfl)⟩ hK hP hD hS hA (fmT om_2_3 0) (fmF om_2_3 0) (fm_C1 rfl rfl) (fm_R rfl rfl) (fm_nT om_2_3 0) (fm_nF om_2_3 0) (fm_di om_2_3 0) rfl rfl rfl rfl (Nat.le_of_ble_eq_true rfl) dX12_qJoins_270 (fun u H locs hw hP hD hS => ?_)
    refine exE hw (fun ql2_60 eu_61 => ?_)
    clear hw
    refine o_mgE (ws' := [(mm, .inr (12, mo g (nI ta) (nI pa) (nI pe) pd (nI pb) pp pf pg pn rt rn (nI cd) sn (nI il) tk am at_ aa mt_ (nI bh) wd wt wy (nI it_) (nI rm) (nI ud) (nI nu) sd (nI qn) (nI qw) qo (nI qb) (nI ((qp - 2) + 1)) qa (nI qi) (nI oc))), (g 86, .inl (cJ, 1700, .inr (.inl ql2_60)))]) eu_61 hP hD rfl (fun hP hD => ?_)
    exact sk_vret hx hb hr hlocks hK hP hD hS (⟨ql2_60, rfl⟩) (Nat.le_of_ble_eq_true rfl) (Nat.le_of_ble_eq_true rfl) dX12_qJoins_273
