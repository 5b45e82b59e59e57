theorem dX0_ofTwo_1 : decode cX0_ofTwo 1 = .ok (.tableswitch 158 30000 30009 #[55, 62, 69, 76, 92, 98, 104, 116, 128, 140], 55) := by decide +kernel
theorem dg_X0_ofTwo_0_0 : bqL cX0_ofTwo 0 [(0, [26]), (56, [31]), (57, [33]), (58, [97]), (59, [184, 0, 51]), (62, [173]), (63, [31]), (64, [33]), (65, [101]), (66, [184, 0, 51]), (69, [173]), (70, [31]), (71, [33]), (72, [105]), (73, [184, 0, 51]), (76, [173]), (77, [33]), (78, [9]), (79, [148]), (80, [154, 0, 7]), (87, [31]), (88, [33]), (89, [184, 0, 55]), (92, [173]), (83, [9]), (84, [167, 0, 8]), (93, [31]), (94, [33]), (95, [184, 0, 59]), (98, [173]), (99, [31]), (100, [33]), (101, [184, 0, 62]), (104, [173]), (105, [31]), (106, [33]), (107, [148]), (108, [156, 0, 7]), (115, [9]), (116, [173])] = true := by decide +kernel
theorem dX0_ofTwo_0 : decode cX0_ofTwo 0 = .ok (.iload_n 0, 1) := q_iload_n0 (bat_get dg_X0_ofTwo_0_0 0 rfl rfl)
theorem dX0_ofTwo_56 : decode cX0_ofTwo 56 = .ok (.lload_n 1, 1) := q_lload_n1 (bat_get dg_X0_ofTwo_0_0 1 rfl rfl)
theorem dX0_ofTwo_57 : decode cX0_ofTwo 57 = .ok (.lload_n 3, 1) := q_lload_n3 (bat_get dg_X0_ofTwo_0_0 2 rfl rfl)
theorem dX0_ofTwo_58 : decode cX0_ofTwo 58 = .ok (.ladd, 1) := q_ladd (bat_get dg_X0_ofTwo_0_0 3 rfl rfl)
theorem dX0_ofTwo_59 : decode cX0_ofTwo 59 = .ok (.invokestatic 51, 3) := q_invokestatic (bat_get dg_X0_ofTwo_0_0 4 rfl rfl) rfl
theorem dX0_ofTwo_62 : decode cX0_ofTwo 62 = .ok (.lreturn, 1) := q_lreturn (bat_get dg_X0_ofTwo_0_0 5 rfl rfl)
theorem dX0_ofTwo_63 : decode cX0_ofTwo 63 = .ok (.lload_n 1, 1) := q_lload_n1 (bat_get dg_X0_ofTwo_0_0 6 rfl rfl)
theorem dX0_ofTwo_64 : decode cX0_ofTwo 64 = .ok (.lload_n 3, 1) := q_lload_n3 (bat_get dg_X0_ofTwo_0_0 7 rfl rfl)
theorem dX0_ofTwo_65 : decode cX0_ofTwo 65 = .ok (.lsub, 1) := q_lsub (bat_get dg_X0_ofTwo_0_0 8 rfl rfl)
theorem dX0_ofTwo_66 : decode cX0_ofTwo 66 = .ok (.invokestatic 51, 3) := q_invokestatic (bat_get dg_X0_ofTwo_0_0 9 rfl rfl) rfl
theorem dX0_ofTwo_69 : decode cX0_ofTwo 69 = .ok (.lreturn, 1) := q_lreturn (bat_get dg_X0_ofTwo_0_0 10 rfl rfl)
theorem dX0_ofTwo_70 : decode cX0_ofTwo 70 = .ok (.lload_n 1, 1) := q_lload_n1 (bat_get dg_X0_ofTwo_0_0 11 rfl rfl)
theorem dX0_ofTwo_71 : decode cX0_ofTwo 71 = .ok (.lload_n 3, 1) := q_lload_n3 (bat_get dg_X0_ofTwo_0_0 12 rfl rfl)
theorem dX0_ofTwo_72 : decode cX0_ofTwo 72 = .ok (.lmul, 1) := q_lmul (bat_get dg_X0_ofTwo_0_0 13 rfl rfl)
theorem dX0_ofTwo_73 : decode cX0_ofTwo 73 = .ok (.invokestatic 51, 3) := q_invokestatic (bat_get dg_X0_ofTwo_0_0 14 rfl rfl) rfl
theorem dX0_ofTwo_76 : decode cX0_ofTwo 76 = .ok (.lreturn, 1) := q_lreturn (bat_get dg_X0_ofTwo_0_0 15 rfl rfl)
theorem dX0_ofTwo_77 : decode cX0_ofTwo 77 = .ok (.lload_n 3, 1) := q_lload_n3 (bat_get dg_X0_ofTwo_0_0 16 rfl rfl)
theorem dX0_ofTwo_78 : decode cX0_ofTwo 78 = .ok (.lconst 0, 1) := q_lconst0 (bat_get dg_X0_ofTwo_0_0 17 rfl rfl)
theorem dX0_ofTwo_79 : decode cX0_ofTwo 79 = .ok (.lcmp, 1) := q_lcmp (bat_get dg_X0_ofTwo_0_0 18 rfl rfl)
theorem dX0_ofTwo_80 : decode cX0_ofTwo 80 = .ok (.ifCond .ne 7, 3) := q_ifCond_ne (bat_get dg_X0_ofTwo_0_0 19 rfl rfl) rfl
theorem dX0_ofTwo_87 : decode cX0_ofTwo 87 = .ok (.lload_n 1, 1) := q_lload_n1 (bat_get dg_X0_ofTwo_0_0 20 rfl rfl)
theorem dX0_ofTwo_88 : decode cX0_ofTwo 88 = .ok (.lload_n 3, 1) := q_lload_n3 (bat_get dg_X0_ofTwo_0_0 21 rfl rfl)
theorem dX0_ofTwo_89 : decode cX0_ofTwo 89 = .ok (.invokestatic 55, 3) := q_invokestatic (bat_get dg_X0_ofTwo_0_0 22 rfl rfl) rfl
theorem dX0_ofTwo_92 : decode cX0_ofTwo 92 = .ok (.lreturn, 1) := q_lreturn (bat_get dg_X0_ofTwo_0_0 23 rfl rfl)
theorem dX0_ofTwo_83 : decode cX0_ofTwo 83 = .ok (.lconst 0, 1) := q_lconst0 (bat_get dg_X0_ofTwo_0_0 24 rfl rfl)
theorem dX0_ofTwo_84 : decode cX0_ofTwo 84 = .ok (.goto 8, 3) := q_goto (bat_get dg_X0_ofTwo_0_0 25 rfl rfl) rfl
theorem dX0_ofTwo_93 : decode cX0_ofTwo 93 = .ok (.lload_n 1, 1) := q_lload_n1 (bat_get dg_X0_ofTwo_0_0 26 rfl rfl)
theorem dX0_ofTwo_94 : decode cX0_ofTwo 94 = .ok (.lload_n 3, 1) := q_lload_n3 (bat_get dg_X0_ofTwo_0_0 27 rfl rfl)
theorem dX0_ofTwo_95 : decode cX0_ofTwo 95 = .ok (.invokestatic 59, 3) := q_invokestatic (bat_get dg_X0_ofTwo_0_0 28 rfl rfl) rfl
theorem dX0_ofTwo_98 : decode cX0_ofTwo 98 = .ok (.lreturn, 1) := q_lreturn (bat_get dg_X0_ofTwo_0_0 29 rfl rfl)
theorem dX0_ofTwo_99 : decode cX0_ofTwo 99 = .ok (.lload_n 1, 1) := q_lload_n1 (bat_get dg_X0_ofTwo_0_0 30 rfl rfl)
theorem dX0_ofTwo_100 : decode cX0_ofTwo 100 = .ok (.lload_n 3, 1) := q_lload_n3 (bat_get dg_X0_ofTwo_0_0 31 rfl rfl)
theorem dX0_ofTwo_101 : decode cX0_ofTwo 101 = .ok (.invokestatic 62, 3) := q_invokestatic (bat_get dg_X0_ofTwo_0_0 32 rfl rfl) rfl
theorem dX0_ofTwo_104 : decode cX0_ofTwo 104 = .ok (.lreturn, 1) := q_lreturn (bat_get dg_X0_ofTwo_0_0 33 rfl rfl)
theorem dX0_ofTwo_105 : decode cX0_ofTwo 105 = .ok (.lload_n 1, 1) := q_lload_n1 (bat_get dg_X0_ofTwo_0_0 34 rfl rfl)
theorem dX0_ofTwo_106 : decode cX0_ofTwo 106 = .ok (.lload_n 3, 1) := q_lload_n3 (bat_get dg_X0_ofTwo_0_0 35 rfl rfl)
theorem dX0_ofTwo_107 : decode cX0_ofTwo 107 = .ok (.lcmp, 1) := q_lcmp (bat_get dg_X0_ofTwo_0_0 36 rfl rfl)
theorem dX0_ofTwo_108 : decode cX0_ofTwo 108 = .ok (.ifCond .ge 7, 3) := q_ifCond_ge (bat_get dg_X0_ofTwo_0_0 37 rfl rfl) rfl
theorem dX0_ofTwo_115 : decode cX0_ofTwo 115 = .ok (.lconst 0, 1) := q_lconst0 (bat_get dg_X0_ofTwo_0_0 38 rfl rfl)
theorem dX0_ofTwo_116 : decode cX0_ofTwo 116 = .ok (.lreturn, 1) := q_lreturn (bat_get dg_X0_ofTwo_0_0 39 rfl rfl)
theorem dg_X0_ofTwo_111_111 : bqL cX0_ofTwo 111 [(0, [10]), (1, [167, 0, 4]), (6, [31]), (7, [33]), (8, [148]), (9, [158, 0, 7]), (16, [9]), (17, [173]), (12, [10]), (13, [167, 0, 4]), (18, [31]), (19, [33]), (20, [148]), (21, [154, 0, 7]), (28, [9]), (29, [173]), (24, [10]), (25, [167, 0, 4]), (30, [31]), (31, [9]), (32, [148]), (33, [153, 0, 13]), (46, [9]), (47, [173]), (36, [33]), (37, [9]), (38, [148]), (39, [153, 0, 7]), (42, [10]), (43, [167, 0, 4]), (48, [31]), (49, [9]), (50, [148]), (51, [154, 0, 9]), (60, [10]), (61, [167, 0, 4]), (65, [173]), (54, [33]), (55, [9]), (56, [148])] = true := by decide +kernel
theorem dX0_ofTwo_111 : decode cX0_ofTwo 111 = .ok (.lconst 1, 1) := q_lconst1 (bat_get dg_X0_ofTwo_111_111 0 rfl rfl)
theorem dX0_ofTwo_112 : decode cX0_ofTwo 112 = .ok (.goto 4, 3) := q_goto (bat_get dg_X0_ofTwo_111_111 1 rfl rfl) rfl
theorem dX0_ofTwo_117 : decode cX0_ofTwo 117 = .ok (.lload_n 1, 1) := q_lload_n1 (bat_get dg_X0_ofTwo_111_111 2 rfl rfl)
theorem dX0_ofTwo_118 : decode cX0_ofTwo 118 = .ok (.lload_n 3, 1) := q_lload_n3 (bat_get dg_X0_ofTwo_111_111 3 rfl rfl)
theorem dX0_ofTwo_119 : decode cX0_ofTwo 119 = .ok (.lcmp, 1) := q_lcmp (bat_get dg_X0_ofTwo_111_111 4 rfl rfl)
theorem dX0_ofTwo_120 : decode cX0_ofTwo 120 = .ok (.ifCond .le 7, 3) := q_ifCond_le (bat_get dg_X0_ofTwo_111_111 5 rfl rfl) rfl
theorem dX0_ofTwo_127 : decode cX0_ofTwo 127 = .ok (.lconst 0, 1) := q_lconst0 (bat_get dg_X0_ofTwo_111_111 6 rfl rfl)
theorem dX0_ofTwo_128 : decode cX0_ofTwo 128 = .ok (.lreturn, 1) := q_lreturn (bat_get dg_X0_ofTwo_111_111 7 rfl rfl)
theorem dX0_ofTwo_123 : decode cX0_ofTwo 123 = .ok (.lconst 1, 1) := q_lconst1 (bat_get dg_X0_ofTwo_111_111 8 rfl rfl)
theorem dX0_ofTwo_124 : decode cX0_ofTwo 124 = .ok (.goto 4, 3) := q_goto (bat_get dg_X0_ofTwo_111_111 9 rfl rfl) rfl
theorem dX0_ofTwo_129 : decode cX0_ofTwo 129 = .ok (.lload_n 1, 1) := q_lload_n1 (bat_get dg_X0_ofTwo_111_111 10 rfl rfl)
theorem dX0_ofTwo_130 : decode cX0_ofTwo 130 = .ok (.lload_n 3, 1) := q_lload_n3 (bat_get dg_X0_ofTwo_111_111 11 rfl rfl)
theorem dX0_ofTwo_131 : decode cX0_ofTwo 131 = .ok (.lcmp, 1) := q_lcmp (bat_get dg_X0_ofTwo_111_111 12 rfl rfl)
theorem dX0_ofTwo_132 : decode cX0_ofTwo 132 = .ok (.ifCond .ne 7, 3) := q_ifCond_ne (bat_get dg_X0_ofTwo_111_111 13 rfl rfl) rfl
theorem dX0_ofTwo_139 : decode cX0_ofTwo 139 = .ok (.lconst 0, 1) := q_lconst0 (bat_get dg_X0_ofTwo_111_111 14 rfl rfl)
theorem dX0_ofTwo_140 : decode cX0_ofTwo 140 = .ok (.lreturn, 1) := q_lreturn (bat_get dg_X0_ofTwo_111_111 15 rfl rfl)
theorem dX0_ofTwo_135 : decode cX0_ofTwo 135 = .ok (.lconst 1, 1) := q_lconst1 (bat_get dg_X0_ofTwo_111_111 16 rfl rfl)
theorem dX0_ofTwo_136 : decode cX0_ofTwo 136 = .ok (.goto 4, 3) := q_goto (bat_get dg_X0_ofTwo_111_111 17 rfl rfl) rfl
theorem dX0_ofTwo_141 : decode cX0_ofTwo 141 = .ok (.lload_n 1, 1) := q_lload_n1 (bat_get dg_X0_ofTwo_111_111 18 rfl rfl)
theorem dX0_ofTwo_142 : decode cX0_ofTwo 142 = .ok (.lconst 0, 1) := q_lconst0 (bat_get dg_X0_ofTwo_111_111 19 rfl rfl)
theorem dX0_ofTwo_143 : decode cX0_ofTwo 143 = .ok (.lcmp, 1) := q_lcmp (bat_get dg_X0_ofTwo_111_111 20 rfl rfl)
theorem dX0_ofTwo_144 : decode cX0_ofTwo 144 = .ok (.ifCond .eq 13, 3) := q_ifCond_eq (bat_get dg_X0_ofTwo_111_111 21 rfl rfl) rfl
theorem dX0_ofTwo_157 : decode cX0_ofTwo 157 = .ok (.lconst 0, 1) := q_lconst0 (bat_get dg_X0_ofTwo_111_111 22 rfl rfl)
theorem dX0_ofTwo_158 : decode cX0_ofTwo 158 = .ok (.lreturn, 1) := q_lreturn (bat_get dg_X0_ofTwo_111_111 23 rfl rfl)
theorem dX0_ofTwo_147 : decode cX0_ofTwo 147 = .ok (.lload_n 3, 1) := q_lload_n3 (bat_get dg_X0_ofTwo_111_111 24 rfl rfl)
theorem dX0_ofTwo_148 : decode cX0_ofTwo 148 = .ok (.lconst 0, 1) := q_lconst0 (bat_get dg_X0_ofTwo_111_111 25 rfl rfl)
theorem dX0_ofTwo_149 : decode cX0_ofTwo 149 = .ok (.lcmp, 1) := q_lcmp (bat_get dg_X0_ofTwo_111_111 26 rfl rfl)
theorem dX0_ofTwo_150 : decode cX0_ofTwo 150 = .ok (.ifCond .eq 7, 3) := q_ifCond_eq (bat_get dg_X0_ofTwo_111_111 27 rfl rfl) rfl
theorem dX0_ofTwo_153 : decode cX0_ofTwo 153 = .ok (.lconst 1, 1) := q_lconst1 (bat_get dg_X0_ofTwo_111_111 28 rfl rfl)
theorem dX0_ofTwo_154 : decode cX0_ofTwo 154 = .ok (.goto 4, 3) := q_goto (bat_get dg_X0_ofTwo_111_111 29 rfl rfl) rfl
theorem dX0_ofTwo_159 : decode cX0_ofTwo 159 = .ok (.lload_n 1, 1) := q_lload_n1 (bat_get dg_X0_ofTwo_111_111 30 rfl rfl)
theorem dX0_ofTwo_160 : decode cX0_ofTwo 160 = .ok (.lconst 0, 1) := q_lconst0 (bat_get dg_X0_ofTwo_111_111 31 rfl rfl)
theorem dX0_ofTwo_161 : decode cX0_ofTwo 161 = .ok (.lcmp, 1) := q_lcmp (bat_get dg_X0_ofTwo_111_111 32 rfl rfl)
theorem dX0_ofTwo_162 : decode cX0_ofTwo 162 = .ok (.ifCond .ne 9, 3) := q_ifCond_ne (bat_get dg_X0_ofTwo_111_111 33 rfl rfl) rfl
theorem dX0_ofTwo_171 : decode cX0_ofTwo 171 = .ok (.lconst 1, 1) := q_lconst1 (bat_get dg_X0_ofTwo_111_111 34 rfl rfl)
theorem dX0_ofTwo_172 : decode cX0_ofTwo 172 = .ok (.goto 4, 3) := q_goto (bat_get dg_X0_ofTwo_111_111 35 rfl rfl) rfl
theorem dX0_ofTwo_176 : decode cX0_ofTwo 176 = .ok (.lreturn, 1) := q_lreturn (bat_get dg_X0_ofTwo_111_111 36 rfl rfl)
theorem dX0_ofTwo_165 : decode cX0_ofTwo 165 = .ok (.lload_n 3, 1) := q_lload_n3 (bat_get dg_X0_ofTwo_111_111 37 rfl rfl)
theorem dX0_ofTwo_166 : decode cX0_ofTwo 166 = .ok (.lconst 0, 1) := q_lconst0 (bat_get dg_X0_ofTwo_111_111 38 rfl rfl)
theorem dX0_ofTwo_167 : decode cX0_ofTwo 167 = .ok (.lcmp, 1) := q_lcmp (bat_get dg_X0_ofTwo_111_111 39 rfl rfl)
theorem dg_X0_ofTwo_168_168 : bqL cX0_ofTwo 168 [(0, [153, 0, 7]), (7, [9])] = true := by decide +kernel
theorem dX0_ofTwo_168 : decode cX0_ofTwo 168 = .ok (.ifCond .eq 7, 3) := q_ifCond_eq (bat_get dg_X0_ofTwo_168_168 0 rfl rfl) rfl
theorem dX0_ofTwo_175 : decode cX0_ofTwo 175 = .ok (.lconst 0, 1) := q_lconst0 (bat_get dg_X0_ofTwo_168_168 1 rfl rfl)
theorem w_3_228 : (Cond.methodLink RX0 51 yX0_bounded) ∈ wsL_law := sk_mem (ck_3 _ (List.mem_of_getElem? (i := 228) rfl)) rfl
theorem w_3_229 : (Cond.static yX0_bounded) ∈ wsL_law := sk_mem (ck_3 _ (List.mem_of_getElem? (i := 229) rfl)) rfl
theorem w_1_8 : (Cond.initialized RX0) ∈ wsL_law := sk_mem (ck_1 _ (List.mem_of_getElem? (i := 8) rfl)) rfl
theorem w_3_233 : (Cond.methodLink RX0 55 yJ9_floorDiv_f86c9) ∈ wsL_law := sk_mem (ck_3 _ (List.mem_of_getElem? (i := 233) rfl)) rfl
theorem w_3_234 : (Cond.static yJ9_floorDiv_f86c9) ∈ wsL_law := sk_mem (ck_3 _ (List.mem_of_getElem? (i := 234) rfl)) rfl
theorem w_1_3 : (Cond.initialized RJ9) ∈ wsL_law := sk_mem (ck_1 _ (List.mem_of_getElem? (i := 3) rfl)) rfl
theorem w_3_236 : (Cond.methodLink RX0 59 Lib.MathLoose.min_long.x) ∈ wsL_law := sk_mem (ck_3 _ (List.mem_of_getElem? (i := 236) rfl)) rfl
theorem w_3_237 : (Cond.static Lib.MathLoose.min_long.x) ∈ wsL_law := sk_mem (ck_3 _ (List.mem_of_getElem? (i := 237) rfl)) rfl
theorem w_3_238 : (Cond.code Lib.MathLoose.min_long.x Lib.MathLoose.min_long.code 4 (some .long)) ∈ wsL_law := sk_mem (ck_3 _ (List.mem_of_getElem? (i := 238) rfl)) rfl
theorem w_3_239 : (Cond.methodLink RX0 62 Lib.MathLoose.max_long.x) ∈ wsL_law := sk_mem (ck_3 _ (List.mem_of_getElem? (i := 239) rfl)) rfl
theorem w_4_0 : (Cond.static Lib.MathLoose.max_long.x) ∈ wsL_law := sk_mem (ck_4 _ (List.mem_of_getElem? (i := 0) rfl)) rfl
theorem w_4_1 : (Cond.code Lib.MathLoose.max_long.x Lib.MathLoose.max_long.code 4 (some .long)) ∈ wsL_law := sk_mem (ck_4 _ (List.mem_of_getElem? (i := 1) rfl)) rfl
theorem w_3_227 : (Cond.code yX0_ofTwo cX0_ofTwo 5 (some .long)) ∈ wsL_law := sk_mem (ck_3 _ (List.mem_of_getElem? (i := 227) rfl)) rfl
theorem hd_X0_bounded_1 : skD yX0_bounded 1 := by decide +kernel
theorem hd_J9_floorDiv_f86c9_2 : skD yJ9_floorDiv_f86c9 2 := by decide +kernel
set_option maxHeartbeats 4000000 in
set_option maxRecDepth 100000 in
theorem c_ofTwo (l : Launch) (D : va_G) (cI cJ cC cZ cS : ClassId) (o : Int32) (x : Int64) (y : Int64)  : skM l yX0_ofTwo cX0_ofTwo 5 (some .long) 1 25 0 0 D (skT cI cJ cC cZ cS) [.int o, .long x, .long y] [] (skL D (skT cI cJ cC cZ cS) (fun (r : Int64) (u : va_W) => u = [])) := by
  refine skM_of pf_X0_ofTwo (Nat.le_of_ble_eq_true rfl) ?_
  intro p e s m below meth c A ls E hP hD hl
  refine skE_el E (fun hx hb hr hml hlocks hin hown hts hK hA => ?_)
  have hown : s.vm.findClass RX0 = some m.cls := hown
  have hS : va_S A s.heap s.heap [] := va_S.rf
  have hl : lv_has ls 5 [(0, .int o), (1, .long x), (3, .long y)] := hl
  refine lv_iload_n hx hb dX0_ofTwo_0 rfl (lv_at hl 0 rfl) ?_
  by_cases g_1 : o = 30000
  · refine lv_tableIn (off := 55) (tgt := 56) hx hb dX0_ofTwo_1 (by rw [g_1]; decide) (by rw [g_1]; decide) (by rw [g_1]; rfl) (by decide) ?_
    refine lv_lload_n hx hb dX0_ofTwo_56 rfl (lv_at hl 1 rfl) ?_
    refine lv_lload_n hx hb dX0_ofTwo_57 rfl (lv_at hl 2 rfl) ?_
    refine lv_ladd hx hb dX0_ofTwo_58 ?_
    refine lv_topl (fun v_2 ev_2 => ?_)
    refine sk_Sl (n := 1) (rest := []) (wr := []) ⟨hx, hb, hml, hown, hts⟩ hl.1 (c_bounded l D cI cJ cC cZ cS v_2) w_3_228 w_3_229 w_1_8 w_3_230 hd_X0_bounded_1 ⟨⟨(Nat.le_of_ble_eq_true rfl), (Nat.le_of_ble_eq_true rfl)⟩, (Nat.le_of_ble_eq_true rfl), (Nat.le_of_ble_eq_true rfl)⟩ hK hP hD hS hA [] [] rfl rfl (by decide +kernel) (by decide +kernel) (by decide +kernel) rfl rfl (Nat.le_of_ble_eq_true rfl) dX0_ofTwo_59 (fun r_3 u H locs hw hP hD hS => ?_)
    obtain rfl := hw
    refine o_re (ws' := []) hP hD rfl (fun hP hD => ?_)
    exact sk_lret hx hb hr hlocks hK hP hD hS rfl (Nat.le_of_ble_eq_true rfl) (Nat.le_of_ble_eq_true rfl) dX0_ofTwo_62
  by_cases g_4 : o = 30001
  · refine lv_tableIn (off := 62) (tgt := 63) hx hb dX0_ofTwo_1 (by rw [g_4]; decide) (by rw [g_4]; decide) (by rw [g_4]; rfl) (by decide) ?_
    refine lv_lload_n hx hb dX0_ofTwo_63 rfl (lv_at hl 1 rfl) ?_
    refine lv_lload_n hx hb dX0_ofTwo_64 rfl (lv_at hl 2 rfl) ?_
    refine lv_lsub hx hb dX0_ofTwo_65 ?_
    refine lv_topl (fun v_5 ev_5 => ?_)
    refine sk_Sl (n := 1) (rest := []) (wr := []) ⟨hx, hb, hml, hown, hts⟩ hl.1 (c_bounded l D cI cJ cC cZ cS v_5) w_3_228 w_3_229 w_1_8 w_3_230 hd_X0_bounded_1 ⟨⟨(Nat.le_of_ble_eq_true rfl), (Nat.le_of_ble_eq_true rfl)⟩, (Nat.le_of_ble_eq_true rfl), (Nat.le_of_ble_eq_true rfl)⟩ hK hP hD hS hA [] [] rfl rfl (by decide +kernel) (by decide +kernel) (by decide +kernel) rfl rfl (Nat.le_of_ble_eq_true rfl) dX0_ofTwo_66 (fun r_6 u H locs hw hP hD hS => ?_)
    obtain rfl := hw
    refine o_re (ws' := []) hP hD rfl (fun hP hD => ?_)
    exact sk_lret hx hb hr hlocks hK hP hD hS rfl (Nat.le_of_ble_eq_true rfl) (Nat.le_of_ble_eq_true rfl) dX0_ofTwo_69
  by_cases g_7 : o = 30002
  · refine lv_tableIn (off := 69) (tgt := 70) hx hb dX0_ofTwo_1 (by rw [g_7]; decide) (by rw [g_7]; decide) (by rw [g_7]; rfl) (by decide) ?_
    refine lv_lload_n hx hb dX0_ofTwo_70 rfl (lv_at hl 1 rfl) ?_
    refine lv_lload_n hx hb dX0_ofTwo_71 rfl (lv_at hl 2 rfl) ?_
    refine lv_lmul hx hb dX0_ofTwo_72 ?_
    refine lv_topl (fun v_8 ev_8 => ?_)
    refine sk_Sl (n := 1) (rest := []) (wr := []) ⟨hx, hb, hml, hown, hts⟩ hl.1 (c_bounded l D cI cJ cC cZ cS v_8) w_3_228 w_3_229 w_1_8 w_3_230 hd_X0_bounded_1 ⟨⟨(Nat.le_of_ble_eq_true rfl), (Nat.le_of_ble_eq_true rfl)⟩, (Nat.le_of_ble_eq_true rfl), (Nat.le_of_ble_eq_true rfl)⟩ hK hP hD hS hA [] [] rfl rfl (by decide +kernel) (by decide +kernel) (by decide +kernel) rfl rfl (Nat.le_of_ble_eq_true rfl) dX0_ofTwo_73 (fun r_9 u H locs hw hP hD hS => ?_)
    obtain rfl := hw
    refine o_re (ws' := []) hP hD rfl (fun hP hD => ?_)
    exact sk_lret hx hb hr hlocks hK hP hD hS rfl (Nat.le_of_ble_eq_true rfl) (Nat.le_of_ble_eq_true rfl) dX0_ofTwo_76
  by_cases g_10 : o = 30003
  · refine lv_tableIn (off := 76) (tgt := 77) hx hb dX0_ofTwo_1 (by rw [g_10]; decide) (by rw [g_10]; decide) (by rw [g_10]; rfl) (by decide) ?_
    refine lv_lload_n hx hb dX0_ofTwo_77 rfl (lv_at hl 2 rfl) ?_
    refine lv_lconst (v := 0) hx hb dX0_ofTwo_78 (by decide) ?_
    refine W.lcmp hx hb dX0_ofTwo_79 ?_
    refine lv_if_ne (tgt := 87) hx hb dX0_ofTwo_80 (by decide) (fun c_11 => ?_) (fun c_11 => ?_)
    · skip
      refine lv_lload_n hx hb dX0_ofTwo_87 rfl (lv_at hl 1 rfl) ?_
      refine lv_lload_n hx hb dX0_ofTwo_88 rfl (lv_at hl 2 rfl) ?_
      refine sk_Sl (n := 2) (rest := []) (wr := []) ⟨hx, hb, hml, hown, hts⟩ hl.1 (c_floorDiv l D cI cJ cC cZ cS x y (lg_ne0 c_11)) w_3_233 w_3_234 w_1_3 w_3_235 hd_J9_floorDiv_f86c9_2 ⟨⟨(Nat.le_of_ble_eq_true rfl), (Nat.le_of_ble_eq_true rfl)⟩, (Nat.le_of_ble_eq_true rfl), (Nat.le_of_ble_eq_true rfl)⟩ hK hP hD hS hA [] [] rfl rfl (by decide +kernel) (by decide +kernel) (by decide +kernel) rfl rfl (Nat.le_of_ble_eq_true rfl) dX0_ofTwo_89 (fun r_12 u H locs hw hP hD hS => ?_)
      obtain rfl := hw
      refine o_re (ws' := []) hP hD rfl (fun hP hD => ?_)
      exact sk_lret hx hb hr hlocks hK hP hD hS rfl (Nat.le_of_ble_eq_true rfl) (Nat.le_of_ble_eq_true rfl) dX0_ofTwo_92
    · skip
      refine lv_lconst (v := 0) hx hb dX0_ofTwo_83 (by decide) ?_
      refine lv_goto (tgt := 92) hx hb dX0_ofTwo_84 (by decide) ?_
      exact sk_lret hx hb hr hlocks hK hP hD hS rfl (Nat.le_of_ble_eq_true rfl) (Nat.le_of_ble_eq_true rfl) dX0_ofTwo_92
  by_cases g_13 : o = 30004
  · refine lv_tableIn (off := 92) (tgt := 93) hx hb dX0_ofTwo_1 (by rw [g_13]; decide) (by rw [g_13]; decide) (by rw [g_13]; rfl) (by decide) ?_
    refine lv_lload_n hx hb dX0_ofTwo_93 rfl (lv_at hl 1 rfl) ?_
    refine lv_lload_n hx hb dX0_ofTwo_94 rfl (lv_at hl 2 rfl) ?_
    refine va_mmin_long hx hb (by rw [hml]; exact hl.1.symm) hown (hts _ w_3_236) (hts _ w_3_237) (hts _ w_1_3) (hts _ w_3_238) (Nat.le_of_ble_eq_true rfl) (Nat.le_of_ble_eq_true rfl) (Nat.le_of_ble_eq_true rfl) (Nat.le_of_ble_eq_true rfl) dX0_ofTwo_95 ?_
    refine lv_topl (fun v_14 ev_14 => ?_)
    exact sk_lret hx hb hr hlocks hK hP hD hS rfl (Nat.le_of_ble_eq_true rfl) (Nat.le_of_ble_eq_true rfl) dX0_ofTwo_98
  by_cases g_15 : o = 30005
  · refine lv_tableIn (off := 98) (tgt := 99) hx hb dX0_ofTwo_1 (by rw [g_15]; decide) (by rw [g_15]; decide) (by rw [g_15]; rfl) (by decide) ?_
    refine lv_lload_n hx hb dX0_ofTwo_99 rfl (lv_at hl 1 rfl) ?_
    refine lv_lload_n hx hb dX0_ofTwo_100 rfl (lv_at hl 2 rfl) ?_
    refine va_mmax_long hx hb (by rw [hml]; exact hl.1.symm) hown (hts _ w_3_239) (hts _ w_4_0) (hts _ w_1_3) (hts _ w_4_1) (Nat.le_of_ble_eq_true rfl) (Nat.le_of_ble_eq_true rfl) (Nat.le_of_ble_eq_true rfl) (Nat.le_of_ble_eq_true rfl) dX0_ofTwo_101 ?_
    refine lv_topl (fun v_16 ev_16 => ?_)
    exact sk_lret hx hb hr hlocks hK hP hD hS rfl (Nat.le_of_ble_eq_true rfl) (Nat.le_of_ble_eq_true rfl) dX0_ofTwo_104
  by_cases g_17 : o = 30006
  · refine lv_tableIn (off := 104) (tgt := 105) hx hb dX0_ofTwo_1 (by rw [g_17]; decide) (by rw [g_17]; decide) (by rw [g_17]; rfl) (by decide) ?_
    refine lv_lload_n hx hb dX0_ofTwo_105 rfl (lv_at hl 1 rfl) ?_
    refine lv_lload_n hx hb dX0_ofTwo_106 rfl (lv_at hl 2 rfl) ?_
    refine W.lcmp hx hb dX0_ofTwo_107 ?_
    refine lv_if_ge (tgt := 115) hx hb dX0_ofTwo_108 (by decide) (fun c_18 => ?_) (fun c_18 => ?_)
    · skip
      refine lv_lconst (v := 0) hx hb dX0_ofTwo_115 (by decide) ?_
      exact sk_lret hx hb hr hlocks hK hP hD hS rfl (Nat.le_of_ble_eq_true rfl) (Nat.le_of_ble_eq_true rfl) dX0_ofTwo_116
    · skip
      refine lv_lconst (v := 1) hx hb dX0_ofTwo_111 (by decide) ?_
      refine lv_goto (tgt := 116) hx hb dX0_ofTwo_112 (by decide) ?_
      exact sk_lret hx hb hr hlocks hK hP hD hS rfl (Nat.le_of_ble_eq_true rfl) (Nat.le_of_ble_eq_true rfl) dX0_ofTwo_116
  by_cases g_19 : o = 30007
  · refine lv_tableIn (off := 116) (tgt := 117) hx hb dX0_ofTwo_1 (by rw [g_19]; decide) (by rw [g_19]; decide) (by rw [g_19]; rfl) (by decide) ?_
    refine lv_lload_n hx hb dX0_ofTwo_117 rfl (lv_at hl 1 rfl) ?_
    refine lv_lload_n hx hb dX0_ofTwo_118 rfl (lv_at hl 2 rfl) ?_
    refine W.lcmp hx hb dX0_ofTwo_119 ?_
    refine lv_if_le (tgt := 127) hx hb dX0_ofTwo_120 (by decide) (fun c_20 => ?_) (fun c_20 => ?_)
    · skip
      refine lv_lconst (v := 0) hx hb dX0_ofTwo_127 (by decide) ?_
      exact sk_lret hx hb hr hlocks hK hP hD hS rfl (Nat.le_of_ble_eq_true rfl) (Nat.le_of_ble_eq_true rfl) dX0_ofTwo_128
    · skip
      refine lv_lconst (v := 1) hx hb dX0_ofTwo_123 (by decide) ?_
      refine lv_goto (tgt := 128) hx hb dX0_ofTwo_124 (by decide) ?_
      exact sk_lret hx hb hr hlocks hK hP hD hS rfl (Nat.le_of_ble_eq_true rfl) (Nat.le_of_ble_eq_true rfl) dX0_ofTwo_128
  by_cases g_21 : o = 30008
  · refine lv_tableIn (off := 128) (tgt := 129) hx hb dX0_ofTwo_1 (by rw [g_21]; decide) (by rw [g_21]; decide) (by rw [g_21]; rfl) (by decide) ?_
    refine lv_lload_n hx hb dX0_ofTwo_129 rfl (lv_at hl 1 rfl) ?_
    refine lv_lload_n hx hb dX0_ofTwo_130 rfl (lv_at hl 2 rfl) ?_
    refine W.lcmp hx hb dX0_ofTwo_131 ?_
    refine lv_if_ne (tgt := 139) hx hb dX0_ofTwo_132 (by decide) (fun c_22 => ?_) (fun c_22 => ?_)
    · skip
      refine lv_lconst (v := 0) hx hb dX0_ofTwo_139 (by decide) ?_
      exact sk_lret hx hb hr hlocks hK hP hD hS rfl (Nat.le_of_ble_eq_true rfl) (Nat.le_of_ble_eq_true rfl) dX0_ofTwo_140
    · skip
      refine lv_lconst (v := 1) hx hb dX0_ofTwo_135 (by decide) ?_
      refine lv_goto (tgt := 140) hx hb dX0_ofTwo_136 (by decide) ?_
      exact sk_lret hx hb hr hlocks hK hP hD hS rfl (Nat.le_of_ble_eq_true rfl) (Nat.le_of_ble_eq_true rfl) dX0_ofTwo_140
  by_cases g_23 : o = 30009
  · refine lv_tableIn (off := 140) (tgt := 141) hx hb dX0_ofTwo_1 (by rw [g_23]; decide) (by rw [g_23]; decide) (by rw [g_23]; rfl) (by decide) ?_
    refine lv_lload_n hx hb dX0_ofTwo_141 rfl (lv_at hl 1 rfl) ?_
    refine lv_lconst (v := 0) hx hb dX0_ofTwo_142 (by decide) ?_
    refine W.lcmp hx hb dX0_ofTwo_143 ?_
    refine lv_if_eq (tgt := 157) hx hb dX0_ofTwo_144 (by decide) (fun c_24 => ?_) (fun c_24 => ?_)
    · skip
      refine lv_lconst (v := 0) hx hb dX0_ofTwo_157 (by decide) ?_
      exact sk_lret hx hb hr hlocks hK hP hD hS rfl (Nat.le_of_ble_eq_true rfl) (Nat.le_of_ble_eq_true rfl) dX0_ofTwo_158
    · skip
      refine lv_lload_n hx hb dX0_ofTwo_147 rfl (lv_at hl 2 rfl) ?_
      refine lv_lconst (v := 0) hx hb dX0_ofTwo_148 (by decide) ?_
      refine W.lcmp hx hb dX0_ofTwo_149 ?_
      refine lv_if_eq (tgt := 157) hx hb dX0_ofTwo_150 (by decide) (fun c_25 => ?_) (fun c_25 => ?_)
      · skip
        refine lv_lconst (v := 0) hx hb dX0_ofTwo_157 (by decide) ?_
        exact sk_lret hx hb hr hlocks hK hP hD hS rfl (Nat.le_of_ble_eq_true rfl) (Nat.le_of_ble_eq_true rfl) dX0_ofTwo_158
      · skip
        refine lv_lconst (v := 1) hx hb dX0_ofTwo_153 (by decide) ?_
        refine lv_goto (tgt := 158) hx hb dX0_ofTwo_154 (by decide) ?_
        exact sk_lret hx hb hr hlocks hK hP hD hS rfl (Nat.le_of_ble_eq_true rfl) (Nat.le_of_ble_eq_true rfl) dX0_ofTwo_158
  refine lv_tableOut (tgt := 159) hx hb dX0_ofTwo_1 (sk_out2 30000 30009 (by intro k hk1 hk2; rcases (show k = 30000 ∨ k = 30001 ∨ k = 30002 ∨ k = 30003 ∨ k = 30004 ∨ k = 30005 ∨ k = 30006 ∨ k = 30007 ∨ k = 30008 ∨ k = 30009 by omega) with rfl | rfl | rfl | rfl | rfl | rfl | rfl | rfl | rfl | rfl <;> assumption)) (by decide) ?_
  refine lv_lload_n hx hb dX0_ofTwo_159 rfl (lv_at hl 1 rfl) ?_
  refine lv_lconst (v := 0) hx hb dX0_ofTwo_160 (by decide) ?_
  refine W.lcmp hx hb dX0_ofTwo_161 ?_
  refine lv_if_ne (tgt := 171) hx hb dX0_ofTwo_162 (by decide) (fun c_26 => ?_) (fun c_26 => ?_)
  · skip
    refine lv_lconst (v := 1) hx hb dX0_ofTwo_171 (by decide) ?_
    refine lv_goto (tgt := 176) hx hb dX0_ofTwo_172 (by decide) ?_
    exact sk_lret hx hb hr hlocks hK hP hD hS rfl (Nat.le_of_ble_eq_true rfl) (Nat.le_of_ble_eq_true rfl) dX0_ofTwo_176
  · skip
    refine lv_lload_n hx hb dX0_ofTwo_165 rfl (lv_at hl 2 rfl) ?_
    refine lv_lconst (v := 0) hx hb dX0_ofTwo_166 (by decide) ?_
    refine W.lcmp hx hb dX0_ofTwo_167 ?_
    refine lv_if_eq (tgt := 175) hx hb dX0_ofTwo_168 (by decide) (fun c_27 => ?_) (fun c_27 => ?_)
    · skip
      refine lv_lconst (v := 0) hx hb dX0_ofTwo_175 (by decide) ?_
      exact sk_lret hx hb hr hlocks hK hP hD hS rfl (Nat.le_of_ble_eq_true rfl) (Nat.le_of_ble_eq_true rfl) dX0_ofTwo_176
    · skip
      refine lv_lconst (v := 1) hx hb dX0_ofTwo_171 (by decide) ?_
      refine lv_goto (tgt := 176) hx hb dX0_ofTwo_172 (by decide) ?_
      exact sk_lret hx hb hr hlocks hK hP hD hS rfl (Nat.le_of_ble_eq_true rfl) (Nat.le_of_ble_eq_true rfl) dX0_ofTwo_176
