theorem dX12_qPartOf_1 : decode cX12_qPartOf 1 = .ok (.tableswitch 111 0 8 #[51, 57, 64, 71, 74, 82, 88, 94, 97], 51) := by decide +kernel
theorem dg_X12_qPartOf_0_0 : bqL cX12_qPartOf 0 [(0, [27]), (52, [42]), (53, [180, 1, 80]), (56, [133]), (57, [173]), (58, [42]), (59, [28]), (60, [182, 2, 51]), (63, [133]), (64, [173]), (65, [42]), (66, [28]), (67, [182, 2, 54]), (70, [133]), (71, [173]), (72, [28]), (73, [133]), (74, [173]), (75, [42]), (76, [180, 0, 63]), (79, [3]), (80, [46]), (81, [133]), (82, [173]), (83, [42]), (84, [180, 1, 90]), (87, [133]), (88, [173]), (89, [42]), (90, [180, 1, 93]), (93, [133]), (94, [173]), (95, [28]), (96, [133]), (97, [173]), (98, [42]), (99, [28]), (100, [182, 1, 103]), (103, [153, 0, 7]), (110, [9])] = true := by decide +kernel
theorem dX12_qPartOf_0 : decode cX12_qPartOf 0 = .ok (.iload_n 1, 1) := q_iload_n1 (bat_get dg_X12_qPartOf_0_0 0 rfl rfl)
theorem dX12_qPartOf_52 : decode cX12_qPartOf 52 = .ok (.aload_n 0, 1) := q_aload_n0 (bat_get dg_X12_qPartOf_0_0 1 rfl rfl)
theorem dX12_qPartOf_53 : decode cX12_qPartOf 53 = .ok (.getfield 336, 3) := q_getfield (bat_get dg_X12_qPartOf_0_0 2 rfl rfl) rfl
theorem dX12_qPartOf_56 : decode cX12_qPartOf 56 = .ok (.i2l, 1) := q_i2l (bat_get dg_X12_qPartOf_0_0 3 rfl rfl)
theorem dX12_qPartOf_57 : decode cX12_qPartOf 57 = .ok (.lreturn, 1) := q_lreturn (bat_get dg_X12_qPartOf_0_0 4 rfl rfl)
theorem dX12_qPartOf_58 : decode cX12_qPartOf 58 = .ok (.aload_n 0, 1) := q_aload_n0 (bat_get dg_X12_qPartOf_0_0 5 rfl rfl)
theorem dX12_qPartOf_59 : decode cX12_qPartOf 59 = .ok (.iload_n 2, 1) := q_iload_n2 (bat_get dg_X12_qPartOf_0_0 6 rfl rfl)
theorem dX12_qPartOf_60 : decode cX12_qPartOf 60 = .ok (.invokevirtual 563, 3) := q_invokevirtual (bat_get dg_X12_qPartOf_0_0 7 rfl rfl) rfl
theorem dX12_qPartOf_63 : decode cX12_qPartOf 63 = .ok (.i2l, 1) := q_i2l (bat_get dg_X12_qPartOf_0_0 8 rfl rfl)
theorem dX12_qPartOf_64 : decode cX12_qPartOf 64 = .ok (.lreturn, 1) := q_lreturn (bat_get dg_X12_qPartOf_0_0 9 rfl rfl)
theorem dX12_qPartOf_65 : decode cX12_qPartOf 65 = .ok (.aload_n 0, 1) := q_aload_n0 (bat_get dg_X12_qPartOf_0_0 10 rfl rfl)
theorem dX12_qPartOf_66 : decode cX12_qPartOf 66 = .ok (.iload_n 2, 1) := q_iload_n2 (bat_get dg_X12_qPartOf_0_0 11 rfl rfl)
theorem dX12_qPartOf_67 : decode cX12_qPartOf 67 = .ok (.invokevirtual 566, 3) := q_invokevirtual (bat_get dg_X12_qPartOf_0_0 12 rfl rfl) rfl
theorem dX12_qPartOf_70 : decode cX12_qPartOf 70 = .ok (.i2l, 1) := q_i2l (bat_get dg_X12_qPartOf_0_0 13 rfl rfl)
theorem dX12_qPartOf_71 : decode cX12_qPartOf 71 = .ok (.lreturn, 1) := q_lreturn (bat_get dg_X12_qPartOf_0_0 14 rfl rfl)
theorem dX12_qPartOf_72 : decode cX12_qPartOf 72 = .ok (.iload_n 2, 1) := q_iload_n2 (bat_get dg_X12_qPartOf_0_0 15 rfl rfl)
theorem dX12_qPartOf_73 : decode cX12_qPartOf 73 = .ok (.i2l, 1) := q_i2l (bat_get dg_X12_qPartOf_0_0 16 rfl rfl)
theorem dX12_qPartOf_74 : decode cX12_qPartOf 74 = .ok (.lreturn, 1) := q_lreturn (bat_get dg_X12_qPartOf_0_0 17 rfl rfl)
theorem dX12_qPartOf_75 : decode cX12_qPartOf 75 = .ok (.aload_n 0, 1) := q_aload_n0 (bat_get dg_X12_qPartOf_0_0 18 rfl rfl)
theorem dX12_qPartOf_76 : decode cX12_qPartOf 76 = .ok (.getfield 63, 3) := q_getfield (bat_get dg_X12_qPartOf_0_0 19 rfl rfl) rfl
theorem dX12_qPartOf_79 : decode cX12_qPartOf 79 = .ok (.iconst 0, 1) := q_iconst0 (bat_get dg_X12_qPartOf_0_0 20 rfl rfl)
theorem dX12_qPartOf_80 : decode cX12_qPartOf 80 = .ok (.iaload, 1) := q_iaload (bat_get dg_X12_qPartOf_0_0 21 rfl rfl)
theorem dX12_qPartOf_81 : decode cX12_qPartOf 81 = .ok (.i2l, 1) := q_i2l (bat_get dg_X12_qPartOf_0_0 22 rfl rfl)
theorem dX12_qPartOf_82 : decode cX12_qPartOf 82 = .ok (.lreturn, 1) := q_lreturn (bat_get dg_X12_qPartOf_0_0 23 rfl rfl)
theorem dX12_qPartOf_83 : decode cX12_qPartOf 83 = .ok (.aload_n 0, 1) := q_aload_n0 (bat_get dg_X12_qPartOf_0_0 24 rfl rfl)
theorem dX12_qPartOf_84 : decode cX12_qPartOf 84 = .ok (.getfield 346, 3) := q_getfield (bat_get dg_X12_qPartOf_0_0 25 rfl rfl) rfl
theorem dX12_qPartOf_87 : decode cX12_qPartOf 87 = .ok (.i2l, 1) := q_i2l (bat_get dg_X12_qPartOf_0_0 26 rfl rfl)
theorem dX12_qPartOf_88 : decode cX12_qPartOf 88 = .ok (.lreturn, 1) := q_lreturn (bat_get dg_X12_qPartOf_0_0 27 rfl rfl)
theorem dX12_qPartOf_89 : decode cX12_qPartOf 89 = .ok (.aload_n 0, 1) := q_aload_n0 (bat_get dg_X12_qPartOf_0_0 28 rfl rfl)
theorem dX12_qPartOf_90 : decode cX12_qPartOf 90 = .ok (.getfield 349, 3) := q_getfield (bat_get dg_X12_qPartOf_0_0 29 rfl rfl) rfl
theorem dX12_qPartOf_93 : decode cX12_qPartOf 93 = .ok (.i2l, 1) := q_i2l (bat_get dg_X12_qPartOf_0_0 30 rfl rfl)
theorem dX12_qPartOf_94 : decode cX12_qPartOf 94 = .ok (.lreturn, 1) := q_lreturn (bat_get dg_X12_qPartOf_0_0 31 rfl rfl)
theorem dX12_qPartOf_95 : decode cX12_qPartOf 95 = .ok (.iload_n 2, 1) := q_iload_n2 (bat_get dg_X12_qPartOf_0_0 32 rfl rfl)
theorem dX12_qPartOf_96 : decode cX12_qPartOf 96 = .ok (.i2l, 1) := q_i2l (bat_get dg_X12_qPartOf_0_0 33 rfl rfl)
theorem dX12_qPartOf_97 : decode cX12_qPartOf 97 = .ok (.lreturn, 1) := q_lreturn (bat_get dg_X12_qPartOf_0_0 34 rfl rfl)
theorem dX12_qPartOf_98 : decode cX12_qPartOf 98 = .ok (.aload_n 0, 1) := q_aload_n0 (bat_get dg_X12_qPartOf_0_0 35 rfl rfl)
theorem dX12_qPartOf_99 : decode cX12_qPartOf 99 = .ok (.iload_n 2, 1) := q_iload_n2 (bat_get dg_X12_qPartOf_0_0 36 rfl rfl)
theorem dX12_qPartOf_100 : decode cX12_qPartOf 100 = .ok (.invokevirtual 359, 3) := q_invokevirtual (bat_get dg_X12_qPartOf_0_0 37 rfl rfl) rfl
theorem dX12_qPartOf_103 : decode cX12_qPartOf 103 = .ok (.ifCond .eq 7, 3) := q_ifCond_eq (bat_get dg_X12_qPartOf_0_0 38 rfl rfl) rfl
theorem dX12_qPartOf_110 : decode cX12_qPartOf 110 = .ok (.lconst 0, 1) := q_lconst0 (bat_get dg_X12_qPartOf_0_0 39 rfl rfl)
theorem dg_X12_qPartOf_106_111 : bqL cX12_qPartOf 106 [(5, [173]), (0, [10]), (1, [167, 0, 4]), (6, [42]), (7, [180, 1, 126]), (10, [9]), (11, [148]), (12, [154, 0, 9]), (21, [42]), (22, [180, 0, 89]), (25, [28]), (26, [46]), (27, [133]), (28, [173]), (15, [20, 2, 57]), (18, [167, 0, 10])] = true := by decide +kernel
theorem dX12_qPartOf_111 : decode cX12_qPartOf 111 = .ok (.lreturn, 1) := q_lreturn (bat_get dg_X12_qPartOf_106_111 0 rfl rfl)
theorem dX12_qPartOf_106 : decode cX12_qPartOf 106 = .ok (.lconst 1, 1) := q_lconst1 (bat_get dg_X12_qPartOf_106_111 1 rfl rfl)
theorem dX12_qPartOf_107 : decode cX12_qPartOf 107 = .ok (.goto 4, 3) := q_goto (bat_get dg_X12_qPartOf_106_111 2 rfl rfl) rfl
theorem dX12_qPartOf_112 : decode cX12_qPartOf 112 = .ok (.aload_n 0, 1) := q_aload_n0 (bat_get dg_X12_qPartOf_106_111 3 rfl rfl)
theorem dX12_qPartOf_113 : decode cX12_qPartOf 113 = .ok (.getfield 382, 3) := q_getfield (bat_get dg_X12_qPartOf_106_111 4 rfl rfl) rfl
theorem dX12_qPartOf_116 : decode cX12_qPartOf 116 = .ok (.lconst 0, 1) := q_lconst0 (bat_get dg_X12_qPartOf_106_111 5 rfl rfl)
theorem dX12_qPartOf_117 : decode cX12_qPartOf 117 = .ok (.lcmp, 1) := q_lcmp (bat_get dg_X12_qPartOf_106_111 6 rfl rfl)
theorem dX12_qPartOf_118 : decode cX12_qPartOf 118 = .ok (.ifCond .ne 9, 3) := q_ifCond_ne (bat_get dg_X12_qPartOf_106_111 7 rfl rfl) rfl
theorem dX12_qPartOf_127 : decode cX12_qPartOf 127 = .ok (.aload_n 0, 1) := q_aload_n0 (bat_get dg_X12_qPartOf_106_111 8 rfl rfl)
theorem dX12_qPartOf_128 : decode cX12_qPartOf 128 = .ok (.getfield 89, 3) := q_getfield (bat_get dg_X12_qPartOf_106_111 9 rfl rfl) rfl
theorem dX12_qPartOf_131 : decode cX12_qPartOf 131 = .ok (.iload_n 2, 1) := q_iload_n2 (bat_get dg_X12_qPartOf_106_111 10 rfl rfl)
theorem dX12_qPartOf_132 : decode cX12_qPartOf 132 = .ok (.iaload, 1) := q_iaload (bat_get dg_X12_qPartOf_106_111 11 rfl rfl)
theorem dX12_qPartOf_133 : decode cX12_qPartOf 133 = .ok (.i2l, 1) := q_i2l (bat_get dg_X12_qPartOf_106_111 12 rfl rfl)
theorem dX12_qPartOf_134 : decode cX12_qPartOf 134 = .ok (.lreturn, 1) := q_lreturn (bat_get dg_X12_qPartOf_106_111 13 rfl rfl)
theorem dX12_qPartOf_121 : decode cX12_qPartOf 121 = .ok (.ldc2_w 569, 3) := q_ldc2_w (bat_get dg_X12_qPartOf_106_111 14 rfl rfl) rfl
theorem dX12_qPartOf_124 : decode cX12_qPartOf 124 = .ok (.goto 10, 3) := q_goto (bat_get dg_X12_qPartOf_106_111 15 rfl rfl) rfl
theorem w_5_188 : (Cond.fieldLink RX12 336 "SameKeeperModel" "askMood" "I") ∈ wsL_law := sk_mem (ck_5 _ (List.mem_of_getElem? (i := 188) rfl)) rfl
theorem w_7_147 : (Cond.methodLink RX12 563 yX12_bargeOf) ∈ wsL_law := sk_mem (ck_7 _ (List.mem_of_getElem? (i := 147) rfl)) rfl
theorem w_7_149 : (Cond.instanceMethod yX12_bargeOf) ∈ wsL_law := sk_mem (ck_7 _ (List.mem_of_getElem? (i := 149) rfl)) rfl
theorem w_0_78 : (Cond.selects RX12 yX12_bargeOf yX12_bargeOf) ∈ wsL_law := sk_mem (ck_0 _ (List.mem_of_getElem? (i := 78) rfl)) rfl
theorem w_7_151 : (Cond.methodLink RX12 566 yX12_wetOf) ∈ wsL_law := sk_mem (ck_7 _ (List.mem_of_getElem? (i := 151) rfl)) rfl
theorem w_7_153 : (Cond.instanceMethod yX12_wetOf) ∈ wsL_law := sk_mem (ck_7 _ (List.mem_of_getElem? (i := 153) rfl)) rfl
theorem w_0_79 : (Cond.selects RX12 yX12_wetOf yX12_wetOf) ∈ wsL_law := sk_mem (ck_0 _ (List.mem_of_getElem? (i := 79) rfl)) rfl
theorem w_5_189 : (Cond.fieldLink RX12 346 "SameKeeperModel" "askTold" "I") ∈ wsL_law := sk_mem (ck_5 _ (List.mem_of_getElem? (i := 189) rfl)) rfl
theorem w_5_190 : (Cond.fieldLink RX12 349 "SameKeeperModel" "askAlone" "I") ∈ wsL_law := sk_mem (ck_5 _ (List.mem_of_getElem? (i := 190) rfl)) rfl
theorem w_7_106 : (Cond.methodLink RX12 359 yX12_isMute) ∈ wsL_law := sk_mem (ck_7 _ (List.mem_of_getElem? (i := 106) rfl)) rfl
theorem w_7_108 : (Cond.instanceMethod yX12_isMute) ∈ wsL_law := sk_mem (ck_7 _ (List.mem_of_getElem? (i := 108) rfl)) rfl
theorem w_0_71 : (Cond.selects RX12 yX12_isMute yX12_isMute) ∈ wsL_law := sk_mem (ck_0 _ (List.mem_of_getElem? (i := 71) rfl)) rfl
theorem w_5_200 : (Cond.fieldLink RX12 382 "SameKeeperModel" "ways" "J") ∈ wsL_law := sk_mem (ck_5 _ (List.mem_of_getElem? (i := 200) rfl)) rfl
theorem w_5_201 : (Cond.fieldLink RX12 89 "SameKeeperModel" "path" "[I") ∈ wsL_law := sk_mem (ck_5 _ (List.mem_of_getElem? (i := 201) rfl)) rfl
theorem w_7_155 : (Cond.constantLong RX12 569 (-1)) ∈ wsL_law := sk_mem (ck_7 _ (List.mem_of_getElem? (i := 155) rfl)) rfl
theorem w_7_146 : (Cond.code yX12_qPartOf cX12_qPartOf 3 (some .long)) ∈ wsL_law := sk_mem (ck_7 _ (List.mem_of_getElem? (i := 146) rfl)) rfl
def om_3_6 : List Bool := true :: true :: false :: []
theorem hd_X12_bargeOf_1 : skD yX12_bargeOf 1 := by decide +kernel
theorem hd_X12_wetOf_1 : skD yX12_wetOf 1 := by decide +kernel
theorem hd_X12_isMute_1 : skD yX12_isMute 1 := by decide +kernel
set_option maxHeartbeats 4000000 in
set_option maxRecDepth 100000 in
theorem c_m_qPartOf (l : Launch) (D : va_G) (cI cJ cC cZ cS : ClassId) (mm : Nat) (g : Nat → Nat) (ta : Nat) (pa : Nat) (pe : Nat) (pd : Int32) (pb : Nat) (pp : Int32) (pf : Int32) (pg : Int32) (pn : Int32) (rt : Int32) (rn : Int32) (cd : Nat) (sn : Int32) (il : Nat) (tk : Int32) (am : Int32) (at_ : Int32) (aa : Int32) (mt_ : Int32) (bh : Nat) (wd : Int32) (wt : Int32) (wy : Int64) (it_ : Nat) (rm : Nat) (ud : Nat) (nu : Nat) (sd : Int64) (qn : Nat) (qw : Nat) (qo : Int32) (qb : Nat) (qp : Nat) (qa : Int64) (qi : Nat) (oc : Nat) (w : Int32) (d : Nat) (nw : Nat → Int32) (pt : Nat → Nat) (hd : d < 9) (hnw : nowOk nw) (hpt : ∀ j, pt j ≤ 9) : skM l yX12_qPartOf cX12_qPartOf 3 (some .long) 1 21 0 0 D (skT cI cJ cC cZ cS) [.ref mm, .int w, .int (nI d)] [(mm, .inr (12, mo g (nI ta) (nI pa) (nI pe) pd (nI pb) pp pf pg pn rt rn (nI cd) sn (nI il) tk am at_ aa mt_ (nI bh) wd wt wy (nI it_) (nI rm) (nI ud) (nI nu) sd (nI qn) (nI qw) qo (nI qb) (nI qp) qa (nI qi) (nI oc))), (g 31, .inl (cI, 120, .inl nw)), (g 46, .inl (cI, 9, .inl (fun j => nI (pt j))))] (skL D (skT cI cJ cC cZ cS) (fun (r : Int64) (u : va_W) => u = [(mm, .inr (12, mo g (nI ta) (nI pa) (nI pe) pd (nI pb) pp pf pg pn rt rn (nI cd) sn (nI il) tk am at_ aa mt_ (nI bh) wd wt wy (nI it_) (nI rm) (nI ud) (nI nu) sd (nI qn) (nI qw) qo (nI qb) (nI qp) qa (nI qi) (nI oc))), (g 31, .inl (cI, 120, .inl nw)), (g 46, .inl (cI, 9, .inl (fun j => nI (pt j))))])) := by
  refine skM_of pf_X12_qPartOf (Nat.le_of_ble_eq_true rfl) ?_
  intro p e s m below meth c A ls E hP hD hl
  refine skE_el E (fun hx hb hr hml hlocks hin hown hts hK hA => ?_)
  have hown : s.vm.findClass RX12 = some m.cls := hown
  have hS : va_S A s.heap s.heap [] := va_S.rf
  have hl : lv_has ls 3 [(0, .ref mm), (1, .int w), (2, .int (nI d))] := hl
  refine lv_iload_n hx hb dX12_qPartOf_0 rfl (lv_at hl 1 rfl) ?_
  by_cases g_1 : w = 0
  · refine lv_tableIn (off := 51) (tgt := 52) hx hb dX12_qPartOf_1 (by rw [g_1]; decide) (by rw [g_1]; decide) (by rw [g_1]; rfl) (by decide) ?_
    refine lv_aload_n hx hb dX12_qPartOf_52 rfl (lv_at hl 0 rfl) ?_
    refine sk_get (v := .int am) (C := RX12) (T := TX12) (N := 92) hx hb hts inlX12 hown hK hP 0 rfl rfl 33 (by decide) w_5_188 rfl dX12_qPartOf_53 ?_
    refine lv_i2l hx hb dX12_qPartOf_56 rfl ?_
    exact sk_lret hx hb hr hlocks hK hP hD hS rfl (Nat.le_of_ble_eq_true rfl) (Nat.le_of_ble_eq_true rfl) dX12_qPartOf_57
  by_cases g_2 : w = 1
  · refine lv_tableIn (off := 57) (tgt := 58) hx hb dX12_qPartOf_1 (by rw [g_2]; decide) (by rw [g_2]; decide) (by rw [g_2]; rfl) (by decide) ?_
    refine lv_aload_n hx hb dX12_qPartOf_58 rfl (lv_at hl 0 rfl) ?_
    refine lv_iload_n hx hb dX12_qPartOf_59 rfl (lv_at hl 2 rfl) ?_
    refine sk_Vi (q0 := 0) (n := 1) (rest := []) (wr := fmR om_3_6 _) ⟨hx, hb, hml, hown, hts⟩ hl.1 (c_m_bargeOf l D cI cJ cC cZ cS mm g ta pa pe pd pb pp pf pg pn rt rn cd sn il tk am at_ aa mt_ bh wd wt wy it_ rm ud nu sd qn qw qo qb qp qa qi oc d nw (by omega) hnw) w_7_147 w_7_149 w_0_78 w_1_14 w_7_150 hd_X12_bargeOf_1 ⟨⟨(Nat.le_of_ble_eq_true rfl), (Nat.le_of_ble_eq_true rfl)⟩, (Nat.le_of_ble_eq_true rfl), (Nat.le_of_ble_eq_true rfl)⟩ hK hP hD hS hA (fmT om_3_6 0) (fmF om_3_6 0) (fm_C1 rfl rfl) (fm_R rfl rfl) (fm_nT om_3_6 0) (fm_nF om_3_6 0) (fm_di om_3_6 0) rfl rfl rfl rfl (Nat.le_of_ble_eq_true rfl) dX12_qPartOf_60 (fun r_3 u H locs hw hP hD hS => ?_)
    refine o_mgE (ws' := [(mm, .inr (12, mo g (nI ta) (nI pa) (nI pe) pd (nI pb) pp pf pg pn rt rn (nI cd) sn (nI il) tk am at_ aa mt_ (nI bh) wd wt wy (nI it_) (nI rm) (nI ud) (nI nu) sd (nI qn) (nI qw) qo (nI qb) (nI qp) qa (nI qi) (nI oc))), (g 31, .inl (cI, 120, .inl nw)), (g 46, .inl (cI, 9, .inl (fun j => nI (pt j))))]) hw hP hD rfl (fun hP hD => ?_)
    refine lv_i2l hx hb dX12_qPartOf_63 rfl ?_
    exact sk_lret hx hb hr hlocks hK hP hD hS rfl (Nat.le_of_ble_eq_true rfl) (Nat.le_of_ble_eq_true rfl) dX12_qPartOf_64
  by_cases g_4 : w = 2
  · refine lv_tableIn (off := 64) (tgt := 65) hx hb dX12_qPartOf_1 (by rw [g_4]; decide) (by rw [g_4]; decide) (by rw [g_4]; rfl) (by decide) ?_
    refine lv_aload_n hx hb dX12_qPartOf_65 rfl (lv_at hl 0 rfl) ?_
    refine lv_iload_n hx hb dX12_qPartOf_66 rfl (lv_at hl 2 rfl) ?_
    refine sk_Vi (q0 := 0) (n := 1) (rest := []) (wr := fmR om_3_6 _) ⟨hx, hb, hml, hown, hts⟩ hl.1 (c_m_wetOf l D cI cJ cC cZ cS mm g ta pa pe pd pb pp pf pg pn rt rn cd sn il tk am at_ aa mt_ bh wd wt wy it_ rm ud nu sd qn qw qo qb qp qa qi oc d nw (by omega) hnw) w_7_151 w_7_153 w_0_79 w_1_14 w_7_154 hd_X12_wetOf_1 ⟨⟨(Nat.le_of_ble_eq_true rfl), (Nat.le_of_ble_eq_true rfl)⟩, (Nat.le_of_ble_eq_true rfl), (Nat.le_of_ble_eq_true rfl)⟩ hK hP hD hS hA (fmT om_3_6 0) (fmF om_3_6 0) (fm_C1 rfl rfl) (fm_R rfl rfl) (fm_nT om_3_6 0) (fm_nF om_3_6 0) (fm_di om_3_6 0) rfl rfl rfl rfl (Nat.le_of_ble_eq_true rfl) dX12_qPartOf_67 (fun r_5 u H locs hw hP hD hS => ?_)
    refine o_mgE (ws' := [(mm, .inr (12, mo g (nI ta) (nI pa) (nI pe) pd (nI pb) pp pf pg pn rt rn (nI cd) sn (nI il) tk am at_ aa mt_ (nI bh) wd wt wy (nI it_) (nI rm) (nI ud) (nI nu) sd (nI qn) (nI qw) qo (nI qb) (nI qp) qa (nI qi) (nI oc))), (g 31, .inl (cI, 120, .inl nw)), (g 46, .inl (cI, 9, .inl (fun j => nI (pt j))))]) hw hP hD rfl (fun hP hD => ?_)
    refine lv_i2l hx hb dX12_qPartOf_70 rfl ?_
    exact sk_lret hx hb hr hlocks hK hP hD hS rfl (Nat.le_of_ble_eq_true rfl) (Nat.le_of_ble_eq_true rfl) dX12_qPartOf_71
  by_cases g_6 : w = 3
  · refine lv_tableIn (off := 71) (tgt := 72) hx hb dX12_qPartOf_1 (by rw [g_6]; decide) (by rw [g_6]; decide) (by rw [g_6]; rfl) (by decide) ?_
    refine lv_iload_n hx hb dX12_qPartOf_72 rfl (lv_at hl 2 rfl) ?_
    refine lv_i2l hx hb dX12_qPartOf_73 rfl ?_
    exact sk_lret hx hb hr hlocks hK hP hD hS rfl (Nat.le_of_ble_eq_true rfl) (Nat.le_of_ble_eq_true rfl) dX12_qPartOf_74
  by_cases g_7 : w = 4
  · refine lv_tableIn (off := 74) (tgt := 75) hx hb dX12_qPartOf_1 (by rw [g_7]; decide) (by rw [g_7]; decide) (by rw [g_7]; rfl) (by decide) ?_
    refine lv_aload_n hx hb dX12_qPartOf_75 rfl (lv_at hl 0 rfl) ?_
    refine sk_get (v := .ref (g 31)) (C := RX12) (T := TX12) (N := 92) hx hb hts inlX12 hown hK hP 0 rfl rfl 31 (by decide) w_5_186 rfl dX12_qPartOf_76 ?_
    refine lv_iconst (v := 0) hx hb dX12_qPartOf_79 (by decide) ?_
    refine va_iald hx hb hK.1 hP 1 0 rfl rfl (by unfold vp_in; decide) dX12_qPartOf_80 ?_
    refine lv_topi (fun v_8 ev_8 => ?_)
    refine lv_i2l hx hb dX12_qPartOf_81 rfl ?_
    exact sk_lret hx hb hr hlocks hK hP hD hS rfl (Nat.le_of_ble_eq_true rfl) (Nat.le_of_ble_eq_true rfl) dX12_qPartOf_82
  by_cases g_9 : w = 5
  · refine lv_tableIn (off := 82) (tgt := 83) hx hb dX12_qPartOf_1 (by rw [g_9]; decide) (by rw [g_9]; decide) (by rw [g_9]; rfl) (by decide) ?_
    refine lv_aload_n hx hb dX12_qPartOf_83 rfl (lv_at hl 0 rfl) ?_
    refine sk_get (v := .int at_) (C := RX12) (T := TX12) (N := 92) hx hb hts inlX12 hown hK hP 0 rfl rfl 34 (by decide) w_5_189 rfl dX12_qPartOf_84 ?_
    refine lv_i2l hx hb dX12_qPartOf_87 rfl ?_
    exact sk_lret hx hb hr hlocks hK hP hD hS rfl (Nat.le_of_ble_eq_true rfl) (Nat.le_of_ble_eq_true rfl) dX12_qPartOf_88
  by_cases g_10 : w = 6
  · refine lv_tableIn (off := 88) (tgt := 89) hx hb dX12_qPartOf_1 (by rw [g_10]; decide) (by rw [g_10]; decide) (by rw [g_10]; rfl) (by decide) ?_
    refine lv_aload_n hx hb dX12_qPartOf_89 rfl (lv_at hl 0 rfl) ?_
    refine sk_get (v := .int aa) (C := RX12) (T := TX12) (N := 92) hx hb hts inlX12 hown hK hP 0 rfl rfl 35 (by decide) w_5_190 rfl dX12_qPartOf_90 ?_
    refine lv_i2l hx hb dX12_qPartOf_93 rfl ?_
    exact sk_lret hx hb hr hlocks hK hP hD hS rfl (Nat.le_of_ble_eq_true rfl) (Nat.le_of_ble_eq_true rfl) dX12_qPartOf_94
  by_cases g_11 : w = 7
  · refine lv_tableIn (off := 94) (tgt := 95) hx hb dX12_qPartOf_1 (by rw [g_11]; decide) (by rw [g_11]; decide) (by rw [g_11]; rfl) (by decide) ?_
    refine lv_iload_n hx hb dX12_qPartOf_95 rfl (lv_at hl 2 rfl) ?_
    refine lv_i2l hx hb dX12_qPartOf_96 rfl ?_
    exact sk_lret hx hb hr hlocks hK hP hD hS rfl (Nat.le_of_ble_eq_true rfl) (Nat.le_of_ble_eq_true rfl) dX12_qPartOf_97
  by_cases g_12 : w = 8
  · refine lv_tableIn (off := 97) (tgt := 98) hx hb dX12_qPartOf_1 (by rw [g_12]; decide) (by rw [g_12]; decide) (by rw [g_12]; rfl) (by decide) ?_
    refine lv_aload_n hx hb dX12_qPartOf_98 rfl (lv_at hl 0 rfl) ?_
    refine lv_iload_n hx hb dX12_qPartOf_99 rfl (lv_at hl 2 rfl) ?_
    refine sk_Vi (q0 := 0) (n := 1) (rest := []) (wr := fmR om_3_6 _) ⟨hx, hb, hml, hown, hts⟩ hl.1 (c_m_isMute l D cI cJ cC cZ cS mm g ta pa pe pd pb pp pf pg pn rt rn cd sn il tk am at_ aa mt_ bh wd wt wy it_ rm ud nu sd qn qw qo qb qp qa qi oc d nw (by omega) hnw) w_7_106 w_7_108 w_0_71 w_1_14 w_7_109 hd_X12_isMute_1 ⟨⟨(Nat.le_of_ble_eq_true rfl), (Nat.le_of_ble_eq_true rfl)⟩, (Nat.le_of_ble_eq_true rfl), (Nat.le_of_ble_eq_true rfl)⟩ hK hP hD hS hA (fmT om_3_6 0) (fmF om_3_6 0) (fm_C1 rfl rfl) (fm_R rfl rfl) (fm_nT om_3_6 0) (fm_nF om_3_6 0) (fm_di om_3_6 0) rfl rfl rfl rfl (Nat.le_of_ble_eq_true rfl) dX12_qPartOf_100 (fun r_14 u H locs hw hP hD hS => ?_)
    refine exE hw (fun b_13 hw1 => anE hw1 (fun hb1_15 hw2 => anE hw2 (fun hb2_16 hw3 => anE hw3 (fun er_18 eu_17 => ?_))))
    clear hw hw1 hw2 hw3
    subst er_18
    refine o_mgE (ws' := [(mm, .inr (12, mo g (nI ta) (nI pa) (nI pe) pd (nI pb) pp pf pg pn rt rn (nI cd) sn (nI il) tk am at_ aa mt_ (nI bh) wd wt wy (nI it_) (nI rm) (nI ud) (nI nu) sd (nI qn) (nI qw) qo (nI qb) (nI qp) qa (nI qi) (nI oc))), (g 31, .inl (cI, 120, .inl nw)), (g 46, .inl (cI, 9, .inl (fun j => nI (pt j))))]) eu_17 hP hD rfl (fun hP hD => ?_)
    refine lv_if_eq (tgt := 110) hx hb dX12_qPartOf_103 (by decide) (fun c_19 => ?_) (fun c_19 => ?_)
    · have c_19 : b_13 = 0 := (neq b_13 0 (by omega) (by omega)).mp c_19
      refine lv_lconst (v := 0) hx hb dX12_qPartOf_110 (by decide) ?_
      exact sk_lret hx hb hr hlocks hK hP hD hS rfl (Nat.le_of_ble_eq_true rfl) (Nat.le_of_ble_eq_true rfl) dX12_qPartOf_111
    · have c_19 : ¬ (b_13 = 0) := fun h => c_19 ((neq b_13 0 (by omega) (by omega)).mpr h)
      refine lv_lconst (v := 1) hx hb dX12_qPartOf_106 (by decide) ?_
      refine lv_goto (tgt := 111) hx hb dX12_qPartOf_107 (by decide) ?_
      exact sk_lret hx hb hr hlocks hK hP hD hS rfl (Nat.le_of_ble_eq_true rfl) (Nat.le_of_ble_eq_true rfl) dX12_qPartOf_111
  refine lv_tableOut (tgt := 112) hx hb dX12_qPartOf_1 (sk_out (n := 8) (by intro k hk; rcases (show k = 0 ∨ k = 1 ∨ k = 2 ∨ k = 3 ∨ k = 4 ∨ k = 5 ∨ k = 6 ∨ k = 7 ∨ k = 8 by omega) with rfl | rfl | rfl | rfl | rfl | rfl | rfl | rfl | rfl <;> assumption)) (by decide) ?_
  refine lv_aload_n hx hb dX12_qPartOf_112 rfl (lv_at hl 0 rfl) ?_
  refine sk_get (v := .long wy) (C := RX12) (T := TX12) (N := 92) hx hb hts inlX12 hown hK hP 0 rfl rfl 45 (by decide) w_5_200 rfl dX12_qPartOf_113 ?_
  refine lv_lconst (v := 0) hx hb dX12_qPartOf_116 (by decide) ?_
  refine W.lcmp hx hb dX12_qPartOf_117 ?_
  refine lv_if_ne (tgt := 127) hx hb dX12_qPartOf_118 (by decide) (fun c_20 => ?_) (fun c_20 => ?_)
  · skip
    refine lv_aload_n hx hb dX12_qPartOf_127 rfl (lv_at hl 0 rfl) ?_
    refine sk_get (v := .ref (g 46)) (C := RX12) (T := TX12) (N := 92) hx hb hts inlX12 hown hK hP 0 rfl rfl 46 (by decide) w_5_201 rfl dX12_qPartOf_128 ?_
    refine lv_iload_n hx hb dX12_qPartOf_131 rfl (lv_at hl 2 rfl) ?_
    refine va_iald hx hb hK.1 hP 2 0 rfl rfl (vin d 9 (by omega) (by omega)) dX12_qPartOf_132 ?_
    refine sk_top (nI (pt d)) (nrd pt d (by omega)) ?_
    have hb_21 := hpt d
    refine lv_i2l hx hb dX12_qPartOf_133 rfl ?_
    exact sk_lret hx hb hr hlocks hK hP hD hS rfl (Nat.le_of_ble_eq_true rfl) (Nat.le_of_ble_eq_true rfl) dX12_qPartOf_134
  · skip
    refine lv_ldc2 (v := (-1)) hx hb hown (hts _ w_7_155) dX12_qPartOf_121 ?_
    refine lv_goto (tgt := 134) hx hb dX12_qPartOf_124 (by decide) ?_
    exact sk_lret hx hb hr hlocks hK hP hD hS rfl (Nat.le_of_ble_eq_true rfl) (Nat.le_of_ble_eq_true rfl) dX12_qPartOf_134
