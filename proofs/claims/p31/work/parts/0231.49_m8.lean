theorem dg_X12_does_0_0 : bqL cX12_does 0 [(0, [42]), (1, [27]), (2, [182, 1, 157]), (5, [153, 0, 34]), (39, [2]), (40, [172]), (8, [42]), (9, [28]), (10, [182, 1, 162]), (13, [153, 0, 26]), (16, [42]), (17, [29]), (18, [182, 1, 162]), (21, [153, 0, 18]), (24, [42]), (25, [27]), (26, [28]), (27, [29]), (28, [42]), (29, [27]), (30, [182, 1, 103]), (33, [182, 1, 99]), (36, [167, 0, 4])] = true := by decide +kernel
theorem dX12_does_0 : decode cX12_does 0 = .ok (.aload_n 0, 1) := q_aload_n0 (bat_get dg_X12_does_0_0 0 rfl rfl)
theorem dX12_does_1 : decode cX12_does 1 = .ok (.iload_n 1, 1) := q_iload_n1 (bat_get dg_X12_does_0_0 1 rfl rfl)
theorem dX12_does_2 : decode cX12_does 2 = .ok (.invokevirtual 413, 3) := q_invokevirtual (bat_get dg_X12_does_0_0 2 rfl rfl) rfl
theorem dX12_does_5 : decode cX12_does 5 = .ok (.ifCond .eq 34, 3) := q_ifCond_eq (bat_get dg_X12_does_0_0 3 rfl rfl) rfl
theorem dX12_does_39 : decode cX12_does 39 = .ok (.iconst (-1), 1) := q_iconstm1 (bat_get dg_X12_does_0_0 4 rfl rfl)
theorem dX12_does_40 : decode cX12_does 40 = .ok (.ireturn, 1) := q_ireturn (bat_get dg_X12_does_0_0 5 rfl rfl)
theorem dX12_does_8 : decode cX12_does 8 = .ok (.aload_n 0, 1) := q_aload_n0 (bat_get dg_X12_does_0_0 6 rfl rfl)
theorem dX12_does_9 : decode cX12_does 9 = .ok (.iload_n 2, 1) := q_iload_n2 (bat_get dg_X12_does_0_0 7 rfl rfl)
theorem dX12_does_10 : decode cX12_does 10 = .ok (.invokevirtual 418, 3) := q_invokevirtual (bat_get dg_X12_does_0_0 8 rfl rfl) rfl
theorem dX12_does_13 : decode cX12_does 13 = .ok (.ifCond .eq 26, 3) := q_ifCond_eq (bat_get dg_X12_does_0_0 9 rfl rfl) rfl
theorem dX12_does_16 : decode cX12_does 16 = .ok (.aload_n 0, 1) := q_aload_n0 (bat_get dg_X12_does_0_0 10 rfl rfl)
theorem dX12_does_17 : decode cX12_does 17 = .ok (.iload_n 3, 1) := q_iload_n3 (bat_get dg_X12_does_0_0 11 rfl rfl)
theorem dX12_does_18 : decode cX12_does 18 = .ok (.invokevirtual 418, 3) := q_invokevirtual (bat_get dg_X12_does_0_0 12 rfl rfl) rfl
theorem dX12_does_21 : decode cX12_does 21 = .ok (.ifCond .eq 18, 3) := q_ifCond_eq (bat_get dg_X12_does_0_0 13 rfl rfl) rfl
theorem dX12_does_24 : decode cX12_does 24 = .ok (.aload_n 0, 1) := q_aload_n0 (bat_get dg_X12_does_0_0 14 rfl rfl)
theorem dX12_does_25 : decode cX12_does 25 = .ok (.iload_n 1, 1) := q_iload_n1 (bat_get dg_X12_does_0_0 15 rfl rfl)
theorem dX12_does_26 : decode cX12_does 26 = .ok (.iload_n 2, 1) := q_iload_n2 (bat_get dg_X12_does_0_0 16 rfl rfl)
theorem dX12_does_27 : decode cX12_does 27 = .ok (.iload_n 3, 1) := q_iload_n3 (bat_get dg_X12_does_0_0 17 rfl rfl)
theorem dX12_does_28 : decode cX12_does 28 = .ok (.aload_n 0, 1) := q_aload_n0 (bat_get dg_X12_does_0_0 18 rfl rfl)
theorem dX12_does_29 : decode cX12_does 29 = .ok (.iload_n 1, 1) := q_iload_n1 (bat_get dg_X12_does_0_0 19 rfl rfl)
theorem dX12_does_30 : decode cX12_does 30 = .ok (.invokevirtual 359, 3) := q_invokevirtual (bat_get dg_X12_does_0_0 20 rfl rfl) rfl
theorem dX12_does_33 : decode cX12_does 33 = .ok (.invokevirtual 355, 3) := q_invokevirtual (bat_get dg_X12_does_0_0 21 rfl rfl) rfl
theorem dX12_does_36 : decode cX12_does 36 = .ok (.goto 4, 3) := q_goto (bat_get dg_X12_does_0_0 22 rfl rfl) rfl
theorem w_7_117 : (Cond.methodLink RX12 413 yX12_isDay) ∈ wsL_law := sk_mem (ck_7 _ (List.mem_of_getElem? (i := 117) rfl)) rfl
theorem w_7_119 : (Cond.instanceMethod yX12_isDay) ∈ wsL_law := sk_mem (ck_7 _ (List.mem_of_getElem? (i := 119) rfl)) rfl
theorem w_0_72 : (Cond.selects RX12 yX12_isDay yX12_isDay) ∈ wsL_law := sk_mem (ck_0 _ (List.mem_of_getElem? (i := 72) rfl)) rfl
theorem w_7_126 : (Cond.methodLink RX12 418 yX12_isMood) ∈ wsL_law := sk_mem (ck_7 _ (List.mem_of_getElem? (i := 126) rfl)) rfl
theorem w_7_128 : (Cond.instanceMethod yX12_isMood) ∈ wsL_law := sk_mem (ck_7 _ (List.mem_of_getElem? (i := 128) rfl)) rfl
theorem w_0_73 : (Cond.selects RX12 yX12_isMood yX12_isMood) ∈ wsL_law := sk_mem (ck_0 _ (List.mem_of_getElem? (i := 73) rfl)) rfl
theorem w_7_175 : (Cond.code yX12_does cX12_does 4 (some .int)) ∈ wsL_law := sk_mem (ck_7 _ (List.mem_of_getElem? (i := 175) rfl)) rfl
def om_8_80 : List Bool := true :: false :: false :: false :: false :: false :: false :: false :: []
def om_8_88 : List Bool := true :: false :: false :: false :: true :: false :: false :: false :: []
def om_8_fe : List Bool := true :: true :: true :: true :: true :: true :: true :: false :: []
theorem hd_X12_isDay_1 : skD yX12_isDay 1 := by decide +kernel
theorem hd_X12_isMood_1 : skD yX12_isMood 1 := by decide +kernel
theorem dg_X12_many_0_0 : bqL cX12_many 0 [(0, [42]), (1, [27]), (2, [182, 1, 157]), (5, [153, 0, 11]), (16, [20, 1, 165]), (19, [173]), (8, [42]), (9, [28]), (10, [182, 1, 162]), (13, [154, 0, 7]), (20, [42]), (21, [182, 1, 144]), (24, [42]), (25, [180, 0, 86]), (28, [16, 10]), (30, [27]), (31, [104]), (32, [28]), (33, [96]), (34, [47]), (35, [42]), (36, [180, 0, 82]), (39, [16, 10]), (41, [27]), (42, [104]), (43, [28]), (44, [96]), (45, [47]), (46, [105]), (47, [173])] = true := by decide +kernel
theorem dX12_many_0 : decode cX12_many 0 = .ok (.aload_n 0, 1) := q_aload_n0 (bat_get dg_X12_many_0_0 0 rfl rfl)
theorem dX12_many_1 : decode cX12_many 1 = .ok (.iload_n 1, 1) := q_iload_n1 (bat_get dg_X12_many_0_0 1 rfl rfl)
theorem dX12_many_2 : decode cX12_many 2 = .ok (.invokevirtual 413, 3) := q_invokevirtual (bat_get dg_X12_many_0_0 2 rfl rfl) rfl
theorem dX12_many_5 : decode cX12_many 5 = .ok (.ifCond .eq 11, 3) := q_ifCond_eq (bat_get dg_X12_many_0_0 3 rfl rfl) rfl
theorem dX12_many_16 : decode cX12_many 16 = .ok (.ldc2_w 421, 3) := q_ldc2_w (bat_get dg_X12_many_0_0 4 rfl rfl) rfl
theorem dX12_many_19 : decode cX12_many 19 = .ok (.lreturn, 1) := q_lreturn (bat_get dg_X12_many_0_0 5 rfl rfl)
theorem dX12_many_8 : decode cX12_many 8 = .ok (.aload_n 0, 1) := q_aload_n0 (bat_get dg_X12_many_0_0 6 rfl rfl)
theorem dX12_many_9 : decode cX12_many 9 = .ok (.iload_n 2, 1) := q_iload_n2 (bat_get dg_X12_many_0_0 7 rfl rfl)
theorem dX12_many_10 : decode cX12_many 10 = .ok (.invokevirtual 418, 3) := q_invokevirtual (bat_get dg_X12_many_0_0 8 rfl rfl) rfl
theorem dX12_many_13 : decode cX12_many 13 = .ok (.ifCond .ne 7, 3) := q_ifCond_ne (bat_get dg_X12_many_0_0 9 rfl rfl) rfl
theorem dX12_many_20 : decode cX12_many 20 = .ok (.aload_n 0, 1) := q_aload_n0 (bat_get dg_X12_many_0_0 10 rfl rfl)
theorem dX12_many_21 : decode cX12_many 21 = .ok (.invokevirtual 400, 3) := q_invokevirtual (bat_get dg_X12_many_0_0 11 rfl rfl) rfl
theorem dX12_many_24 : decode cX12_many 24 = .ok (.aload_n 0, 1) := q_aload_n0 (bat_get dg_X12_many_0_0 12 rfl rfl)
theorem dX12_many_25 : decode cX12_many 25 = .ok (.getfield 86, 3) := q_getfield (bat_get dg_X12_many_0_0 13 rfl rfl) rfl
theorem dX12_many_28 : decode cX12_many 28 = .ok (.bipush 10, 2) := q_bipush (bat_get dg_X12_many_0_0 14 rfl rfl) rfl
theorem dX12_many_30 : decode cX12_many 30 = .ok (.iload_n 1, 1) := q_iload_n1 (bat_get dg_X12_many_0_0 15 rfl rfl)
theorem dX12_many_31 : decode cX12_many 31 = .ok (.imul, 1) := q_imul (bat_get dg_X12_many_0_0 16 rfl rfl)
theorem dX12_many_32 : decode cX12_many 32 = .ok (.iload_n 2, 1) := q_iload_n2 (bat_get dg_X12_many_0_0 17 rfl rfl)
theorem dX12_many_33 : decode cX12_many 33 = .ok (.iadd, 1) := q_iadd (bat_get dg_X12_many_0_0 18 rfl rfl)
theorem dX12_many_34 : decode cX12_many 34 = .ok (.laload, 1) := q_laload (bat_get dg_X12_many_0_0 19 rfl rfl)
theorem dX12_many_35 : decode cX12_many 35 = .ok (.aload_n 0, 1) := q_aload_n0 (bat_get dg_X12_many_0_0 20 rfl rfl)
theorem dX12_many_36 : decode cX12_many 36 = .ok (.getfield 82, 3) := q_getfield (bat_get dg_X12_many_0_0 21 rfl rfl) rfl
theorem dX12_many_39 : decode cX12_many 39 = .ok (.bipush 10, 2) := q_bipush (bat_get dg_X12_many_0_0 22 rfl rfl) rfl
theorem dX12_many_41 : decode cX12_many 41 = .ok (.iload_n 1, 1) := q_iload_n1 (bat_get dg_X12_many_0_0 23 rfl rfl)
theorem dX12_many_42 : decode cX12_many 42 = .ok (.imul, 1) := q_imul (bat_get dg_X12_many_0_0 24 rfl rfl)
theorem dX12_many_43 : decode cX12_many 43 = .ok (.iload_n 2, 1) := q_iload_n2 (bat_get dg_X12_many_0_0 25 rfl rfl)
theorem dX12_many_44 : decode cX12_many 44 = .ok (.iadd, 1) := q_iadd (bat_get dg_X12_many_0_0 26 rfl rfl)
theorem dX12_many_45 : decode cX12_many 45 = .ok (.laload, 1) := q_laload (bat_get dg_X12_many_0_0 27 rfl rfl)
theorem dX12_many_46 : decode cX12_many 46 = .ok (.lmul, 1) := q_lmul (bat_get dg_X12_many_0_0 28 rfl rfl)
theorem dX12_many_47 : decode cX12_many 47 = .ok (.lreturn, 1) := q_lreturn (bat_get dg_X12_many_0_0 29 rfl rfl)
theorem w_7_184 : (Cond.constantLong RX12 421 (-1000000000000000)) ∈ wsL_law := sk_mem (ck_7 _ (List.mem_of_getElem? (i := 184) rfl)) rfl
theorem w_7_189 : (Cond.methodLink RX12 400 yX12_laysAll) ∈ wsL_law := sk_mem (ck_7 _ (List.mem_of_getElem? (i := 189) rfl)) rfl
theorem w_7_191 : (Cond.instanceMethod yX12_laysAll) ∈ wsL_law := sk_mem (ck_7 _ (List.mem_of_getElem? (i := 191) rfl)) rfl
theorem w_0_82 : (Cond.selects RX12 yX12_laysAll yX12_laysAll) ∈ wsL_law := sk_mem (ck_0 _ (List.mem_of_getElem? (i := 82) rfl)) rfl
theorem w_7_224 : (Cond.code yX12_many cX12_many 3 (some .long)) ∈ wsL_law := sk_mem (ck_7 _ (List.mem_of_getElem? (i := 224) rfl)) rfl
def om_13_1020 : List Bool := true :: false :: false :: false :: false :: false :: false :: true :: false :: false :: false :: false :: false :: []
def om_13_1fff : List Bool := true :: true :: true :: true :: true :: true :: true :: true :: true :: true :: true :: true :: true :: []
theorem hd_X12_laysAll_0 : skD yX12_laysAll 0 := by decide +kernel
set_option maxHeartbeats 4000000 in
set_option maxRecDepth 100000 in
theorem c_m_many (l : Launch) (D : va_G) (cI cJ cC cZ cS : ClassId) (mm : Nat) (g : Nat → Nat) (ta : Nat) (pa : Nat) (pe : Nat) (pd : Int32) (pb : Nat) (pp : Int32) (pf : Int32) (pg : Int32) (pn : Int32) (rt : Int32) (rn : Int32) (cd : Nat) (sn : Int32) (il : Nat) (tk : Int32) (am : Int32) (at_ : Int32) (aa : Int32) (wt : Int32) (wy : Int64) (rm : Nat) (ud : Nat) (nu : Nat) (sd : Int64) (qn : Nat) (qw : Nat) (qo : Int32) (qb : Nat) (qp : Nat) (qa : Int64) (qi : Nat) (oc : Nat) (d : Int32) (o : Int32) (u0 : Int32) (u1 : Int32) (u2 : Int32) (u3 : Int32) (u4 : Int32) (u5 : Int32) (v0 : Int32) (v1 : Int32) (v2 : Int32) (v3 : Int32) (v4 : Int32) (v5 : Int32) (cs : Nat → Nat) (nw : Nat → Int32) (pt : Nat → Nat) (ql : Nat → Int64) (l0 : Nat) (l1 : Nat) (dm : Nat) (l3 : Nat) (ws_ : Nat → Int32) (yw : Nat → Int32) (yo : Nat → Int32) (be : Nat → Int64) (bf : Nat → Int64) (hil : il ≤ 1) (hild : il = 1 → 1 ≤ dm) (hdm : dm ≤ 9) (hp0 : progOk cs u3 v3) (hp1 : progOk cs u4 v4) (hp2 : progOk cs u5 v5) (hcs : ∀ j, cs j ≤ 20000) (hnw : nowOk nw) (hpt : ∀ j, pt j ≤ 9) : skM l yX12_many cX12_many 3 (some .long) 6 142 0 0 D (skT cI cJ cC cZ cS) [.ref mm, .int d, .int o] [(mm, .inr (12, mo g (nI ta) (nI pa) (nI pe) pd (nI pb) pp pf pg pn rt rn (nI cd) sn (nI il) tk am at_ aa 0 0 (-1) wt wy 0 (nI rm) (nI ud) (nI nu) sd (nI qn) (nI qw) qo (nI qb) (nI qp) qa (nI qi) (nI oc))), (g 24, .inl (cI, 6, .inl (l6 u0 u1 u2 u3 u4 u5))), (g 25, .inl (cI, 6, .inl (l6 v0 v1 v2 v3 v4 v5))), (g 26, .inl (cI, 3200, .inl (fun j => nI (cs j)))), (g 31, .inl (cI, 120, .inl nw)), (g 46, .inl (cI, 9, .inl (fun j => nI (pt j)))), (g 86, .inl (cJ, 1700, .inr (.inl ql))), (g 20, .inl (cI, 4, .inl (l4 (nI l0) (nI l1) (nI dm) (nI l3)))), (g 38, .inl (cI, 90, .inl ws_)), (g 36, .inl (cZ, 900, .inl yw)), (g 37, .inl (cZ, 900, .inl yo)), (g 43, .inl (cJ, 90, .inr (.inl be))), (g 44, .inl (cJ, 90, .inr (.inl bf)))] (skL D (skT cI cJ cC cZ cS) (fun (r : Int64) (u : va_W) => ∃ (tk2 : Int32), ∃ (qp2 : Nat), ∃ (am2 : Int32), ∃ (at_2 : Int32), ∃ (aa2 : Int32), ∃ (wy2 : Int64), ∃ (ql2 : Nat → Int64), ∃ (ws_2 : Nat → Int32), ∃ (yw2 : Nat → Int32), ∃ (yo2 : Nat → Int32), ∃ (be2 : Nat → Int64), ∃ (bf2 : Nat → Int64), u = [(mm, .inr (12, mo g (nI ta) (nI pa) (nI pe) pd (nI pb) pp pf pg pn rt rn (nI cd) sn (nI il) tk2 am2 at_2 aa2 0 0 (-1) wt wy2 0 (nI rm) (nI ud) (nI nu) sd (nI qn) (nI qw) qo (nI qb) (nI qp2) qa (nI qi) (nI oc))), (g 24, .inl (cI, 6, .inl (l6 u0 u1 u2 u3 u4 u5))), (g 25, .inl (cI, 6, .inl (l6 v0 v1 v2 v3 v4 v5))), (g 26, .inl (cI, 3200, .inl (fun j => nI (cs j)))), (g 31, .inl (cI, 120, .inl nw)), (g 46, .inl (cI, 9, .inl (fun j => nI (pt j)))), (g 86, .inl (cJ, 1700, .inr (.inl ql2))), (g 20, .inl (cI, 4, .inl (l4 (nI l0) (nI l1) (nI dm) (nI l3)))), (g 38, .inl (cI, 90, .inl ws_2)), (g 36, .inl (cZ, 900, .inl yw2)), (g 37, .inl (cZ, 900, .inl yo2)), (g 43, .inl (cJ, 90, .inr (.inl be2))), (g 44, .inl (cJ, 90, .inr (.inl bf2)))])) := by
  refine skM_of pf_X12_many (Nat.le_of_ble_eq_true rfl) ?_
  intro p e s m below meth c A ls E hP hD hl
  refine skE_el E (fun hx hb hr hml hlocks hin hown hts hK hA => ?_)
  have hown : s.vm.findClass RX12 = some m.cls := hown
  have hS : va_S A s.heap s.heap [] := va_S.rf
  have hl : lv_has ls 3 [(0, .ref mm), (1, .int d), (2, .int o)] := hl
  refine lv_aload_n hx hb dX12_many_0 rfl (lv_at hl 0 rfl) ?_
  refine lv_iload_n hx hb dX12_many_1 rfl (lv_at hl 1 rfl) ?_
  refine sk_Vi (q0 := 0) (n := 1) (rest := []) (wr := fmR om_13_1020 _) ⟨hx, hb, hml, hown, hts⟩ hl.1 (c_m_isDay l D cI cJ cC cZ cS mm g ta pa pe pd pb pp pf pg pn rt rn cd sn il tk am at_ aa 0 0 (-1) wt wy 0 rm ud nu sd qn qw qo qb qp qa qi oc d l0 l1 dm l3 (by omega)) w_7_117 w_7_119 w_0_72 w_1_14 w_7_120 hd_X12_isDay_1 ⟨⟨(Nat.le_of_ble_eq_true rfl), (Nat.le_of_ble_eq_true rfl)⟩, (Nat.le_of_ble_eq_true rfl), (Nat.le_of_ble_eq_true rfl)⟩ hK hP hD hS hA (fmT om_13_1020 0) (fmF om_13_1020 0) (fm_C1 rfl rfl) (fm_R rfl rfl) (fm_nT om_13_1020 0) (fm_nF om_13_1020 0) (fm_di om_13_1020 0) rfl rfl rfl rfl (Nat.le_of_ble_eq_true rfl) dX12_many_2 (fun r_2 u H locs hw hP hD hS => ?_)
  refine exE hw (fun b_1 hw1 => anE hw1 (fun hb1_3 hw2 => anE hw2 (fun er_5 eu_4 => ?_)))
  clear hw hw1 hw2
  subst er_5
  refine o_mgE (ws' := [(mm, .inr (12, mo g (nI ta) (nI pa) (nI pe) pd (nI pb) pp pf pg pn rt rn (nI cd) sn (nI il) tk am at_ aa 0 0 (-1) wt wy 0 (nI rm) (nI ud) (nI nu) sd (nI qn) (nI qw) qo (nI qb) (nI qp) qa (nI qi) (nI oc))), (g 24, .inl (cI, 6, .inl (l6 u0 u1 u2 u3 u4 u5))), (g 25, .inl (cI, 6, .inl (l6 v0 v1 v2 v3 v4 v5))), (g 26, .inl (cI, 3200, .inl (fun j => nI (cs j)))), (g 31, .inl (cI, 120, .inl nw)), (g 46, .inl (cI, 9, .inl (fun j => nI (pt j)))), (g 86, .inl (cJ, 1700, .inr (.inl ql))), (g 20, .inl (cI, 4, .inl (l4 (nI l0) (nI l1) (nI dm) (nI l3)))), (g 38, .inl (cI, 90, .inl ws_)), (g 36, .inl (cZ, 900, .inl yw)), (g 37, .inl (cZ, 900, .inl yo)), (g 43, .inl (cJ, 90, .inr (.inl be))), (g 44, .inl (cJ, 90, .inr (.inl bf)))]) eu_4 hP hD rfl (fun hP hD => ?_)
  refine lv_if_eq (tgt := 16) hx hb dX12_many_5 (by decide) (fun c_6 => ?_) (fun c_6 => ?_)
  · have c_6 : b_1 = 0 := (neq b_1 0 (by omega) (by omega)).mp c_6
    refine lv_ldc2 (v := (-1000000000000000)) hx hb hown (hts _ w_7_184) dX12_many_16 ?_
    exact sk_lret hx hb hr hlocks hK hP hD hS (⟨tk, qp, am, at_, aa, wy, ql, ws_, yw, yo, be, bf, rfl⟩) (Nat.le_of_ble_eq_true rfl) (Nat.le_of_ble_eq_true rfl) dX12_many_19
  · have c_6 : ¬ (b_1 = 0) := fun h => c_6 ((neq b_1 0 (by omega) (by omega)).mpr h)
    obtain ⟨kd_7, hkd_7, rfl⟩ := (hb1_3.resolve_left (by omega)).2
    refine lv_aload_n hx hb dX12_many_8 rfl (lv_at hl 0 rfl) ?_
    refine lv_iload_n hx hb dX12_many_9 rfl (lv_at hl 2 rfl) ?_
    refine sk_Vi (q0 := 0) (n := 1) (rest := []) (wr := fmR om_13_1000 _) ⟨hx, hb, hml, hown, hts⟩ hl.1 (c_m_isMood l D cI cJ cC cZ cS mm g ta pa pe pd pb pp pf pg pn rt rn cd sn il tk am at_ aa 0 0 (-1) wt wy 0 rm ud nu sd qn qw qo qb qp qa qi oc o) w_7_126 w_7_128 w_0_73 w_1_14 w_7_129 hd_X12_isMood_1 ⟨⟨(Nat.le_of_ble_eq_true rfl), (Nat.le_of_ble_eq_true rfl)⟩, (Nat.le_of_ble_eq_true rfl), (Nat.le_of_ble_eq_true rfl)⟩ hK hP hD hS hA (fmT om_13_1000 0) (fmF om_13_1000 0) (fm_C1 rfl rfl) (fm_R rfl rfl) (fm_nT om_13_1000 0) (fm_nF om_13_1000 0) (fm_di om_13_1000 0) rfl rfl rfl rfl (Nat.le_of_ble_eq_true rfl) dX12_many_10 (fun r_9 u H locs hw hP hD hS => ?_)
    refine exE hw (fun b_8 hw1 => anE hw1 (fun hb1_10 hw2 => anE hw2 (fun er_12 eu_11 => ?_)))
    clear hw hw1 hw2
    subst er_12
    refine o_mgE (ws' := [(mm, .inr (12, mo g (nI ta) (nI pa) (nI pe) pd (nI pb) pp pf pg pn rt rn (nI cd) sn (nI il) tk am at_ aa 0 0 (-1) wt wy 0 (nI rm) (nI ud) (nI nu) sd (nI qn) (nI qw) qo (nI qb) (nI qp) qa (nI qi) (nI oc))), (g 24, .inl (cI, 6, .inl (l6 u0 u1 u2 u3 u4 u5))), (g 25, .inl (cI, 6, .inl (l6 v0 v1 v2 v3 v4 v5))), (g 26, .inl (cI, 3200, .inl (fun j => nI (cs j)))), (g 31, .inl (cI, 120, .inl nw)), (g 46, .inl (cI, 9, .inl (fun j => nI (pt j)))), (g 86, .inl (cJ, 1700, .inr (.inl ql))), (g 20, .inl (cI, 4, .inl (l4 (nI l0) (nI l1) (nI dm) (nI l3)))), (g 38, .inl (cI, 90, .inl ws_)), (g 36, .inl (cZ, 900, .inl yw)), (g 37, .inl (cZ, 900, .inl yo)), (g 43, .inl (cJ, 90, .inr (.inl be))), (g 44, .inl (cJ, 90, .inr (.inl bf)))]) eu_11 hP hD rfl (fun hP hD => ?_)
    refine lv_if_ne (tgt := 20) hx hb dX12_many_13 (by decide) (fun c_13 => ?_) (fun c_13 => ?_)
    · have c_13 : ¬ (b_8 = 0) := fun h => c_13 ((neq b_8 0 (by omega) (by omega)).mpr h)
      obtain ⟨kd_14, hkd_14, rfl⟩ := (hb1_10.resolve_left (by omega)).2
      refine lv_aload_n hx hb dX12_many_20 rfl (lv_at hl 0 rfl) ?_
      refine sk_Vv (q0 := 0) (n := 0) (rest := []) (wr := fmR om_13_1fff _) ⟨hx, hb, hml, hown, hts⟩ hl.1 (c_m_laysAll l D cI cJ cC cZ cS mm g ta pa pe pd pb pp pf pg pn rt rn cd sn il tk am at_ aa 0 wt wy 0 rm ud nu sd qn qw qo qb qp qa qi oc u0 u1 u2 u3 u4 u5 v0 v1 v2 v3 v4 v5 cs nw pt ql l0 l1 dm l3 ws_ yw yo be bf (by omega) (by omega) hp0 hp1 hp2 hcs hnw hpt) w_7_189 w_7_191 w_0_82 w_1_14 w_7_192 hd_X12_laysAll_0 ⟨⟨(Nat.le_of_ble_eq_true rfl), (Nat.le_of_ble_eq_true rfl)⟩, (Nat.le_of_ble_eq_true rfl), (Nat.le_of_ble_eq_true rfl)⟩ hK hP hD hS hA (fmT om_13_1fff 0) (fmF om_13_1fff 0) (fm_C1 rfl rfl) (fm_R rfl rfl) (fm_nT om_13_1fff 0) (fm_nF om_13_1fff 0) (fm_di om_13_1fff 0) rfl rfl rfl rfl (Nat.le_of_ble_eq_true rfl) dX12_many_21 (fun u H locs hw hP hD hS => ?_)
      refine exE hw (fun tk2_15 hw1 => exE hw1 (fun qp2_16 hw2 => exE hw2 (fun am2_17 hw3 => exE hw3 (fun at_2_18 hw4 => exE hw4 (fun aa2_19 hw5 => exE hw5 (fun wy2_20 hw6 => exE hw6 (fun ql2_21 hw7 => exE hw7 (fun ws_2_22 hw8 => exE hw8 (fun yw2_23 hw9 => exE hw9 (fun yo2_24 hw10 => exE hw10 (fun be2_25 hw11 => exE hw11 (fun bf2_26 hw12 => anE hw12 (fun hbe_27 hw13 => anE hw13 (fun hwy_28 eu_29 => ?_))))))))))))))
      clear hw hw1 hw2 hw3 hw4 hw5 hw6 hw7 hw8 hw9 hw10 hw11 hw12 hw13
      refine o_mgE (ws' := [(mm, .inr (12, mo g (nI ta) (nI pa) (nI pe) pd (nI pb) pp pf pg pn rt rn (nI cd) sn (nI il) tk2_15 am2_17 at_2_18 aa2_19 0 0 (-1) wt wy2_20 0 (nI rm) (nI ud) (nI nu) sd (nI qn) (nI qw) qo (nI qb) (nI qp2_16) qa (nI qi) (nI oc))), (g 24, .inl (cI, 6, .inl (l6 u0 u1 u2 u3 u4 u5))), (g 25, .inl (cI, 6, .inl (l6 v0 v1 v2 v3 v4 v5))), (g 26, .inl (cI, 3200, .inl (fun j => nI (cs j)))), (g 31, .inl (cI, 120, .inl nw)), (g 46, .inl (cI, 9, .inl (fun j => nI (pt j)))), (g 86, .inl (cJ, 1700, .inr (.inl ql2_21))), (g 20, .inl (cI, 4, .inl (l4 (nI l0) (nI l1) (nI dm) (nI l3)))), (g 38, .inl (cI, 90, .inl ws_2_22)), (g 36, .inl (cZ, 900, .inl yw2_23)), (g 37, .inl (cZ, 900, .inl yo2_24)), (g 43, .inl (cJ, 90, .inr (.inl be2_25))), (g 44, .inl (cJ, 90, .inr (.inl bf2_26)))]) eu_29 hP hD rfl (fun hP hD => ?_)
      refine lv_aload_n hx hb dX12_many_24 rfl (lv_at hl 0 rfl) ?_
      refine sk_get (v := .ref (g 44)) (C := RX12) (T := TX12) (N := 92) hx hb hts inlX12 hown hK hP 0 rfl rfl 44 (by decide) w_5_199 rfl dX12_many_25 ?_
      refine lv_bipush (v := 10) hx hb dX12_many_28 (by decide) ?_
      refine lv_iload_n hx hb dX12_many_30 rfl (lv_at hl 1 rfl) ?_
      refine lv_imul hx hb dX12_many_31 ?_
      refine sk_top (nI (10 * kd_7)) (nmul 10 kd_7) ?_
      refine lv_iload_n hx hb dX12_many_32 rfl (lv_at hl 2 rfl) ?_
      refine lv_iadd hx hb dX12_many_33 ?_
      refine sk_top (nI (10 * kd_7 + kd_14)) (nI_add (10 * kd_7) kd_14) ?_
      refine va_lald hx hb hK.1 hP 12 1 rfl rfl (vin (10 * kd_7 + kd_14) 90 (by omega) (by omega)) dX12_many_34 ?_
      refine lv_topl (fun v_30 ev_30 => ?_)
      refine lv_aload_n hx hb dX12_many_35 rfl (lv_at hl 0 rfl) ?_
      refine sk_get (v := .ref (g 43)) (C := RX12) (T := TX12) (N := 92) hx hb hts inlX12 hown hK hP 0 rfl rfl 43 (by decide) w_5_198 rfl dX12_many_36 ?_
      refine lv_bipush (v := 10) hx hb dX12_many_39 (by decide) ?_
      refine lv_iload_n hx hb dX12_many_41 rfl (lv_at hl 1 rfl) ?_
      refine lv_imul hx hb dX12_many_42 ?_
      refine sk_top (nI (10 * kd_7)) (nmul 10 kd_7) ?_
      refine lv_iload_n hx hb dX12_many_43 rfl (lv_at hl 2 rfl) ?_
      refine lv_iadd hx hb dX12_many_44 ?_
      refine sk_top (nI (10 * kd_7 + kd_14)) (nI_add (10 * kd_7) kd_14) ?_
      refine va_lald hx hb hK.1 hP 11 1 rfl rfl (vin (10 * kd_7 + kd_14) 90 (by omega) (by omega)) dX12_many_45 ?_
      refine lv_topl (fun v_31 ev_31 => ?_)
      refine lv_lmul hx hb dX12_many_46 ?_
      refine lv_topl (fun v_32 ev_32 => ?_)
      exact sk_lret hx hb hr hlocks hK hP hD hS (⟨tk2_15, qp2_16, am2_17, at_2_18, aa2_19, wy2_20, ql2_21, ws_2_22, yw2_23, yo2_24, be2_25, bf2_26, rfl⟩) (Nat.le_of_ble_eq_true rfl) (Nat.le_of_ble_eq_true rfl) dX12_many_47
    · have c_13 : b_8 = 0 := (neq b_8 0 (by omega) (by omega)).mp c_13
      refine lv_ldc2 (v := (-1000000000000000)) hx hb hown (hts _ w_7_184) dX12_many_16 ?_
      exact sk_lret hx hb hr hlocks hK hP hD hS (⟨tk, qp, am, at_, aa, wy, ql, ws_, yw, yo, be, bf, rfl⟩) (Nat.le_of_ble_eq_true rfl) (Nat.le_of_ble_eq_true rfl) dX12_many_19
