theorem dg_X12_drawOf_0_0 : bqL cX12_drawOf 0 [(0, [42]), (1, [20, 1, 225]), (4, [42]), (5, [180, 0, 110]), (8, [105]), (9, [20, 1, 227]), (12, [97]), (13, [20, 1, 229]), (16, [113]), (17, [181, 0, 110]), (20, [42]), (21, [180, 0, 110]), (24, [20, 1, 231]), (27, [109]), (28, [31]), (29, [113]), (30, [173])] = true := by decide +kernel
theorem dX12_drawOf_0 : decode cX12_drawOf 0 = .ok (.aload_n 0, 1) := q_aload_n0 (bat_get dg_X12_drawOf_0_0 0 rfl rfl)
theorem dX12_drawOf_1 : decode cX12_drawOf 1 = .ok (.ldc2_w 481, 3) := q_ldc2_w (bat_get dg_X12_drawOf_0_0 1 rfl rfl) rfl
theorem dX12_drawOf_4 : decode cX12_drawOf 4 = .ok (.aload_n 0, 1) := q_aload_n0 (bat_get dg_X12_drawOf_0_0 2 rfl rfl)
theorem dX12_drawOf_5 : decode cX12_drawOf 5 = .ok (.getfield 110, 3) := q_getfield (bat_get dg_X12_drawOf_0_0 3 rfl rfl) rfl
theorem dX12_drawOf_8 : decode cX12_drawOf 8 = .ok (.lmul, 1) := q_lmul (bat_get dg_X12_drawOf_0_0 4 rfl rfl)
theorem dX12_drawOf_9 : decode cX12_drawOf 9 = .ok (.ldc2_w 483, 3) := q_ldc2_w (bat_get dg_X12_drawOf_0_0 5 rfl rfl) rfl
theorem dX12_drawOf_12 : decode cX12_drawOf 12 = .ok (.ladd, 1) := q_ladd (bat_get dg_X12_drawOf_0_0 6 rfl rfl)
theorem dX12_drawOf_13 : decode cX12_drawOf 13 = .ok (.ldc2_w 485, 3) := q_ldc2_w (bat_get dg_X12_drawOf_0_0 7 rfl rfl) rfl
theorem dX12_drawOf_16 : decode cX12_drawOf 16 = .ok (.lrem, 1) := q_lrem (bat_get dg_X12_drawOf_0_0 8 rfl rfl)
theorem dX12_drawOf_17 : decode cX12_drawOf 17 = .ok (.putfield 110, 3) := q_putfield (bat_get dg_X12_drawOf_0_0 9 rfl rfl) rfl
theorem dX12_drawOf_20 : decode cX12_drawOf 20 = .ok (.aload_n 0, 1) := q_aload_n0 (bat_get dg_X12_drawOf_0_0 10 rfl rfl)
theorem dX12_drawOf_21 : decode cX12_drawOf 21 = .ok (.getfield 110, 3) := q_getfield (bat_get dg_X12_drawOf_0_0 11 rfl rfl) rfl
theorem dX12_drawOf_24 : decode cX12_drawOf 24 = .ok (.ldc2_w 487, 3) := q_ldc2_w (bat_get dg_X12_drawOf_0_0 12 rfl rfl) rfl
theorem dX12_drawOf_27 : decode cX12_drawOf 27 = .ok (.ldiv, 1) := q_ldiv (bat_get dg_X12_drawOf_0_0 13 rfl rfl)
theorem dX12_drawOf_28 : decode cX12_drawOf 28 = .ok (.lload_n 1, 1) := q_lload_n1 (bat_get dg_X12_drawOf_0_0 14 rfl rfl)
theorem dX12_drawOf_29 : decode cX12_drawOf 29 = .ok (.lrem, 1) := q_lrem (bat_get dg_X12_drawOf_0_0 15 rfl rfl)
theorem dX12_drawOf_30 : decode cX12_drawOf 30 = .ok (.lreturn, 1) := q_lreturn (bat_get dg_X12_drawOf_0_0 16 rfl rfl)
theorem w_8_159 : (Cond.constantLong RX12 481 (1103515245)) ∈ wsL_law := sk_mem (ck_8 _ (List.mem_of_getElem? (i := 159) rfl)) rfl
theorem w_8_160 : (Cond.constantLong RX12 483 (12345)) ∈ wsL_law := sk_mem (ck_8 _ (List.mem_of_getElem? (i := 160) rfl)) rfl
theorem w_8_161 : (Cond.constantLong RX12 485 (2147483648)) ∈ wsL_law := sk_mem (ck_8 _ (List.mem_of_getElem? (i := 161) rfl)) rfl
theorem w_8_162 : (Cond.constantLong RX12 487 (64)) ∈ wsL_law := sk_mem (ck_8 _ (List.mem_of_getElem? (i := 162) rfl)) rfl
theorem w_8_158 : (Cond.code yX12_drawOf cX12_drawOf 3 (some .long)) ∈ wsL_law := sk_mem (ck_8 _ (List.mem_of_getElem? (i := 158) rfl)) rfl
set_option maxHeartbeats 4000000 in
set_option maxRecDepth 100000 in
theorem c_nm_drawOf (l : Launch) (D : va_G) (cI cJ cC cZ cS : ClassId) (mm : Nat) (g : Nat → Nat) (ta : Nat) (pa : Nat) (pe : Nat) (pd : Int32) (pb : Nat) (pp : Int32) (pf : Int32) (pg : Int32) (pn : Int32) (rt : Int32) (cd : Nat) (sn : Int32) (il : Nat) (tk : Int32) (am : Int32) (at_ : Int32) (aa : Int32) (wt : Int32) (wy : Int64) (rm : Nat) (ud : Nat) (nu : Nat) (qn : Nat) (qw : Nat) (qo : Int32) (qb : Nat) (qp : Nat) (qa : Int64) (qi : Nat) (oc : Nat) (sv : Nat) (L : LkS) (mq : Nat) (hsv : sv < 2147483648) (hm1 : 1 ≤ mq) (hm2 : mq ≤ 1000000000) : skM l yX12_drawOf cX12_drawOf 3 (some .long) 0 0 0 0 D (skT cI cJ cC cZ cS) [.ref mm, .long (Int64.ofNat mq)] [(mm, .inr (12, mo g (nI ta) (nI pa) (nI pe) pd (nI pb) pp pf pg pn rt (nI (lRn L)) (nI cd) sn (nI il) tk am at_ aa 0 0 (-1) wt wy 0 (nI rm) (nI ud) (nI nu) (Int64.ofNat sv) (nI qn) (nI qw) qo (nI qb) (nI qp) qa (nI qi) (nI oc)))] (skL D (skT cI cJ cC cZ cS) (fun (r : Int64) (u : va_W) => r = Int64.ofNat (kdv sv mq) ∧ u = [(mm, .inr (12, mo g (nI ta) (nI pa) (nI pe) pd (nI pb) pp pf pg pn rt (nI (lRn L)) (nI cd) sn (nI il) tk am at_ aa 0 0 (-1) wt wy 0 (nI rm) (nI ud) (nI nu) (Int64.ofNat (kdr sv)) (nI qn) (nI qw) qo (nI qb) (nI qp) qa (nI qi) (nI oc)))])) := by
  refine skM_of pf_X12_drawOf (Nat.le_of_ble_eq_true rfl) ?_
  intro p e s m below meth c A ls E hP hD hl
  refine skE_el E (fun hx hb hr hml hlocks hin hown hts hK hA => ?_)
  have hown : s.vm.findClass RX12 = some m.cls := hown
  have hS : va_S A s.heap s.heap [] := va_S.rf
  have hl : lv_has ls 3 [(0, .ref mm), (1, .long (Int64.ofNat mq))] := hl
  refine lv_aload_n hx hb dX12_drawOf_0 rfl (lv_at hl 0 rfl) ?_
  refine lv_ldc2 (v := 1103515245) hx hb hown (hts _ w_8_159) dX12_drawOf_1 ?_
  refine lv_aload_n hx hb dX12_drawOf_4 rfl (lv_at hl 0 rfl) ?_
  refine sk_get (v := .long (Int64.ofNat sv)) (C := RX12) (T := TX12) (N := 92) hx hb hts inlX12 hown hK hP 0 rfl rfl 57 (by decide) w_5_212 rfl dX12_drawOf_5 ?_
  refine lv_lmul hx hb dX12_drawOf_8 ?_
  refine lv_ldc2 (v := 12345) hx hb hown (hts _ w_8_160) dX12_drawOf_9 ?_
  refine lv_ladd hx hb dX12_drawOf_12 ?_
  refine lv_ldc2 (v := 2147483648) hx hb hown (hts _ w_8_161) dX12_drawOf_13 ?_
  refine lv_lrem hx hb dX12_drawOf_16 (by decide) ?_
  have hkd := kdr_lt sv
  refine sk_topl (Int64.ofNat (kdr sv)) (kdr_rem sv hsv) ?_
  refine sk_put (ws' := [(mm, .inr (12, mo g (nI ta) (nI pa) (nI pe) pd (nI pb) pp pf pg pn rt (nI (lRn L)) (nI cd) sn (nI il) tk am at_ aa 0 0 (-1) wt wy 0 (nI rm) (nI ud) (nI nu) (Int64.ofNat (kdr sv)) (nI qn) (nI qw) qo (nI qb) (nI qp) qa (nI qi) (nI oc)))]) (C := RX12) (T := TX12) (N := 92) (v := .long (Int64.ofNat (kdr sv))) hx hb hts inlX12 tyX12 tyX12_ok nmX12 hown hK hP hD hS 0 rfl rfl 57 (by decide) w_5_212 rfl rfl rfl (Nat.le_of_ble_eq_true rfl) rfl dX12_drawOf_17 (fun H locs hP hD hS => ?_)
  refine lv_aload_n hx hb dX12_drawOf_20 rfl (lv_at hl 0 rfl) ?_
  refine sk_get (v := .long (Int64.ofNat (kdr sv))) (C := RX12) (T := TX12) (N := 92) hx hb hts inlX12 hown hK hP 0 rfl rfl 57 (by decide) w_5_212 rfl dX12_drawOf_21 ?_
  refine lv_ldc2 (v := 64) hx hb hown (hts _ w_8_162) dX12_drawOf_24 ?_
  refine lv_ldiv hx hb dX12_drawOf_27 (by decide) ?_
  refine sk_topl (Int64.ofNat (kdr sv / 64)) (kofn_div (b := 64) (by omega) (by decide) (by decide)) ?_
  refine lv_lload_n hx hb dX12_drawOf_28 rfl (lv_at hl 1 rfl) ?_
  refine lv_lrem hx hb dX12_drawOf_29 (kofn_ne hm1 (by omega)) ?_
  refine sk_topl (Int64.ofNat (kdv sv mq)) (kofn_rem (by omega) (by omega) (by omega)) ?_
  exact sk_lret hx hb hr hlocks hK hP hD hS (⟨rfl, rfl⟩) (Nat.le_of_ble_eq_true rfl) (Nat.le_of_ble_eq_true rfl) dX12_drawOf_30
theorem dg_X12_drawsDays_0_0 : bqL cX12_drawsDays 0 [(0, [3]), (1, [60]), (2, [27]), (3, [42]), (4, [182, 1, 59]), (7, [162, 0, 84]), (91, [177]), (10, [5]), (11, [6]), (12, [27]), (13, [104]), (14, [96]), (15, [61]), (16, [42]), (17, [20, 1, 233]), (20, [182, 1, 235]), (23, [42]), (24, [180, 1, 50]), (27, [133]), (28, [148]), (29, [156, 0, 42]), (71, [42]), (72, [180, 0, 63]), (75, [28]), (76, [42]), (77, [20, 1, 78]), (80, [182, 1, 235]), (83, [136]), (84, [79]), (85, [132, 1, 1]), (88, [167, 255, 170]), (32, [42]), (33, [180, 0, 63]), (36, [28]), (37, [4]), (38, [96]), (39, [42]), (40, [180, 0, 63]), (43, [28]), (44, [4])] = true := by decide +kernel
theorem dX12_drawsDays_0 : decode cX12_drawsDays 0 = .ok (.iconst 0, 1) := q_iconst0 (bat_get dg_X12_drawsDays_0_0 0 rfl rfl)
theorem dX12_drawsDays_1 : decode cX12_drawsDays 1 = .ok (.istore_n 1, 1) := q_istore_n1 (bat_get dg_X12_drawsDays_0_0 1 rfl rfl)
theorem dX12_drawsDays_2 : decode cX12_drawsDays 2 = .ok (.iload_n 1, 1) := q_iload_n1 (bat_get dg_X12_drawsDays_0_0 2 rfl rfl)
theorem dX12_drawsDays_3 : decode cX12_drawsDays 3 = .ok (.aload_n 0, 1) := q_aload_n0 (bat_get dg_X12_drawsDays_0_0 3 rfl rfl)
theorem dX12_drawsDays_4 : decode cX12_drawsDays 4 = .ok (.invokevirtual 315, 3) := q_invokevirtual (bat_get dg_X12_drawsDays_0_0 4 rfl rfl) rfl
theorem dX12_drawsDays_7 : decode cX12_drawsDays 7 = .ok (.if_icmp .ge 84, 3) := q_if_icmp_ge (bat_get dg_X12_drawsDays_0_0 5 rfl rfl) rfl
theorem dX12_drawsDays_91 : decode cX12_drawsDays 91 = .ok (.return_, 1) := q_return_ (bat_get dg_X12_drawsDays_0_0 6 rfl rfl)
theorem dX12_drawsDays_10 : decode cX12_drawsDays 10 = .ok (.iconst 2, 1) := q_iconst2 (bat_get dg_X12_drawsDays_0_0 7 rfl rfl)
theorem dX12_drawsDays_11 : decode cX12_drawsDays 11 = .ok (.iconst 3, 1) := q_iconst3 (bat_get dg_X12_drawsDays_0_0 8 rfl rfl)
theorem dX12_drawsDays_12 : decode cX12_drawsDays 12 = .ok (.iload_n 1, 1) := q_iload_n1 (bat_get dg_X12_drawsDays_0_0 9 rfl rfl)
theorem dX12_drawsDays_13 : decode cX12_drawsDays 13 = .ok (.imul, 1) := q_imul (bat_get dg_X12_drawsDays_0_0 10 rfl rfl)
theorem dX12_drawsDays_14 : decode cX12_drawsDays 14 = .ok (.iadd, 1) := q_iadd (bat_get dg_X12_drawsDays_0_0 11 rfl rfl)
theorem dX12_drawsDays_15 : decode cX12_drawsDays 15 = .ok (.istore_n 2, 1) := q_istore_n2 (bat_get dg_X12_drawsDays_0_0 12 rfl rfl)
theorem dX12_drawsDays_16 : decode cX12_drawsDays 16 = .ok (.aload_n 0, 1) := q_aload_n0 (bat_get dg_X12_drawsDays_0_0 13 rfl rfl)
theorem dX12_drawsDays_17 : decode cX12_drawsDays 17 = .ok (.ldc2_w 489, 3) := q_ldc2_w (bat_get dg_X12_drawsDays_0_0 14 rfl rfl) rfl
theorem dX12_drawsDays_20 : decode cX12_drawsDays 20 = .ok (.invokevirtual 491, 3) := q_invokevirtual (bat_get dg_X12_drawsDays_0_0 15 rfl rfl) rfl
theorem dX12_drawsDays_23 : decode cX12_drawsDays 23 = .ok (.aload_n 0, 1) := q_aload_n0 (bat_get dg_X12_drawsDays_0_0 16 rfl rfl)
theorem dX12_drawsDays_24 : decode cX12_drawsDays 24 = .ok (.getfield 306, 3) := q_getfield (bat_get dg_X12_drawsDays_0_0 17 rfl rfl) rfl
theorem dX12_drawsDays_27 : decode cX12_drawsDays 27 = .ok (.i2l, 1) := q_i2l (bat_get dg_X12_drawsDays_0_0 18 rfl rfl)
theorem dX12_drawsDays_28 : decode cX12_drawsDays 28 = .ok (.lcmp, 1) := q_lcmp (bat_get dg_X12_drawsDays_0_0 19 rfl rfl)
theorem dX12_drawsDays_29 : decode cX12_drawsDays 29 = .ok (.ifCond .ge 42, 3) := q_ifCond_ge (bat_get dg_X12_drawsDays_0_0 20 rfl rfl) rfl
theorem dX12_drawsDays_71 : decode cX12_drawsDays 71 = .ok (.aload_n 0, 1) := q_aload_n0 (bat_get dg_X12_drawsDays_0_0 21 rfl rfl)
theorem dX12_drawsDays_72 : decode cX12_drawsDays 72 = .ok (.getfield 63, 3) := q_getfield (bat_get dg_X12_drawsDays_0_0 22 rfl rfl) rfl
theorem dX12_drawsDays_75 : decode cX12_drawsDays 75 = .ok (.iload_n 2, 1) := q_iload_n2 (bat_get dg_X12_drawsDays_0_0 23 rfl rfl)
theorem dX12_drawsDays_76 : decode cX12_drawsDays 76 = .ok (.aload_n 0, 1) := q_aload_n0 (bat_get dg_X12_drawsDays_0_0 24 rfl rfl)
theorem dX12_drawsDays_77 : decode cX12_drawsDays 77 = .ok (.ldc2_w 334, 3) := q_ldc2_w (bat_get dg_X12_drawsDays_0_0 25 rfl rfl) rfl
theorem dX12_drawsDays_80 : decode cX12_drawsDays 80 = .ok (.invokevirtual 491, 3) := q_invokevirtual (bat_get dg_X12_drawsDays_0_0 26 rfl rfl) rfl
theorem dX12_drawsDays_83 : decode cX12_drawsDays 83 = .ok (.l2i, 1) := q_l2i (bat_get dg_X12_drawsDays_0_0 27 rfl rfl)
theorem dX12_drawsDays_84 : decode cX12_drawsDays 84 = .ok (.iastore, 1) := q_iastore (bat_get dg_X12_drawsDays_0_0 28 rfl rfl)
theorem dX12_drawsDays_85 : decode cX12_drawsDays 85 = .ok (.iinc 1 1, 3) := q_iinc (bat_get dg_X12_drawsDays_0_0 29 rfl rfl) rfl
theorem dX12_drawsDays_88 : decode cX12_drawsDays 88 = .ok (.goto (-86), 3) := q_goto (bat_get dg_X12_drawsDays_0_0 30 rfl rfl) rfl
theorem dX12_drawsDays_32 : decode cX12_drawsDays 32 = .ok (.aload_n 0, 1) := q_aload_n0 (bat_get dg_X12_drawsDays_0_0 31 rfl rfl)
theorem dX12_drawsDays_33 : decode cX12_drawsDays 33 = .ok (.getfield 63, 3) := q_getfield (bat_get dg_X12_drawsDays_0_0 32 rfl rfl) rfl
theorem dX12_drawsDays_36 : decode cX12_drawsDays 36 = .ok (.iload_n 2, 1) := q_iload_n2 (bat_get dg_X12_drawsDays_0_0 33 rfl rfl)
theorem dX12_drawsDays_37 : decode cX12_drawsDays 37 = .ok (.iconst 1, 1) := q_iconst1 (bat_get dg_X12_drawsDays_0_0 34 rfl rfl)
theorem dX12_drawsDays_38 : decode cX12_drawsDays 38 = .ok (.iadd, 1) := q_iadd (bat_get dg_X12_drawsDays_0_0 35 rfl rfl)
theorem dX12_drawsDays_39 : decode cX12_drawsDays 39 = .ok (.aload_n 0, 1) := q_aload_n0 (bat_get dg_X12_drawsDays_0_0 36 rfl rfl)
theorem dX12_drawsDays_40 : decode cX12_drawsDays 40 = .ok (.getfield 63, 3) := q_getfield (bat_get dg_X12_drawsDays_0_0 37 rfl rfl) rfl
theorem dX12_drawsDays_43 : decode cX12_drawsDays 43 = .ok (.iload_n 2, 1) := q_iload_n2 (bat_get dg_X12_drawsDays_0_0 38 rfl rfl)
theorem dX12_drawsDays_44 : decode cX12_drawsDays 44 = .ok (.iconst 1, 1) := q_iconst1 (bat_get dg_X12_drawsDays_0_0 39 rfl rfl)
theorem dg_X12_drawsDays_45_45 : bqL cX12_drawsDays 45 [(0, [96]), (1, [46]), (2, [16, 9]), (4, [160, 0, 8]), (12, [42]), (13, [180, 0, 63]), (16, [28]), (17, [4]), (18, [96]), (19, [46]), (20, [4]), (21, [96]), (22, [79]), (23, [167, 0, 17]), (7, [16, 9]), (9, [167, 0, 13])] = true := by decide +kernel
theorem dX12_drawsDays_45 : decode cX12_drawsDays 45 = .ok (.iadd, 1) := q_iadd (bat_get dg_X12_drawsDays_45_45 0 rfl rfl)
theorem dX12_drawsDays_46 : decode cX12_drawsDays 46 = .ok (.iaload, 1) := q_iaload (bat_get dg_X12_drawsDays_45_45 1 rfl rfl)
theorem dX12_drawsDays_47 : decode cX12_drawsDays 47 = .ok (.bipush 9, 2) := q_bipush (bat_get dg_X12_drawsDays_45_45 2 rfl rfl) rfl
theorem dX12_drawsDays_49 : decode cX12_drawsDays 49 = .ok (.if_icmp .ne 8, 3) := q_if_icmp_ne (bat_get dg_X12_drawsDays_45_45 3 rfl rfl) rfl
theorem dX12_drawsDays_57 : decode cX12_drawsDays 57 = .ok (.aload_n 0, 1) := q_aload_n0 (bat_get dg_X12_drawsDays_45_45 4 rfl rfl)
theorem dX12_drawsDays_58 : decode cX12_drawsDays 58 = .ok (.getfield 63, 3) := q_getfield (bat_get dg_X12_drawsDays_45_45 5 rfl rfl) rfl
theorem dX12_drawsDays_61 : decode cX12_drawsDays 61 = .ok (.iload_n 2, 1) := q_iload_n2 (bat_get dg_X12_drawsDays_45_45 6 rfl rfl)
theorem dX12_drawsDays_62 : decode cX12_drawsDays 62 = .ok (.iconst 1, 1) := q_iconst1 (bat_get dg_X12_drawsDays_45_45 7 rfl rfl)
theorem dX12_drawsDays_63 : decode cX12_drawsDays 63 = .ok (.iadd, 1) := q_iadd (bat_get dg_X12_drawsDays_45_45 8 rfl rfl)
theorem dX12_drawsDays_64 : decode cX12_drawsDays 64 = .ok (.iaload, 1) := q_iaload (bat_get dg_X12_drawsDays_45_45 9 rfl rfl)
theorem dX12_drawsDays_65 : decode cX12_drawsDays 65 = .ok (.iconst 1, 1) := q_iconst1 (bat_get dg_X12_drawsDays_45_45 10 rfl rfl)
theorem dX12_drawsDays_66 : decode cX12_drawsDays 66 = .ok (.iadd, 1) := q_iadd (bat_get dg_X12_drawsDays_45_45 11 rfl rfl)
theorem dX12_drawsDays_67 : decode cX12_drawsDays 67 = .ok (.iastore, 1) := q_iastore (bat_get dg_X12_drawsDays_45_45 12 rfl rfl)
theorem dX12_drawsDays_68 : decode cX12_drawsDays 68 = .ok (.goto 17, 3) := q_goto (bat_get dg_X12_drawsDays_45_45 13 rfl rfl) rfl
theorem dX12_drawsDays_52 : decode cX12_drawsDays 52 = .ok (.bipush 9, 2) := q_bipush (bat_get dg_X12_drawsDays_45_45 14 rfl rfl) rfl
theorem dX12_drawsDays_54 : decode cX12_drawsDays 54 = .ok (.goto 13, 3) := q_goto (bat_get dg_X12_drawsDays_45_45 15 rfl rfl) rfl
theorem w_8_154 : (Cond.constantLong RX12 489 (100)) ∈ wsL_law := sk_mem (ck_8 _ (List.mem_of_getElem? (i := 154) rfl)) rfl
theorem w_8_155 : (Cond.methodLink RX12 491 yX12_drawOf) ∈ wsL_law := sk_mem (ck_8 _ (List.mem_of_getElem? (i := 155) rfl)) rfl
theorem w_8_157 : (Cond.instanceMethod yX12_drawOf) ∈ wsL_law := sk_mem (ck_8 _ (List.mem_of_getElem? (i := 157) rfl)) rfl
theorem w_0_109 : (Cond.selects RX12 yX12_drawOf yX12_drawOf) ∈ wsL_law := sk_mem (ck_0 _ (List.mem_of_getElem? (i := 109) rfl)) rfl
theorem w_5_178 : (Cond.fieldLink RX12 306 "SameKeeperModel" "rain" "I") ∈ wsL_law := sk_mem (ck_5 _ (List.mem_of_getElem? (i := 178) rfl)) rfl
theorem w_8_153 : (Cond.code yX12_drawsDays cX12_drawsDays 3 none) ∈ wsL_law := sk_mem (ck_8 _ (List.mem_of_getElem? (i := 153) rfl)) rfl
theorem hd_X12_drawOf_1 : skD yX12_drawOf 1 := by decide +kernel
set_option maxHeartbeats 4000000 in
set_option maxRecDepth 100000 in
theorem c_nm_drawsDays (l : Launch) (D : va_G) (cI cJ cC cZ cS : ClassId) (mm : Nat) (g : Nat → Nat) (ta : Nat) (pa : Nat) (pe : Nat) (pd : Int32) (pb : Nat) (pp : Int32) (pf : Int32) (pg : Int32) (pn : Int32) (rt : Int32) (cd : Nat) (sn : Int32) (il : Nat) (tk : Int32) (am : Int32) (at_ : Int32) (aa : Int32) (wt : Int32) (wy : Int64) (rm : Nat) (ud : Nat) (nu : Nat) (qn : Nat) (qw : Nat) (qo : Int32) (qb : Nat) (qp : Nat) (qa : Int64) (qi : Nat) (oc : Nat) (l0 : Nat) (l1 : Nat) (dm : Nat) (l3 : Nat) (nw : Nat → Int32) (wn : Nat) (mN : Nat) (Ba : Nat → Nat) (We : Nat → Nat) (U : Nat → Bool) (ke : Nat) (lg : KLg) (sv : Nat) (L : LkS) (hdm : dm ≤ 9) (hsv : sv < 2147483648) (hrn : lRn L ≤ 100) (hB9 : ∀ j, Ba j ≤ 9) (hW9 : ∀ j, We j ≤ 9) (hnw : nwX wn mN Ba We U ke lg nw) : skM l yX12_drawsDays cX12_drawsDays 3 none 1 22 0 0 D (skT cI cJ cC cZ cS) [.ref mm] [(mm, .inr (12, mo g (nI ta) (nI pa) (nI pe) pd (nI pb) pp pf pg pn rt (nI (lRn L)) (nI cd) sn (nI il) tk am at_ aa 0 0 (-1) wt wy 0 (nI rm) (nI ud) (nI nu) (Int64.ofNat sv) (nI qn) (nI qw) qo (nI qb) (nI qp) qa (nI qi) (nI oc))), (g 20, .inl (cI, 4, .inl (l4 (nI l0) (nI l1) (nI dm) (nI l3)))), (g 31, .inl (cI, 120, .inl nw))] (skV D (skT cI cJ cC cZ cS) (fun (u : va_W) => ∃ (nw2 : Nat → Int32), nwX wn mN ((kda (lRn L) (sv, Ba, We) dm).2.1) ((kda (lRn L) (sv, Ba, We) dm).2.2) U ke lg nw2 ∧ u = [(mm, .inr (12, mo g (nI ta) (nI pa) (nI pe) pd (nI pb) pp pf pg pn rt (nI (lRn L)) (nI cd) sn (nI il) tk am at_ aa 0 0 (-1) wt wy 0 (nI rm) (nI ud) (nI nu) (Int64.ofNat (kda (lRn L) (sv, Ba, We) dm).1) (nI qn) (nI qw) qo (nI qb) (nI qp) qa (nI qi) (nI oc))), (g 20, .inl (cI, 4, .inl (l4 (nI l0) (nI l1) (nI dm) (nI l3)))), (g 31, .inl (cI, 120, .inl nw2))])) := by
  refine skM_of pf_X12_drawsDays (Nat.le_of_ble_eq_true rfl) ?_
  intro p e s m below meth c A ls E hP hD hl
  refine skE_el E (fun hx hb hr hml hlocks hin hown hts hK hA => ?_)
  have hown : s.vm.findClass RX12 = some m.cls := hown
  have hS : va_S A s.heap s.heap [] := va_S.rf
  have hl : lv_has ls 3 [(0, .ref mm)] := hl
  refine lv_iconst (v := 0) hx hb dX12_drawsDays_0 (by decide) ?_
  refine lv_istore_n (lv' := [(1, .int 0), (0, .ref mm)]) hx hb dX12_drawsDays_1 rfl hl (by decide) rfl (fun ls hl => ?_)
  have lp_1 : ∀ (n_2 : Nat) (i : Nat) (zr : Int64) (zn : Nat → Int32) (SS : KDs) (H : Heap) (locs : List Loc) (ls : Array Slot), dm - i < n_2 → (i ≤ dm) → (SS = kda (lRn L) (sv, Ba, We) i) → (zr = Int64.ofNat SS.1) → ((∀ j, SS.2.1 j ≤ 9) ∧ (∀ j, SS.2.2 j ≤ 9) ∧ SS.1 < 2147483648) → (nwX wn mN SS.2.1 SS.2.2 U ke lg zn) → va_P D vwCl [(mm, .inr (12, mo g (nI ta) (nI pa) (nI pe) pd (nI pb) pp pf pg pn rt (nI (lRn L)) (nI cd) sn (nI il) tk am at_ aa 0 0 (-1) wt wy 0 (nI rm) (nI ud) (nI nu) zr (nI qn) (nI qw) qo (nI qb) (nI qp) qa (nI qi) (nI oc))), (g 20, .inl (cI, 4, .inl (l4 (nI l0) (nI l1) (nI dm) (nI l3)))), (g 31, .inl (cI, 120, .inl zn))] H → va_D A [(mm, .inr (12, mo g (nI ta) (nI pa) (nI pe) pd (nI pb) pp pf pg pn rt (nI (lRn L)) (nI cd) sn (nI il) tk am at_ aa 0 0 (-1) wt wy 0 (nI rm) (nI ud) (nI nu) zr (nI qn) (nI qw) qo (nI qb) (nI qp) qa (nI qi) (nI oc))), (g 20, .inl (cI, 4, .inl (l4 (nI l0) (nI l1) (nI dm) (nI l3)))), (g 31, .inl (cI, 120, .inl zn))] → va_S A s.heap H locs → lv_has ls 3 [(1, .int (nI i)), (0, .ref mm)] → W p l e { frames := 1, cells := 0, slots := 0, locals := 22 } s m ([.ref mm] : List Value).toArray below meth c H locs 0 0 (MQ below (skV D (skT cI cJ cC cZ cS) (fun (u : va_W) => ∃ (nw2 : Nat → Int32), nwX wn mN ((kda (lRn L) (sv, Ba, We) dm).2.1) ((kda (lRn L) (sv, Ba, We) dm).2.2) U ke lg nw2 ∧ u = [(mm, .inr (12, mo g (nI ta) (nI pa) (nI pe) pd (nI pb) pp pf pg pn rt (nI (lRn L)) (nI cd) sn (nI il) tk am at_ aa 0 0 (-1) wt wy 0 (nI rm) (nI ud) (nI nu) (Int64.ofNat (kda (lRn L) (sv, Ba, We) dm).1) (nI qn) (nI qw) qo (nI qb) (nI qp) qa (nI qi) (nI oc))), (g 20, .inl (cI, 4, .inl (l4 (nI l0) (nI l1) (nI dm) (nI l3)))), (g 31, .inl (cI, 120, .inl nw2))]) A) ([.ref mm] : List Value).toArray s 0 0 A) (F0 m 2 ls []) := by
    intro n_2
    induction n_2 with
    | zero => intro i zr zn SS H locs ls hm; exact absurd hm (Nat.not_lt_zero _)
    | succ n_2 ih_lp_1 =>
      intro i zr zn SS H locs ls hm hi hSS hzr h99 hzn hP hD hS hl
      refine lv_iload_n hx hb dX12_drawsDays_2 rfl (lv_at hl 0 rfl) ?_
      refine lv_aload_n hx hb dX12_drawsDays_3 rfl (lv_at hl 1 rfl) ?_
      refine sk_Vi (q0 := 0) (n := 0) (rest := [.int (nI i)]) (wr := fmR om_3_6 _) ⟨hx, hb, hml, hown, hts⟩ hl.1 (c_m_dayMany l D cI cJ cC cZ cS mm g ta pa pe pd pb pp pf pg pn rt (nI (lRn L)) cd sn il tk am at_ aa 0 0 (-1) wt wy 0 rm ud nu zr qn qw qo qb qp qa qi oc l0 l1 dm l3) w_7_98 w_7_100 w_0_69 w_1_14 w_7_101 hd_X12_dayMany_0 ⟨⟨(Nat.le_of_ble_eq_true rfl), (Nat.le_of_ble_eq_true rfl)⟩, (Nat.le_of_ble_eq_true rfl), (Nat.le_of_ble_eq_true rfl)⟩ hK hP hD hS hA (fmT om_3_6 0) (fmF om_3_6 0) (fm_C1 rfl rfl) (fm_R rfl rfl) (fm_nT om_3_6 0) (fm_nF om_3_6 0) (fm_di om_3_6 0) rfl rfl rfl rfl (Nat.le_of_ble_eq_true rfl) dX12_drawsDays_4 (fun r_3 u H locs hw hP hD hS => ?_)
      refine anE hw (fun er_5 eu_4 => ?_)
      clear hw
      subst er_5
      refine o_mgE (ws' := [(mm, .inr (12, mo g (nI ta) (nI pa) (nI pe) pd (nI pb) pp pf pg pn rt (nI (lRn L)) (nI cd) sn (nI il) tk am at_ aa 0 0 (-1) wt wy 0 (nI rm) (nI ud) (nI nu) zr (nI qn) (nI qw) qo (nI qb) (nI qp) qa (nI qi) (nI oc))), (g 20, .inl (cI, 4, .inl (l4 (nI l0) (nI l1) (nI dm) (nI l3)))), (g 31, .inl (cI, 120, .inl zn))]) eu_4 hP hD rfl (fun hP hD => ?_)
      refine lv_icmp_ge (tgt := 91) hx hb dX12_drawsDays_7 (by decide) (fun c_6 => ?_) (fun c_6 => ?_)
      · have c_6 : dm ≤ i := (nle dm i (by omega) (by omega)).mp c_6
        subst hzr
        obtain rfl : dm = i := by omega
        subst hSS
        exact sk_vret hx hb hr hlocks hK hP hD hS (⟨zn, hzn, rfl⟩) (Nat.le_of_ble_eq_true rfl) (Nat.le_of_ble_eq_true rfl) dX12_drawsDays_91
      · have c_6 : ¬ (dm ≤ i) := fun h => c_6 ((nle dm i (by omega) (by omega)).mpr h)
        refine lv_iconst (v := 2) hx hb dX12_drawsDays_10 (by decide) ?_
        refine lv_iconst (v := 3) hx hb dX12_drawsDays_11 (by decide) ?_
        refine lv_iload_n hx hb dX12_drawsDays_12 rfl (lv_at hl 0 rfl) ?_
        refine lv_imul hx hb dX12_drawsDays_13 ?_
        refine sk_top (nI (3 * i)) (nmul 3 i) ?_
        refine lv_iadd hx hb dX12_drawsDays_14 ?_
        refine sk_top (nI (2 + (3 * i))) (nI_add 2 (3 * i)) ?_
        refine lv_istore_n (lv' := [(2, .int (nI (2 + (3 * i)))), (1, .int (nI i)), (0, .ref mm)]) hx hb dX12_drawsDays_15 rfl hl (by decide) rfl (fun ls hl => ?_)
        subst hzr
        have hw9 := h99.2.1 i
        refine lv_aload_n hx hb dX12_drawsDays_16 rfl (lv_at hl 2 rfl) ?_
        refine lv_ldc2 (v := 100) hx hb hown (hts _ w_8_154) dX12_drawsDays_17 ?_
        refine sk_topl (Int64.ofNat 100) rfl ?_
        refine sk_Vl (q0 := 0) (n := 1) (rest := []) (wr := fmR om_3_4 _) ⟨hx, hb, hml, hown, hts⟩ hl.1 (c_nm_drawOf l D cI cJ cC cZ cS mm g ta pa pe pd pb pp pf pg pn rt cd sn il tk am at_ aa wt wy rm ud nu qn qw qo qb qp qa qi oc SS.1 L 100 (by omega) (by omega) (by omega)) w_8_155 w_8_157 w_0_109 w_1_14 w_8_158 hd_X12_drawOf_1 ⟨⟨(Nat.le_of_ble_eq_true rfl), (Nat.le_of_ble_eq_true rfl)⟩, (Nat.le_of_ble_eq_true rfl), (Nat.le_of_ble_eq_true rfl)⟩ hK hP hD hS hA (fmT om_3_4 0) (fmF om_3_4 0) (fm_C1 rfl rfl) (fm_R rfl rfl) (fm_nT om_3_4 0) (fm_nF om_3_4 0) (fm_di om_3_4 0) rfl rfl rfl rfl (Nat.le_of_ble_eq_true rfl) dX12_drawsDays_20 (fun r_7 u H locs hw hP hD hS => ?_)
        refine anE hw (fun er_9 eu_8 => ?_)
        clear hw
        subst er_9
        refine o_mgE (ws' := [(mm, .inr (12, mo g (nI ta) (nI pa) (nI pe) pd (nI pb) pp pf pg pn rt (nI (lRn L)) (nI cd) sn (nI il) tk am at_ aa 0 0 (-1) wt wy 0 (nI rm) (nI ud) (nI nu) (Int64.ofNat (kdr SS.1)) (nI qn) (nI qw) qo (nI qb) (nI qp) qa (nI qi) (nI oc))), (g 20, .inl (cI, 4, .inl (l4 (nI l0) (nI l1) (nI dm) (nI l3)))), (g 31, .inl (cI, 120, .inl zn))]) eu_8 hP hD rfl (fun hP hD => ?_)
        have hv_10 := kdv_lt (x := SS.1) (m := 100) (by decide)
        refine lv_aload_n hx hb dX12_drawsDays_23 rfl (lv_at hl 2 rfl) ?_
        refine sk_get (v := .int (nI (lRn L))) (C := RX12) (T := TX12) (N := 92) hx hb hts inlX12 hown hK hP 0 rfl rfl 23 (by decide) w_5_178 rfl dX12_drawsDays_24 ?_
        refine lv_i2l hx hb dX12_drawsDays_27 rfl ?_
        refine W.lcmp hx hb dX12_drawsDays_28 ?_
        refine lv_if_ge (tgt := 71) hx hb dX12_drawsDays_29 (by decide) (fun c_11 => ?_) (fun c_11 => ?_)
        · have hr_12 : ¬ kdv SS.1 100 < lRn L := Nat.not_lt.mpr ((kcmp_ge (by omega) (by omega)).mp (by rw [← kx_i2l (show lRn L < 2147483648 by omega)]; exact c_11))
          refine lv_aload_n hx hb dX12_drawsDays_71 rfl (lv_at hl 2 rfl) ?_
          refine sk_get (v := .ref (g 31)) (C := RX12) (T := TX12) (N := 92) hx hb hts inlX12 hown hK hP 0 rfl rfl 31 (by decide) w_5_186 rfl dX12_drawsDays_72 ?_
          refine lv_iload_n hx hb dX12_drawsDays_75 rfl (lv_at hl 0 rfl) ?_
          refine lv_aload_n hx hb dX12_drawsDays_76 rfl (lv_at hl 2 rfl) ?_
          refine lv_ldc2 (v := 10) hx hb hown (hts _ w_7_171) dX12_drawsDays_77 ?_
          have hkd9 := kdr_lt SS.1
          refine sk_topl (Int64.ofNat 10) rfl ?_
          refine sk_Vl (q0 := 0) (n := 1) (rest := [.int (nI (2 + (3 * i))), .ref (g 31)]) (wr := fmR om_3_4 _) ⟨hx, hb, hml, hown, hts⟩ hl.1 (c_nm_drawOf l D cI cJ cC cZ cS mm g ta pa pe pd pb pp pf pg pn rt cd sn il tk am at_ aa wt wy rm ud nu qn qw qo qb qp qa qi oc (kdr SS.1) L 10 (by omega) (by omega) (by omega)) w_8_155 w_8_157 w_0_109 w_1_14 w_8_158 hd_X12_drawOf_1 ⟨⟨(Nat.le_of_ble_eq_true rfl), (Nat.le_of_ble_eq_true rfl)⟩, (Nat.le_of_ble_eq_true rfl), (Nat.le_of_ble_eq_true rfl)⟩ hK hP hD hS hA (fmT om_3_4 0) (fmF om_3_4 0) (fm_C1 rfl rfl) (fm_R rfl rfl) (fm_nT om_3_4 0) (fm_nF om_3_4 0) (fm_di om_3_4 0) rfl rfl rfl rfl (Nat.le_of_ble_eq_true rfl) dX12_drawsDays_80 (fun r_13 u H locs hw hP hD hS => ?_)
          refine anE hw (fun er_15 eu_14 => ?_)
          clear hw
          subst er_15
          refine o_mgE (ws' := [(mm, .inr (12, mo g (nI ta) (nI pa) (nI pe) pd (nI pb) pp pf pg pn rt (nI (lRn L)) (nI cd) sn (nI il) tk am at_ aa 0 0 (-1) wt wy 0 (nI rm) (nI ud) (nI nu) (Int64.ofNat (kdr (kdr SS.1))) (nI qn) (nI qw) qo (nI qb) (nI qp) qa (nI qi) (nI oc))), (g 20, .inl (cI, 4, .inl (l4 (nI l0) (nI l1) (nI dm) (nI l3)))), (g 31, .inl (cI, 120, .inl zn))]) eu_14 hP hD rfl (fun hP hD => ?_)
          have hv_16 := kdv_lt (x := kdr SS.1) (m := 10) (by decide)
          refine lv_l2i hx hb dX12_drawsDays_83 rfl ?_
          refine sk_top (nI (kdv (kdr SS.1) 10)) (kl2i (by omega)) ?_
          refine sk_iastE (k := (2 + (3 * i))) (x := (nI (kdv (kdr SS.1) 10))) (ws' := fun f_17 => [(mm, .inr (12, mo g (nI ta) (nI pa) (nI pe) pd (nI pb) pp pf pg pn rt (nI (lRn L)) (nI cd) sn (nI il) tk am at_ aa 0 0 (-1) wt wy 0 (nI rm) (nI ud) (nI nu) (Int64.ofNat (kdr (kdr SS.1))) (nI qn) (nI qw) qo (nI qb) (nI qp) qa (nI qi) (nI oc))), (g 20, .inl (cI, 4, .inl (l4 (nI l0) (nI l1) (nI dm) (nI l3)))), (g 31, .inl (cI, 120, .inl f_17))]) hx hb hK hP hD hS 2 0 rfl rfl (by omega) (by omega) (fun _ => rfl) dX12_drawsDays_84 (fun f_17 H locs ef_18 hP hD hS => ?_)
          have hN_19 : nwX wn mN (kds (lRn L) i SS).2.1 (kds (lRn L) i SS).2.2 U ke lg f_17 := (by unfold kds; rw [if_neg hr_12]; exact nwX_upb hzn ef_18 (by omega))
          refine lv_iinc (v := nI (i + 1)) (lv' := [(1, .int (nI (i + 1))), (2, .int (nI (2 + (3 * i)))), (0, .ref mm)]) hx hb dX12_drawsDays_85 hl (k := 1) rfl (ninc i 1 (by decide)) (by decide) rfl (fun ls hl => ?_)
          refine lv_goto (tgt := 2) hx hb dX12_drawsDays_88 (by decide) ?_
          exact ih_lp_1 (i + 1) (Int64.ofNat (kdr (kdr SS.1))) f_17 (kda (lRn L) (sv, Ba, We) (i + 1)) _ _ _ (by omega) (by omega) rfl (by rw [kda_s, ← hSS, kds_2 hr_12]) (by rw [kda_s, ← hSS]; exact kds_9 h99.1 h99.2.1 h99.2.2) (by rw [kda_s, ← hSS]; exact hN_19) hP hD hS (lv_sub hl [0, 2] rfl)
        · have hr_20 : kdv SS.1 100 < lRn L := Nat.lt_of_not_le (fun hq => c_11 (by rw [kx_i2l (show lRn L < 2147483648 by omega)]; exact (kcmp_ge (by omega) (by omega)).mpr hq))
          refine lv_aload_n hx hb dX12_drawsDays_32 rfl (lv_at hl 2 rfl) ?_
          refine sk_get (v := .ref (g 31)) (C := RX12) (T := TX12) (N := 92) hx hb hts inlX12 hown hK hP 0 rfl rfl 31 (by decide) w_5_186 rfl dX12_drawsDays_33 ?_
          refine lv_iload_n hx hb dX12_drawsDays_36 rfl (lv_at hl 0 rfl) ?_
          refine lv_iconst (v := 1) hx hb dX12_drawsDays_37 (by decide) ?_
          refine lv_iadd hx hb dX12_drawsDays_38 ?_
          refine sk_top (nI (2 + (3 * i) + 1)) (nI_add (2 + (3 * i)) 1) ?_
          refine lv_aload_n hx hb dX12_drawsDays_39 rfl (lv_at hl 2 rfl) ?_
          refine sk_get (v := .ref (g 31)) (C := RX12) (T := TX12) (N := 92) hx hb hts inlX12 hown hK hP 0 rfl rfl 31 (by decide) w_5_186 rfl dX12_drawsDays_40 ?_
          refine lv_iload_n hx hb dX12_drawsDays_43 rfl (lv_at hl 0 rfl) ?_
          refine lv_iconst (v := 1) hx hb dX12_drawsDays_44 (by decide) ?_
          refine lv_iadd hx hb dX12_drawsDays_45 ?_
          refine sk_top (nI (2 + (3 * i) + 1)) (nI_add (2 + (3 * i)) 1) ?_
          refine va_iald hx hb hK.1 hP 2 0 rfl rfl (vin (2 + (3 * i) + 1) 120 (by omega) (by omega)) dX12_drawsDays_46 ?_
          refine sk_top (nI (SS.2.2 i)) (by rw [nI_clamp (by omega)]; exact nwX_w hzn (by omega)) ?_
          refine lv_bipush (v := 9) hx hb dX12_drawsDays_47 (by decide) ?_
          refine lv_icmp_ne (tgt := 57) hx hb dX12_drawsDays_49 (by decide) (fun c_21 => ?_) (fun c_21 => ?_)
          · have c_21 : ¬ (SS.2.2 i = 9) := fun h => c_21 ((neq (SS.2.2 i) 9 (by omega) (by omega)).mpr h)
            refine lv_aload_n hx hb dX12_drawsDays_57 rfl (lv_at hl 2 rfl) ?_
            refine sk_get (v := .ref (g 31)) (C := RX12) (T := TX12) (N := 92) hx hb hts inlX12 hown hK hP 0 rfl rfl 31 (by decide) w_5_186 rfl dX12_drawsDays_58 ?_
            refine lv_iload_n hx hb dX12_drawsDays_61 rfl (lv_at hl 0 rfl) ?_
            refine lv_iconst (v := 1) hx hb dX12_drawsDays_62 (by decide) ?_
            refine lv_iadd hx hb dX12_drawsDays_63 ?_
            refine sk_top (nI (2 + (3 * i) + 1)) (nI_add (2 + (3 * i)) 1) ?_
            refine va_iald hx hb hK.1 hP 2 0 rfl rfl (vin (2 + (3 * i) + 1) 120 (by omega) (by omega)) dX12_drawsDays_64 ?_
            refine sk_top (nI (SS.2.2 i)) (by rw [nI_clamp (by omega)]; exact nwX_w hzn (by omega)) ?_
            refine lv_iconst (v := 1) hx hb dX12_drawsDays_65 (by decide) ?_
            refine lv_iadd hx hb dX12_drawsDays_66 ?_
            refine sk_top (nI (SS.2.2 i + 1)) (nI_add (SS.2.2 i) 1) ?_
            refine sk_iastE (k := (2 + (3 * i) + 1)) (x := (nI (SS.2.2 i + 1))) (ws' := fun f_22 => [(mm, .inr (12, mo g (nI ta) (nI pa) (nI pe) pd (nI pb) pp pf pg pn rt (nI (lRn L)) (nI cd) sn (nI il) tk am at_ aa 0 0 (-1) wt wy 0 (nI rm) (nI ud) (nI nu) (Int64.ofNat (kdr SS.1)) (nI qn) (nI qw) qo (nI qb) (nI qp) qa (nI qi) (nI oc))), (g 20, .inl (cI, 4, .inl (l4 (nI l0) (nI l1) (nI dm) (nI l3)))), (g 31, .inl (cI, 120, .inl f_22))]) hx hb hK hP hD hS 2 0 rfl rfl (by omega) (by omega) (fun _ => rfl) dX12_drawsDays_67 (fun f_22 H locs ef_23 hP hD hS => ?_)
            have hN_24 : nwX wn mN (kds (lRn L) i SS).2.1 (kds (lRn L) i SS).2.2 U ke lg f_22 := (by unfold kds; rw [if_pos hr_20]; exact nwX_upw (d := i) (v := min (SS.2.2 i + 1) 9) hzn (ef_23.trans (congrArg (fun k : Nat => upd zn (2 + 3 * i + 1) (nI k)) (show SS.2.2 i + 1 = min (SS.2.2 i + 1) 9 by omega))) (by omega))
            refine lv_goto (tgt := 85) hx hb dX12_drawsDays_68 (by decide) ?_
            refine lv_iinc (v := nI (i + 1)) (lv' := [(1, .int (nI (i + 1))), (2, .int (nI (2 + (3 * i)))), (0, .ref mm)]) hx hb dX12_drawsDays_85 hl (k := 1) rfl (ninc i 1 (by decide)) (by decide) rfl (fun ls hl => ?_)
            refine lv_goto (tgt := 2) hx hb dX12_drawsDays_88 (by decide) ?_
            exact ih_lp_1 (i + 1) (Int64.ofNat (kdr SS.1)) f_22 (kda (lRn L) (sv, Ba, We) (i + 1)) _ _ _ (by omega) (by omega) rfl (by rw [kda_s, ← hSS, kds_1 hr_20]) (by rw [kda_s, ← hSS]; exact kds_9 h99.1 h99.2.1 h99.2.2) (by rw [kda_s, ← hSS]; exact hN_24) hP hD hS (lv_sub hl [0, 2] rfl)
          · have c_21 : SS.2.2 i = 9 := (neq (SS.2.2 i) 9 (by omega) (by omega)).mp c_21
            refine lv_bipush (v := 9) hx hb dX12_drawsDays_52 (by decide) ?_
            refine lv_goto (tgt := 67) hx hb dX12_drawsDays_54 (by decide) ?_
            refine sk_iastE (k := (2 + (3 * i) + 1)) (x := 9) (ws' := fun f_25 => [(mm, .inr (12, mo g (nI ta) (nI pa) (nI pe) pd (nI pb) pp pf pg pn rt (nI (lRn L)) (nI cd) sn (nI il) tk am at_ aa 0 0 (-1) wt wy 0 (nI rm) (nI ud) (nI nu) (Int64.ofNat (kdr SS.1)) (nI qn) (nI qw) qo (nI qb) (nI qp) qa (nI qi) (nI oc))), (g 20, .inl (cI, 4, .inl (l4 (nI l0) (nI l1) (nI dm) (nI l3)))), (g 31, .inl (cI, 120, .inl f_25))]) hx hb hK hP hD hS 2 0 rfl rfl (by omega) (by omega) (fun _ => rfl) dX12_drawsDays_67 (fun f_25 H locs ef_26 hP hD hS => ?_)
            have hN_27 : nwX wn mN (kds (lRn L) i SS).2.1 (kds (lRn L) i SS).2.2 U ke lg f_25 := (by unfold kds; rw [if_pos hr_20]; exact nwX_upw (d := i) (v := min (SS.2.2 i + 1) 9) hzn (ef_26.trans (congrArg (fun k : Nat => upd zn (2 + 3 * i + 1) (nI k)) (show 9 = min (SS.2.2 i + 1) 9 by omega))) (by omega))
            refine lv_goto (tgt := 85) hx hb dX12_drawsDays_68 (by decide) ?_
            refine lv_iinc (v := nI (i + 1)) (lv' := [(1, .int (nI (i + 1))), (2, .int (nI (2 + (3 * i)))), (0, .ref mm)]) hx hb dX12_drawsDays_85 hl (k := 1) rfl (ninc i 1 (by decide)) (by decide) rfl (fun ls hl => ?_)
            refine lv_goto (tgt := 2) hx hb dX12_drawsDays_88 (by decide) ?_
            exact ih_lp_1 (i + 1) (Int64.ofNat (kdr SS.1)) f_25 (kda (lRn L) (sv, Ba, We) (i + 1)) _ _ _ (by omega) (by omega) rfl (by rw [kda_s, ← hSS, kds_1 hr_20]) (by rw [kda_s, ← hSS]; exact kds_9 h99.1 h99.2.1 h99.2.2) (by rw [kda_s, ← hSS]; exact hN_27) hP hD hS (lv_sub hl [0, 2] rfl)
  exact lp_1 (dm - 0 + 1) 0 (Int64.ofNat sv) nw (sv, Ba, We) _ _ _ (Nat.lt_succ_self _) (by omega) rfl rfl ⟨hB9, hW9, hsv⟩ hnw hP hD hS (lv_sub hl [0, 1] rfl)

