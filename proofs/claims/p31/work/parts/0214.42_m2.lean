theorem dg_X12_codesTell_0_0 : bqL cX12_codesTell 0 [(0, [42]), (1, [27]), (2, [4]), (3, [160, 0, 7]), (10, [3]), (11, [181, 0, 242]), (14, [42]), (15, [3]), (16, [181, 1, 64]), (19, [42]), (20, [180, 0, 54]), (23, [6]), (24, [27]), (25, [96]), (26, [46]), (27, [62]), (28, [29]), (29, [42]), (30, [180, 0, 57]), (33, [6]), (34, [27]), (35, [96]), (36, [46]), (37, [162, 0, 73]), (110, [42]), (111, [180, 0, 186]), (114, [3]), (115, [47]), (116, [173]), (40, [42]), (41, [180, 0, 60]), (44, [17, 6, 64]), (47, [29]), (48, [96]), (49, [46]), (50, [54, 4]), (52, [21, 4]), (54, [17, 3, 232]), (57, [161, 0, 17]), (74, [21, 4])] = true := by decide +kernel
theorem dX12_codesTell_0 : decode cX12_codesTell 0 = .ok (.aload_n 0, 1) := q_aload_n0 (bat_get dg_X12_codesTell_0_0 0 rfl rfl)
theorem dX12_codesTell_1 : decode cX12_codesTell 1 = .ok (.iload_n 1, 1) := q_iload_n1 (bat_get dg_X12_codesTell_0_0 1 rfl rfl)
theorem dX12_codesTell_2 : decode cX12_codesTell 2 = .ok (.iconst 1, 1) := q_iconst1 (bat_get dg_X12_codesTell_0_0 2 rfl rfl)
theorem dX12_codesTell_3 : decode cX12_codesTell 3 = .ok (.if_icmp .ne 7, 3) := q_if_icmp_ne (bat_get dg_X12_codesTell_0_0 3 rfl rfl) rfl
theorem dX12_codesTell_10 : decode cX12_codesTell 10 = .ok (.iconst 0, 1) := q_iconst0 (bat_get dg_X12_codesTell_0_0 4 rfl rfl)
theorem dX12_codesTell_11 : decode cX12_codesTell 11 = .ok (.putfield 242, 3) := q_putfield (bat_get dg_X12_codesTell_0_0 5 rfl rfl) rfl
theorem dX12_codesTell_14 : decode cX12_codesTell 14 = .ok (.aload_n 0, 1) := q_aload_n0 (bat_get dg_X12_codesTell_0_0 6 rfl rfl)
theorem dX12_codesTell_15 : decode cX12_codesTell 15 = .ok (.iconst 0, 1) := q_iconst0 (bat_get dg_X12_codesTell_0_0 7 rfl rfl)
theorem dX12_codesTell_16 : decode cX12_codesTell 16 = .ok (.putfield 320, 3) := q_putfield (bat_get dg_X12_codesTell_0_0 8 rfl rfl) rfl
theorem dX12_codesTell_19 : decode cX12_codesTell 19 = .ok (.aload_n 0, 1) := q_aload_n0 (bat_get dg_X12_codesTell_0_0 9 rfl rfl)
theorem dX12_codesTell_20 : decode cX12_codesTell 20 = .ok (.getfield 54, 3) := q_getfield (bat_get dg_X12_codesTell_0_0 10 rfl rfl) rfl
theorem dX12_codesTell_23 : decode cX12_codesTell 23 = .ok (.iconst 3, 1) := q_iconst3 (bat_get dg_X12_codesTell_0_0 11 rfl rfl)
theorem dX12_codesTell_24 : decode cX12_codesTell 24 = .ok (.iload_n 1, 1) := q_iload_n1 (bat_get dg_X12_codesTell_0_0 12 rfl rfl)
theorem dX12_codesTell_25 : decode cX12_codesTell 25 = .ok (.iadd, 1) := q_iadd (bat_get dg_X12_codesTell_0_0 13 rfl rfl)
theorem dX12_codesTell_26 : decode cX12_codesTell 26 = .ok (.iaload, 1) := q_iaload (bat_get dg_X12_codesTell_0_0 14 rfl rfl)
theorem dX12_codesTell_27 : decode cX12_codesTell 27 = .ok (.istore_n 3, 1) := q_istore_n3 (bat_get dg_X12_codesTell_0_0 15 rfl rfl)
theorem dX12_codesTell_28 : decode cX12_codesTell 28 = .ok (.iload_n 3, 1) := q_iload_n3 (bat_get dg_X12_codesTell_0_0 16 rfl rfl)
theorem dX12_codesTell_29 : decode cX12_codesTell 29 = .ok (.aload_n 0, 1) := q_aload_n0 (bat_get dg_X12_codesTell_0_0 17 rfl rfl)
theorem dX12_codesTell_30 : decode cX12_codesTell 30 = .ok (.getfield 57, 3) := q_getfield (bat_get dg_X12_codesTell_0_0 18 rfl rfl) rfl
theorem dX12_codesTell_33 : decode cX12_codesTell 33 = .ok (.iconst 3, 1) := q_iconst3 (bat_get dg_X12_codesTell_0_0 19 rfl rfl)
theorem dX12_codesTell_34 : decode cX12_codesTell 34 = .ok (.iload_n 1, 1) := q_iload_n1 (bat_get dg_X12_codesTell_0_0 20 rfl rfl)
theorem dX12_codesTell_35 : decode cX12_codesTell 35 = .ok (.iadd, 1) := q_iadd (bat_get dg_X12_codesTell_0_0 21 rfl rfl)
theorem dX12_codesTell_36 : decode cX12_codesTell 36 = .ok (.iaload, 1) := q_iaload (bat_get dg_X12_codesTell_0_0 22 rfl rfl)
theorem dX12_codesTell_37 : decode cX12_codesTell 37 = .ok (.if_icmp .ge 73, 3) := q_if_icmp_ge (bat_get dg_X12_codesTell_0_0 23 rfl rfl) rfl
theorem dX12_codesTell_110 : decode cX12_codesTell 110 = .ok (.aload_n 0, 1) := q_aload_n0 (bat_get dg_X12_codesTell_0_0 24 rfl rfl)
theorem dX12_codesTell_111 : decode cX12_codesTell 111 = .ok (.getfield 186, 3) := q_getfield (bat_get dg_X12_codesTell_0_0 25 rfl rfl) rfl
theorem dX12_codesTell_114 : decode cX12_codesTell 114 = .ok (.iconst 0, 1) := q_iconst0 (bat_get dg_X12_codesTell_0_0 26 rfl rfl)
theorem dX12_codesTell_115 : decode cX12_codesTell 115 = .ok (.laload, 1) := q_laload (bat_get dg_X12_codesTell_0_0 27 rfl rfl)
theorem dX12_codesTell_116 : decode cX12_codesTell 116 = .ok (.lreturn, 1) := q_lreturn (bat_get dg_X12_codesTell_0_0 28 rfl rfl)
theorem dX12_codesTell_40 : decode cX12_codesTell 40 = .ok (.aload_n 0, 1) := q_aload_n0 (bat_get dg_X12_codesTell_0_0 29 rfl rfl)
theorem dX12_codesTell_41 : decode cX12_codesTell 41 = .ok (.getfield 60, 3) := q_getfield (bat_get dg_X12_codesTell_0_0 30 rfl rfl) rfl
theorem dX12_codesTell_44 : decode cX12_codesTell 44 = .ok (.sipush 1600, 3) := q_sipush (bat_get dg_X12_codesTell_0_0 31 rfl rfl) rfl
theorem dX12_codesTell_47 : decode cX12_codesTell 47 = .ok (.iload_n 3, 1) := q_iload_n3 (bat_get dg_X12_codesTell_0_0 32 rfl rfl)
theorem dX12_codesTell_48 : decode cX12_codesTell 48 = .ok (.iadd, 1) := q_iadd (bat_get dg_X12_codesTell_0_0 33 rfl rfl)
theorem dX12_codesTell_49 : decode cX12_codesTell 49 = .ok (.iaload, 1) := q_iaload (bat_get dg_X12_codesTell_0_0 34 rfl rfl)
theorem dX12_codesTell_50 : decode cX12_codesTell 50 = .ok (.istore 4, 2) := q_istore (bat_get dg_X12_codesTell_0_0 35 rfl rfl)
theorem dX12_codesTell_52 : decode cX12_codesTell 52 = .ok (.iload 4, 2) := q_iload (bat_get dg_X12_codesTell_0_0 36 rfl rfl)
theorem dX12_codesTell_54 : decode cX12_codesTell 54 = .ok (.sipush 1000, 3) := q_sipush (bat_get dg_X12_codesTell_0_0 37 rfl rfl) rfl
theorem dX12_codesTell_57 : decode cX12_codesTell 57 = .ok (.if_icmp .lt 17, 3) := q_if_icmp_lt (bat_get dg_X12_codesTell_0_0 38 rfl rfl) rfl
theorem dX12_codesTell_74 : decode cX12_codesTell 74 = .ok (.iload 4, 2) := q_iload (bat_get dg_X12_codesTell_0_0 39 rfl rfl)
theorem dg_X12_codesTell_60_76 : bqL cX12_codesTell 60 [(16, [16, 40]), (18, [161, 0, 20]), (38, [42]), (39, [21, 4]), (41, [182, 1, 75]), (44, [132, 3, 1]), (47, [167, 255, 177]), (21, [42]), (22, [42]), (23, [21, 4]), (25, [16, 40]), (27, [100]), (28, [28]), (29, [182, 1, 71]), (32, [182, 1, 67]), (35, [167, 0, 9]), (0, [42]), (1, [21, 4]), (3, [17, 3, 232]), (6, [100]), (7, [133]), (8, [182, 1, 67]), (11, [167, 0, 33])] = true := by decide +kernel
theorem dX12_codesTell_76 : decode cX12_codesTell 76 = .ok (.bipush 40, 2) := q_bipush (bat_get dg_X12_codesTell_60_76 0 rfl rfl) rfl
theorem dX12_codesTell_78 : decode cX12_codesTell 78 = .ok (.if_icmp .lt 20, 3) := q_if_icmp_lt (bat_get dg_X12_codesTell_60_76 1 rfl rfl) rfl
theorem dX12_codesTell_98 : decode cX12_codesTell 98 = .ok (.aload_n 0, 1) := q_aload_n0 (bat_get dg_X12_codesTell_60_76 2 rfl rfl)
theorem dX12_codesTell_99 : decode cX12_codesTell 99 = .ok (.iload 4, 2) := q_iload (bat_get dg_X12_codesTell_60_76 3 rfl rfl)
theorem dX12_codesTell_101 : decode cX12_codesTell 101 = .ok (.invokevirtual 331, 3) := q_invokevirtual (bat_get dg_X12_codesTell_60_76 4 rfl rfl) rfl
theorem dX12_codesTell_104 : decode cX12_codesTell 104 = .ok (.iinc 3 1, 3) := q_iinc (bat_get dg_X12_codesTell_60_76 5 rfl rfl) rfl
theorem dX12_codesTell_107 : decode cX12_codesTell 107 = .ok (.goto (-79), 3) := q_goto (bat_get dg_X12_codesTell_60_76 6 rfl rfl) rfl
theorem dX12_codesTell_81 : decode cX12_codesTell 81 = .ok (.aload_n 0, 1) := q_aload_n0 (bat_get dg_X12_codesTell_60_76 7 rfl rfl)
theorem dX12_codesTell_82 : decode cX12_codesTell 82 = .ok (.aload_n 0, 1) := q_aload_n0 (bat_get dg_X12_codesTell_60_76 8 rfl rfl)
theorem dX12_codesTell_83 : decode cX12_codesTell 83 = .ok (.iload 4, 2) := q_iload (bat_get dg_X12_codesTell_60_76 9 rfl rfl)
theorem dX12_codesTell_85 : decode cX12_codesTell 85 = .ok (.bipush 40, 2) := q_bipush (bat_get dg_X12_codesTell_60_76 10 rfl rfl) rfl
theorem dX12_codesTell_87 : decode cX12_codesTell 87 = .ok (.isub, 1) := q_isub (bat_get dg_X12_codesTell_60_76 11 rfl rfl)
theorem dX12_codesTell_88 : decode cX12_codesTell 88 = .ok (.iload_n 2, 1) := q_iload_n2 (bat_get dg_X12_codesTell_60_76 12 rfl rfl)
theorem dX12_codesTell_89 : decode cX12_codesTell 89 = .ok (.invokevirtual 327, 3) := q_invokevirtual (bat_get dg_X12_codesTell_60_76 13 rfl rfl) rfl
theorem dX12_codesTell_92 : decode cX12_codesTell 92 = .ok (.invokevirtual 323, 3) := q_invokevirtual (bat_get dg_X12_codesTell_60_76 14 rfl rfl) rfl
theorem dX12_codesTell_95 : decode cX12_codesTell 95 = .ok (.goto 9, 3) := q_goto (bat_get dg_X12_codesTell_60_76 15 rfl rfl) rfl
theorem dX12_codesTell_60 : decode cX12_codesTell 60 = .ok (.aload_n 0, 1) := q_aload_n0 (bat_get dg_X12_codesTell_60_76 16 rfl rfl)
theorem dX12_codesTell_61 : decode cX12_codesTell 61 = .ok (.iload 4, 2) := q_iload (bat_get dg_X12_codesTell_60_76 17 rfl rfl)
theorem dX12_codesTell_63 : decode cX12_codesTell 63 = .ok (.sipush 1000, 3) := q_sipush (bat_get dg_X12_codesTell_60_76 18 rfl rfl) rfl
theorem dX12_codesTell_66 : decode cX12_codesTell 66 = .ok (.isub, 1) := q_isub (bat_get dg_X12_codesTell_60_76 19 rfl rfl)
theorem dX12_codesTell_67 : decode cX12_codesTell 67 = .ok (.i2l, 1) := q_i2l (bat_get dg_X12_codesTell_60_76 20 rfl rfl)
theorem dX12_codesTell_68 : decode cX12_codesTell 68 = .ok (.invokevirtual 323, 3) := q_invokevirtual (bat_get dg_X12_codesTell_60_76 21 rfl rfl) rfl
theorem dX12_codesTell_71 : decode cX12_codesTell 71 = .ok (.goto 33, 3) := q_goto (bat_get dg_X12_codesTell_60_76 22 rfl rfl) rfl
theorem w_5_185 : (Cond.fieldLink RX12 242 "SameKeeperModel" "textKind" "I") ∈ wsL_law := sk_mem (ck_5 _ (List.mem_of_getElem? (i := 185) rfl)) rfl
theorem w_5_179 : (Cond.fieldLink RX12 54 "SameKeeperModel" "codeFrom" "[I") ∈ wsL_law := sk_mem (ck_5 _ (List.mem_of_getElem? (i := 179) rfl)) rfl
theorem w_5_180 : (Cond.fieldLink RX12 57 "SameKeeperModel" "codeEnd" "[I") ∈ wsL_law := sk_mem (ck_5 _ (List.mem_of_getElem? (i := 180) rfl)) rfl
theorem w_5_181 : (Cond.fieldLink RX12 60 "SameKeeperModel" "codes" "[I") ∈ wsL_law := sk_mem (ck_5 _ (List.mem_of_getElem? (i := 181) rfl)) rfl
theorem w_7_156 : (Cond.methodLink RX12 331 yX12_qJoins) ∈ wsL_law := sk_mem (ck_7 _ (List.mem_of_getElem? (i := 156) rfl)) rfl
theorem w_7_158 : (Cond.instanceMethod yX12_qJoins) ∈ wsL_law := sk_mem (ck_7 _ (List.mem_of_getElem? (i := 158) rfl)) rfl
theorem w_0_80 : (Cond.selects RX12 yX12_qJoins yX12_qJoins) ∈ wsL_law := sk_mem (ck_0 _ (List.mem_of_getElem? (i := 80) rfl)) rfl
theorem w_7_143 : (Cond.methodLink RX12 327 yX12_qPartOf) ∈ wsL_law := sk_mem (ck_7 _ (List.mem_of_getElem? (i := 143) rfl)) rfl
theorem w_7_145 : (Cond.instanceMethod yX12_qPartOf) ∈ wsL_law := sk_mem (ck_7 _ (List.mem_of_getElem? (i := 145) rfl)) rfl
theorem w_0_77 : (Cond.selects RX12 yX12_qPartOf yX12_qPartOf) ∈ wsL_law := sk_mem (ck_0 _ (List.mem_of_getElem? (i := 77) rfl)) rfl
theorem w_7_138 : (Cond.code yX12_codesTell cX12_codesTell 5 (some .long)) ∈ wsL_law := sk_mem (ck_7 _ (List.mem_of_getElem? (i := 138) rfl)) rfl
def om_7_41 : List Bool := true :: false :: false :: false :: false :: false :: true :: []
def om_7_46 : List Bool := true :: false :: false :: false :: true :: true :: false :: []
theorem hd_X12_qJoins_1 : skD yX12_qJoins 1 := by decide +kernel
theorem hd_X12_qPartOf_2 : skD yX12_qPartOf 2 := by decide +kernel
set_option maxHeartbeats 4000000 in
set_option maxRecDepth 100000 in
theorem c_m_codesTell0 (l : Launch) (D : va_G) (cI cJ cC cZ cS : ClassId) (mm : Nat) (g : Nat → Nat) (ta : Nat) (pa : Nat) (pe : Nat) (pd : Int32) (pb : Nat) (pp : Int32) (pf : Int32) (pg : Int32) (pn : Int32) (rt : Int32) (rn : Int32) (cd : Nat) (sn : Int32) (il : Nat) (tk : Int32) (am : Int32) (at_ : Int32) (aa : Int32) (mt_ : Int32) (bh : Nat) (wd : Int32) (wt : Int32) (wy : Int64) (it_ : Nat) (rm : Nat) (ud : Nat) (nu : Nat) (sd : Int64) (qn : Nat) (qw : Nat) (qo : Int32) (qb : Nat) (qp : Nat) (qa : Int64) (qi : Nat) (oc : Nat) (d : Nat) (u0 : Int32) (u1 : Int32) (u2 : Int32) (u4 : Int32) (u5 : Int32) (ca : Nat) (v0 : Int32) (v1 : Int32) (v2 : Int32) (v4 : Int32) (v5 : Int32) (cb : Nat) (cs : Nat → Nat) (nw : Nat → Int32) (pt : Nat → Nat) (ql : Nat → Int64) (hd : d < 9) (hab : ca ≤ cb) (hcb : cb ≤ 1600) (hpv : pv cs (1600 + ca) (cb - ca)) (hcs : ∀ j, cs j ≤ 20000) (hnw : nowOk nw) (hpt : ∀ j, pt j ≤ 9) : skM l yX12_codesTell cX12_codesTell 5 (some .long) 2 50 0 0 D (skT cI cJ cC cZ cS) [.ref mm, .int 0, .int (nI d)] [(mm, .inr (12, mo g (nI ta) (nI pa) (nI pe) pd (nI pb) pp pf pg pn rt rn (nI cd) sn (nI il) tk am at_ aa mt_ (nI bh) wd wt wy (nI it_) (nI rm) (nI ud) (nI nu) sd (nI qn) (nI qw) qo (nI qb) (nI qp) qa (nI qi) (nI oc))), (g 24, .inl (cI, 6, .inl (l6 u0 u1 u2 (nI ca) u4 u5))), (g 25, .inl (cI, 6, .inl (l6 v0 v1 v2 (nI cb) v4 v5))), (g 26, .inl (cI, 3200, .inl (fun j => nI (cs j)))), (g 31, .inl (cI, 120, .inl nw)), (g 46, .inl (cI, 9, .inl (fun j => nI (pt j)))), (g 86, .inl (cJ, 1700, .inr (.inl ql)))] (skL D (skT cI cJ cC cZ cS) (fun (r : Int64) (u : va_W) => ∃ (qp2 : Nat), ∃ (ql2 : Nat → Int64), u = [(mm, .inr (12, mo g (nI ta) (nI pa) (nI pe) pd (nI pb) pp pf pg pn rt rn (nI cd) sn (nI il) 0 am at_ aa mt_ (nI bh) wd wt wy (nI it_) (nI rm) (nI ud) (nI nu) sd (nI qn) (nI qw) qo (nI qb) (nI qp2) qa (nI qi) (nI oc))), (g 24, .inl (cI, 6, .inl (l6 u0 u1 u2 (nI ca) u4 u5))), (g 25, .inl (cI, 6, .inl (l6 v0 v1 v2 (nI cb) v4 v5))), (g 26, .inl (cI, 3200, .inl (fun j => nI (cs j)))), (g 31, .inl (cI, 120, .inl nw)), (g 46, .inl (cI, 9, .inl (fun j => nI (pt j)))), (g 86, .inl (cJ, 1700, .inr (.inl ql2)))])) := by
  refine skM_of pf_X12_codesTell (Nat.le_of_ble_eq_true rfl) ?_
  intro p e s m below meth c A ls E hP hD hl
  refine skE_el E (fun hx hb hr hml hlocks hin hown hts hK hA => ?_)
  have hown : s.vm.findClass RX12 = some m.cls := hown
  have hS : va_S A s.heap s.heap [] := va_S.rf
  have hl : lv_has ls 5 [(0, .ref mm), (1, .int 0), (2, .int (nI d))] := hl
  refine lv_aload_n hx hb dX12_codesTell_0 rfl (lv_at hl 0 rfl) ?_
  refine lv_iload_n hx hb dX12_codesTell_1 rfl (lv_at hl 1 rfl) ?_
  refine lv_iconst (v := 1) hx hb dX12_codesTell_2 (by decide) ?_
  refine lv_icmp_ne (tgt := 10) hx hb dX12_codesTell_3 (by decide) (fun c_1 => ?_) (fun c => absurd c (by decide))
  refine lv_iconst (v := 0) hx hb dX12_codesTell_10 (by decide) ?_
  refine sk_put (ws' := [(mm, .inr (12, mo g (nI ta) (nI pa) (nI pe) pd (nI pb) pp pf pg pn rt rn (nI cd) sn (nI il) 0 am at_ aa mt_ (nI bh) wd wt wy (nI it_) (nI rm) (nI ud) (nI nu) sd (nI qn) (nI qw) qo (nI qb) (nI qp) qa (nI qi) (nI oc))), (g 24, .inl (cI, 6, .inl (l6 u0 u1 u2 (nI ca) u4 u5))), (g 25, .inl (cI, 6, .inl (l6 v0 v1 v2 (nI cb) v4 v5))), (g 26, .inl (cI, 3200, .inl (fun j => nI (cs j)))), (g 31, .inl (cI, 120, .inl nw)), (g 46, .inl (cI, 9, .inl (fun j => nI (pt j)))), (g 86, .inl (cJ, 1700, .inr (.inl ql)))]) (C := RX12) (T := TX12) (N := 92) (v := .int 0) hx hb hts inlX12 tyX12 tyX12_ok nmX12 hown hK hP hD hS 0 rfl rfl 30 (by decide) w_5_185 rfl rfl rfl (Nat.le_of_ble_eq_true rfl) rfl dX12_codesTell_11 (fun H locs hP hD hS => ?_)
  refine lv_aload_n hx hb dX12_codesTell_14 rfl (lv_at hl 0 rfl) ?_
  refine lv_iconst (v := 0) hx hb dX12_codesTell_15 (by decide) ?_
  refine sk_put (ws' := [(mm, .inr (12, mo g (nI ta) (nI pa) (nI pe) pd (nI pb) pp pf pg pn rt rn (nI cd) sn (nI il) 0 am at_ aa mt_ (nI bh) wd wt wy (nI it_) (nI rm) (nI ud) (nI nu) sd (nI qn) (nI qw) qo (nI qb) 0 qa (nI qi) (nI oc))), (g 24, .inl (cI, 6, .inl (l6 u0 u1 u2 (nI ca) u4 u5))), (g 25, .inl (cI, 6, .inl (l6 v0 v1 v2 (nI cb) v4 v5))), (g 26, .inl (cI, 3200, .inl (fun j => nI (cs j)))), (g 31, .inl (cI, 120, .inl nw)), (g 46, .inl (cI, 9, .inl (fun j => nI (pt j)))), (g 86, .inl (cJ, 1700, .inr (.inl ql)))]) (C := RX12) (T := TX12) (N := 92) (v := .int 0) hx hb hts inlX12 tyX12 tyX12_ok nmX12 hown hK hP hD hS 0 rfl rfl 87 (by decide) w_6_2 rfl rfl rfl (Nat.le_of_ble_eq_true rfl) rfl dX12_codesTell_16 (fun H locs hP hD hS => ?_)
  refine lv_aload_n hx hb dX12_codesTell_19 rfl (lv_at hl 0 rfl) ?_
  refine sk_get (v := .ref (g 24)) (C := RX12) (T := TX12) (N := 92) hx hb hts inlX12 hown hK hP 0 rfl rfl 24 (by decide) w_5_179 rfl dX12_codesTell_20 ?_
  refine lv_iconst (v := 3) hx hb dX12_codesTell_23 (by decide) ?_
  refine lv_iload_n hx hb dX12_codesTell_24 rfl (lv_at hl 1 rfl) ?_
  refine lv_iadd hx hb dX12_codesTell_25 ?_
  refine sk_top 3 (by decide) ?_
  refine va_iald hx hb hK.1 hP 1 0 rfl rfl (by unfold vp_in; decide) dX12_codesTell_26 ?_
  refine sk_top (nI ca) rfl ?_
  refine lv_istore_n (lv' := [(3, .int (nI ca)), (0, .ref mm), (1, .int 0), (2, .int (nI d))]) hx hb dX12_codesTell_27 rfl hl (by decide) rfl (fun ls hl => ?_)
  have lp_2 : ∀ (n_3 : Nat) (i : Nat) (zq : Nat) (zl : Nat → Int64) (H : Heap) (locs : List Loc) (ls : Array Slot), cb - i < n_3 → (ca ≤ i) → (i ≤ cb) → (zq ≤ i - ca) → (zq = dk (fun j => cs (1600 + ca + j)) (i - ca)) → va_P D vwCl [(mm, .inr (12, mo g (nI ta) (nI pa) (nI pe) pd (nI pb) pp pf pg pn rt rn (nI cd) sn (nI il) 0 am at_ aa mt_ (nI bh) wd wt wy (nI it_) (nI rm) (nI ud) (nI nu) sd (nI qn) (nI qw) qo (nI qb) (nI zq) qa (nI qi) (nI oc))), (g 24, .inl (cI, 6, .inl (l6 u0 u1 u2 (nI ca) u4 u5))), (g 25, .inl (cI, 6, .inl (l6 v0 v1 v2 (nI cb) v4 v5))), (g 26, .inl (cI, 3200, .inl (fun j => nI (cs j)))), (g 31, .inl (cI, 120, .inl nw)), (g 46, .inl (cI, 9, .inl (fun j => nI (pt j)))), (g 86, .inl (cJ, 1700, .inr (.inl zl)))] H → va_D A [(mm, .inr (12, mo g (nI ta) (nI pa) (nI pe) pd (nI pb) pp pf pg pn rt rn (nI cd) sn (nI il) 0 am at_ aa mt_ (nI bh) wd wt wy (nI it_) (nI rm) (nI ud) (nI nu) sd (nI qn) (nI qw) qo (nI qb) (nI zq) qa (nI qi) (nI oc))), (g 24, .inl (cI, 6, .inl (l6 u0 u1 u2 (nI ca) u4 u5))), (g 25, .inl (cI, 6, .inl (l6 v0 v1 v2 (nI cb) v4 v5))), (g 26, .inl (cI, 3200, .inl (fun j => nI (cs j)))), (g 31, .inl (cI, 120, .inl nw)), (g 46, .inl (cI, 9, .inl (fun j => nI (pt j)))), (g 86, .inl (cJ, 1700, .inr (.inl zl)))] → va_S A s.heap H locs → lv_has ls 5 [(3, .int (nI i)), (0, .ref mm), (1, .int 0), (2, .int (nI d))] → W p l e { frames := 2, cells := 0, slots := 0, locals := 50 } s m ([.ref mm, .int 0, .int (nI d)] : List Value).toArray below meth c H locs 0 0 (MQ below (skL D (skT cI cJ cC cZ cS) (fun (r : Int64) (u : va_W) => ∃ (qp2 : Nat), ∃ (ql2 : Nat → Int64), u = [(mm, .inr (12, mo g (nI ta) (nI pa) (nI pe) pd (nI pb) pp pf pg pn rt rn (nI cd) sn (nI il) 0 am at_ aa mt_ (nI bh) wd wt wy (nI it_) (nI rm) (nI ud) (nI nu) sd (nI qn) (nI qw) qo (nI qb) (nI qp2) qa (nI qi) (nI oc))), (g 24, .inl (cI, 6, .inl (l6 u0 u1 u2 (nI ca) u4 u5))), (g 25, .inl (cI, 6, .inl (l6 v0 v1 v2 (nI cb) v4 v5))), (g 26, .inl (cI, 3200, .inl (fun j => nI (cs j)))), (g 31, .inl (cI, 120, .inl nw)), (g 46, .inl (cI, 9, .inl (fun j => nI (pt j)))), (g 86, .inl (cJ, 1700, .inr (.inl ql2)))]) A) ([.ref mm, .int 0, .int (nI d)] : List Value).toArray s 0 0 A) (F0 m 28 ls []) := by
    intro n_3
    induction n_3 with
    | zero => intro i zq zl H locs ls hm; exact absurd hm (Nat.not_lt_zero _)
    | succ n_3 ih_lp_2 =>
      intro i zq zl H locs ls hm hi1 hi2 hzq1 hzq0 hP hD hS hl
      refine lv_iload_n hx hb dX12_codesTell_28 rfl (lv_at hl 0 rfl) ?_
      refine lv_aload_n hx hb dX12_codesTell_29 rfl (lv_at hl 1 rfl) ?_
      refine sk_get (v := .ref (g 25)) (C := RX12) (T := TX12) (N := 92) hx hb hts inlX12 hown hK hP 0 rfl rfl 25 (by decide) w_5_180 rfl dX12_codesTell_30 ?_
      refine lv_iconst (v := 3) hx hb dX12_codesTell_33 (by decide) ?_
      refine lv_iload_n hx hb dX12_codesTell_34 rfl (lv_at hl 2 rfl) ?_
      refine lv_iadd hx hb dX12_codesTell_35 ?_
      refine sk_top 3 (by decide) ?_
      refine va_iald hx hb hK.1 hP 2 0 rfl rfl (by unfold vp_in; decide) dX12_codesTell_36 ?_
      refine sk_top (nI cb) rfl ?_
      refine lv_icmp_ge (tgt := 110) hx hb dX12_codesTell_37 (by decide) (fun c_4 => ?_) (fun c_4 => ?_)
      · have c_4 : cb ≤ i := (nle cb i (by omega) (by omega)).mp c_4
        refine lv_aload_n hx hb dX12_codesTell_110 rfl (lv_at hl 1 rfl) ?_
        refine sk_get (v := .ref (g 86)) (C := RX12) (T := TX12) (N := 92) hx hb hts inlX12 hown hK hP 0 rfl rfl 86 (by decide) w_6_1 rfl dX12_codesTell_111 ?_
        refine lv_iconst (v := 0) hx hb dX12_codesTell_114 (by decide) ?_
        refine va_lald hx hb hK.1 hP 6 1 rfl rfl (by unfold vp_in; decide) dX12_codesTell_115 ?_
        refine lv_topl (fun v_5 ev_5 => ?_)
        exact sk_lret hx hb hr hlocks hK hP hD hS (⟨zq, zl, rfl⟩) (Nat.le_of_ble_eq_true rfl) (Nat.le_of_ble_eq_true rfl) dX12_codesTell_116
      · have c_4 : ¬ (cb ≤ i) := fun h => c_4 ((nle cb i (by omega) (by omega)).mpr h)
        refine lv_aload_n hx hb dX12_codesTell_40 rfl (lv_at hl 1 rfl) ?_
        refine sk_get (v := .ref (g 26)) (C := RX12) (T := TX12) (N := 92) hx hb hts inlX12 hown hK hP 0 rfl rfl 26 (by decide) w_5_181 rfl dX12_codesTell_41 ?_
        refine lv_sipush (v := 1600) hx hb dX12_codesTell_44 (by decide) ?_
        refine lv_iload_n hx hb dX12_codesTell_47 rfl (lv_at hl 0 rfl) ?_
        refine lv_iadd hx hb dX12_codesTell_48 ?_
        refine sk_top (nI (1600 + i)) (nI_add 1600 i) ?_
        refine va_iald hx hb hK.1 hP 3 0 rfl rfl (vin (1600 + i) 3200 (by omega) (by omega)) dX12_codesTell_49 ?_
        refine sk_top (nI (cs (1600 + i))) (nrd cs (1600 + i) (by omega)) ?_
        have hb_6 := hcs (1600 + i)
        refine lv_istore (lv' := [(4, .int (nI (cs (1600 + i)))), (3, .int (nI i)), (0, .ref mm), (1, .int 0), (2, .int (nI d))]) hx hb dX12_codesTell_50 hl (by decide) rfl (fun ls hl => ?_)
        refine lv_iload hx hb dX12_codesTell_52 (lv_at hl 0 rfl) ?_
        refine lv_sipush (v := 1000) hx hb dX12_codesTell_54 (by decide) ?_
        refine lv_icmp_lt (tgt := 74) hx hb dX12_codesTell_57 (by decide) (fun c_7 => ?_) (fun c_7 => ?_)
        · have c_7 : cs (1600 + i) < 1000 := (nlt (cs (1600 + i)) 1000 (by omega) (by omega)).mp c_7
          refine lv_iload hx hb dX12_codesTell_74 (lv_at hl 0 rfl) ?_
          refine lv_bipush (v := 40) hx hb dX12_codesTell_76 (by decide) ?_
          refine lv_icmp_lt (tgt := 98) hx hb dX12_codesTell_78 (by decide) (fun c_8 => ?_) (fun c_8 => ?_)
          · have c_8 : cs (1600 + i) < 40 := (nlt (cs (1600 + i)) 40 (by omega) (by omega)).mp c_8
            refine lv_aload_n hx hb dX12_codesTell_98 rfl (lv_at hl 2 rfl) ?_
            refine lv_iload hx hb dX12_codesTell_99 (lv_at hl 0 rfl) ?_
            have hz2 := pv_at hpv (show ca ≤ i by omega) (show i < cb by omega) (by omega) hzq0
            refine sk_Vv (q0 := 0) (n := 1) (rest := []) (wr := fmR om_7_41 _) ⟨hx, hb, hml, hown, hts⟩ hl.1 (c_m_qJoins l D cI cJ cC cZ cS mm g ta pa pe pd pb pp pf pg pn rt rn cd sn il 0 am at_ aa mt_ bh wd wt wy it_ rm ud nu sd qn qw qo qb zq qa qi oc (nI (cs (1600 + i))) zl (by omega) (by omega)) w_7_156 w_7_158 w_0_80 w_1_14 w_7_159 hd_X12_qJoins_1 ⟨⟨(Nat.le_of_ble_eq_true rfl), (Nat.le_of_ble_eq_true rfl)⟩, (Nat.le_of_ble_eq_true rfl), (Nat.le_of_ble_eq_true rfl)⟩ hK hP hD hS hA (fmT om_7_41 0) (fmF om_7_41 0) (fm_C1 rfl rfl) (fm_R rfl rfl) (fm_nT om_7_41 0) (fm_nF om_7_41 0) (fm_di om_7_41 0) rfl rfl rfl rfl (Nat.le_of_ble_eq_true rfl) dX12_codesTell_101 (fun u H locs hw hP hD hS => ?_)
            refine exE hw (fun ql2_9 eu_10 => ?_)
            clear hw
            refine o_mgE (ws' := [(mm, .inr (12, mo g (nI ta) (nI pa) (nI pe) pd (nI pb) pp pf pg pn rt rn (nI cd) sn (nI il) 0 am at_ aa mt_ (nI bh) wd wt wy (nI it_) (nI rm) (nI ud) (nI nu) sd (nI qn) (nI qw) qo (nI qb) (nI (zq - 2 + 1)) qa (nI qi) (nI oc))), (g 24, .inl (cI, 6, .inl (l6 u0 u1 u2 (nI ca) u4 u5))), (g 25, .inl (cI, 6, .inl (l6 v0 v1 v2 (nI cb) v4 v5))), (g 26, .inl (cI, 3200, .inl (fun j => nI (cs j)))), (g 31, .inl (cI, 120, .inl nw)), (g 46, .inl (cI, 9, .inl (fun j => nI (pt j)))), (g 86, .inl (cJ, 1700, .inr (.inl ql2_9)))]) eu_10 hP hD rfl (fun hP hD => ?_)
            refine lv_iinc (v := nI (i + 1)) (lv' := [(3, .int (nI (i + 1))), (4, .int (nI (cs (1600 + i)))), (0, .ref mm), (1, .int 0), (2, .int (nI d))]) hx hb dX12_codesTell_104 hl (k := 1) rfl (ninc i 1 (by decide)) (by decide) rfl (fun ls hl => ?_)
            refine lv_goto (tgt := 28) hx hb dX12_codesTell_107 (by decide) ?_
            exact ih_lp_2 (i + 1) (zq - 2 + 1) ql2_9 _ _ _ (by omega) (by omega) (by omega) (by omega) (dk_stp (by omega) hzq0 (by omega)) hP hD hS (lv_sub hl [0, 2, 3, 4] rfl)
          · have c_8 : ¬ (cs (1600 + i) < 40) := fun h => c_8 ((nlt (cs (1600 + i)) 40 (by omega) (by omega)).mpr h)
            refine lv_aload_n hx hb dX12_codesTell_81 rfl (lv_at hl 2 rfl) ?_
            refine lv_aload_n hx hb dX12_codesTell_82 rfl (lv_at hl 2 rfl) ?_
            refine lv_iload hx hb dX12_codesTell_83 (lv_at hl 0 rfl) ?_
            refine lv_bipush (v := 40) hx hb dX12_codesTell_85 (by decide) ?_
            refine lv_isub hx hb dX12_codesTell_87 ?_
            refine sk_top (nI (cs (1600 + i) - 40)) (nsub (cs (1600 + i)) 40 (by omega)) ?_
            refine lv_iload_n hx hb dX12_codesTell_88 rfl (lv_at hl 4 rfl) ?_
            refine sk_Vl (q0 := 0) (n := 2) (rest := [.ref mm]) (wr := fmR om_7_46 _) ⟨hx, hb, hml, hown, hts⟩ hl.1 (c_m_qPartOf l D cI cJ cC cZ cS mm g ta pa pe pd pb pp pf pg pn rt rn cd sn il 0 am at_ aa mt_ bh wd wt wy it_ rm ud nu sd qn qw qo qb zq qa qi oc (nI (cs (1600 + i) - 40)) d nw pt (by omega) hnw hpt) w_7_143 w_7_145 w_0_77 w_1_14 w_7_146 hd_X12_qPartOf_2 ⟨⟨(Nat.le_of_ble_eq_true rfl), (Nat.le_of_ble_eq_true rfl)⟩, (Nat.le_of_ble_eq_true rfl), (Nat.le_of_ble_eq_true rfl)⟩ hK hP hD hS hA (fmT om_7_46 0) (fmF om_7_46 0) (fm_C1 rfl rfl) (fm_R rfl rfl) (fm_nT om_7_46 0) (fm_nF om_7_46 0) (fm_di om_7_46 0) rfl rfl rfl rfl (Nat.le_of_ble_eq_true rfl) dX12_codesTell_89 (fun r_11 u H locs hw hP hD hS => ?_)
            refine o_mgE (ws' := [(mm, .inr (12, mo g (nI ta) (nI pa) (nI pe) pd (nI pb) pp pf pg pn rt rn (nI cd) sn (nI il) 0 am at_ aa mt_ (nI bh) wd wt wy (nI it_) (nI rm) (nI ud) (nI nu) sd (nI qn) (nI qw) qo (nI qb) (nI zq) qa (nI qi) (nI oc))), (g 24, .inl (cI, 6, .inl (l6 u0 u1 u2 (nI ca) u4 u5))), (g 25, .inl (cI, 6, .inl (l6 v0 v1 v2 (nI cb) v4 v5))), (g 26, .inl (cI, 3200, .inl (fun j => nI (cs j)))), (g 31, .inl (cI, 120, .inl nw)), (g 46, .inl (cI, 9, .inl (fun j => nI (pt j)))), (g 86, .inl (cJ, 1700, .inr (.inl zl)))]) hw hP hD rfl (fun hP hD => ?_)
            refine sk_Vv (q0 := 0) (n := 1) (rest := []) (wr := fmR om_7_41 _) ⟨hx, hb, hml, hown, hts⟩ hl.1 (c_m_qPuts l D cI cJ cC cZ cS mm g ta pa pe pd pb pp pf pg pn rt rn cd sn il 0 am at_ aa mt_ bh wd wt wy it_ rm ud nu sd qn qw qo qb zq qa qi oc r_11 zl (by omega)) w_7_139 w_7_141 w_0_76 w_1_14 w_7_142 hd_X12_qPuts_1 ⟨⟨(Nat.le_of_ble_eq_true rfl), (Nat.le_of_ble_eq_true rfl)⟩, (Nat.le_of_ble_eq_true rfl), (Nat.le_of_ble_eq_true rfl)⟩ hK hP hD hS hA (fmT om_7_41 0) (fmF om_7_41 0) (fm_C1 rfl rfl) (fm_R rfl rfl) (fm_nT om_7_41 0) (fm_nF om_7_41 0) (fm_di om_7_41 0) rfl rfl rfl rfl (Nat.le_of_ble_eq_true rfl) dX12_codesTell_92 (fun u H locs hw hP hD hS => ?_)
            refine exE hw (fun ql2_12 eu_13 => ?_)
            clear hw
            refine o_mgE (ws' := [(mm, .inr (12, mo g (nI ta) (nI pa) (nI pe) pd (nI pb) pp pf pg pn rt rn (nI cd) sn (nI il) 0 am at_ aa mt_ (nI bh) wd wt wy (nI it_) (nI rm) (nI ud) (nI nu) sd (nI qn) (nI qw) qo (nI qb) (nI (zq + 1)) qa (nI qi) (nI oc))), (g 24, .inl (cI, 6, .inl (l6 u0 u1 u2 (nI ca) u4 u5))), (g 25, .inl (cI, 6, .inl (l6 v0 v1 v2 (nI cb) v4 v5))), (g 26, .inl (cI, 3200, .inl (fun j => nI (cs j)))), (g 31, .inl (cI, 120, .inl nw)), (g 46, .inl (cI, 9, .inl (fun j => nI (pt j)))), (g 86, .inl (cJ, 1700, .inr (.inl ql2_12)))]) eu_13 hP hD rfl (fun hP hD => ?_)
            refine lv_goto (tgt := 104) hx hb dX12_codesTell_95 (by decide) ?_
            refine lv_iinc (v := nI (i + 1)) (lv' := [(3, .int (nI (i + 1))), (4, .int (nI (cs (1600 + i)))), (0, .ref mm), (1, .int 0), (2, .int (nI d))]) hx hb dX12_codesTell_104 hl (k := 1) rfl (ninc i 1 (by decide)) (by decide) rfl (fun ls hl => ?_)
            refine lv_goto (tgt := 28) hx hb dX12_codesTell_107 (by decide) ?_
            exact ih_lp_2 (i + 1) (zq + 1) ql2_12 _ _ _ (by omega) (by omega) (by omega) (by omega) (dk_stp (by omega) hzq0 (by omega)) hP hD hS (lv_sub hl [0, 2, 3, 4] rfl)
        · have c_7 : ¬ (cs (1600 + i) < 1000) := fun h => c_7 ((nlt (cs (1600 + i)) 1000 (by omega) (by omega)).mpr h)
          refine lv_aload_n hx hb dX12_codesTell_60 rfl (lv_at hl 2 rfl) ?_
          refine lv_iload hx hb dX12_codesTell_61 (lv_at hl 0 rfl) ?_
          refine lv_sipush (v := 1000) hx hb dX12_codesTell_63 (by decide) ?_
          refine lv_isub hx hb dX12_codesTell_66 ?_
          refine sk_top (nI (cs (1600 + i) - 1000)) (nsub (cs (1600 + i)) 1000 (by omega)) ?_
          refine lv_i2l hx hb dX12_codesTell_67 rfl ?_
          refine sk_Vv (q0 := 0) (n := 1) (rest := []) (wr := fmR om_7_41 _) ⟨hx, hb, hml, hown, hts⟩ hl.1 (c_m_qPuts l D cI cJ cC cZ cS mm g ta pa pe pd pb pp pf pg pn rt rn cd sn il 0 am at_ aa mt_ bh wd wt wy it_ rm ud nu sd qn qw qo qb zq qa qi oc (Int32.toInt64 (nI (cs (1600 + i) - 1000))) zl (by omega)) w_7_139 w_7_141 w_0_76 w_1_14 w_7_142 hd_X12_qPuts_1 ⟨⟨(Nat.le_of_ble_eq_true rfl), (Nat.le_of_ble_eq_true rfl)⟩, (Nat.le_of_ble_eq_true rfl), (Nat.le_of_ble_eq_true rfl)⟩ hK hP hD hS hA (fmT om_7_41 0) (fmF om_7_41 0) (fm_C1 rfl rfl) (fm_R rfl rfl) (fm_nT om_7_41 0) (fm_nF om_7_41 0) (fm_di om_7_41 0) rfl rfl rfl rfl (Nat.le_of_ble_eq_true rfl) dX12_codesTell_68 (fun u H locs hw hP hD hS => ?_)
          refine exE hw (fun ql2_14 eu_15 => ?_)
          clear hw
          refine o_mgE (ws' := [(mm, .inr (12, mo g (nI ta) (nI pa) (nI pe) pd (nI pb) pp pf pg pn rt rn (nI cd) sn (nI il) 0 am at_ aa mt_ (nI bh) wd wt wy (nI it_) (nI rm) (nI ud) (nI nu) sd (nI qn) (nI qw) qo (nI qb) (nI (zq + 1)) qa (nI qi) (nI oc))), (g 24, .inl (cI, 6, .inl (l6 u0 u1 u2 (nI ca) u4 u5))), (g 25, .inl (cI, 6, .inl (l6 v0 v1 v2 (nI cb) v4 v5))), (g 26, .inl (cI, 3200, .inl (fun j => nI (cs j)))), (g 31, .inl (cI, 120, .inl nw)), (g 46, .inl (cI, 9, .inl (fun j => nI (pt j)))), (g 86, .inl (cJ, 1700, .inr (.inl ql2_14)))]) eu_15 hP hD rfl (fun hP hD => ?_)
          refine lv_goto (tgt := 104) hx hb dX12_codesTell_71 (by decide) ?_
          refine lv_iinc (v := nI (i + 1)) (lv' := [(3, .int (nI (i + 1))), (4, .int (nI (cs (1600 + i)))), (0, .ref mm), (1, .int 0), (2, .int (nI d))]) hx hb dX12_codesTell_104 hl (k := 1) rfl (ninc i 1 (by decide)) (by decide) rfl (fun ls hl => ?_)
          refine lv_goto (tgt := 28) hx hb dX12_codesTell_107 (by decide) ?_
          exact ih_lp_2 (i + 1) (zq + 1) ql2_14 _ _ _ (by omega) (by omega) (by omega) (by omega) (dk_stp (by omega) hzq0 (by omega)) hP hD hS (lv_sub hl [0, 2, 3, 4] rfl)
  exact lp_2 (cb - ca + 1) ca 0 ql _ _ _ (Nat.lt_succ_self _) (by omega) (by omega) (by omega) (by rw [Nat.sub_self]; rfl) hP hD hS (lv_sub hl [0, 1, 2, 3] rfl)
