theorem dg_X12_refuses_0_0 : bqL cX12_refuses 0 [(0, [42]), (1, [180, 0, 17]), (4, [27]), (5, [92]), (6, [46]), (7, [4]), (8, [96]), (9, [79]), (10, [2]), (11, [172])] = true := by decide +kernel
theorem dX12_refuses_0 : decode cX12_refuses 0 = .ok (.aload_n 0, 1) := q_aload_n0 (bat_get dg_X12_refuses_0_0 0 rfl rfl)
theorem dX12_refuses_1 : decode cX12_refuses 1 = .ok (.getfield 17, 3) := q_getfield (bat_get dg_X12_refuses_0_0 1 rfl rfl) rfl
theorem dX12_refuses_4 : decode cX12_refuses 4 = .ok (.iload_n 1, 1) := q_iload_n1 (bat_get dg_X12_refuses_0_0 2 rfl rfl)
theorem dX12_refuses_5 : decode cX12_refuses 5 = .ok (.dup2, 1) := q_dup2 (bat_get dg_X12_refuses_0_0 3 rfl rfl)
theorem dX12_refuses_6 : decode cX12_refuses 6 = .ok (.iaload, 1) := q_iaload (bat_get dg_X12_refuses_0_0 4 rfl rfl)
theorem dX12_refuses_7 : decode cX12_refuses 7 = .ok (.iconst 1, 1) := q_iconst1 (bat_get dg_X12_refuses_0_0 5 rfl rfl)
theorem dX12_refuses_8 : decode cX12_refuses 8 = .ok (.iadd, 1) := q_iadd (bat_get dg_X12_refuses_0_0 6 rfl rfl)
theorem dX12_refuses_9 : decode cX12_refuses 9 = .ok (.iastore, 1) := q_iastore (bat_get dg_X12_refuses_0_0 7 rfl rfl)
theorem dX12_refuses_10 : decode cX12_refuses 10 = .ok (.iconst (-1), 1) := q_iconstm1 (bat_get dg_X12_refuses_0_0 8 rfl rfl)
theorem dX12_refuses_11 : decode cX12_refuses 11 = .ok (.ireturn, 1) := q_ireturn (bat_get dg_X12_refuses_0_0 9 rfl rfl)
theorem w_5_164 : (Cond.fieldLink RX12 17 "SameKeeperModel" "refused" "[I") ∈ wsL_law := sk_mem (ck_5 _ (List.mem_of_getElem? (i := 164) rfl)) rfl
theorem w_8_100 : (Cond.code yX12_refuses cX12_refuses 2 (some .int)) ∈ wsL_law := sk_mem (ck_8 _ (List.mem_of_getElem? (i := 100) rfl)) rfl
theorem dg_X12_heard_0_0 : bqL cX12_heard 0 [(0, [42]), (1, [180, 1, 46]), (4, [154, 0, 7]), (11, [42]), (12, [182, 1, 210]), (15, [42]), (16, [180, 1, 126]), (19, [173]), (7, [20, 1, 165]), (10, [173])] = true := by decide +kernel
theorem dX12_heard_0 : decode cX12_heard 0 = .ok (.aload_n 0, 1) := q_aload_n0 (bat_get dg_X12_heard_0_0 0 rfl rfl)
theorem dX12_heard_1 : decode cX12_heard 1 = .ok (.getfield 302, 3) := q_getfield (bat_get dg_X12_heard_0_0 1 rfl rfl) rfl
theorem dX12_heard_4 : decode cX12_heard 4 = .ok (.ifCond .ne 7, 3) := q_ifCond_ne (bat_get dg_X12_heard_0_0 2 rfl rfl) rfl
theorem dX12_heard_11 : decode cX12_heard 11 = .ok (.aload_n 0, 1) := q_aload_n0 (bat_get dg_X12_heard_0_0 3 rfl rfl)
theorem dX12_heard_12 : decode cX12_heard 12 = .ok (.invokevirtual 466, 3) := q_invokevirtual (bat_get dg_X12_heard_0_0 4 rfl rfl) rfl
theorem dX12_heard_15 : decode cX12_heard 15 = .ok (.aload_n 0, 1) := q_aload_n0 (bat_get dg_X12_heard_0_0 5 rfl rfl)
theorem dX12_heard_16 : decode cX12_heard 16 = .ok (.getfield 382, 3) := q_getfield (bat_get dg_X12_heard_0_0 6 rfl rfl) rfl
theorem dX12_heard_19 : decode cX12_heard 19 = .ok (.lreturn, 1) := q_lreturn (bat_get dg_X12_heard_0_0 7 rfl rfl)
theorem dX12_heard_7 : decode cX12_heard 7 = .ok (.ldc2_w 421, 3) := q_ldc2_w (bat_get dg_X12_heard_0_0 8 rfl rfl) rfl
theorem dX12_heard_10 : decode cX12_heard 10 = .ok (.lreturn, 1) := q_lreturn (bat_get dg_X12_heard_0_0 9 rfl rfl)
theorem w_8_105 : (Cond.methodLink RX12 466 yX12_laysHeard) ∈ wsL_law := sk_mem (ck_8 _ (List.mem_of_getElem? (i := 105) rfl)) rfl
theorem w_8_107 : (Cond.instanceMethod yX12_laysHeard) ∈ wsL_law := sk_mem (ck_8 _ (List.mem_of_getElem? (i := 107) rfl)) rfl
theorem w_0_105 : (Cond.selects RX12 yX12_laysHeard yX12_laysHeard) ∈ wsL_law := sk_mem (ck_0 _ (List.mem_of_getElem? (i := 105) rfl)) rfl
theorem w_8_104 : (Cond.code yX12_heard cX12_heard 1 (some .long)) ∈ wsL_law := sk_mem (ck_8 _ (List.mem_of_getElem? (i := 104) rfl)) rfl
theorem hd_X12_laysHeard_0 : skD yX12_laysHeard 0 := by decide +kernel
set_option maxHeartbeats 4000000 in
set_option maxRecDepth 100000 in
theorem c_m_heard (l : Launch) (D : va_G) (cI cJ cC cZ cS : ClassId) (mm : Nat) (g : Nat → Nat) (ta : Nat) (pa : Nat) (pe : Nat) (pd : Int32) (pb : Nat) (pp : Int32) (pf : Int32) (pg : Int32) (pn : Int32) (rt : Int32) (rn : Int32) (cd : Nat) (sn : Int32) (il : Nat) (tk : Int32) (am : Int32) (at_ : Int32) (aa : Int32) (wt : Int32) (wy : Int64) (rm : Nat) (ud : Nat) (nu : Nat) (sd : Int64) (qn : Nat) (qw : Nat) (qo : Int32) (qb : Nat) (qp : Nat) (qa : Int64) (qi : Nat) (oc : Nat) (u0 : Int32) (u1 : Int32) (u2 : Int32) (u3 : Int32) (u4 : Int32) (u5 : Int32) (v0 : Int32) (v1 : Int32) (v2 : Int32) (v3 : Int32) (v4 : Int32) (v5 : Int32) (cs : Nat → Nat) (nw : Nat → Int32) (pt : Nat → Nat) (ql : Nat → Int64) (l0 : Nat) (l1 : Nat) (dm : Nat) (l3 : Nat) (ws_ : Nat → Int32) (yw : Nat → Int32) (yo : Nat → Int32) (be : Nat → Int64) (bf : Nat → Int64) (rw_ : Nat → Int32) (hil : il ≤ 1) (hild : il = 1 → 1 ≤ dm) (hdm : dm ≤ 9) (hp0 : progOk cs u3 v3) (hp1 : progOk cs u4 v4) (hp2 : progOk cs u5 v5) (hrm : rm ≤ 16) (hcs : ∀ j, cs j ≤ 20000) (hnw : nowOk nw) (hpt : ∀ j, pt j ≤ 9) : skM l yX12_heard cX12_heard 1 (some .long) 6 142 0 0 D (skT cI cJ cC cZ cS) [.ref mm] [(mm, .inr (12, mo g (nI ta) (nI pa) (nI pe) pd (nI pb) pp pf pg pn rt rn (nI cd) sn (nI il) tk am at_ aa 0 0 (-1) wt wy 0 (nI rm) (nI ud) (nI nu) sd (nI qn) (nI qw) qo (nI qb) (nI qp) qa (nI qi) (nI oc))), (g 24, .inl (cI, 6, .inl (l6 u0 u1 u2 u3 u4 u5))), (g 25, .inl (cI, 6, .inl (l6 v0 v1 v2 v3 v4 v5))), (g 26, .inl (cI, 3200, .inl (fun j => nI (cs j)))), (g 31, .inl (cI, 120, .inl nw)), (g 46, .inl (cI, 9, .inl (fun j => nI (pt j)))), (g 86, .inl (cJ, 1700, .inr (.inl ql))), (g 20, .inl (cI, 4, .inl (l4 (nI l0) (nI l1) (nI dm) (nI l3)))), (g 38, .inl (cI, 90, .inl ws_)), (g 36, .inl (cZ, 900, .inl yw)), (g 37, .inl (cZ, 900, .inl yo)), (g 43, .inl (cJ, 90, .inr (.inl be))), (g 44, .inl (cJ, 90, .inr (.inl bf))), (g 53, .inl (cI, 32, .inl rw_))] (skL D (skT cI cJ cC cZ cS) (fun (r : Int64) (u : va_W) => ∃ (tk2 : Int32), ∃ (qp2 : Nat), ∃ (am2 : Int32), ∃ (at_2 : Int32), ∃ (aa2 : Int32), ∃ (wy2 : Int64), ∃ (ql2 : Nat → Int64), ∃ (ws_2 : Nat → Int32), ∃ (yw2 : Nat → Int32), ∃ (yo2 : Nat → Int32), ∃ (be2 : Nat → Int64), ∃ (bf2 : Nat → Int64), u = [(mm, .inr (12, mo g (nI ta) (nI pa) (nI pe) pd (nI pb) pp pf pg pn rt rn (nI cd) sn (nI il) tk2 am2 at_2 aa2 0 0 (-1) wt wy2 0 (nI rm) (nI ud) (nI nu) sd (nI qn) (nI qw) qo (nI qb) (nI qp2) qa (nI qi) (nI oc))), (g 24, .inl (cI, 6, .inl (l6 u0 u1 u2 u3 u4 u5))), (g 25, .inl (cI, 6, .inl (l6 v0 v1 v2 v3 v4 v5))), (g 26, .inl (cI, 3200, .inl (fun j => nI (cs j)))), (g 31, .inl (cI, 120, .inl nw)), (g 46, .inl (cI, 9, .inl (fun j => nI (pt j)))), (g 86, .inl (cJ, 1700, .inr (.inl ql2))), (g 20, .inl (cI, 4, .inl (l4 (nI l0) (nI l1) (nI dm) (nI l3)))), (g 38, .inl (cI, 90, .inl ws_2)), (g 36, .inl (cZ, 900, .inl yw2)), (g 37, .inl (cZ, 900, .inl yo2)), (g 43, .inl (cJ, 90, .inr (.inl be2))), (g 44, .inl (cJ, 90, .inr (.inl bf2))), (g 53, .inl (cI, 32, .inl rw_))])) := by
  refine skM_of pf_X12_heard (Nat.le_of_ble_eq_true rfl) ?_
  intro p e s m below meth c A ls E hP hD hl
  refine skE_el E (fun hx hb hr hml hlocks hin hown hts hK hA => ?_)
  have hown : s.vm.findClass RX12 = some m.cls := hown
  have hS : va_S A s.heap s.heap [] := va_S.rf
  have hl : lv_has ls 1 [(0, .ref mm)] := hl
  refine lv_aload_n hx hb dX12_heard_0 rfl (lv_at hl 0 rfl) ?_
  refine sk_get (v := .int (nI il)) (C := RX12) (T := TX12) (N := 92) hx hb hts inlX12 hown hK hP 0 rfl rfl 29 (by decide) w_5_184 rfl dX12_heard_1 ?_
  refine lv_if_ne (tgt := 11) hx hb dX12_heard_4 (by decide) (fun c_1 => ?_) (fun c_1 => ?_)
  · have c_1 : ¬ (il = 0) := fun h => c_1 ((neq il 0 (by omega) (by omega)).mpr h)
    refine lv_aload_n hx hb dX12_heard_11 rfl (lv_at hl 0 rfl) ?_
    refine sk_Vv (q0 := 0) (n := 0) (rest := []) (wr := fmR om_14_3fff _) ⟨hx, hb, hml, hown, hts⟩ hl.1 (c_m_laysHeard l D cI cJ cC cZ cS mm g ta pa pe pd pb pp pf pg pn rt rn cd sn il tk am at_ aa wt wy rm ud nu sd qn qw qo qb qp qa qi oc u0 u1 u2 u3 u4 u5 v0 v1 v2 v3 v4 v5 cs nw pt ql l0 l1 dm l3 ws_ yw yo be bf rw_ (by omega) (by omega) hp0 hp1 hp2 (by omega) hcs hnw hpt) w_8_105 w_8_107 w_0_105 w_1_14 w_8_108 hd_X12_laysHeard_0 ⟨⟨(Nat.le_of_ble_eq_true rfl), (Nat.le_of_ble_eq_true rfl)⟩, (Nat.le_of_ble_eq_true rfl), (Nat.le_of_ble_eq_true rfl)⟩ hK hP hD hS hA (fmT om_14_3fff 0) (fmF om_14_3fff 0) (fm_C1 rfl rfl) (fm_R rfl rfl) (fm_nT om_14_3fff 0) (fm_nF om_14_3fff 0) (fm_di om_14_3fff 0) rfl rfl rfl rfl (Nat.le_of_ble_eq_true rfl) dX12_heard_12 (fun u H locs hw hP hD hS => ?_)
    refine exE hw (fun tk2_2 hw1 => exE hw1 (fun qp2_3 hw2 => exE hw2 (fun am2_4 hw3 => exE hw3 (fun at_2_5 hw4 => exE hw4 (fun aa2_6 hw5 => exE hw5 (fun wy2_7 hw6 => exE hw6 (fun ql2_8 hw7 => exE hw7 (fun ws_2_9 hw8 => exE hw8 (fun yw2_10 hw9 => exE hw9 (fun yo2_11 hw10 => exE hw10 (fun be2_12 hw11 => exE hw11 (fun bf2_13 eu_14 => ?_))))))))))))
    clear hw hw1 hw2 hw3 hw4 hw5 hw6 hw7 hw8 hw9 hw10 hw11
    refine o_mgE (ws' := [(mm, .inr (12, mo g (nI ta) (nI pa) (nI pe) pd (nI pb) pp pf pg pn rt rn (nI cd) sn (nI il) tk2_2 am2_4 at_2_5 aa2_6 0 0 (-1) wt wy2_7 0 (nI rm) (nI ud) (nI nu) sd (nI qn) (nI qw) qo (nI qb) (nI qp2_3) qa (nI qi) (nI oc))), (g 24, .inl (cI, 6, .inl (l6 u0 u1 u2 u3 u4 u5))), (g 25, .inl (cI, 6, .inl (l6 v0 v1 v2 v3 v4 v5))), (g 26, .inl (cI, 3200, .inl (fun j => nI (cs j)))), (g 31, .inl (cI, 120, .inl nw)), (g 46, .inl (cI, 9, .inl (fun j => nI (pt j)))), (g 86, .inl (cJ, 1700, .inr (.inl ql2_8))), (g 20, .inl (cI, 4, .inl (l4 (nI l0) (nI l1) (nI dm) (nI l3)))), (g 38, .inl (cI, 90, .inl ws_2_9)), (g 36, .inl (cZ, 900, .inl yw2_10)), (g 37, .inl (cZ, 900, .inl yo2_11)), (g 43, .inl (cJ, 90, .inr (.inl be2_12))), (g 44, .inl (cJ, 90, .inr (.inl bf2_13))), (g 53, .inl (cI, 32, .inl rw_))]) eu_14 hP hD rfl (fun hP hD => ?_)
    refine lv_aload_n hx hb dX12_heard_15 rfl (lv_at hl 0 rfl) ?_
    refine sk_get (v := .long wy2_7) (C := RX12) (T := TX12) (N := 92) hx hb hts inlX12 hown hK hP 0 rfl rfl 45 (by decide) w_5_200 rfl dX12_heard_16 ?_
    exact sk_lret hx hb hr hlocks hK hP hD hS (⟨tk2_2, qp2_3, am2_4, at_2_5, aa2_6, wy2_7, ql2_8, ws_2_9, yw2_10, yo2_11, be2_12, bf2_13, rfl⟩) (Nat.le_of_ble_eq_true rfl) (Nat.le_of_ble_eq_true rfl) dX12_heard_19
  · have c_1 : il = 0 := (neq il 0 (by omega) (by omega)).mp c_1
    refine lv_ldc2 (v := (-1000000000000000)) hx hb hown (hts _ w_7_184) dX12_heard_7 ?_
    exact sk_lret hx hb hr hlocks hK hP hD hS (⟨tk, qp, am, at_, aa, wy, ql, ws_, yw, yo, be, bf, rfl⟩) (Nat.le_of_ble_eq_true rfl) (Nat.le_of_ble_eq_true rfl) dX12_heard_10
theorem dg_X12_tells_0_0 : bqL cX12_tells 0 [(0, [42]), (1, [180, 1, 46]), (4, [153, 0, 13]), (17, [20, 1, 165]), (20, [173]), (7, [27]), (8, [133]), (9, [9]), (10, [10]), (11, [184, 0, 238]), (14, [154, 0, 7]), (21, [42]), (22, [182, 1, 210]), (25, [2]), (26, [61]), (27, [9]), (28, [66]), (29, [3]), (30, [54, 5]), (32, [21, 5]), (34, [42]), (35, [182, 1, 59]), (38, [162, 0, 99]), (137, [28]), (138, [2]), (139, [160, 0, 9]), (148, [27]), (149, [154, 0, 8]), (157, [33]), (158, [173]), (152, [28]), (153, [133]), (154, [167, 0, 4]), (142, [20, 1, 165]), (145, [167, 0, 13]), (41, [42]), (42, [180, 1, 126]), (45, [9]), (46, [148]), (47, [158, 0, 90])] = true := by decide +kernel
theorem dX12_tells_0 : decode cX12_tells 0 = .ok (.aload_n 0, 1) := q_aload_n0 (bat_get dg_X12_tells_0_0 0 rfl rfl)
theorem dX12_tells_1 : decode cX12_tells 1 = .ok (.getfield 302, 3) := q_getfield (bat_get dg_X12_tells_0_0 1 rfl rfl) rfl
theorem dX12_tells_4 : decode cX12_tells 4 = .ok (.ifCond .eq 13, 3) := q_ifCond_eq (bat_get dg_X12_tells_0_0 2 rfl rfl) rfl
theorem dX12_tells_17 : decode cX12_tells 17 = .ok (.ldc2_w 421, 3) := q_ldc2_w (bat_get dg_X12_tells_0_0 3 rfl rfl) rfl
theorem dX12_tells_20 : decode cX12_tells 20 = .ok (.lreturn, 1) := q_lreturn (bat_get dg_X12_tells_0_0 4 rfl rfl)
theorem dX12_tells_7 : decode cX12_tells 7 = .ok (.iload_n 1, 1) := q_iload_n1 (bat_get dg_X12_tells_0_0 5 rfl rfl)
theorem dX12_tells_8 : decode cX12_tells 8 = .ok (.i2l, 1) := q_i2l (bat_get dg_X12_tells_0_0 6 rfl rfl)
theorem dX12_tells_9 : decode cX12_tells 9 = .ok (.lconst 0, 1) := q_lconst0 (bat_get dg_X12_tells_0_0 7 rfl rfl)
theorem dX12_tells_10 : decode cX12_tells 10 = .ok (.lconst 1, 1) := q_lconst1 (bat_get dg_X12_tells_0_0 8 rfl rfl)
theorem dX12_tells_11 : decode cX12_tells 11 = .ok (.invokestatic 238, 3) := q_invokestatic (bat_get dg_X12_tells_0_0 9 rfl rfl) rfl
theorem dX12_tells_14 : decode cX12_tells 14 = .ok (.ifCond .ne 7, 3) := q_ifCond_ne (bat_get dg_X12_tells_0_0 10 rfl rfl) rfl
theorem dX12_tells_21 : decode cX12_tells 21 = .ok (.aload_n 0, 1) := q_aload_n0 (bat_get dg_X12_tells_0_0 11 rfl rfl)
theorem dX12_tells_22 : decode cX12_tells 22 = .ok (.invokevirtual 466, 3) := q_invokevirtual (bat_get dg_X12_tells_0_0 12 rfl rfl) rfl
theorem dX12_tells_25 : decode cX12_tells 25 = .ok (.iconst (-1), 1) := q_iconstm1 (bat_get dg_X12_tells_0_0 13 rfl rfl)
theorem dX12_tells_26 : decode cX12_tells 26 = .ok (.istore_n 2, 1) := q_istore_n2 (bat_get dg_X12_tells_0_0 14 rfl rfl)
theorem dX12_tells_27 : decode cX12_tells 27 = .ok (.lconst 0, 1) := q_lconst0 (bat_get dg_X12_tells_0_0 15 rfl rfl)
theorem dX12_tells_28 : decode cX12_tells 28 = .ok (.lstore_n 3, 1) := q_lstore_n3 (bat_get dg_X12_tells_0_0 16 rfl rfl)
theorem dX12_tells_29 : decode cX12_tells 29 = .ok (.iconst 0, 1) := q_iconst0 (bat_get dg_X12_tells_0_0 17 rfl rfl)
theorem dX12_tells_30 : decode cX12_tells 30 = .ok (.istore 5, 2) := q_istore (bat_get dg_X12_tells_0_0 18 rfl rfl)
theorem dX12_tells_32 : decode cX12_tells 32 = .ok (.iload 5, 2) := q_iload (bat_get dg_X12_tells_0_0 19 rfl rfl)
theorem dX12_tells_34 : decode cX12_tells 34 = .ok (.aload_n 0, 1) := q_aload_n0 (bat_get dg_X12_tells_0_0 20 rfl rfl)
theorem dX12_tells_35 : decode cX12_tells 35 = .ok (.invokevirtual 315, 3) := q_invokevirtual (bat_get dg_X12_tells_0_0 21 rfl rfl) rfl
theorem dX12_tells_38 : decode cX12_tells 38 = .ok (.if_icmp .ge 99, 3) := q_if_icmp_ge (bat_get dg_X12_tells_0_0 22 rfl rfl) rfl
theorem dX12_tells_137 : decode cX12_tells 137 = .ok (.iload_n 2, 1) := q_iload_n2 (bat_get dg_X12_tells_0_0 23 rfl rfl)
theorem dX12_tells_138 : decode cX12_tells 138 = .ok (.iconst (-1), 1) := q_iconstm1 (bat_get dg_X12_tells_0_0 24 rfl rfl)
theorem dX12_tells_139 : decode cX12_tells 139 = .ok (.if_icmp .ne 9, 3) := q_if_icmp_ne (bat_get dg_X12_tells_0_0 25 rfl rfl) rfl
theorem dX12_tells_148 : decode cX12_tells 148 = .ok (.iload_n 1, 1) := q_iload_n1 (bat_get dg_X12_tells_0_0 26 rfl rfl)
theorem dX12_tells_149 : decode cX12_tells 149 = .ok (.ifCond .ne 8, 3) := q_ifCond_ne (bat_get dg_X12_tells_0_0 27 rfl rfl) rfl
theorem dX12_tells_157 : decode cX12_tells 157 = .ok (.lload_n 3, 1) := q_lload_n3 (bat_get dg_X12_tells_0_0 28 rfl rfl)
theorem dX12_tells_158 : decode cX12_tells 158 = .ok (.lreturn, 1) := q_lreturn (bat_get dg_X12_tells_0_0 29 rfl rfl)
theorem dX12_tells_152 : decode cX12_tells 152 = .ok (.iload_n 2, 1) := q_iload_n2 (bat_get dg_X12_tells_0_0 30 rfl rfl)
theorem dX12_tells_153 : decode cX12_tells 153 = .ok (.i2l, 1) := q_i2l (bat_get dg_X12_tells_0_0 31 rfl rfl)
theorem dX12_tells_154 : decode cX12_tells 154 = .ok (.goto 4, 3) := q_goto (bat_get dg_X12_tells_0_0 32 rfl rfl) rfl
theorem dX12_tells_142 : decode cX12_tells 142 = .ok (.ldc2_w 421, 3) := q_ldc2_w (bat_get dg_X12_tells_0_0 33 rfl rfl) rfl
theorem dX12_tells_145 : decode cX12_tells 145 = .ok (.goto 13, 3) := q_goto (bat_get dg_X12_tells_0_0 34 rfl rfl) rfl
theorem dX12_tells_41 : decode cX12_tells 41 = .ok (.aload_n 0, 1) := q_aload_n0 (bat_get dg_X12_tells_0_0 35 rfl rfl)
theorem dX12_tells_42 : decode cX12_tells 42 = .ok (.getfield 382, 3) := q_getfield (bat_get dg_X12_tells_0_0 36 rfl rfl) rfl
theorem dX12_tells_45 : decode cX12_tells 45 = .ok (.lconst 0, 1) := q_lconst0 (bat_get dg_X12_tells_0_0 37 rfl rfl)
theorem dX12_tells_46 : decode cX12_tells 46 = .ok (.lcmp, 1) := q_lcmp (bat_get dg_X12_tells_0_0 38 rfl rfl)
theorem dX12_tells_47 : decode cX12_tells 47 = .ok (.ifCond .le 90, 3) := q_ifCond_le (bat_get dg_X12_tells_0_0 39 rfl rfl) rfl
theorem dg_X12_tells_50_50 : bqL cX12_tells 50 [(0, [9]), (1, [55, 6]), (3, [3]), (4, [54, 8]), (6, [21, 8]), (8, [16, 10]), (10, [162, 0, 50]), (60, [28]), (61, [2]), (62, [159, 0, 13]), (75, [21, 5]), (77, [61]), (78, [22, 6]), (80, [66]), (81, [132, 5, 1]), (84, [167, 255, 154]), (65, [22, 6]), (67, [33]), (68, [148]), (69, [155, 0, 6]), (72, [167, 0, 9]), (13, [42]), (14, [180, 0, 86]), (17, [16, 10]), (19, [21, 5]), (21, [104]), (22, [21, 8]), (24, [96]), (25, [47]), (26, [42]), (27, [180, 0, 82]), (30, [16, 10]), (32, [21, 5]), (34, [104]), (35, [21, 8]), (37, [96]), (38, [47]), (39, [105]), (40, [55, 9]), (42, [22, 9])] = true := by decide +kernel
