theorem dg_X12_wished_0_0 : bqL cX12_wished 0 [(0, [42]), (1, [27]), (2, [182, 1, 157]), (5, [153, 0, 11]), (16, [2]), (17, [172]), (8, [42]), (9, [28]), (10, [182, 1, 162]), (13, [154, 0, 5]), (18, [42]), (19, [3]), (20, [182, 1, 129]), (23, [2]), (24, [62]), (25, [3]), (26, [54, 4]), (28, [21, 4]), (30, [4]), (31, [42]), (32, [182, 1, 59]), (35, [120]), (36, [162, 0, 72]), (108, [29]), (109, [172]), (39, [29]), (40, [2]), (41, [159, 0, 15]), (56, [42]), (57, [21, 4]), (59, [182, 1, 167]), (62, [154, 0, 6]), (68, [42]), (69, [180, 0, 86]), (72, [16, 10]), (74, [27]), (75, [104]), (76, [28]), (77, [96]), (78, [47])] = true := by decide +kernel
theorem dX12_wished_0 : decode cX12_wished 0 = .ok (.aload_n 0, 1) := q_aload_n0 (bat_get dg_X12_wished_0_0 0 rfl rfl)
theorem dX12_wished_1 : decode cX12_wished 1 = .ok (.iload_n 1, 1) := q_iload_n1 (bat_get dg_X12_wished_0_0 1 rfl rfl)
theorem dX12_wished_2 : decode cX12_wished 2 = .ok (.invokevirtual 413, 3) := q_invokevirtual (bat_get dg_X12_wished_0_0 2 rfl rfl) rfl
theorem dX12_wished_5 : decode cX12_wished 5 = .ok (.ifCond .eq 11, 3) := q_ifCond_eq (bat_get dg_X12_wished_0_0 3 rfl rfl) rfl
theorem dX12_wished_16 : decode cX12_wished 16 = .ok (.iconst (-1), 1) := q_iconstm1 (bat_get dg_X12_wished_0_0 4 rfl rfl)
theorem dX12_wished_17 : decode cX12_wished 17 = .ok (.ireturn, 1) := q_ireturn (bat_get dg_X12_wished_0_0 5 rfl rfl)
theorem dX12_wished_8 : decode cX12_wished 8 = .ok (.aload_n 0, 1) := q_aload_n0 (bat_get dg_X12_wished_0_0 6 rfl rfl)
theorem dX12_wished_9 : decode cX12_wished 9 = .ok (.iload_n 2, 1) := q_iload_n2 (bat_get dg_X12_wished_0_0 7 rfl rfl)
theorem dX12_wished_10 : decode cX12_wished 10 = .ok (.invokevirtual 418, 3) := q_invokevirtual (bat_get dg_X12_wished_0_0 8 rfl rfl) rfl
theorem dX12_wished_13 : decode cX12_wished 13 = .ok (.ifCond .ne 5, 3) := q_ifCond_ne (bat_get dg_X12_wished_0_0 9 rfl rfl) rfl
theorem dX12_wished_18 : decode cX12_wished 18 = .ok (.aload_n 0, 1) := q_aload_n0 (bat_get dg_X12_wished_0_0 10 rfl rfl)
theorem dX12_wished_19 : decode cX12_wished 19 = .ok (.iconst 0, 1) := q_iconst0 (bat_get dg_X12_wished_0_0 11 rfl rfl)
theorem dX12_wished_20 : decode cX12_wished 20 = .ok (.invokevirtual 385, 3) := q_invokevirtual (bat_get dg_X12_wished_0_0 12 rfl rfl) rfl
theorem dX12_wished_23 : decode cX12_wished 23 = .ok (.iconst (-1), 1) := q_iconstm1 (bat_get dg_X12_wished_0_0 13 rfl rfl)
theorem dX12_wished_24 : decode cX12_wished 24 = .ok (.istore_n 3, 1) := q_istore_n3 (bat_get dg_X12_wished_0_0 14 rfl rfl)
theorem dX12_wished_25 : decode cX12_wished 25 = .ok (.iconst 0, 1) := q_iconst0 (bat_get dg_X12_wished_0_0 15 rfl rfl)
theorem dX12_wished_26 : decode cX12_wished 26 = .ok (.istore 4, 2) := q_istore (bat_get dg_X12_wished_0_0 16 rfl rfl)
theorem dX12_wished_28 : decode cX12_wished 28 = .ok (.iload 4, 2) := q_iload (bat_get dg_X12_wished_0_0 17 rfl rfl)
theorem dX12_wished_30 : decode cX12_wished 30 = .ok (.iconst 1, 1) := q_iconst1 (bat_get dg_X12_wished_0_0 18 rfl rfl)
theorem dX12_wished_31 : decode cX12_wished 31 = .ok (.aload_n 0, 1) := q_aload_n0 (bat_get dg_X12_wished_0_0 19 rfl rfl)
theorem dX12_wished_32 : decode cX12_wished 32 = .ok (.invokevirtual 315, 3) := q_invokevirtual (bat_get dg_X12_wished_0_0 20 rfl rfl) rfl
theorem dX12_wished_35 : decode cX12_wished 35 = .ok (.ishl, 1) := q_ishl (bat_get dg_X12_wished_0_0 21 rfl rfl)
theorem dX12_wished_36 : decode cX12_wished 36 = .ok (.if_icmp .ge 72, 3) := q_if_icmp_ge (bat_get dg_X12_wished_0_0 22 rfl rfl) rfl
theorem dX12_wished_108 : decode cX12_wished 108 = .ok (.iload_n 3, 1) := q_iload_n3 (bat_get dg_X12_wished_0_0 23 rfl rfl)
theorem dX12_wished_109 : decode cX12_wished 109 = .ok (.ireturn, 1) := q_ireturn (bat_get dg_X12_wished_0_0 24 rfl rfl)
theorem dX12_wished_39 : decode cX12_wished 39 = .ok (.iload_n 3, 1) := q_iload_n3 (bat_get dg_X12_wished_0_0 25 rfl rfl)
theorem dX12_wished_40 : decode cX12_wished 40 = .ok (.iconst (-1), 1) := q_iconstm1 (bat_get dg_X12_wished_0_0 26 rfl rfl)
theorem dX12_wished_41 : decode cX12_wished 41 = .ok (.if_icmp .eq 15, 3) := q_if_icmp_eq (bat_get dg_X12_wished_0_0 27 rfl rfl) rfl
theorem dX12_wished_56 : decode cX12_wished 56 = .ok (.aload_n 0, 1) := q_aload_n0 (bat_get dg_X12_wished_0_0 28 rfl rfl)
theorem dX12_wished_57 : decode cX12_wished 57 = .ok (.iload 4, 2) := q_iload (bat_get dg_X12_wished_0_0 29 rfl rfl)
theorem dX12_wished_59 : decode cX12_wished 59 = .ok (.invokevirtual 423, 3) := q_invokevirtual (bat_get dg_X12_wished_0_0 30 rfl rfl) rfl
theorem dX12_wished_62 : decode cX12_wished 62 = .ok (.ifCond .ne 6, 3) := q_ifCond_ne (bat_get dg_X12_wished_0_0 31 rfl rfl) rfl
theorem dX12_wished_68 : decode cX12_wished 68 = .ok (.aload_n 0, 1) := q_aload_n0 (bat_get dg_X12_wished_0_0 32 rfl rfl)
theorem dX12_wished_69 : decode cX12_wished 69 = .ok (.getfield 86, 3) := q_getfield (bat_get dg_X12_wished_0_0 33 rfl rfl) rfl
theorem dX12_wished_72 : decode cX12_wished 72 = .ok (.bipush 10, 2) := q_bipush (bat_get dg_X12_wished_0_0 34 rfl rfl) rfl
theorem dX12_wished_74 : decode cX12_wished 74 = .ok (.iload_n 1, 1) := q_iload_n1 (bat_get dg_X12_wished_0_0 35 rfl rfl)
theorem dX12_wished_75 : decode cX12_wished 75 = .ok (.imul, 1) := q_imul (bat_get dg_X12_wished_0_0 36 rfl rfl)
theorem dX12_wished_76 : decode cX12_wished 76 = .ok (.iload_n 2, 1) := q_iload_n2 (bat_get dg_X12_wished_0_0 37 rfl rfl)
theorem dX12_wished_77 : decode cX12_wished 77 = .ok (.iadd, 1) := q_iadd (bat_get dg_X12_wished_0_0 38 rfl rfl)
theorem dX12_wished_78 : decode cX12_wished 78 = .ok (.laload, 1) := q_laload (bat_get dg_X12_wished_0_0 39 rfl rfl)
theorem dg_X12_wished_44_79 : bqL cX12_wished 44 [(35, [42]), (36, [180, 0, 82]), (39, [16, 10]), (41, [27]), (42, [104]), (43, [28]), (44, [96]), (45, [47]), (46, [105]), (47, [42]), (48, [180, 1, 126]), (51, [148]), (52, [154, 0, 6]), (58, [132, 4, 1]), (61, [167, 255, 179]), (55, [21, 4]), (57, [62]), (21, [167, 0, 37]), (0, [21, 4]), (2, [184, 1, 153]), (5, [29]), (6, [184, 1, 153]), (9, [162, 0, 49])] = true := by decide +kernel
theorem dX12_wished_79 : decode cX12_wished 79 = .ok (.aload_n 0, 1) := q_aload_n0 (bat_get dg_X12_wished_44_79 0 rfl rfl)
theorem dX12_wished_80 : decode cX12_wished 80 = .ok (.getfield 82, 3) := q_getfield (bat_get dg_X12_wished_44_79 1 rfl rfl) rfl
theorem dX12_wished_83 : decode cX12_wished 83 = .ok (.bipush 10, 2) := q_bipush (bat_get dg_X12_wished_44_79 2 rfl rfl) rfl
theorem dX12_wished_85 : decode cX12_wished 85 = .ok (.iload_n 1, 1) := q_iload_n1 (bat_get dg_X12_wished_44_79 3 rfl rfl)
theorem dX12_wished_86 : decode cX12_wished 86 = .ok (.imul, 1) := q_imul (bat_get dg_X12_wished_44_79 4 rfl rfl)
theorem dX12_wished_87 : decode cX12_wished 87 = .ok (.iload_n 2, 1) := q_iload_n2 (bat_get dg_X12_wished_44_79 5 rfl rfl)
theorem dX12_wished_88 : decode cX12_wished 88 = .ok (.iadd, 1) := q_iadd (bat_get dg_X12_wished_44_79 6 rfl rfl)
theorem dX12_wished_89 : decode cX12_wished 89 = .ok (.laload, 1) := q_laload (bat_get dg_X12_wished_44_79 7 rfl rfl)
theorem dX12_wished_90 : decode cX12_wished 90 = .ok (.lmul, 1) := q_lmul (bat_get dg_X12_wished_44_79 8 rfl rfl)
theorem dX12_wished_91 : decode cX12_wished 91 = .ok (.aload_n 0, 1) := q_aload_n0 (bat_get dg_X12_wished_44_79 9 rfl rfl)
theorem dX12_wished_92 : decode cX12_wished 92 = .ok (.getfield 382, 3) := q_getfield (bat_get dg_X12_wished_44_79 10 rfl rfl) rfl
theorem dX12_wished_95 : decode cX12_wished 95 = .ok (.lcmp, 1) := q_lcmp (bat_get dg_X12_wished_44_79 11 rfl rfl)
theorem dX12_wished_96 : decode cX12_wished 96 = .ok (.ifCond .ne 6, 3) := q_ifCond_ne (bat_get dg_X12_wished_44_79 12 rfl rfl) rfl
theorem dX12_wished_102 : decode cX12_wished 102 = .ok (.iinc 4 1, 3) := q_iinc (bat_get dg_X12_wished_44_79 13 rfl rfl) rfl
theorem dX12_wished_105 : decode cX12_wished 105 = .ok (.goto (-77), 3) := q_goto (bat_get dg_X12_wished_44_79 14 rfl rfl) rfl
theorem dX12_wished_99 : decode cX12_wished 99 = .ok (.iload 4, 2) := q_iload (bat_get dg_X12_wished_44_79 15 rfl rfl)
theorem dX12_wished_101 : decode cX12_wished 101 = .ok (.istore_n 3, 1) := q_istore_n3 (bat_get dg_X12_wished_44_79 16 rfl rfl)
theorem dX12_wished_65 : decode cX12_wished 65 = .ok (.goto 37, 3) := q_goto (bat_get dg_X12_wished_44_79 17 rfl rfl) rfl
theorem dX12_wished_44 : decode cX12_wished 44 = .ok (.iload 4, 2) := q_iload (bat_get dg_X12_wished_44_79 18 rfl rfl)
theorem dX12_wished_46 : decode cX12_wished 46 = .ok (.invokestatic 409, 3) := q_invokestatic (bat_get dg_X12_wished_44_79 19 rfl rfl) rfl
theorem dX12_wished_49 : decode cX12_wished 49 = .ok (.iload_n 3, 1) := q_iload_n3 (bat_get dg_X12_wished_44_79 20 rfl rfl)
theorem dX12_wished_50 : decode cX12_wished 50 = .ok (.invokestatic 409, 3) := q_invokestatic (bat_get dg_X12_wished_44_79 21 rfl rfl) rfl
theorem dX12_wished_53 : decode cX12_wished 53 = .ok (.if_icmp .ge 49, 3) := q_if_icmp_ge (bat_get dg_X12_wished_44_79 22 rfl rfl) rfl
theorem w_7_236 : (Cond.code yX12_wished cX12_wished 5 (some .int)) ∈ wsL_law := sk_mem (ck_7 _ (List.mem_of_getElem? (i := 236) rfl)) rfl
set_option maxHeartbeats 4000000 in
set_option maxRecDepth 100000 in
theorem c_m_wished (l : Launch) (D : va_G) (cI cJ cC cZ cS : ClassId) (mm : Nat) (g : Nat → Nat) (ta : Nat) (pa : Nat) (pe : Nat) (pd : Int32) (pb : Nat) (pp : Int32) (pf : Int32) (pg : Int32) (pn : Int32) (rt : Int32) (rn : Int32) (cd : Nat) (sn : Int32) (il : Nat) (tk : Int32) (am : Int32) (at_ : Int32) (aa : Int32) (wt : Int32) (wy : Int64) (rm : Nat) (ud : Nat) (nu : Nat) (sd : Int64) (qn : Nat) (qw : Nat) (qo : Int32) (qb : Nat) (qp : Nat) (qa : Int64) (qi : Nat) (oc : Nat) (d : Int32) (o : Int32) (u0 : Int32) (u1 : Int32) (u2 : Int32) (u3 : Int32) (u4 : Int32) (u5 : Int32) (v0 : Int32) (v1 : Int32) (v2 : Int32) (v3 : Int32) (v4 : Int32) (v5 : Int32) (cs : Nat → Nat) (nw : Nat → Int32) (pt : Nat → Nat) (ql : Nat → Int64) (l0 : Nat) (l1 : Nat) (dm : Nat) (l3 : Nat) (ws_ : Nat → Int32) (yw : Nat → Int32) (yo : Nat → Int32) (be : Nat → Int64) (bf : Nat → Int64) (hil : il ≤ 1) (hild : il = 1 → 1 ≤ dm) (hdm : dm ≤ 9) (hp0 : progOk cs u3 v3) (hp1 : progOk cs u4 v4) (hp2 : progOk cs u5 v5) (hcs : ∀ j, cs j ≤ 20000) (hnw : nowOk nw) (hpt : ∀ j, pt j ≤ 9) : skM l yX12_wished cX12_wished 5 (some .int) 5 122 0 0 D (skT cI cJ cC cZ cS) [.ref mm, .int d, .int o] [(mm, .inr (12, mo g (nI ta) (nI pa) (nI pe) pd (nI pb) pp pf pg pn rt rn (nI cd) sn (nI il) tk am at_ aa 0 0 (-1) wt wy 0 (nI rm) (nI ud) (nI nu) sd (nI qn) (nI qw) qo (nI qb) (nI qp) qa (nI qi) (nI oc))), (g 24, .inl (cI, 6, .inl (l6 u0 u1 u2 u3 u4 u5))), (g 25, .inl (cI, 6, .inl (l6 v0 v1 v2 v3 v4 v5))), (g 26, .inl (cI, 3200, .inl (fun j => nI (cs j)))), (g 31, .inl (cI, 120, .inl nw)), (g 46, .inl (cI, 9, .inl (fun j => nI (pt j)))), (g 86, .inl (cJ, 1700, .inr (.inl ql))), (g 20, .inl (cI, 4, .inl (l4 (nI l0) (nI l1) (nI dm) (nI l3)))), (g 38, .inl (cI, 90, .inl ws_)), (g 36, .inl (cZ, 900, .inl yw)), (g 37, .inl (cZ, 900, .inl yo)), (g 43, .inl (cJ, 90, .inr (.inl be))), (g 44, .inl (cJ, 90, .inr (.inl bf)))] (skI D (skT cI cJ cC cZ cS) (fun (r : Int32) (u : va_W) => ∃ (tk2 : Int32), ∃ (qp2 : Nat), ∃ (am2 : Int32), ∃ (at_2 : Int32), ∃ (aa2 : Int32), ∃ (wy2 : Int64), ∃ (ql2 : Nat → Int64), ∃ (ws_2 : Nat → Int32), ∃ (yw2 : Nat → Int32), ∃ (yo2 : Nat → Int32), ∃ (be2 : Nat → Int64), ∃ (bf2 : Nat → Int64), u = [(mm, .inr (12, mo g (nI ta) (nI pa) (nI pe) pd (nI pb) pp pf pg pn rt rn (nI cd) sn (nI il) tk2 am2 at_2 aa2 0 0 (-1) wt wy2 0 (nI rm) (nI ud) (nI nu) sd (nI qn) (nI qw) qo (nI qb) (nI qp2) qa (nI qi) (nI oc))), (g 24, .inl (cI, 6, .inl (l6 u0 u1 u2 u3 u4 u5))), (g 25, .inl (cI, 6, .inl (l6 v0 v1 v2 v3 v4 v5))), (g 26, .inl (cI, 3200, .inl (fun j => nI (cs j)))), (g 31, .inl (cI, 120, .inl nw)), (g 46, .inl (cI, 9, .inl (fun j => nI (pt j)))), (g 86, .inl (cJ, 1700, .inr (.inl ql2))), (g 20, .inl (cI, 4, .inl (l4 (nI l0) (nI l1) (nI dm) (nI l3)))), (g 38, .inl (cI, 90, .inl ws_2)), (g 36, .inl (cZ, 900, .inl yw2)), (g 37, .inl (cZ, 900, .inl yo2)), (g 43, .inl (cJ, 90, .inr (.inl be2))), (g 44, .inl (cJ, 90, .inr (.inl bf2)))])) := by
  refine skM_of pf_X12_wished (Nat.le_of_ble_eq_true rfl) ?_
  intro p e s m below meth c A ls E hP hD hl
  refine skE_el E (fun hx hb hr hml hlocks hin hown hts hK hA => ?_)
  have hown : s.vm.findClass RX12 = some m.cls := hown
  have hS : va_S A s.heap s.heap [] := va_S.rf
  have hl : lv_has ls 5 [(0, .ref mm), (1, .int d), (2, .int o)] := hl
  refine lv_aload_n hx hb dX12_wished_0 rfl (lv_at hl 0 rfl) ?_
  refine lv_iload_n hx hb dX12_wished_1 rfl (lv_at hl 1 rfl) ?_
  refine sk_Vi (q0 := 0) (n := 1) (rest := []) (wr := fmR om_13_1020 _) ⟨hx, hb, hml, hown, hts⟩ hl.1 (c_m_isDay l D cI cJ cC cZ cS mm g ta pa pe pd pb pp pf pg pn rt rn cd sn il tk am at_ aa 0 0 (-1) wt wy 0 rm ud nu sd qn qw qo qb qp qa qi oc d l0 l1 dm l3 (by omega)) w_7_117 w_7_119 w_0_72 w_1_14 w_7_120 hd_X12_isDay_1 ⟨⟨(Nat.le_of_ble_eq_true rfl), (Nat.le_of_ble_eq_true rfl)⟩, (Nat.le_of_ble_eq_true rfl), (Nat.le_of_ble_eq_true rfl)⟩ hK hP hD hS hA (fmT om_13_1020 0) (fmF om_13_1020 0) (fm_C1 rfl rfl) (fm_R rfl rfl) (fm_nT om_13_1020 0) (fm_nF om_13_1020 0) (fm_di om_13_1020 0) rfl rfl rfl rfl (Nat.le_of_ble_eq_true rfl) dX12_wished_2 (fun r_2 u H locs hw hP hD hS => ?_)
  refine exE hw (fun b_1 hw1 => anE hw1 (fun hb1_3 hw2 => anE hw2 (fun er_5 eu_4 => ?_)))
  clear hw hw1 hw2
  subst er_5
  refine o_mgE (ws' := [(mm, .inr (12, mo g (nI ta) (nI pa) (nI pe) pd (nI pb) pp pf pg pn rt rn (nI cd) sn (nI il) tk am at_ aa 0 0 (-1) wt wy 0 (nI rm) (nI ud) (nI nu) sd (nI qn) (nI qw) qo (nI qb) (nI qp) qa (nI qi) (nI oc))), (g 24, .inl (cI, 6, .inl (l6 u0 u1 u2 u3 u4 u5))), (g 25, .inl (cI, 6, .inl (l6 v0 v1 v2 v3 v4 v5))), (g 26, .inl (cI, 3200, .inl (fun j => nI (cs j)))), (g 31, .inl (cI, 120, .inl nw)), (g 46, .inl (cI, 9, .inl (fun j => nI (pt j)))), (g 86, .inl (cJ, 1700, .inr (.inl ql))), (g 20, .inl (cI, 4, .inl (l4 (nI l0) (nI l1) (nI dm) (nI l3)))), (g 38, .inl (cI, 90, .inl ws_)), (g 36, .inl (cZ, 900, .inl yw)), (g 37, .inl (cZ, 900, .inl yo)), (g 43, .inl (cJ, 90, .inr (.inl be))), (g 44, .inl (cJ, 90, .inr (.inl bf)))]) eu_4 hP hD rfl (fun hP hD => ?_)
  refine lv_if_eq (tgt := 16) hx hb dX12_wished_5 (by decide) (fun c_6 => ?_) (fun c_6 => ?_)
  · have c_6 : b_1 = 0 := (neq b_1 0 (by omega) (by omega)).mp c_6
    refine lv_iconst (v := (-1)) hx hb dX12_wished_16 (by decide) ?_
    exact sk_iret hx hb hr rfl hlocks hK hP hD hS (⟨tk, qp, am, at_, aa, wy, ql, ws_, yw, yo, be, bf, rfl⟩) (Nat.le_of_ble_eq_true rfl) (Nat.le_of_ble_eq_true rfl) dX12_wished_17
  · have c_6 : ¬ (b_1 = 0) := fun h => c_6 ((neq b_1 0 (by omega) (by omega)).mpr h)
    obtain ⟨kd_7, hkd_7, rfl⟩ := (hb1_3.resolve_left (by omega)).2
    refine lv_aload_n hx hb dX12_wished_8 rfl (lv_at hl 0 rfl) ?_
    refine lv_iload_n hx hb dX12_wished_9 rfl (lv_at hl 2 rfl) ?_
    refine sk_Vi (q0 := 0) (n := 1) (rest := []) (wr := fmR om_13_1000 _) ⟨hx, hb, hml, hown, hts⟩ hl.1 (c_m_isMood l D cI cJ cC cZ cS mm g ta pa pe pd pb pp pf pg pn rt rn cd sn il tk am at_ aa 0 0 (-1) wt wy 0 rm ud nu sd qn qw qo qb qp qa qi oc o) w_7_126 w_7_128 w_0_73 w_1_14 w_7_129 hd_X12_isMood_1 ⟨⟨(Nat.le_of_ble_eq_true rfl), (Nat.le_of_ble_eq_true rfl)⟩, (Nat.le_of_ble_eq_true rfl), (Nat.le_of_ble_eq_true rfl)⟩ hK hP hD hS hA (fmT om_13_1000 0) (fmF om_13_1000 0) (fm_C1 rfl rfl) (fm_R rfl rfl) (fm_nT om_13_1000 0) (fm_nF om_13_1000 0) (fm_di om_13_1000 0) rfl rfl rfl rfl (Nat.le_of_ble_eq_true rfl) dX12_wished_10 (fun r_9 u H locs hw hP hD hS => ?_)
    refine exE hw (fun b_8 hw1 => anE hw1 (fun hb1_10 hw2 => anE hw2 (fun er_12 eu_11 => ?_)))
    clear hw hw1 hw2
    subst er_12
    refine o_mgE (ws' := [(mm, .inr (12, mo g (nI ta) (nI pa) (nI pe) pd (nI pb) pp pf pg pn rt rn (nI cd) sn (nI il) tk am at_ aa 0 0 (-1) wt wy 0 (nI rm) (nI ud) (nI nu) sd (nI qn) (nI qw) qo (nI qb) (nI qp) qa (nI qi) (nI oc))), (g 24, .inl (cI, 6, .inl (l6 u0 u1 u2 u3 u4 u5))), (g 25, .inl (cI, 6, .inl (l6 v0 v1 v2 v3 v4 v5))), (g 26, .inl (cI, 3200, .inl (fun j => nI (cs j)))), (g 31, .inl (cI, 120, .inl nw)), (g 46, .inl (cI, 9, .inl (fun j => nI (pt j)))), (g 86, .inl (cJ, 1700, .inr (.inl ql))), (g 20, .inl (cI, 4, .inl (l4 (nI l0) (nI l1) (nI dm) (nI l3)))), (g 38, .inl (cI, 90, .inl ws_)), (g 36, .inl (cZ, 900, .inl yw)), (g 37, .inl (cZ, 900, .inl yo)), (g 43, .inl (cJ, 90, .inr (.inl be))), (g 44, .inl (cJ, 90, .inr (.inl bf)))]) eu_11 hP hD rfl (fun hP hD => ?_)
    refine lv_if_ne (tgt := 18) hx hb dX12_wished_13 (by decide) (fun c_13 => ?_) (fun c_13 => ?_)
    · have c_13 : ¬ (b_8 = 0) := fun h => c_13 ((neq b_8 0 (by omega) (by omega)).mpr h)
      obtain ⟨kd_14, hkd_14, rfl⟩ := (hb1_10.resolve_left (by omega)).2
      refine lv_aload_n hx hb dX12_wished_18 rfl (lv_at hl 0 rfl) ?_
      refine lv_iconst (v := 0) hx hb dX12_wished_19 (by decide) ?_
      refine sk_Vv (q0 := 0) (n := 1) (rest := []) (wr := fmR om_13_1ffc _) ⟨hx, hb, hml, hown, hts⟩ hl.1 (c_m_laysDays l D cI cJ cC cZ cS mm g ta pa pe pd pb pp pf pg pn rt rn cd sn il tk am at_ aa 0 0 (-1) wt wy 0 rm ud nu sd qn qw qo qb qp qa qi oc 0 u0 u1 u2 u3 u4 u5 v0 v1 v2 v3 v4 v5 cs nw pt ql l0 l1 dm l3 ws_ yw yo (by omega) hp0 hp1 hp2 hcs hnw hpt) w_7_193 w_7_195 w_0_83 w_1_14 w_7_196 hd_X12_laysDays_1 ⟨⟨(Nat.le_of_ble_eq_true rfl), (Nat.le_of_ble_eq_true rfl)⟩, (Nat.le_of_ble_eq_true rfl), (Nat.le_of_ble_eq_true rfl)⟩ hK hP hD hS hA (fmT om_13_1ffc 0) (fmF om_13_1ffc 0) (fm_C1 rfl rfl) (fm_R rfl rfl) (fm_nT om_13_1ffc 0) (fm_nF om_13_1ffc 0) (fm_di om_13_1ffc 0) rfl rfl rfl rfl (Nat.le_of_ble_eq_true rfl) dX12_wished_20 (fun u H locs hw hP hD hS => ?_)
      refine exE hw (fun tk2_15 hw1 => exE hw1 (fun qp2_16 hw2 => exE hw2 (fun am2_17 hw3 => exE hw3 (fun at_2_18 hw4 => exE hw4 (fun aa2_19 hw5 => exE hw5 (fun ql2_20 hw6 => exE hw6 (fun ws_2_21 hw7 => exE hw7 (fun yw2_22 hw8 => exE hw8 (fun yo2_23 eu_24 => ?_)))))))))
      clear hw hw1 hw2 hw3 hw4 hw5 hw6 hw7 hw8
      refine o_mgE (ws' := [(mm, .inr (12, mo g (nI ta) (nI pa) (nI pe) pd (nI pb) pp pf pg pn rt rn (nI cd) sn (nI il) tk2_15 am2_17 at_2_18 aa2_19 0 0 (-1) wt wy 0 (nI rm) (nI ud) (nI nu) sd (nI qn) (nI qw) qo (nI qb) (nI qp2_16) qa (nI qi) (nI oc))), (g 24, .inl (cI, 6, .inl (l6 u0 u1 u2 u3 u4 u5))), (g 25, .inl (cI, 6, .inl (l6 v0 v1 v2 v3 v4 v5))), (g 26, .inl (cI, 3200, .inl (fun j => nI (cs j)))), (g 31, .inl (cI, 120, .inl nw)), (g 46, .inl (cI, 9, .inl (fun j => nI (pt j)))), (g 86, .inl (cJ, 1700, .inr (.inl ql2_20))), (g 20, .inl (cI, 4, .inl (l4 (nI l0) (nI l1) (nI dm) (nI l3)))), (g 38, .inl (cI, 90, .inl ws_2_21)), (g 36, .inl (cZ, 900, .inl yw2_22)), (g 37, .inl (cZ, 900, .inl yo2_23)), (g 43, .inl (cJ, 90, .inr (.inl be))), (g 44, .inl (cJ, 90, .inr (.inl bf)))]) eu_24 hP hD rfl (fun hP hD => ?_)
      refine lv_iconst (v := (-1)) hx hb dX12_wished_23 (by decide) ?_
      refine lv_istore_n (lv' := [(3, .int (-1)), (0, .ref mm), (1, .int (nI kd_7)), (2, .int (nI kd_14))]) hx hb dX12_wished_24 rfl hl (by decide) rfl (fun ls hl => ?_)
      refine lv_iconst (v := 0) hx hb dX12_wished_25 (by decide) ?_
      refine lv_istore (lv' := [(4, .int 0), (3, .int (-1)), (0, .ref mm), (1, .int (nI kd_7)), (2, .int (nI kd_14))]) hx hb dX12_wished_26 hl (by decide) rfl (fun ls hl => ?_)
      have lp_25 : ∀ (n_26 : Nat) (i : Nat) (be_ : Int32) (zwyh : Int64) (hb_ : Nat → Int64) (hf_ : Nat → Int64) (H : Heap) (locs : List Loc) (ls : Array Slot), 512 - i < n_26 → (i ≤ 512) → va_P D vwCl [(mm, .inr (12, mo g (nI ta) (nI pa) (nI pe) pd (nI pb) pp pf pg pn rt rn (nI cd) sn (nI il) tk2_15 am2_17 at_2_18 aa2_19 0 0 (-1) wt zwyh 0 (nI rm) (nI ud) (nI nu) sd (nI qn) (nI qw) qo (nI qb) (nI qp2_16) qa (nI qi) (nI oc))), (g 24, .inl (cI, 6, .inl (l6 u0 u1 u2 u3 u4 u5))), (g 25, .inl (cI, 6, .inl (l6 v0 v1 v2 v3 v4 v5))), (g 26, .inl (cI, 3200, .inl (fun j => nI (cs j)))), (g 31, .inl (cI, 120, .inl nw)), (g 46, .inl (cI, 9, .inl (fun j => nI (pt j)))), (g 86, .inl (cJ, 1700, .inr (.inl ql2_20))), (g 20, .inl (cI, 4, .inl (l4 (nI l0) (nI l1) (nI dm) (nI l3)))), (g 38, .inl (cI, 90, .inl ws_2_21)), (g 36, .inl (cZ, 900, .inl yw2_22)), (g 37, .inl (cZ, 900, .inl yo2_23)), (g 43, .inl (cJ, 90, .inr (.inl hb_))), (g 44, .inl (cJ, 90, .inr (.inl hf_)))] H → va_D A [(mm, .inr (12, mo g (nI ta) (nI pa) (nI pe) pd (nI pb) pp pf pg pn rt rn (nI cd) sn (nI il) tk2_15 am2_17 at_2_18 aa2_19 0 0 (-1) wt zwyh 0 (nI rm) (nI ud) (nI nu) sd (nI qn) (nI qw) qo (nI qb) (nI qp2_16) qa (nI qi) (nI oc))), (g 24, .inl (cI, 6, .inl (l6 u0 u1 u2 u3 u4 u5))), (g 25, .inl (cI, 6, .inl (l6 v0 v1 v2 v3 v4 v5))), (g 26, .inl (cI, 3200, .inl (fun j => nI (cs j)))), (g 31, .inl (cI, 120, .inl nw)), (g 46, .inl (cI, 9, .inl (fun j => nI (pt j)))), (g 86, .inl (cJ, 1700, .inr (.inl ql2_20))), (g 20, .inl (cI, 4, .inl (l4 (nI l0) (nI l1) (nI dm) (nI l3)))), (g 38, .inl (cI, 90, .inl ws_2_21)), (g 36, .inl (cZ, 900, .inl yw2_22)), (g 37, .inl (cZ, 900, .inl yo2_23)), (g 43, .inl (cJ, 90, .inr (.inl hb_))), (g 44, .inl (cJ, 90, .inr (.inl hf_)))] → va_S A s.heap H locs → lv_has ls 5 [(4, .int (nI i)), (3, .int be_), (0, .ref mm), (1, .int (nI kd_7)), (2, .int (nI kd_14))] → W p l e { frames := 5, cells := 0, slots := 0, locals := 122 } s m ([.ref mm, .int (nI kd_7), .int (nI kd_14)] : List Value).toArray below meth c H locs 0 0 (MQ below (skI D (skT cI cJ cC cZ cS) (fun (r : Int32) (u : va_W) => ∃ (tk2 : Int32), ∃ (qp2 : Nat), ∃ (am2 : Int32), ∃ (at_2 : Int32), ∃ (aa2 : Int32), ∃ (wy2 : Int64), ∃ (ql2 : Nat → Int64), ∃ (ws_2 : Nat → Int32), ∃ (yw2 : Nat → Int32), ∃ (yo2 : Nat → Int32), ∃ (be2 : Nat → Int64), ∃ (bf2 : Nat → Int64), u = [(mm, .inr (12, mo g (nI ta) (nI pa) (nI pe) pd (nI pb) pp pf pg pn rt rn (nI cd) sn (nI il) tk2 am2 at_2 aa2 0 0 (-1) wt wy2 0 (nI rm) (nI ud) (nI nu) sd (nI qn) (nI qw) qo (nI qb) (nI qp2) qa (nI qi) (nI oc))), (g 24, .inl (cI, 6, .inl (l6 u0 u1 u2 u3 u4 u5))), (g 25, .inl (cI, 6, .inl (l6 v0 v1 v2 v3 v4 v5))), (g 26, .inl (cI, 3200, .inl (fun j => nI (cs j)))), (g 31, .inl (cI, 120, .inl nw)), (g 46, .inl (cI, 9, .inl (fun j => nI (pt j)))), (g 86, .inl (cJ, 1700, .inr (.inl ql2))), (g 20, .inl (cI, 4, .inl (l4 (nI l0) (nI l1) (nI dm) (nI l3)))), (g 38, .inl (cI, 90, .inl ws_2)), (g 36, .inl (cZ, 900, .inl yw2)), (g 37, .inl (cZ, 900, .inl yo2)), (g 43, .inl (cJ, 90, .inr (.inl be2))), (g 44, .inl (cJ, 90, .inr (.inl bf2)))]) A) ([.ref mm, .int (nI kd_7), .int (nI kd_14)] : List Value).toArray s 0 0 A) (F0 m 28 ls []) := by
        intro n_26
        induction n_26 with
        | zero => intro i be_ zwyh hb_ hf_ H locs ls hm; exact absurd hm (Nat.not_lt_zero _)
        | succ n_26 ih_lp_25 =>
          intro i be_ zwyh hb_ hf_ H locs ls hm hi hP hD hS hl
          refine lv_iload hx hb dX12_wished_28 (lv_at hl 0 rfl) ?_
          refine lv_iconst (v := 1) hx hb dX12_wished_30 (by decide) ?_
          refine lv_aload_n hx hb dX12_wished_31 rfl (lv_at hl 2 rfl) ?_
          refine sk_Vi (q0 := 0) (n := 0) (rest := [.int 1, .int (nI i)]) (wr := fmR om_13_1020 _) ⟨hx, hb, hml, hown, hts⟩ hl.1 (c_m_dayMany l D cI cJ cC cZ cS mm g ta pa pe pd pb pp pf pg pn rt rn cd sn il tk2_15 am2_17 at_2_18 aa2_19 0 0 (-1) wt zwyh 0 rm ud nu sd qn qw qo qb qp2_16 qa qi oc l0 l1 dm l3) w_7_98 w_7_100 w_0_69 w_1_14 w_7_101 hd_X12_dayMany_0 ⟨⟨(Nat.le_of_ble_eq_true rfl), (Nat.le_of_ble_eq_true rfl)⟩, (Nat.le_of_ble_eq_true rfl), (Nat.le_of_ble_eq_true rfl)⟩ hK hP hD hS hA (fmT om_13_1020 0) (fmF om_13_1020 0) (fm_C1 rfl rfl) (fm_R rfl rfl) (fm_nT om_13_1020 0) (fm_nF om_13_1020 0) (fm_di om_13_1020 0) rfl rfl rfl rfl (Nat.le_of_ble_eq_true rfl) dX12_wished_32 (fun r_27 u H locs hw hP hD hS => ?_)
          refine anE hw (fun er_29 eu_28 => ?_)
          clear hw
          subst er_29
          refine o_mgE (ws' := [(mm, .inr (12, mo g (nI ta) (nI pa) (nI pe) pd (nI pb) pp pf pg pn rt rn (nI cd) sn (nI il) tk2_15 am2_17 at_2_18 aa2_19 0 0 (-1) wt zwyh 0 (nI rm) (nI ud) (nI nu) sd (nI qn) (nI qw) qo (nI qb) (nI qp2_16) qa (nI qi) (nI oc))), (g 24, .inl (cI, 6, .inl (l6 u0 u1 u2 u3 u4 u5))), (g 25, .inl (cI, 6, .inl (l6 v0 v1 v2 v3 v4 v5))), (g 26, .inl (cI, 3200, .inl (fun j => nI (cs j)))), (g 31, .inl (cI, 120, .inl nw)), (g 46, .inl (cI, 9, .inl (fun j => nI (pt j)))), (g 86, .inl (cJ, 1700, .inr (.inl ql2_20))), (g 20, .inl (cI, 4, .inl (l4 (nI l0) (nI l1) (nI dm) (nI l3)))), (g 38, .inl (cI, 90, .inl ws_2_21)), (g 36, .inl (cZ, 900, .inl yw2_22)), (g 37, .inl (cZ, 900, .inl yo2_23)), (g 43, .inl (cJ, 90, .inr (.inl hb_))), (g 44, .inl (cJ, 90, .inr (.inl hf_)))]) eu_28 hP hD rfl (fun hP hD => ?_)
          refine lv_ishl hx hb dX12_wished_35 ?_
          obtain ⟨k_30, hk_30, ek_30⟩ := nshl1 dm (by omega)
          refine sk_top (nI k_30) ek_30 ?_
          refine lv_icmp_ge (tgt := 108) hx hb dX12_wished_36 (by decide) (fun c_31 => ?_) (fun c_31 => ?_)
          · have c_31 : k_30 ≤ i := (nle k_30 i (by omega) (by omega)).mp c_31
            refine lv_iload_n hx hb dX12_wished_108 rfl (lv_at hl 1 rfl) ?_
            exact sk_iret hx hb hr rfl hlocks hK hP hD hS (⟨tk2_15, qp2_16, am2_17, at_2_18, aa2_19, zwyh, ql2_20, ws_2_21, yw2_22, yo2_23, hb_, hf_, rfl⟩) (Nat.le_of_ble_eq_true rfl) (Nat.le_of_ble_eq_true rfl) dX12_wished_109
          · have c_31 : ¬ (k_30 ≤ i) := fun h => c_31 ((nle k_30 i (by omega) (by omega)).mpr h)
            refine lv_iload_n hx hb dX12_wished_39 rfl (lv_at hl 1 rfl) ?_
            refine lv_iconst (v := (-1)) hx hb dX12_wished_40 (by decide) ?_
            refine lv_icmp_eq (tgt := 56) hx hb dX12_wished_41 (by decide) (fun c_32 => ?_) (fun c_32 => ?_)
            · skip
              refine lv_aload_n hx hb dX12_wished_56 rfl (lv_at hl 2 rfl) ?_
              refine lv_iload hx hb dX12_wished_57 (lv_at hl 0 rfl) ?_
              refine sk_Vi (q0 := 0) (n := 1) (rest := []) (wr := fmR om_13_112f _) ⟨hx, hb, hml, hown, hts⟩ hl.1 (c_m_doesAgree l D cI cJ cC cZ cS mm g ta pa pe pd pb pp pf pg pn rt rn cd sn il tk2_15 am2_17 at_2_18 aa2_19 0 wt zwyh 0 rm ud nu sd qn qw qo qb qp2_16 qa qi oc (nI i) l0 l1 dm l3 nw yo2_23 yw2_22 hb_ hf_ (by omega) (by omega) hnw) w_7_229 w_7_231 w_0_89 w_1_14 w_7_232 hd_X12_doesAgree_1 ⟨⟨(Nat.le_of_ble_eq_true rfl), (Nat.le_of_ble_eq_true rfl)⟩, (Nat.le_of_ble_eq_true rfl), (Nat.le_of_ble_eq_true rfl)⟩ hK hP hD hS hA [0, 7, 4, 10, 9, 11, 12] (fmF om_13_112f 0) rfl (fm_R rfl rfl) (by decide +kernel) (fm_nF om_13_112f 0) (by decide +kernel) rfl rfl rfl rfl (Nat.le_of_ble_eq_true rfl) dX12_wished_59 (fun r_37 u H locs hw hP hD hS => ?_)
              refine exE hw (fun b_33 hw1 => exE hw1 (fun wy2_34 hw2 => exE hw2 (fun be2_35 hw3 => exE hw3 (fun bf2_36 hw4 => anE hw4 (fun hbe_38 hw5 => anE hw5 (fun hwy_39 hw6 => anE hw6 (fun hb1_40 hw7 => anE hw7 (fun er_42 eu_41 => ?_))))))))
              clear hw hw1 hw2 hw3 hw4 hw5 hw6 hw7
              subst er_42
              refine o_mgqE (ux := [(mm, .inr (12, mo g (nI ta) (nI pa) (nI pe) pd (nI pb) pp pf pg pn rt rn (nI cd) sn (nI il) tk2_15 am2_17 at_2_18 aa2_19 0 0 (-1) wt wy2_34 0 (nI rm) (nI ud) (nI nu) sd (nI qn) (nI qw) qo (nI qb) (nI qp2_16) qa (nI qi) (nI oc))), (g 31, .inl (cI, 120, .inl nw)), (g 20, .inl (cI, 4, .inl (l4 (nI l0) (nI l1) (nI dm) (nI l3)))), (g 36, .inl (cZ, 900, .inl yw2_22)), (g 37, .inl (cZ, 900, .inl yo2_23)), (g 43, .inl (cJ, 90, .inr (.inl be2_35))), (g 44, .inl (cJ, 90, .inr (.inl bf2_36)))]) (ws' := [(mm, .inr (12, mo g (nI ta) (nI pa) (nI pe) pd (nI pb) pp pf pg pn rt rn (nI cd) sn (nI il) tk2_15 am2_17 at_2_18 aa2_19 0 0 (-1) wt wy2_34 0 (nI rm) (nI ud) (nI nu) sd (nI qn) (nI qw) qo (nI qb) (nI qp2_16) qa (nI qi) (nI oc))), (g 24, .inl (cI, 6, .inl (l6 u0 u1 u2 u3 u4 u5))), (g 25, .inl (cI, 6, .inl (l6 v0 v1 v2 v3 v4 v5))), (g 26, .inl (cI, 3200, .inl (fun j => nI (cs j)))), (g 31, .inl (cI, 120, .inl nw)), (g 46, .inl (cI, 9, .inl (fun j => nI (pt j)))), (g 86, .inl (cJ, 1700, .inr (.inl ql2_20))), (g 20, .inl (cI, 4, .inl (l4 (nI l0) (nI l1) (nI dm) (nI l3)))), (g 38, .inl (cI, 90, .inl ws_2_21)), (g 36, .inl (cZ, 900, .inl yw2_22)), (g 37, .inl (cZ, 900, .inl yo2_23)), (g 43, .inl (cJ, 90, .inr (.inl be2_35))), (g 44, .inl (cJ, 90, .inr (.inl bf2_36)))]) eu_41 [0, 2, 1, 4, 3, 5, 6] (by decide +kernel) rfl hP hD rfl (fun hP hD => ?_)
              refine lv_if_ne (tgt := 68) hx hb dX12_wished_62 (by decide) (fun c_43 => ?_) (fun c_43 => ?_)
              · have c_43 : ¬ (b_33 = 0) := fun h => c_43 ((neq b_33 0 (by omega) (by omega)).mpr h)
                refine lv_aload_n hx hb dX12_wished_68 rfl (lv_at hl 2 rfl) ?_
                refine sk_get (v := .ref (g 44)) (C := RX12) (T := TX12) (N := 92) hx hb hts inlX12 hown hK hP 0 rfl rfl 44 (by decide) w_5_199 rfl dX12_wished_69 ?_
                refine lv_bipush (v := 10) hx hb dX12_wished_72 (by decide) ?_
                refine lv_iload_n hx hb dX12_wished_74 rfl (lv_at hl 3 rfl) ?_
                refine lv_imul hx hb dX12_wished_75 ?_
                refine sk_top (nI (10 * kd_7)) (nmul 10 kd_7) ?_
                refine lv_iload_n hx hb dX12_wished_76 rfl (lv_at hl 4 rfl) ?_
                refine lv_iadd hx hb dX12_wished_77 ?_
                refine sk_top (nI (10 * kd_7 + kd_14)) (nI_add (10 * kd_7) kd_14) ?_
                refine va_lald hx hb hK.1 hP 12 1 rfl rfl (vin (10 * kd_7 + kd_14) 90 (by omega) (by omega)) dX12_wished_78 ?_
                refine lv_topl (fun v_44 ev_44 => ?_)
                refine lv_aload_n hx hb dX12_wished_79 rfl (lv_at hl 2 rfl) ?_
                refine sk_get (v := .ref (g 43)) (C := RX12) (T := TX12) (N := 92) hx hb hts inlX12 hown hK hP 0 rfl rfl 43 (by decide) w_5_198 rfl dX12_wished_80 ?_
                refine lv_bipush (v := 10) hx hb dX12_wished_83 (by decide) ?_
                refine lv_iload_n hx hb dX12_wished_85 rfl (lv_at hl 3 rfl) ?_
                refine lv_imul hx hb dX12_wished_86 ?_
                refine sk_top (nI (10 * kd_7)) (nmul 10 kd_7) ?_
                refine lv_iload_n hx hb dX12_wished_87 rfl (lv_at hl 4 rfl) ?_
                refine lv_iadd hx hb dX12_wished_88 ?_
                refine sk_top (nI (10 * kd_7 + kd_14)) (nI_add (10 * kd_7) kd_14) ?_
                refine va_lald hx hb hK.1 hP 11 1 rfl rfl (vin (10 * kd_7 + kd_14) 90 (by omega) (by omega)) dX12_wished_89 ?_
                refine lv_topl (fun v_45 ev_45 => ?_)
                refine lv_lmul hx hb dX12_wished_90 ?_
                refine lv_topl (fun v_46 ev_46 => ?_)
                refine lv_aload_n hx hb dX12_wished_91 rfl (lv_at hl 2 rfl) ?_
                refine sk_get (v := .long wy2_34) (C := RX12) (T := TX12) (N := 92) hx hb hts inlX12 hown hK hP 0 rfl rfl 45 (by decide) w_5_200 rfl dX12_wished_92 ?_
                refine W.lcmp hx hb dX12_wished_95 ?_
                refine lv_if_ne (tgt := 102) hx hb dX12_wished_96 (by decide) (fun c_47 => ?_) (fun c_47 => ?_)
                · skip
                  refine lv_iinc (v := nI (i + 1)) (lv' := [(4, .int (nI (i + 1))), (3, .int be_), (0, .ref mm), (1, .int (nI kd_7)), (2, .int (nI kd_14))]) hx hb dX12_wished_102 hl (k := 0) rfl (ninc i 1 (by decide)) (by decide) rfl (fun ls hl => ?_)
                  refine lv_goto (tgt := 28) hx hb dX12_wished_105 (by decide) ?_
                  exact ih_lp_25 (i + 1) be_ wy2_34 be2_35 bf2_36 _ _ _ (by omega) (by omega) hP hD hS (lv_sub hl [0, 1, 2, 3, 4] rfl)
                · skip
                  refine lv_iload hx hb dX12_wished_99 (lv_at hl 0 rfl) ?_
                  refine lv_istore_n (lv' := [(3, .int (nI i)), (4, .int (nI i)), (0, .ref mm), (1, .int (nI kd_7)), (2, .int (nI kd_14))]) hx hb dX12_wished_101 rfl hl (by decide) rfl (fun ls hl => ?_)
                  refine lv_iinc (v := nI (i + 1)) (lv' := [(4, .int (nI (i + 1))), (3, .int (nI i)), (0, .ref mm), (1, .int (nI kd_7)), (2, .int (nI kd_14))]) hx hb dX12_wished_102 hl (k := 1) rfl (ninc i 1 (by decide)) (by decide) rfl (fun ls hl => ?_)
                  refine lv_goto (tgt := 28) hx hb dX12_wished_105 (by decide) ?_
                  exact ih_lp_25 (i + 1) (nI i) wy2_34 be2_35 bf2_36 _ _ _ (by omega) (by omega) hP hD hS (lv_sub hl [0, 1, 2, 3, 4] rfl)
              · have c_43 : b_33 = 0 := (neq b_33 0 (by omega) (by omega)).mp c_43
                refine lv_goto (tgt := 102) hx hb dX12_wished_65 (by decide) ?_
                refine lv_iinc (v := nI (i + 1)) (lv' := [(4, .int (nI (i + 1))), (3, .int be_), (0, .ref mm), (1, .int (nI kd_7)), (2, .int (nI kd_14))]) hx hb dX12_wished_102 hl (k := 0) rfl (ninc i 1 (by decide)) (by decide) rfl (fun ls hl => ?_)
                refine lv_goto (tgt := 28) hx hb dX12_wished_105 (by decide) ?_
                exact ih_lp_25 (i + 1) be_ wy2_34 be2_35 bf2_36 _ _ _ (by omega) (by omega) hP hD hS (lv_sub hl [0, 1, 2, 3, 4] rfl)
            · skip
              refine lv_iload hx hb dX12_wished_44 (lv_at hl 0 rfl) ?_
              refine sk_Si (n := 1) (rest := []) (wr := [(mm, .inr (12, mo g (nI ta) (nI pa) (nI pe) pd (nI pb) pp pf pg pn rt rn (nI cd) sn (nI il) tk2_15 am2_17 at_2_18 aa2_19 0 0 (-1) wt zwyh 0 (nI rm) (nI ud) (nI nu) sd (nI qn) (nI qw) qo (nI qb) (nI qp2_16) qa (nI qi) (nI oc))), (g 24, .inl (cI, 6, .inl (l6 u0 u1 u2 u3 u4 u5))), (g 25, .inl (cI, 6, .inl (l6 v0 v1 v2 v3 v4 v5))), (g 26, .inl (cI, 3200, .inl (fun j => nI (cs j)))), (g 31, .inl (cI, 120, .inl nw)), (g 46, .inl (cI, 9, .inl (fun j => nI (pt j)))), (g 86, .inl (cJ, 1700, .inr (.inl ql2_20))), (g 20, .inl (cI, 4, .inl (l4 (nI l0) (nI l1) (nI dm) (nI l3)))), (g 38, .inl (cI, 90, .inl ws_2_21)), (g 36, .inl (cZ, 900, .inl yw2_22)), (g 37, .inl (cZ, 900, .inl yo2_23)), (g 43, .inl (cJ, 90, .inr (.inl hb_))), (g 44, .inl (cJ, 90, .inr (.inl hf_)))]) ⟨hx, hb, hml, hown, hts⟩ hl.1 (c_m_bits l D cI cJ cC cZ cS (nI i)) w_7_110 w_7_111 w_1_14 w_7_112 hd_X12_bits_1 ⟨⟨(Nat.le_of_ble_eq_true rfl), (Nat.le_of_ble_eq_true rfl)⟩, (Nat.le_of_ble_eq_true rfl), (Nat.le_of_ble_eq_true rfl)⟩ hK hP hD hS hA [] [0, 1, 2, 3, 4, 5, 6, 7, 8, 9, 10, 11, 12] rfl rfl (by decide +kernel) (by decide +kernel) (by decide +kernel) rfl rfl (Nat.le_of_ble_eq_true rfl) dX12_wished_46 (fun r_48 u H locs hw hP hD hS => ?_)
              obtain rfl := hw
              refine o_re (ws' := [(mm, .inr (12, mo g (nI ta) (nI pa) (nI pe) pd (nI pb) pp pf pg pn rt rn (nI cd) sn (nI il) tk2_15 am2_17 at_2_18 aa2_19 0 0 (-1) wt zwyh 0 (nI rm) (nI ud) (nI nu) sd (nI qn) (nI qw) qo (nI qb) (nI qp2_16) qa (nI qi) (nI oc))), (g 24, .inl (cI, 6, .inl (l6 u0 u1 u2 u3 u4 u5))), (g 25, .inl (cI, 6, .inl (l6 v0 v1 v2 v3 v4 v5))), (g 26, .inl (cI, 3200, .inl (fun j => nI (cs j)))), (g 31, .inl (cI, 120, .inl nw)), (g 46, .inl (cI, 9, .inl (fun j => nI (pt j)))), (g 86, .inl (cJ, 1700, .inr (.inl ql2_20))), (g 20, .inl (cI, 4, .inl (l4 (nI l0) (nI l1) (nI dm) (nI l3)))), (g 38, .inl (cI, 90, .inl ws_2_21)), (g 36, .inl (cZ, 900, .inl yw2_22)), (g 37, .inl (cZ, 900, .inl yo2_23)), (g 43, .inl (cJ, 90, .inr (.inl hb_))), (g 44, .inl (cJ, 90, .inr (.inl hf_)))]) hP hD rfl (fun hP hD => ?_)
              refine lv_iload_n hx hb dX12_wished_49 rfl (lv_at hl 1 rfl) ?_
              refine sk_Si (n := 1) (rest := [.int r_48]) (wr := [(mm, .inr (12, mo g (nI ta) (nI pa) (nI pe) pd (nI pb) pp pf pg pn rt rn (nI cd) sn (nI il) tk2_15 am2_17 at_2_18 aa2_19 0 0 (-1) wt zwyh 0 (nI rm) (nI ud) (nI nu) sd (nI qn) (nI qw) qo (nI qb) (nI qp2_16) qa (nI qi) (nI oc))), (g 24, .inl (cI, 6, .inl (l6 u0 u1 u2 u3 u4 u5))), (g 25, .inl (cI, 6, .inl (l6 v0 v1 v2 v3 v4 v5))), (g 26, .inl (cI, 3200, .inl (fun j => nI (cs j)))), (g 31, .inl (cI, 120, .inl nw)), (g 46, .inl (cI, 9, .inl (fun j => nI (pt j)))), (g 86, .inl (cJ, 1700, .inr (.inl ql2_20))), (g 20, .inl (cI, 4, .inl (l4 (nI l0) (nI l1) (nI dm) (nI l3)))), (g 38, .inl (cI, 90, .inl ws_2_21)), (g 36, .inl (cZ, 900, .inl yw2_22)), (g 37, .inl (cZ, 900, .inl yo2_23)), (g 43, .inl (cJ, 90, .inr (.inl hb_))), (g 44, .inl (cJ, 90, .inr (.inl hf_)))]) ⟨hx, hb, hml, hown, hts⟩ hl.1 (c_m_bits l D cI cJ cC cZ cS be_) w_7_110 w_7_111 w_1_14 w_7_112 hd_X12_bits_1 ⟨⟨(Nat.le_of_ble_eq_true rfl), (Nat.le_of_ble_eq_true rfl)⟩, (Nat.le_of_ble_eq_true rfl), (Nat.le_of_ble_eq_true rfl)⟩ hK hP hD hS hA [] [0, 1, 2, 3, 4, 5, 6, 7, 8, 9, 10, 11, 12] rfl rfl (by decide +kernel) (by decide +kernel) (by decide +kernel) rfl rfl (Nat.le_of_ble_eq_true rfl) dX12_wished_50 (fun r_49 u H locs hw hP hD hS => ?_)
              obtain rfl := hw
              refine o_re (ws' := [(mm, .inr (12, mo g (nI ta) (nI pa) (nI pe) pd (nI pb) pp pf pg pn rt rn (nI cd) sn (nI il) tk2_15 am2_17 at_2_18 aa2_19 0 0 (-1) wt zwyh 0 (nI rm) (nI ud) (nI nu) sd (nI qn) (nI qw) qo (nI qb) (nI qp2_16) qa (nI qi) (nI oc))), (g 24, .inl (cI, 6, .inl (l6 u0 u1 u2 u3 u4 u5))), (g 25, .inl (cI, 6, .inl (l6 v0 v1 v2 v3 v4 v5))), (g 26, .inl (cI, 3200, .inl (fun j => nI (cs j)))), (g 31, .inl (cI, 120, .inl nw)), (g 46, .inl (cI, 9, .inl (fun j => nI (pt j)))), (g 86, .inl (cJ, 1700, .inr (.inl ql2_20))), (g 20, .inl (cI, 4, .inl (l4 (nI l0) (nI l1) (nI dm) (nI l3)))), (g 38, .inl (cI, 90, .inl ws_2_21)), (g 36, .inl (cZ, 900, .inl yw2_22)), (g 37, .inl (cZ, 900, .inl yo2_23)), (g 43, .inl (cJ, 90, .inr (.inl hb_))), (g 44, .inl (cJ, 90, .inr (.inl hf_)))]) hP hD rfl (fun hP hD => ?_)
              refine lv_icmp_ge (tgt := 102) hx hb dX12_wished_53 (by decide) (fun c_50 => ?_) (fun c_50 => ?_)
              · skip
                refine lv_iinc (v := nI (i + 1)) (lv' := [(4, .int (nI (i + 1))), (3, .int be_), (0, .ref mm), (1, .int (nI kd_7)), (2, .int (nI kd_14))]) hx hb dX12_wished_102 hl (k := 0) rfl (ninc i 1 (by decide)) (by decide) rfl (fun ls hl => ?_)
                refine lv_goto (tgt := 28) hx hb dX12_wished_105 (by decide) ?_
                exact ih_lp_25 (i + 1) be_ zwyh hb_ hf_ _ _ _ (by omega) (by omega) hP hD hS (lv_sub hl [0, 1, 2, 3, 4] rfl)
              · skip
                refine lv_aload_n hx hb dX12_wished_56 rfl (lv_at hl 2 rfl) ?_
                refine lv_iload hx hb dX12_wished_57 (lv_at hl 0 rfl) ?_
                refine sk_Vi (q0 := 0) (n := 1) (rest := []) (wr := fmR om_13_112f _) ⟨hx, hb, hml, hown, hts⟩ hl.1 (c_m_doesAgree l D cI cJ cC cZ cS mm g ta pa pe pd pb pp pf pg pn rt rn cd sn il tk2_15 am2_17 at_2_18 aa2_19 0 wt zwyh 0 rm ud nu sd qn qw qo qb qp2_16 qa qi oc (nI i) l0 l1 dm l3 nw yo2_23 yw2_22 hb_ hf_ (by omega) (by omega) hnw) w_7_229 w_7_231 w_0_89 w_1_14 w_7_232 hd_X12_doesAgree_1 ⟨⟨(Nat.le_of_ble_eq_true rfl), (Nat.le_of_ble_eq_true rfl)⟩, (Nat.le_of_ble_eq_true rfl), (Nat.le_of_ble_eq_true rfl)⟩ hK hP hD hS hA [0, 7, 4, 10, 9, 11, 12] (fmF om_13_112f 0) rfl (fm_R rfl rfl) (by decide +kernel) (fm_nF om_13_112f 0) (by decide +kernel) rfl rfl rfl rfl (Nat.le_of_ble_eq_true rfl) dX12_wished_59 (fun r_55 u H locs hw hP hD hS => ?_)
                refine exE hw (fun b_51 hw1 => exE hw1 (fun wy2_52 hw2 => exE hw2 (fun be2_53 hw3 => exE hw3 (fun bf2_54 hw4 => anE hw4 (fun hbe_56 hw5 => anE hw5 (fun hwy_57 hw6 => anE hw6 (fun hb1_58 hw7 => anE hw7 (fun er_60 eu_59 => ?_))))))))
                clear hw hw1 hw2 hw3 hw4 hw5 hw6 hw7
                subst er_60
                refine o_mgqE (ux := [(mm, .inr (12, mo g (nI ta) (nI pa) (nI pe) pd (nI pb) pp pf pg pn rt rn (nI cd) sn (nI il) tk2_15 am2_17 at_2_18 aa2_19 0 0 (-1) wt wy2_52 0 (nI rm) (nI ud) (nI nu) sd (nI qn) (nI qw) qo (nI qb) (nI qp2_16) qa (nI qi) (nI oc))), (g 31, .inl (cI, 120, .inl nw)), (g 20, .inl (cI, 4, .inl (l4 (nI l0) (nI l1) (nI dm) (nI l3)))), (g 36, .inl (cZ, 900, .inl yw2_22)), (g 37, .inl (cZ, 900, .inl yo2_23)), (g 43, .inl (cJ, 90, .inr (.inl be2_53))), (g 44, .inl (cJ, 90, .inr (.inl bf2_54)))]) (ws' := [(mm, .inr (12, mo g (nI ta) (nI pa) (nI pe) pd (nI pb) pp pf pg pn rt rn (nI cd) sn (nI il) tk2_15 am2_17 at_2_18 aa2_19 0 0 (-1) wt wy2_52 0 (nI rm) (nI ud) (nI nu) sd (nI qn) (nI qw) qo (nI qb) (nI qp2_16) qa (nI qi) (nI oc))), (g 24, .inl (cI, 6, .inl (l6 u0 u1 u2 u3 u4 u5))), (g 25, .inl (cI, 6, .inl (l6 v0 v1 v2 v3 v4 v5))), (g 26, .inl (cI, 3200, .inl (fun j => nI (cs j)))), (g 31, .inl (cI, 120, .inl nw)), (g 46, .inl (cI, 9, .inl (fun j => nI (pt j)))), (g 86, .inl (cJ, 1700, .inr (.inl ql2_20))), (g 20, .inl (cI, 4, .inl (l4 (nI l0) (nI l1) (nI dm) (nI l3)))), (g 38, .inl (cI, 90, .inl ws_2_21)), (g 36, .inl (cZ, 900, .inl yw2_22)), (g 37, .inl (cZ, 900, .inl yo2_23)), (g 43, .inl (cJ, 90, .inr (.inl be2_53))), (g 44, .inl (cJ, 90, .inr (.inl bf2_54)))]) eu_59 [0, 2, 1, 4, 3, 5, 6] (by decide +kernel) rfl hP hD rfl (fun hP hD => ?_)
                refine lv_if_ne (tgt := 68) hx hb dX12_wished_62 (by decide) (fun c_61 => ?_) (fun c_61 => ?_)
                · have c_61 : ¬ (b_51 = 0) := fun h => c_61 ((neq b_51 0 (by omega) (by omega)).mpr h)
                  refine lv_aload_n hx hb dX12_wished_68 rfl (lv_at hl 2 rfl) ?_
                  refine sk_get (v := .ref (g 44)) (C := RX12) (T := TX12) (N := 92) hx hb hts inlX12 hown hK hP 0 rfl rfl 44 (by decide) w_5_199 rfl dX12_wished_69 ?_
                  refine lv_bipush (v := 10) hx hb dX12_wished_72 (by decide) ?_
                  refine lv_iload_n hx hb dX12_wished_74 rfl (lv_at hl 3 rfl) ?_
                  refine lv_imul hx hb dX12_wished_75 ?_
                  refine sk_top (nI (10 * kd_7)) (nmul 10 kd_7) ?_
                  refine lv_iload_n hx hb dX12_wished_76 rfl (lv_at hl 4 rfl) ?_
                  refine lv_iadd hx hb dX12_wished_77 ?_
                  refine sk_top (nI (10 * kd_7 + kd_14)) (nI_add (10 * kd_7) kd_14) ?_
                  refine va_lald hx hb hK.1 hP 12 1 rfl rfl (vin (10 * kd_7 + kd_14) 90 (by omega) (by omega)) dX12_wished_78 ?_
                  refine lv_topl (fun v_62 ev_62 => ?_)
                  refine lv_aload_n hx hb dX12_wished_79 rfl (lv_at hl 2 rfl) ?_
                  refine sk_get (v := .ref (g 43)) (C := RX12) (T := TX12) (N := 92) hx hb hts inlX12 hown hK hP 0 rfl rfl 43 (by decide) w_5_198 rfl dX12_wished_80 ?_
                  refine lv_bipush (v := 10) hx hb dX12_wished_83 (by decide) ?_
                  refine lv_iload_n hx hb dX12_wished_85 rfl (lv_at hl 3 rfl) ?_
                  refine lv_imul hx hb dX12_wished_86 ?_
                  refine sk_top (nI (10 * kd_7)) (nmul 10 kd_7) ?_
                  refine lv_iload_n hx hb dX12_wished_87 rfl (lv_at hl 4 rfl) ?_
                  refine lv_iadd hx hb dX12_wished_88 ?_
                  refine sk_top (nI (10 * kd_7 + kd_14)) (nI_add (10 * kd_7) kd_14) ?_
                  refine va_lald hx hb hK.1 hP 11 1 rfl rfl (vin (10 * kd_7 + kd_14) 90 (by omega) (by omega)) dX12_wished_89 ?_
                  refine lv_topl (fun v_63 ev_63 => ?_)
                  refine lv_lmul hx hb dX12_wished_90 ?_
                  refine lv_topl (fun v_64 ev_64 => ?_)
                  refine lv_aload_n hx hb dX12_wished_91 rfl (lv_at hl 2 rfl) ?_
                  refine sk_get (v := .long wy2_52) (C := RX12) (T := TX12) (N := 92) hx hb hts inlX12 hown hK hP 0 rfl rfl 45 (by decide) w_5_200 rfl dX12_wished_92 ?_
                  refine W.lcmp hx hb dX12_wished_95 ?_
                  refine lv_if_ne (tgt := 102) hx hb dX12_wished_96 (by decide) (fun c_65 => ?_) (fun c_65 => ?_)
                  · skip
                    refine lv_iinc (v := nI (i + 1)) (lv' := [(4, .int (nI (i + 1))), (3, .int be_), (0, .ref mm), (1, .int (nI kd_7)), (2, .int (nI kd_14))]) hx hb dX12_wished_102 hl (k := 0) rfl (ninc i 1 (by decide)) (by decide) rfl (fun ls hl => ?_)
                    refine lv_goto (tgt := 28) hx hb dX12_wished_105 (by decide) ?_
                    exact ih_lp_25 (i + 1) be_ wy2_52 be2_53 bf2_54 _ _ _ (by omega) (by omega) hP hD hS (lv_sub hl [0, 1, 2, 3, 4] rfl)
                  · skip
                    refine lv_iload hx hb dX12_wished_99 (lv_at hl 0 rfl) ?_
                    refine lv_istore_n (lv' := [(3, .int (nI i)), (4, .int (nI i)), (0, .ref mm), (1, .int (nI kd_7)), (2, .int (nI kd_14))]) hx hb dX12_wished_101 rfl hl (by decide) rfl (fun ls hl => ?_)
                    refine lv_iinc (v := nI (i + 1)) (lv' := [(4, .int (nI (i + 1))), (3, .int (nI i)), (0, .ref mm), (1, .int (nI kd_7)), (2, .int (nI kd_14))]) hx hb dX12_wished_102 hl (k := 1) rfl (ninc i 1 (by decide)) (by decide) rfl (fun ls hl => ?_)
                    refine lv_goto (tgt := 28) hx hb dX12_wished_105 (by decide) ?_
                    exact ih_lp_25 (i + 1) (nI i) wy2_52 be2_53 bf2_54 _ _ _ (by omega) (by omega) hP hD hS (lv_sub hl [0, 1, 2, 3, 4] rfl)
                · have c_61 : b_51 = 0 := (neq b_51 0 (by omega) (by omega)).mp c_61
                  refine lv_goto (tgt := 102) hx hb dX12_wished_65 (by decide) ?_
                  refine lv_iinc (v := nI (i + 1)) (lv' := [(4, .int (nI (i + 1))), (3, .int be_), (0, .ref mm), (1, .int (nI kd_7)), (2, .int (nI kd_14))]) hx hb dX12_wished_102 hl (k := 0) rfl (ninc i 1 (by decide)) (by decide) rfl (fun ls hl => ?_)
                  refine lv_goto (tgt := 28) hx hb dX12_wished_105 (by decide) ?_
                  exact ih_lp_25 (i + 1) be_ wy2_52 be2_53 bf2_54 _ _ _ (by omega) (by omega) hP hD hS (lv_sub hl [0, 1, 2, 3, 4] rfl)
      exact lp_25 (512 - 0 + 1) 0 (-1) wy be bf _ _ _ (Nat.lt_succ_self _) (by omega) hP hD hS (lv_sub hl [0, 1, 2, 3, 4] rfl)
    · have c_13 : b_8 = 0 := (neq b_8 0 (by omega) (by omega)).mp c_13
      refine lv_iconst (v := (-1)) hx hb dX12_wished_16 (by decide) ?_
      exact sk_iret hx hb hr rfl hlocks hK hP hD hS (⟨tk, qp, am, at_, aa, wy, ql, ws_, yw, yo, be, bf, rfl⟩) (Nat.le_of_ble_eq_true rfl) (Nat.le_of_ble_eq_true rfl) dX12_wished_17
