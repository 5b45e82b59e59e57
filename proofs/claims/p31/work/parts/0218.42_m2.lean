theorem dg_X12_wageOf_0_0 : bqL cX12_wageOf 0 [(0, [42]), (1, [180, 0, 54]), (4, [8]), (5, [46]), (6, [2]), (7, [160, 0, 6]), (13, [42]), (14, [28]), (15, [181, 1, 80]), (18, [42]), (19, [5]), (20, [27]), (21, [182, 1, 83]), (24, [173]), (10, [28]), (11, [133]), (12, [173])] = true := by decide +kernel
theorem dX12_wageOf_0 : decode cX12_wageOf 0 = .ok (.aload_n 0, 1) := q_aload_n0 (bat_get dg_X12_wageOf_0_0 0 rfl rfl)
theorem dX12_wageOf_1 : decode cX12_wageOf 1 = .ok (.getfield 54, 3) := q_getfield (bat_get dg_X12_wageOf_0_0 1 rfl rfl) rfl
theorem dX12_wageOf_4 : decode cX12_wageOf 4 = .ok (.iconst 5, 1) := q_iconst5 (bat_get dg_X12_wageOf_0_0 2 rfl rfl)
theorem dX12_wageOf_5 : decode cX12_wageOf 5 = .ok (.iaload, 1) := q_iaload (bat_get dg_X12_wageOf_0_0 3 rfl rfl)
theorem dX12_wageOf_6 : decode cX12_wageOf 6 = .ok (.iconst (-1), 1) := q_iconstm1 (bat_get dg_X12_wageOf_0_0 4 rfl rfl)
theorem dX12_wageOf_7 : decode cX12_wageOf 7 = .ok (.if_icmp .ne 6, 3) := q_if_icmp_ne (bat_get dg_X12_wageOf_0_0 5 rfl rfl) rfl
theorem dX12_wageOf_13 : decode cX12_wageOf 13 = .ok (.aload_n 0, 1) := q_aload_n0 (bat_get dg_X12_wageOf_0_0 6 rfl rfl)
theorem dX12_wageOf_14 : decode cX12_wageOf 14 = .ok (.iload_n 2, 1) := q_iload_n2 (bat_get dg_X12_wageOf_0_0 7 rfl rfl)
theorem dX12_wageOf_15 : decode cX12_wageOf 15 = .ok (.putfield 336, 3) := q_putfield (bat_get dg_X12_wageOf_0_0 8 rfl rfl) rfl
theorem dX12_wageOf_18 : decode cX12_wageOf 18 = .ok (.aload_n 0, 1) := q_aload_n0 (bat_get dg_X12_wageOf_0_0 9 rfl rfl)
theorem dX12_wageOf_19 : decode cX12_wageOf 19 = .ok (.iconst 2, 1) := q_iconst2 (bat_get dg_X12_wageOf_0_0 10 rfl rfl)
theorem dX12_wageOf_20 : decode cX12_wageOf 20 = .ok (.iload_n 1, 1) := q_iload_n1 (bat_get dg_X12_wageOf_0_0 11 rfl rfl)
theorem dX12_wageOf_21 : decode cX12_wageOf 21 = .ok (.invokevirtual 339, 3) := q_invokevirtual (bat_get dg_X12_wageOf_0_0 12 rfl rfl) rfl
theorem dX12_wageOf_24 : decode cX12_wageOf 24 = .ok (.lreturn, 1) := q_lreturn (bat_get dg_X12_wageOf_0_0 13 rfl rfl)
theorem dX12_wageOf_10 : decode cX12_wageOf 10 = .ok (.iload_n 2, 1) := q_iload_n2 (bat_get dg_X12_wageOf_0_0 14 rfl rfl)
theorem dX12_wageOf_11 : decode cX12_wageOf 11 = .ok (.i2l, 1) := q_i2l (bat_get dg_X12_wageOf_0_0 15 rfl rfl)
theorem dX12_wageOf_12 : decode cX12_wageOf 12 = .ok (.lreturn, 1) := q_lreturn (bat_get dg_X12_wageOf_0_0 16 rfl rfl)
theorem w_8_48 : (Cond.code yX12_wageOf cX12_wageOf 3 (some .long)) ∈ wsL_law := sk_mem (ck_8 _ (List.mem_of_getElem? (i := 48) rfl)) rfl
set_option maxHeartbeats 4000000 in
set_option maxRecDepth 100000 in
theorem c_m_wageOf (l : Launch) (D : va_G) (cI cJ cC cZ cS : ClassId) (mm : Nat) (g : Nat → Nat) (ta : Nat) (pa : Nat) (pe : Nat) (pd : Int32) (pb : Nat) (pp : Int32) (pf : Int32) (pg : Int32) (pn : Int32) (rt : Int32) (rn : Int32) (cd : Nat) (sn : Int32) (il : Nat) (tk : Int32) (am : Int32) (at_ : Int32) (aa : Int32) (mt_ : Int32) (bh : Nat) (wd : Int32) (wt : Int32) (wy : Int64) (it_ : Nat) (rm : Nat) (ud : Nat) (nu : Nat) (sd : Int64) (qn : Nat) (qw : Nat) (qo : Int32) (qb : Nat) (qp : Nat) (qa : Int64) (qi : Nat) (oc : Nat) (d : Nat) (o : Int32) (u0 : Int32) (u1 : Int32) (u2 : Int32) (u3 : Int32) (u4 : Int32) (u5 : Int32) (v0 : Int32) (v1 : Int32) (v2 : Int32) (v3 : Int32) (v4 : Int32) (v5 : Int32) (cs : Nat → Nat) (nw : Nat → Int32) (pt : Nat → Nat) (ql : Nat → Int64) (hd : d < 9) (hp2 : progOk cs u5 v5) (hcs : ∀ j, cs j ≤ 20000) (hnw : nowOk nw) (hpt : ∀ j, pt j ≤ 9) : skM l yX12_wageOf cX12_wageOf 3 (some .long) 3 74 0 0 D (skT cI cJ cC cZ cS) [.ref mm, .int (nI d), .int o] [(mm, .inr (12, mo g (nI ta) (nI pa) (nI pe) pd (nI pb) pp pf pg pn rt rn (nI cd) sn (nI il) tk am at_ aa mt_ (nI bh) wd wt wy (nI it_) (nI rm) (nI ud) (nI nu) sd (nI qn) (nI qw) qo (nI qb) (nI qp) qa (nI qi) (nI oc))), (g 24, .inl (cI, 6, .inl (l6 u0 u1 u2 u3 u4 u5))), (g 25, .inl (cI, 6, .inl (l6 v0 v1 v2 v3 v4 v5))), (g 26, .inl (cI, 3200, .inl (fun j => nI (cs j)))), (g 31, .inl (cI, 120, .inl nw)), (g 46, .inl (cI, 9, .inl (fun j => nI (pt j)))), (g 86, .inl (cJ, 1700, .inr (.inl ql)))] (skL D (skT cI cJ cC cZ cS) (fun (r : Int64) (u : va_W) => ∃ (tk2 : Int32), ∃ (qp2 : Nat), ∃ (am2 : Int32), ∃ (ql2 : Nat → Int64), u = [(mm, .inr (12, mo g (nI ta) (nI pa) (nI pe) pd (nI pb) pp pf pg pn rt rn (nI cd) sn (nI il) tk2 am2 at_ aa mt_ (nI bh) wd wt wy (nI it_) (nI rm) (nI ud) (nI nu) sd (nI qn) (nI qw) qo (nI qb) (nI qp2) qa (nI qi) (nI oc))), (g 24, .inl (cI, 6, .inl (l6 u0 u1 u2 u3 u4 u5))), (g 25, .inl (cI, 6, .inl (l6 v0 v1 v2 v3 v4 v5))), (g 26, .inl (cI, 3200, .inl (fun j => nI (cs j)))), (g 31, .inl (cI, 120, .inl nw)), (g 46, .inl (cI, 9, .inl (fun j => nI (pt j)))), (g 86, .inl (cJ, 1700, .inr (.inl ql2)))])) := by
  refine skM_of pf_X12_wageOf (Nat.le_of_ble_eq_true rfl) ?_
  intro p e s m below meth c A ls E hP hD hl
  refine skE_el E (fun hx hb hr hml hlocks hin hown hts hK hA => ?_)
  have hown : s.vm.findClass RX12 = some m.cls := hown
  have hS : va_S A s.heap s.heap [] := va_S.rf
  have hl : lv_has ls 3 [(0, .ref mm), (1, .int (nI d)), (2, .int o)] := hl
  refine lv_aload_n hx hb dX12_wageOf_0 rfl (lv_at hl 0 rfl) ?_
  refine sk_get (v := .ref (g 24)) (C := RX12) (T := TX12) (N := 92) hx hb hts inlX12 hown hK hP 0 rfl rfl 24 (by decide) w_5_179 rfl dX12_wageOf_1 ?_
  refine lv_iconst (v := 5) hx hb dX12_wageOf_4 (by decide) ?_
  refine va_iald hx hb hK.1 hP 1 0 rfl rfl (by unfold vp_in; decide) dX12_wageOf_5 ?_
  refine sk_top u5 rfl ?_
  refine lv_iconst (v := (-1)) hx hb dX12_wageOf_6 (by decide) ?_
  refine lv_icmp_ne (tgt := 13) hx hb dX12_wageOf_7 (by decide) (fun c_1 => ?_) (fun c_1 => ?_)
  · skip
    refine lv_aload_n hx hb dX12_wageOf_13 rfl (lv_at hl 0 rfl) ?_
    refine lv_iload_n hx hb dX12_wageOf_14 rfl (lv_at hl 2 rfl) ?_
    refine sk_put (ws' := [(mm, .inr (12, mo g (nI ta) (nI pa) (nI pe) pd (nI pb) pp pf pg pn rt rn (nI cd) sn (nI il) tk o at_ aa mt_ (nI bh) wd wt wy (nI it_) (nI rm) (nI ud) (nI nu) sd (nI qn) (nI qw) qo (nI qb) (nI qp) qa (nI qi) (nI oc))), (g 24, .inl (cI, 6, .inl (l6 u0 u1 u2 u3 u4 u5))), (g 25, .inl (cI, 6, .inl (l6 v0 v1 v2 v3 v4 v5))), (g 26, .inl (cI, 3200, .inl (fun j => nI (cs j)))), (g 31, .inl (cI, 120, .inl nw)), (g 46, .inl (cI, 9, .inl (fun j => nI (pt j)))), (g 86, .inl (cJ, 1700, .inr (.inl ql)))]) (C := RX12) (T := TX12) (N := 92) (v := .int o) hx hb hts inlX12 tyX12 tyX12_ok nmX12 hown hK hP hD hS 0 rfl rfl 33 (by decide) w_5_188 rfl rfl rfl (Nat.le_of_ble_eq_true rfl) rfl dX12_wageOf_15 (fun H locs hP hD hS => ?_)
    refine lv_aload_n hx hb dX12_wageOf_18 rfl (lv_at hl 0 rfl) ?_
    refine lv_iconst (v := 2) hx hb dX12_wageOf_19 (by decide) ?_
    refine lv_iload_n hx hb dX12_wageOf_20 rfl (lv_at hl 1 rfl) ?_
    obtain ⟨ca_2, cb_3, hab_, hcb_, rfl, rfl, hpv_⟩ := hp2.resolve_left c_1
    refine sk_Vl (q0 := 0) (n := 2) (rest := []) (wr := fmR om_7_7f _) ⟨hx, hb, hml, hown, hts⟩ hl.1 (c_m_codesTell2 l D cI cJ cC cZ cS mm g ta pa pe pd pb pp pf pg pn rt rn cd sn il tk o at_ aa mt_ bh wd wt wy it_ rm ud nu sd qn qw qo qb qp qa qi oc d u0 u1 u2 u3 u4 ca_2 v0 v1 v2 v3 v4 cb_3 cs nw pt ql (by omega) (by omega) (by omega) hpv_ hcs hnw hpt) w_7_135 w_7_137 w_0_75 w_1_14 w_7_138 hd_X12_codesTell_2 ⟨⟨(Nat.le_of_ble_eq_true rfl), (Nat.le_of_ble_eq_true rfl)⟩, (Nat.le_of_ble_eq_true rfl), (Nat.le_of_ble_eq_true rfl)⟩ hK hP hD hS hA (fmT om_7_7f 0) (fmF om_7_7f 0) (fm_C1 rfl rfl) (fm_R rfl rfl) (fm_nT om_7_7f 0) (fm_nF om_7_7f 0) (fm_di om_7_7f 0) rfl rfl rfl rfl (Nat.le_of_ble_eq_true rfl) dX12_wageOf_21 (fun r_6 u H locs hw hP hD hS => ?_)
    refine exE hw (fun qp2_4 hw1 => exE hw1 (fun ql2_5 eu_7 => ?_))
    clear hw hw1
    refine o_mgE (ws' := [(mm, .inr (12, mo g (nI ta) (nI pa) (nI pe) pd (nI pb) pp pf pg pn rt rn (nI cd) sn (nI il) 0 o at_ aa mt_ (nI bh) wd wt wy (nI it_) (nI rm) (nI ud) (nI nu) sd (nI qn) (nI qw) qo (nI qb) (nI qp2_4) qa (nI qi) (nI oc))), (g 24, .inl (cI, 6, .inl (l6 u0 u1 u2 u3 u4 (nI ca_2)))), (g 25, .inl (cI, 6, .inl (l6 v0 v1 v2 v3 v4 (nI cb_3)))), (g 26, .inl (cI, 3200, .inl (fun j => nI (cs j)))), (g 31, .inl (cI, 120, .inl nw)), (g 46, .inl (cI, 9, .inl (fun j => nI (pt j)))), (g 86, .inl (cJ, 1700, .inr (.inl ql2_5)))]) eu_7 hP hD rfl (fun hP hD => ?_)
    exact sk_lret hx hb hr hlocks hK hP hD hS (⟨0, qp2_4, o, ql2_5, rfl⟩) (Nat.le_of_ble_eq_true rfl) (Nat.le_of_ble_eq_true rfl) dX12_wageOf_24
  · skip
    refine lv_iload_n hx hb dX12_wageOf_10 rfl (lv_at hl 2 rfl) ?_
    refine lv_i2l hx hb dX12_wageOf_11 rfl ?_
    exact sk_lret hx hb hr hlocks hK hP hD hS (⟨tk, qp, am, ql, rfl⟩) (Nat.le_of_ble_eq_true rfl) (Nat.le_of_ble_eq_true rfl) dX12_wageOf_12
theorem dg_X12_laysDays_0_0 : bqL cX12_laysDays 0 [(0, [3]), (1, [61]), (2, [28]), (3, [42]), (4, [182, 1, 59]), (7, [162, 0, 156]), (163, [177]), (10, [3]), (11, [62]), (12, [29]), (13, [16, 10]), (15, [162, 0, 31]), (46, [3]), (47, [62]), (48, [29]), (49, [16, 10]), (51, [162, 0, 106]), (157, [132, 2, 1]), (160, [167, 255, 98]), (54, [3]), (55, [54, 4]), (57, [21, 4]), (59, [16, 10]), (61, [162, 0, 90]), (151, [132, 3, 1]), (154, [167, 255, 150]), (64, [42]), (65, [180, 0, 69]), (68, [16, 100]), (70, [28]), (71, [104]), (72, [16, 10]), (74, [29]), (75, [104]), (76, [96]), (77, [21, 4]), (79, [96]), (80, [42]), (81, [28]), (82, [29])] = true := by decide +kernel
theorem dX12_laysDays_0 : decode cX12_laysDays 0 = .ok (.iconst 0, 1) := q_iconst0 (bat_get dg_X12_laysDays_0_0 0 rfl rfl)
theorem dX12_laysDays_1 : decode cX12_laysDays 1 = .ok (.istore_n 2, 1) := q_istore_n2 (bat_get dg_X12_laysDays_0_0 1 rfl rfl)
theorem dX12_laysDays_2 : decode cX12_laysDays 2 = .ok (.iload_n 2, 1) := q_iload_n2 (bat_get dg_X12_laysDays_0_0 2 rfl rfl)
theorem dX12_laysDays_3 : decode cX12_laysDays 3 = .ok (.aload_n 0, 1) := q_aload_n0 (bat_get dg_X12_laysDays_0_0 3 rfl rfl)
theorem dX12_laysDays_4 : decode cX12_laysDays 4 = .ok (.invokevirtual 315, 3) := q_invokevirtual (bat_get dg_X12_laysDays_0_0 4 rfl rfl) rfl
theorem dX12_laysDays_7 : decode cX12_laysDays 7 = .ok (.if_icmp .ge 156, 3) := q_if_icmp_ge (bat_get dg_X12_laysDays_0_0 5 rfl rfl) rfl
theorem dX12_laysDays_163 : decode cX12_laysDays 163 = .ok (.return_, 1) := q_return_ (bat_get dg_X12_laysDays_0_0 6 rfl rfl)
theorem dX12_laysDays_10 : decode cX12_laysDays 10 = .ok (.iconst 0, 1) := q_iconst0 (bat_get dg_X12_laysDays_0_0 7 rfl rfl)
theorem dX12_laysDays_11 : decode cX12_laysDays 11 = .ok (.istore_n 3, 1) := q_istore_n3 (bat_get dg_X12_laysDays_0_0 8 rfl rfl)
theorem dX12_laysDays_12 : decode cX12_laysDays 12 = .ok (.iload_n 3, 1) := q_iload_n3 (bat_get dg_X12_laysDays_0_0 9 rfl rfl)
theorem dX12_laysDays_13 : decode cX12_laysDays 13 = .ok (.bipush 10, 2) := q_bipush (bat_get dg_X12_laysDays_0_0 10 rfl rfl) rfl
theorem dX12_laysDays_15 : decode cX12_laysDays 15 = .ok (.if_icmp .ge 31, 3) := q_if_icmp_ge (bat_get dg_X12_laysDays_0_0 11 rfl rfl) rfl
theorem dX12_laysDays_46 : decode cX12_laysDays 46 = .ok (.iconst 0, 1) := q_iconst0 (bat_get dg_X12_laysDays_0_0 12 rfl rfl)
theorem dX12_laysDays_47 : decode cX12_laysDays 47 = .ok (.istore_n 3, 1) := q_istore_n3 (bat_get dg_X12_laysDays_0_0 13 rfl rfl)
theorem dX12_laysDays_48 : decode cX12_laysDays 48 = .ok (.iload_n 3, 1) := q_iload_n3 (bat_get dg_X12_laysDays_0_0 14 rfl rfl)
theorem dX12_laysDays_49 : decode cX12_laysDays 49 = .ok (.bipush 10, 2) := q_bipush (bat_get dg_X12_laysDays_0_0 15 rfl rfl) rfl
theorem dX12_laysDays_51 : decode cX12_laysDays 51 = .ok (.if_icmp .ge 106, 3) := q_if_icmp_ge (bat_get dg_X12_laysDays_0_0 16 rfl rfl) rfl
theorem dX12_laysDays_157 : decode cX12_laysDays 157 = .ok (.iinc 2 1, 3) := q_iinc (bat_get dg_X12_laysDays_0_0 17 rfl rfl) rfl
theorem dX12_laysDays_160 : decode cX12_laysDays 160 = .ok (.goto (-158), 3) := q_goto (bat_get dg_X12_laysDays_0_0 18 rfl rfl) rfl
theorem dX12_laysDays_54 : decode cX12_laysDays 54 = .ok (.iconst 0, 1) := q_iconst0 (bat_get dg_X12_laysDays_0_0 19 rfl rfl)
theorem dX12_laysDays_55 : decode cX12_laysDays 55 = .ok (.istore 4, 2) := q_istore (bat_get dg_X12_laysDays_0_0 20 rfl rfl)
theorem dX12_laysDays_57 : decode cX12_laysDays 57 = .ok (.iload 4, 2) := q_iload (bat_get dg_X12_laysDays_0_0 21 rfl rfl)
theorem dX12_laysDays_59 : decode cX12_laysDays 59 = .ok (.bipush 10, 2) := q_bipush (bat_get dg_X12_laysDays_0_0 22 rfl rfl) rfl
theorem dX12_laysDays_61 : decode cX12_laysDays 61 = .ok (.if_icmp .ge 90, 3) := q_if_icmp_ge (bat_get dg_X12_laysDays_0_0 23 rfl rfl) rfl
theorem dX12_laysDays_151 : decode cX12_laysDays 151 = .ok (.iinc 3 1, 3) := q_iinc (bat_get dg_X12_laysDays_0_0 24 rfl rfl) rfl
theorem dX12_laysDays_154 : decode cX12_laysDays 154 = .ok (.goto (-106), 3) := q_goto (bat_get dg_X12_laysDays_0_0 25 rfl rfl) rfl
theorem dX12_laysDays_64 : decode cX12_laysDays 64 = .ok (.aload_n 0, 1) := q_aload_n0 (bat_get dg_X12_laysDays_0_0 26 rfl rfl)
theorem dX12_laysDays_65 : decode cX12_laysDays 65 = .ok (.getfield 69, 3) := q_getfield (bat_get dg_X12_laysDays_0_0 27 rfl rfl) rfl
theorem dX12_laysDays_68 : decode cX12_laysDays 68 = .ok (.bipush 100, 2) := q_bipush (bat_get dg_X12_laysDays_0_0 28 rfl rfl) rfl
theorem dX12_laysDays_70 : decode cX12_laysDays 70 = .ok (.iload_n 2, 1) := q_iload_n2 (bat_get dg_X12_laysDays_0_0 29 rfl rfl)
theorem dX12_laysDays_71 : decode cX12_laysDays 71 = .ok (.imul, 1) := q_imul (bat_get dg_X12_laysDays_0_0 30 rfl rfl)
theorem dX12_laysDays_72 : decode cX12_laysDays 72 = .ok (.bipush 10, 2) := q_bipush (bat_get dg_X12_laysDays_0_0 31 rfl rfl) rfl
theorem dX12_laysDays_74 : decode cX12_laysDays 74 = .ok (.iload_n 3, 1) := q_iload_n3 (bat_get dg_X12_laysDays_0_0 32 rfl rfl)
theorem dX12_laysDays_75 : decode cX12_laysDays 75 = .ok (.imul, 1) := q_imul (bat_get dg_X12_laysDays_0_0 33 rfl rfl)
theorem dX12_laysDays_76 : decode cX12_laysDays 76 = .ok (.iadd, 1) := q_iadd (bat_get dg_X12_laysDays_0_0 34 rfl rfl)
theorem dX12_laysDays_77 : decode cX12_laysDays 77 = .ok (.iload 4, 2) := q_iload (bat_get dg_X12_laysDays_0_0 35 rfl rfl)
theorem dX12_laysDays_79 : decode cX12_laysDays 79 = .ok (.iadd, 1) := q_iadd (bat_get dg_X12_laysDays_0_0 36 rfl rfl)
theorem dX12_laysDays_80 : decode cX12_laysDays 80 = .ok (.aload_n 0, 1) := q_aload_n0 (bat_get dg_X12_laysDays_0_0 37 rfl rfl)
theorem dX12_laysDays_81 : decode cX12_laysDays 81 = .ok (.iload_n 2, 1) := q_iload_n2 (bat_get dg_X12_laysDays_0_0 38 rfl rfl)
theorem dX12_laysDays_82 : decode cX12_laysDays 82 = .ok (.iload_n 3, 1) := q_iload_n3 (bat_get dg_X12_laysDays_0_0 39 rfl rfl)
theorem dg_X12_laysDays_83_83 : bqL cX12_laysDays 83 [(0, [42]), (1, [180, 0, 76]), (4, [16, 10]), (6, [28]), (7, [104]), (8, [21, 4]), (10, [96]), (11, [46]), (12, [3]), (13, [182, 1, 99]), (16, [21, 4]), (18, [160, 0, 7]), (25, [3]), (26, [84]), (27, [42]), (28, [180, 0, 73]), (31, [16, 100]), (33, [28]), (34, [104]), (35, [16, 10]), (37, [29]), (38, [104]), (39, [96]), (40, [21, 4]), (42, [96]), (43, [42]), (44, [28]), (45, [29]), (46, [3]), (47, [4]), (48, [182, 1, 99]), (51, [21, 4]), (53, [160, 0, 7]), (60, [3]), (61, [84]), (62, [132, 4, 1]), (65, [167, 255, 165]), (56, [4]), (57, [167, 0, 4]), (21, [4])] = true := by decide +kernel
theorem dX12_laysDays_83 : decode cX12_laysDays 83 = .ok (.aload_n 0, 1) := q_aload_n0 (bat_get dg_X12_laysDays_83_83 0 rfl rfl)
theorem dX12_laysDays_84 : decode cX12_laysDays 84 = .ok (.getfield 76, 3) := q_getfield (bat_get dg_X12_laysDays_83_83 1 rfl rfl) rfl
theorem dX12_laysDays_87 : decode cX12_laysDays 87 = .ok (.bipush 10, 2) := q_bipush (bat_get dg_X12_laysDays_83_83 2 rfl rfl) rfl
theorem dX12_laysDays_89 : decode cX12_laysDays 89 = .ok (.iload_n 2, 1) := q_iload_n2 (bat_get dg_X12_laysDays_83_83 3 rfl rfl)
theorem dX12_laysDays_90 : decode cX12_laysDays 90 = .ok (.imul, 1) := q_imul (bat_get dg_X12_laysDays_83_83 4 rfl rfl)
theorem dX12_laysDays_91 : decode cX12_laysDays 91 = .ok (.iload 4, 2) := q_iload (bat_get dg_X12_laysDays_83_83 5 rfl rfl)
theorem dX12_laysDays_93 : decode cX12_laysDays 93 = .ok (.iadd, 1) := q_iadd (bat_get dg_X12_laysDays_83_83 6 rfl rfl)
theorem dX12_laysDays_94 : decode cX12_laysDays 94 = .ok (.iaload, 1) := q_iaload (bat_get dg_X12_laysDays_83_83 7 rfl rfl)
theorem dX12_laysDays_95 : decode cX12_laysDays 95 = .ok (.iconst 0, 1) := q_iconst0 (bat_get dg_X12_laysDays_83_83 8 rfl rfl)
