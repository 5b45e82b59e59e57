theorem dg_X12_wordOf_0_0 : bqL cX12_wordOf 0 [(0, [42]), (1, [180, 0, 54]), (4, [6]), (5, [46]), (6, [2]), (7, [160, 0, 5]), (12, [42]), (13, [28]), (14, [181, 1, 80]), (17, [42]), (18, [3]), (19, [27]), (20, [182, 1, 83]), (23, [184, 1, 86]), (26, [172]), (10, [28]), (11, [172])] = true := by decide +kernel
theorem dX12_wordOf_0 : decode cX12_wordOf 0 = .ok (.aload_n 0, 1) := q_aload_n0 (bat_get dg_X12_wordOf_0_0 0 rfl rfl)
theorem dX12_wordOf_1 : decode cX12_wordOf 1 = .ok (.getfield 54, 3) := q_getfield (bat_get dg_X12_wordOf_0_0 1 rfl rfl) rfl
theorem dX12_wordOf_4 : decode cX12_wordOf 4 = .ok (.iconst 3, 1) := q_iconst3 (bat_get dg_X12_wordOf_0_0 2 rfl rfl)
theorem dX12_wordOf_5 : decode cX12_wordOf 5 = .ok (.iaload, 1) := q_iaload (bat_get dg_X12_wordOf_0_0 3 rfl rfl)
theorem dX12_wordOf_6 : decode cX12_wordOf 6 = .ok (.iconst (-1), 1) := q_iconstm1 (bat_get dg_X12_wordOf_0_0 4 rfl rfl)
theorem dX12_wordOf_7 : decode cX12_wordOf 7 = .ok (.if_icmp .ne 5, 3) := q_if_icmp_ne (bat_get dg_X12_wordOf_0_0 5 rfl rfl) rfl
theorem dX12_wordOf_12 : decode cX12_wordOf 12 = .ok (.aload_n 0, 1) := q_aload_n0 (bat_get dg_X12_wordOf_0_0 6 rfl rfl)
theorem dX12_wordOf_13 : decode cX12_wordOf 13 = .ok (.iload_n 2, 1) := q_iload_n2 (bat_get dg_X12_wordOf_0_0 7 rfl rfl)
theorem dX12_wordOf_14 : decode cX12_wordOf 14 = .ok (.putfield 336, 3) := q_putfield (bat_get dg_X12_wordOf_0_0 8 rfl rfl) rfl
theorem dX12_wordOf_17 : decode cX12_wordOf 17 = .ok (.aload_n 0, 1) := q_aload_n0 (bat_get dg_X12_wordOf_0_0 9 rfl rfl)
theorem dX12_wordOf_18 : decode cX12_wordOf 18 = .ok (.iconst 0, 1) := q_iconst0 (bat_get dg_X12_wordOf_0_0 10 rfl rfl)
theorem dX12_wordOf_19 : decode cX12_wordOf 19 = .ok (.iload_n 1, 1) := q_iload_n1 (bat_get dg_X12_wordOf_0_0 11 rfl rfl)
theorem dX12_wordOf_20 : decode cX12_wordOf 20 = .ok (.invokevirtual 339, 3) := q_invokevirtual (bat_get dg_X12_wordOf_0_0 12 rfl rfl) rfl
theorem dX12_wordOf_23 : decode cX12_wordOf 23 = .ok (.invokestatic 342, 3) := q_invokestatic (bat_get dg_X12_wordOf_0_0 13 rfl rfl) rfl
theorem dX12_wordOf_26 : decode cX12_wordOf 26 = .ok (.ireturn, 1) := q_ireturn (bat_get dg_X12_wordOf_0_0 14 rfl rfl)
theorem dX12_wordOf_10 : decode cX12_wordOf 10 = .ok (.iload_n 2, 1) := q_iload_n2 (bat_get dg_X12_wordOf_0_0 15 rfl rfl)
theorem dX12_wordOf_11 : decode cX12_wordOf 11 = .ok (.ireturn, 1) := q_ireturn (bat_get dg_X12_wordOf_0_0 16 rfl rfl)
theorem w_7_135 : (Cond.methodLink RX12 339 yX12_codesTell) ∈ wsL_law := sk_mem (ck_7 _ (List.mem_of_getElem? (i := 135) rfl)) rfl
theorem w_7_137 : (Cond.instanceMethod yX12_codesTell) ∈ wsL_law := sk_mem (ck_7 _ (List.mem_of_getElem? (i := 137) rfl)) rfl
theorem w_0_75 : (Cond.selects RX12 yX12_codesTell yX12_codesTell) ∈ wsL_law := sk_mem (ck_0 _ (List.mem_of_getElem? (i := 75) rfl)) rfl
theorem w_7_168 : (Cond.methodLink RX12 342 yX12_byTen) ∈ wsL_law := sk_mem (ck_7 _ (List.mem_of_getElem? (i := 168) rfl)) rfl
theorem w_7_169 : (Cond.static yX12_byTen) ∈ wsL_law := sk_mem (ck_7 _ (List.mem_of_getElem? (i := 169) rfl)) rfl
theorem w_7_134 : (Cond.code yX12_wordOf cX12_wordOf 3 (some .int)) ∈ wsL_law := sk_mem (ck_7 _ (List.mem_of_getElem? (i := 134) rfl)) rfl
theorem hd_X12_codesTell_2 : skD yX12_codesTell 2 := by decide +kernel
theorem hd_X12_byTen_1 : skD yX12_byTen 1 := by decide +kernel
set_option maxHeartbeats 4000000 in
set_option maxRecDepth 100000 in
theorem c_m_wordOf (l : Launch) (D : va_G) (cI cJ cC cZ cS : ClassId) (mm : Nat) (g : Nat → Nat) (ta : Nat) (pa : Nat) (pe : Nat) (pd : Int32) (pb : Nat) (pp : Int32) (pf : Int32) (pg : Int32) (pn : Int32) (rt : Int32) (rn : Int32) (cd : Nat) (sn : Int32) (il : Nat) (tk : Int32) (am : Int32) (at_ : Int32) (aa : Int32) (mt_ : Int32) (bh : Nat) (wd : Int32) (wt : Int32) (wy : Int64) (it_ : Nat) (rm : Nat) (ud : Nat) (nu : Nat) (sd : Int64) (qn : Nat) (qw : Nat) (qo : Int32) (qb : Nat) (qp : Nat) (qa : Int64) (qi : Nat) (oc : Nat) (d : Nat) (o : Int32) (u0 : Int32) (u1 : Int32) (u2 : Int32) (u3 : Int32) (u4 : Int32) (u5 : Int32) (v0 : Int32) (v1 : Int32) (v2 : Int32) (v3 : Int32) (v4 : Int32) (v5 : Int32) (cs : Nat → Nat) (nw : Nat → Int32) (pt : Nat → Nat) (ql : Nat → Int64) (hd : d < 9) (hp0 : progOk cs u3 v3) (hcs : ∀ j, cs j ≤ 20000) (hnw : nowOk nw) (hpt : ∀ j, pt j ≤ 9) : skM l yX12_wordOf cX12_wordOf 3 (some .int) 3 74 0 0 D (skT cI cJ cC cZ cS) [.ref mm, .int (nI d), .int o] [(mm, .inr (12, mo g (nI ta) (nI pa) (nI pe) pd (nI pb) pp pf pg pn rt rn (nI cd) sn (nI il) tk am at_ aa mt_ (nI bh) wd wt wy (nI it_) (nI rm) (nI ud) (nI nu) sd (nI qn) (nI qw) qo (nI qb) (nI qp) qa (nI qi) (nI oc))), (g 24, .inl (cI, 6, .inl (l6 u0 u1 u2 u3 u4 u5))), (g 25, .inl (cI, 6, .inl (l6 v0 v1 v2 v3 v4 v5))), (g 26, .inl (cI, 3200, .inl (fun j => nI (cs j)))), (g 31, .inl (cI, 120, .inl nw)), (g 46, .inl (cI, 9, .inl (fun j => nI (pt j)))), (g 86, .inl (cJ, 1700, .inr (.inl ql)))] (skI D (skT cI cJ cC cZ cS) (fun (r : Int32) (u : va_W) => ∃ (tk2 : Int32), ∃ (qp2 : Nat), ∃ (am2 : Int32), ∃ (ql2 : Nat → Int64), u = [(mm, .inr (12, mo g (nI ta) (nI pa) (nI pe) pd (nI pb) pp pf pg pn rt rn (nI cd) sn (nI il) tk2 am2 at_ aa mt_ (nI bh) wd wt wy (nI it_) (nI rm) (nI ud) (nI nu) sd (nI qn) (nI qw) qo (nI qb) (nI qp2) qa (nI qi) (nI oc))), (g 24, .inl (cI, 6, .inl (l6 u0 u1 u2 u3 u4 u5))), (g 25, .inl (cI, 6, .inl (l6 v0 v1 v2 v3 v4 v5))), (g 26, .inl (cI, 3200, .inl (fun j => nI (cs j)))), (g 31, .inl (cI, 120, .inl nw)), (g 46, .inl (cI, 9, .inl (fun j => nI (pt j)))), (g 86, .inl (cJ, 1700, .inr (.inl ql2)))])) := by
  refine skM_of pf_X12_wordOf (Nat.le_of_ble_eq_true rfl) ?_
  intro p e s m below meth c A ls E hP hD hl
  refine skE_el E (fun hx hb hr hml hlocks hin hown hts hK hA => ?_)
  have hown : s.vm.findClass RX12 = some m.cls := hown
  have hS : va_S A s.heap s.heap [] := va_S.rf
  have hl : lv_has ls 3 [(0, .ref mm), (1, .int (nI d)), (2, .int o)] := hl
  refine lv_aload_n hx hb dX12_wordOf_0 rfl (lv_at hl 0 rfl) ?_
  refine sk_get (v := .ref (g 24)) (C := RX12) (T := TX12) (N := 92) hx hb hts inlX12 hown hK hP 0 rfl rfl 24 (by decide) w_5_179 rfl dX12_wordOf_1 ?_
  refine lv_iconst (v := 3) hx hb dX12_wordOf_4 (by decide) ?_
  refine va_iald hx hb hK.1 hP 1 0 rfl rfl (by unfold vp_in; decide) dX12_wordOf_5 ?_
  refine sk_top u3 rfl ?_
  refine lv_iconst (v := (-1)) hx hb dX12_wordOf_6 (by decide) ?_
  refine lv_icmp_ne (tgt := 12) hx hb dX12_wordOf_7 (by decide) (fun c_1 => ?_) (fun c_1 => ?_)
  · skip
    refine lv_aload_n hx hb dX12_wordOf_12 rfl (lv_at hl 0 rfl) ?_
    refine lv_iload_n hx hb dX12_wordOf_13 rfl (lv_at hl 2 rfl) ?_
    refine sk_put (ws' := [(mm, .inr (12, mo g (nI ta) (nI pa) (nI pe) pd (nI pb) pp pf pg pn rt rn (nI cd) sn (nI il) tk o at_ aa mt_ (nI bh) wd wt wy (nI it_) (nI rm) (nI ud) (nI nu) sd (nI qn) (nI qw) qo (nI qb) (nI qp) qa (nI qi) (nI oc))), (g 24, .inl (cI, 6, .inl (l6 u0 u1 u2 u3 u4 u5))), (g 25, .inl (cI, 6, .inl (l6 v0 v1 v2 v3 v4 v5))), (g 26, .inl (cI, 3200, .inl (fun j => nI (cs j)))), (g 31, .inl (cI, 120, .inl nw)), (g 46, .inl (cI, 9, .inl (fun j => nI (pt j)))), (g 86, .inl (cJ, 1700, .inr (.inl ql)))]) (C := RX12) (T := TX12) (N := 92) (v := .int o) hx hb hts inlX12 tyX12 tyX12_ok nmX12 hown hK hP hD hS 0 rfl rfl 33 (by decide) w_5_188 rfl rfl rfl (Nat.le_of_ble_eq_true rfl) rfl dX12_wordOf_14 (fun H locs hP hD hS => ?_)
    refine lv_aload_n hx hb dX12_wordOf_17 rfl (lv_at hl 0 rfl) ?_
    refine lv_iconst (v := 0) hx hb dX12_wordOf_18 (by decide) ?_
    refine lv_iload_n hx hb dX12_wordOf_19 rfl (lv_at hl 1 rfl) ?_
    obtain ⟨ca_2, cb_3, hab_, hcb_, rfl, rfl, hpv_⟩ := hp0.resolve_left c_1
    refine sk_Vl (q0 := 0) (n := 2) (rest := []) (wr := fmR om_7_7f _) ⟨hx, hb, hml, hown, hts⟩ hl.1 (c_m_codesTell0 l D cI cJ cC cZ cS mm g ta pa pe pd pb pp pf pg pn rt rn cd sn il tk o at_ aa mt_ bh wd wt wy it_ rm ud nu sd qn qw qo qb qp qa qi oc d u0 u1 u2 u4 u5 ca_2 v0 v1 v2 v4 v5 cb_3 cs nw pt ql (by omega) (by omega) (by omega) hpv_ hcs hnw hpt) w_7_135 w_7_137 w_0_75 w_1_14 w_7_138 hd_X12_codesTell_2 ⟨⟨(Nat.le_of_ble_eq_true rfl), (Nat.le_of_ble_eq_true rfl)⟩, (Nat.le_of_ble_eq_true rfl), (Nat.le_of_ble_eq_true rfl)⟩ hK hP hD hS hA (fmT om_7_7f 0) (fmF om_7_7f 0) (fm_C1 rfl rfl) (fm_R rfl rfl) (fm_nT om_7_7f 0) (fm_nF om_7_7f 0) (fm_di om_7_7f 0) rfl rfl rfl rfl (Nat.le_of_ble_eq_true rfl) dX12_wordOf_20 (fun r_6 u H locs hw hP hD hS => ?_)
    refine exE hw (fun qp2_4 hw1 => exE hw1 (fun ql2_5 eu_7 => ?_))
    clear hw hw1
    refine o_mgE (ws' := [(mm, .inr (12, mo g (nI ta) (nI pa) (nI pe) pd (nI pb) pp pf pg pn rt rn (nI cd) sn (nI il) 0 o at_ aa mt_ (nI bh) wd wt wy (nI it_) (nI rm) (nI ud) (nI nu) sd (nI qn) (nI qw) qo (nI qb) (nI qp2_4) qa (nI qi) (nI oc))), (g 24, .inl (cI, 6, .inl (l6 u0 u1 u2 (nI ca_2) u4 u5))), (g 25, .inl (cI, 6, .inl (l6 v0 v1 v2 (nI cb_3) v4 v5))), (g 26, .inl (cI, 3200, .inl (fun j => nI (cs j)))), (g 31, .inl (cI, 120, .inl nw)), (g 46, .inl (cI, 9, .inl (fun j => nI (pt j)))), (g 86, .inl (cJ, 1700, .inr (.inl ql2_5)))]) eu_7 hP hD rfl (fun hP hD => ?_)
    refine sk_Si (n := 1) (rest := []) (wr := [(mm, .inr (12, mo g (nI ta) (nI pa) (nI pe) pd (nI pb) pp pf pg pn rt rn (nI cd) sn (nI il) 0 o at_ aa mt_ (nI bh) wd wt wy (nI it_) (nI rm) (nI ud) (nI nu) sd (nI qn) (nI qw) qo (nI qb) (nI qp2_4) qa (nI qi) (nI oc))), (g 24, .inl (cI, 6, .inl (l6 u0 u1 u2 (nI ca_2) u4 u5))), (g 25, .inl (cI, 6, .inl (l6 v0 v1 v2 (nI cb_3) v4 v5))), (g 26, .inl (cI, 3200, .inl (fun j => nI (cs j)))), (g 31, .inl (cI, 120, .inl nw)), (g 46, .inl (cI, 9, .inl (fun j => nI (pt j)))), (g 86, .inl (cJ, 1700, .inr (.inl ql2_5)))]) ⟨hx, hb, hml, hown, hts⟩ hl.1 (c_m_byTen l D cI cJ cC cZ cS r_6) w_7_168 w_7_169 w_1_14 w_7_170 hd_X12_byTen_1 ⟨⟨(Nat.le_of_ble_eq_true rfl), (Nat.le_of_ble_eq_true rfl)⟩, (Nat.le_of_ble_eq_true rfl), (Nat.le_of_ble_eq_true rfl)⟩ hK hP hD hS hA [] [0, 1, 2, 3, 4, 5, 6] rfl rfl (by decide +kernel) (by decide +kernel) (by decide +kernel) rfl rfl (Nat.le_of_ble_eq_true rfl) dX12_wordOf_23 (fun r_8 u H locs hw hP hD hS => ?_)
    obtain rfl := hw
    refine o_re (ws' := [(mm, .inr (12, mo g (nI ta) (nI pa) (nI pe) pd (nI pb) pp pf pg pn rt rn (nI cd) sn (nI il) 0 o at_ aa mt_ (nI bh) wd wt wy (nI it_) (nI rm) (nI ud) (nI nu) sd (nI qn) (nI qw) qo (nI qb) (nI qp2_4) qa (nI qi) (nI oc))), (g 24, .inl (cI, 6, .inl (l6 u0 u1 u2 (nI ca_2) u4 u5))), (g 25, .inl (cI, 6, .inl (l6 v0 v1 v2 (nI cb_3) v4 v5))), (g 26, .inl (cI, 3200, .inl (fun j => nI (cs j)))), (g 31, .inl (cI, 120, .inl nw)), (g 46, .inl (cI, 9, .inl (fun j => nI (pt j)))), (g 86, .inl (cJ, 1700, .inr (.inl ql2_5)))]) hP hD rfl (fun hP hD => ?_)
    exact sk_iret hx hb hr rfl hlocks hK hP hD hS (⟨0, qp2_4, o, ql2_5, rfl⟩) (Nat.le_of_ble_eq_true rfl) (Nat.le_of_ble_eq_true rfl) dX12_wordOf_26
  · skip
    refine lv_iload_n hx hb dX12_wordOf_10 rfl (lv_at hl 2 rfl) ?_
    exact sk_iret hx hb hr rfl hlocks hK hP hD hS (⟨tk, qp, am, ql, rfl⟩) (Nat.le_of_ble_eq_true rfl) (Nat.le_of_ble_eq_true rfl) dX12_wordOf_11
theorem dg_X12_becomesBy_0_0 : bqL cX12_becomesBy 0 [(0, [42]), (1, [28]), (2, [181, 1, 80]), (5, [42]), (6, [21, 4]), (8, [153, 0, 7]), (15, [29]), (16, [181, 1, 90]), (19, [42]), (20, [21, 4]), (22, [153, 0, 7]), (29, [3]), (30, [181, 1, 93]), (33, [42]), (34, [180, 0, 54]), (37, [7]), (38, [46]), (39, [2]), (40, [160, 0, 10]), (50, [42]), (51, [4]), (52, [27]), (53, [182, 1, 83]), (56, [184, 1, 86]), (59, [172]), (43, [42]), (44, [180, 1, 90]), (47, [167, 0, 12]), (25, [4]), (26, [167, 0, 4]), (11, [3]), (12, [167, 0, 4])] = true := by decide +kernel
theorem dX12_becomesBy_0 : decode cX12_becomesBy 0 = .ok (.aload_n 0, 1) := q_aload_n0 (bat_get dg_X12_becomesBy_0_0 0 rfl rfl)
theorem dX12_becomesBy_1 : decode cX12_becomesBy 1 = .ok (.iload_n 2, 1) := q_iload_n2 (bat_get dg_X12_becomesBy_0_0 1 rfl rfl)
theorem dX12_becomesBy_2 : decode cX12_becomesBy 2 = .ok (.putfield 336, 3) := q_putfield (bat_get dg_X12_becomesBy_0_0 2 rfl rfl) rfl
theorem dX12_becomesBy_5 : decode cX12_becomesBy 5 = .ok (.aload_n 0, 1) := q_aload_n0 (bat_get dg_X12_becomesBy_0_0 3 rfl rfl)
theorem dX12_becomesBy_6 : decode cX12_becomesBy 6 = .ok (.iload 4, 2) := q_iload (bat_get dg_X12_becomesBy_0_0 4 rfl rfl)
theorem dX12_becomesBy_8 : decode cX12_becomesBy 8 = .ok (.ifCond .eq 7, 3) := q_ifCond_eq (bat_get dg_X12_becomesBy_0_0 5 rfl rfl) rfl
theorem dX12_becomesBy_15 : decode cX12_becomesBy 15 = .ok (.iload_n 3, 1) := q_iload_n3 (bat_get dg_X12_becomesBy_0_0 6 rfl rfl)
theorem dX12_becomesBy_16 : decode cX12_becomesBy 16 = .ok (.putfield 346, 3) := q_putfield (bat_get dg_X12_becomesBy_0_0 7 rfl rfl) rfl
theorem dX12_becomesBy_19 : decode cX12_becomesBy 19 = .ok (.aload_n 0, 1) := q_aload_n0 (bat_get dg_X12_becomesBy_0_0 8 rfl rfl)
theorem dX12_becomesBy_20 : decode cX12_becomesBy 20 = .ok (.iload 4, 2) := q_iload (bat_get dg_X12_becomesBy_0_0 9 rfl rfl)
theorem dX12_becomesBy_22 : decode cX12_becomesBy 22 = .ok (.ifCond .eq 7, 3) := q_ifCond_eq (bat_get dg_X12_becomesBy_0_0 10 rfl rfl) rfl
theorem dX12_becomesBy_29 : decode cX12_becomesBy 29 = .ok (.iconst 0, 1) := q_iconst0 (bat_get dg_X12_becomesBy_0_0 11 rfl rfl)
theorem dX12_becomesBy_30 : decode cX12_becomesBy 30 = .ok (.putfield 349, 3) := q_putfield (bat_get dg_X12_becomesBy_0_0 12 rfl rfl) rfl
theorem dX12_becomesBy_33 : decode cX12_becomesBy 33 = .ok (.aload_n 0, 1) := q_aload_n0 (bat_get dg_X12_becomesBy_0_0 13 rfl rfl)
theorem dX12_becomesBy_34 : decode cX12_becomesBy 34 = .ok (.getfield 54, 3) := q_getfield (bat_get dg_X12_becomesBy_0_0 14 rfl rfl) rfl
theorem dX12_becomesBy_37 : decode cX12_becomesBy 37 = .ok (.iconst 4, 1) := q_iconst4 (bat_get dg_X12_becomesBy_0_0 15 rfl rfl)
theorem dX12_becomesBy_38 : decode cX12_becomesBy 38 = .ok (.iaload, 1) := q_iaload (bat_get dg_X12_becomesBy_0_0 16 rfl rfl)
theorem dX12_becomesBy_39 : decode cX12_becomesBy 39 = .ok (.iconst (-1), 1) := q_iconstm1 (bat_get dg_X12_becomesBy_0_0 17 rfl rfl)
theorem dX12_becomesBy_40 : decode cX12_becomesBy 40 = .ok (.if_icmp .ne 10, 3) := q_if_icmp_ne (bat_get dg_X12_becomesBy_0_0 18 rfl rfl) rfl
theorem dX12_becomesBy_50 : decode cX12_becomesBy 50 = .ok (.aload_n 0, 1) := q_aload_n0 (bat_get dg_X12_becomesBy_0_0 19 rfl rfl)
theorem dX12_becomesBy_51 : decode cX12_becomesBy 51 = .ok (.iconst 1, 1) := q_iconst1 (bat_get dg_X12_becomesBy_0_0 20 rfl rfl)
theorem dX12_becomesBy_52 : decode cX12_becomesBy 52 = .ok (.iload_n 1, 1) := q_iload_n1 (bat_get dg_X12_becomesBy_0_0 21 rfl rfl)
theorem dX12_becomesBy_53 : decode cX12_becomesBy 53 = .ok (.invokevirtual 339, 3) := q_invokevirtual (bat_get dg_X12_becomesBy_0_0 22 rfl rfl) rfl
theorem dX12_becomesBy_56 : decode cX12_becomesBy 56 = .ok (.invokestatic 342, 3) := q_invokestatic (bat_get dg_X12_becomesBy_0_0 23 rfl rfl) rfl
theorem dX12_becomesBy_59 : decode cX12_becomesBy 59 = .ok (.ireturn, 1) := q_ireturn (bat_get dg_X12_becomesBy_0_0 24 rfl rfl)
theorem dX12_becomesBy_43 : decode cX12_becomesBy 43 = .ok (.aload_n 0, 1) := q_aload_n0 (bat_get dg_X12_becomesBy_0_0 25 rfl rfl)
theorem dX12_becomesBy_44 : decode cX12_becomesBy 44 = .ok (.getfield 346, 3) := q_getfield (bat_get dg_X12_becomesBy_0_0 26 rfl rfl) rfl
theorem dX12_becomesBy_47 : decode cX12_becomesBy 47 = .ok (.goto 12, 3) := q_goto (bat_get dg_X12_becomesBy_0_0 27 rfl rfl) rfl
theorem dX12_becomesBy_25 : decode cX12_becomesBy 25 = .ok (.iconst 1, 1) := q_iconst1 (bat_get dg_X12_becomesBy_0_0 28 rfl rfl)
theorem dX12_becomesBy_26 : decode cX12_becomesBy 26 = .ok (.goto 4, 3) := q_goto (bat_get dg_X12_becomesBy_0_0 29 rfl rfl) rfl
theorem dX12_becomesBy_11 : decode cX12_becomesBy 11 = .ok (.iconst 0, 1) := q_iconst0 (bat_get dg_X12_becomesBy_0_0 30 rfl rfl)
theorem dX12_becomesBy_12 : decode cX12_becomesBy 12 = .ok (.goto 4, 3) := q_goto (bat_get dg_X12_becomesBy_0_0 31 rfl rfl) rfl
theorem w_7_179 : (Cond.code yX12_becomesBy cX12_becomesBy 5 (some .int)) ∈ wsL_law := sk_mem (ck_7 _ (List.mem_of_getElem? (i := 179) rfl)) rfl
set_option maxHeartbeats 4000000 in
set_option maxRecDepth 100000 in
theorem c_m_becomesBy (l : Launch) (D : va_G) (cI cJ cC cZ cS : ClassId) (mm : Nat) (g : Nat → Nat) (ta : Nat) (pa : Nat) (pe : Nat) (pd : Int32) (pb : Nat) (pp : Int32) (pf : Int32) (pg : Int32) (pn : Int32) (rt : Int32) (rn : Int32) (cd : Nat) (sn : Int32) (il : Nat) (tk : Int32) (am : Int32) (at_ : Int32) (aa : Int32) (mt_ : Int32) (bh : Nat) (wd : Int32) (wt : Int32) (wy : Int64) (it_ : Nat) (rm : Nat) (ud : Nat) (nu : Nat) (sd : Int64) (qn : Nat) (qw : Nat) (qo : Int32) (qb : Nat) (qp : Nat) (qa : Int64) (qi : Nat) (oc : Nat) (d : Nat) (o : Int32) (w : Int32) (b0 : Nat) (u0 : Int32) (u1 : Int32) (u2 : Int32) (u3 : Int32) (u4 : Int32) (u5 : Int32) (v0 : Int32) (v1 : Int32) (v2 : Int32) (v3 : Int32) (v4 : Int32) (v5 : Int32) (cs : Nat → Nat) (nw : Nat → Int32) (pt : Nat → Nat) (ql : Nat → Int64) (hd : d < 9) (hb0 : b0 ≤ 1) (hp1 : progOk cs u4 v4) (hcs : ∀ j, cs j ≤ 20000) (hnw : nowOk nw) (hpt : ∀ j, pt j ≤ 9) : skM l yX12_becomesBy cX12_becomesBy 5 (some .int) 3 74 0 0 D (skT cI cJ cC cZ cS) [.ref mm, .int (nI d), .int o, .int w, .int (nI b0)] [(mm, .inr (12, mo g (nI ta) (nI pa) (nI pe) pd (nI pb) pp pf pg pn rt rn (nI cd) sn (nI il) tk am at_ aa mt_ (nI bh) wd wt wy (nI it_) (nI rm) (nI ud) (nI nu) sd (nI qn) (nI qw) qo (nI qb) (nI qp) qa (nI qi) (nI oc))), (g 24, .inl (cI, 6, .inl (l6 u0 u1 u2 u3 u4 u5))), (g 25, .inl (cI, 6, .inl (l6 v0 v1 v2 v3 v4 v5))), (g 26, .inl (cI, 3200, .inl (fun j => nI (cs j)))), (g 31, .inl (cI, 120, .inl nw)), (g 46, .inl (cI, 9, .inl (fun j => nI (pt j)))), (g 86, .inl (cJ, 1700, .inr (.inl ql)))] (skI D (skT cI cJ cC cZ cS) (fun (r : Int32) (u : va_W) => ∃ (tk2 : Int32), ∃ (qp2 : Nat), ∃ (am2 : Int32), ∃ (at_2 : Int32), ∃ (aa2 : Int32), ∃ (ql2 : Nat → Int64), u = [(mm, .inr (12, mo g (nI ta) (nI pa) (nI pe) pd (nI pb) pp pf pg pn rt rn (nI cd) sn (nI il) tk2 am2 at_2 aa2 mt_ (nI bh) wd wt wy (nI it_) (nI rm) (nI ud) (nI nu) sd (nI qn) (nI qw) qo (nI qb) (nI qp2) qa (nI qi) (nI oc))), (g 24, .inl (cI, 6, .inl (l6 u0 u1 u2 u3 u4 u5))), (g 25, .inl (cI, 6, .inl (l6 v0 v1 v2 v3 v4 v5))), (g 26, .inl (cI, 3200, .inl (fun j => nI (cs j)))), (g 31, .inl (cI, 120, .inl nw)), (g 46, .inl (cI, 9, .inl (fun j => nI (pt j)))), (g 86, .inl (cJ, 1700, .inr (.inl ql2)))])) := by
  refine skM_of pf_X12_becomesBy (Nat.le_of_ble_eq_true rfl) ?_
  intro p e s m below meth c A ls E hP hD hl
  refine skE_el E (fun hx hb hr hml hlocks hin hown hts hK hA => ?_)
  have hown : s.vm.findClass RX12 = some m.cls := hown
  have hS : va_S A s.heap s.heap [] := va_S.rf
  have hl : lv_has ls 5 [(0, .ref mm), (1, .int (nI d)), (2, .int o), (3, .int w), (4, .int (nI b0))] := hl
  refine lv_aload_n hx hb dX12_becomesBy_0 rfl (lv_at hl 0 rfl) ?_
  refine lv_iload_n hx hb dX12_becomesBy_1 rfl (lv_at hl 2 rfl) ?_
  refine sk_put (ws' := [(mm, .inr (12, mo g (nI ta) (nI pa) (nI pe) pd (nI pb) pp pf pg pn rt rn (nI cd) sn (nI il) tk o at_ aa mt_ (nI bh) wd wt wy (nI it_) (nI rm) (nI ud) (nI nu) sd (nI qn) (nI qw) qo (nI qb) (nI qp) qa (nI qi) (nI oc))), (g 24, .inl (cI, 6, .inl (l6 u0 u1 u2 u3 u4 u5))), (g 25, .inl (cI, 6, .inl (l6 v0 v1 v2 v3 v4 v5))), (g 26, .inl (cI, 3200, .inl (fun j => nI (cs j)))), (g 31, .inl (cI, 120, .inl nw)), (g 46, .inl (cI, 9, .inl (fun j => nI (pt j)))), (g 86, .inl (cJ, 1700, .inr (.inl ql)))]) (C := RX12) (T := TX12) (N := 92) (v := .int o) hx hb hts inlX12 tyX12 tyX12_ok nmX12 hown hK hP hD hS 0 rfl rfl 33 (by decide) w_5_188 rfl rfl rfl (Nat.le_of_ble_eq_true rfl) rfl dX12_becomesBy_2 (fun H locs hP hD hS => ?_)
  refine lv_aload_n hx hb dX12_becomesBy_5 rfl (lv_at hl 0 rfl) ?_
  refine lv_iload hx hb dX12_becomesBy_6 (lv_at hl 4 rfl) ?_
  refine lv_if_eq (tgt := 15) hx hb dX12_becomesBy_8 (by decide) (fun c_1 => ?_) (fun c_1 => ?_)
  · have c_1 : b0 = 0 := (neq b0 0 (by omega) (by omega)).mp c_1
    refine lv_iload_n hx hb dX12_becomesBy_15 rfl (lv_at hl 3 rfl) ?_
    refine sk_put (ws' := [(mm, .inr (12, mo g (nI ta) (nI pa) (nI pe) pd (nI pb) pp pf pg pn rt rn (nI cd) sn (nI il) tk o w aa mt_ (nI bh) wd wt wy (nI it_) (nI rm) (nI ud) (nI nu) sd (nI qn) (nI qw) qo (nI qb) (nI qp) qa (nI qi) (nI oc))), (g 24, .inl (cI, 6, .inl (l6 u0 u1 u2 u3 u4 u5))), (g 25, .inl (cI, 6, .inl (l6 v0 v1 v2 v3 v4 v5))), (g 26, .inl (cI, 3200, .inl (fun j => nI (cs j)))), (g 31, .inl (cI, 120, .inl nw)), (g 46, .inl (cI, 9, .inl (fun j => nI (pt j)))), (g 86, .inl (cJ, 1700, .inr (.inl ql)))]) (C := RX12) (T := TX12) (N := 92) (v := .int w) hx hb hts inlX12 tyX12 tyX12_ok nmX12 hown hK hP hD hS 0 rfl rfl 34 (by decide) w_5_189 rfl rfl rfl (Nat.le_of_ble_eq_true rfl) rfl dX12_becomesBy_16 (fun H locs hP hD hS => ?_)
    refine lv_aload_n hx hb dX12_becomesBy_19 rfl (lv_at hl 0 rfl) ?_
    refine lv_iload hx hb dX12_becomesBy_20 (lv_at hl 4 rfl) ?_
    refine lv_if_eq (tgt := 29) hx hb dX12_becomesBy_22 (by decide) (fun c_2 => ?_) (fun c_2 => ?_)
    · have c_2 : b0 = 0 := (neq b0 0 (by omega) (by omega)).mp c_2
      refine lv_iconst (v := 0) hx hb dX12_becomesBy_29 (by decide) ?_
      refine sk_put (ws' := [(mm, .inr (12, mo g (nI ta) (nI pa) (nI pe) pd (nI pb) pp pf pg pn rt rn (nI cd) sn (nI il) tk o w 0 mt_ (nI bh) wd wt wy (nI it_) (nI rm) (nI ud) (nI nu) sd (nI qn) (nI qw) qo (nI qb) (nI qp) qa (nI qi) (nI oc))), (g 24, .inl (cI, 6, .inl (l6 u0 u1 u2 u3 u4 u5))), (g 25, .inl (cI, 6, .inl (l6 v0 v1 v2 v3 v4 v5))), (g 26, .inl (cI, 3200, .inl (fun j => nI (cs j)))), (g 31, .inl (cI, 120, .inl nw)), (g 46, .inl (cI, 9, .inl (fun j => nI (pt j)))), (g 86, .inl (cJ, 1700, .inr (.inl ql)))]) (C := RX12) (T := TX12) (N := 92) (v := .int 0) hx hb hts inlX12 tyX12 tyX12_ok nmX12 hown hK hP hD hS 0 rfl rfl 35 (by decide) w_5_190 rfl rfl rfl (Nat.le_of_ble_eq_true rfl) rfl dX12_becomesBy_30 (fun H locs hP hD hS => ?_)
      refine lv_aload_n hx hb dX12_becomesBy_33 rfl (lv_at hl 0 rfl) ?_
      refine sk_get (v := .ref (g 24)) (C := RX12) (T := TX12) (N := 92) hx hb hts inlX12 hown hK hP 0 rfl rfl 24 (by decide) w_5_179 rfl dX12_becomesBy_34 ?_
      refine lv_iconst (v := 4) hx hb dX12_becomesBy_37 (by decide) ?_
      refine va_iald hx hb hK.1 hP 1 0 rfl rfl (by unfold vp_in; decide) dX12_becomesBy_38 ?_
      refine sk_top u4 rfl ?_
      refine lv_iconst (v := (-1)) hx hb dX12_becomesBy_39 (by decide) ?_
      refine lv_icmp_ne (tgt := 50) hx hb dX12_becomesBy_40 (by decide) (fun c_3 => ?_) (fun c_3 => ?_)
      · skip
        refine lv_aload_n hx hb dX12_becomesBy_50 rfl (lv_at hl 0 rfl) ?_
        refine lv_iconst (v := 1) hx hb dX12_becomesBy_51 (by decide) ?_
        refine lv_iload_n hx hb dX12_becomesBy_52 rfl (lv_at hl 1 rfl) ?_
        obtain ⟨ca_4, cb_5, hab_, hcb_, rfl, rfl, hpv_⟩ := hp1.resolve_left c_3
        refine sk_Vl (q0 := 0) (n := 2) (rest := []) (wr := fmR om_7_7f _) ⟨hx, hb, hml, hown, hts⟩ hl.1 (c_m_codesTell1 l D cI cJ cC cZ cS mm g ta pa pe pd pb pp pf pg pn rt rn cd sn il tk o w 0 mt_ bh wd wt wy it_ rm ud nu sd qn qw qo qb qp qa qi oc d u0 u1 u2 u3 u5 ca_4 v0 v1 v2 v3 v5 cb_5 cs nw pt ql (by omega) (by omega) (by omega) hpv_ hcs hnw hpt) w_7_135 w_7_137 w_0_75 w_1_14 w_7_138 hd_X12_codesTell_2 ⟨⟨(Nat.le_of_ble_eq_true rfl), (Nat.le_of_ble_eq_true rfl)⟩, (Nat.le_of_ble_eq_true rfl), (Nat.le_of_ble_eq_true rfl)⟩ hK hP hD hS hA (fmT om_7_7f 0) (fmF om_7_7f 0) (fm_C1 rfl rfl) (fm_R rfl rfl) (fm_nT om_7_7f 0) (fm_nF om_7_7f 0) (fm_di om_7_7f 0) rfl rfl rfl rfl (Nat.le_of_ble_eq_true rfl) dX12_becomesBy_53 (fun r_8 u H locs hw hP hD hS => ?_)
        refine exE hw (fun qp2_6 hw1 => exE hw1 (fun ql2_7 eu_9 => ?_))
        clear hw hw1
        refine o_mgE (ws' := [(mm, .inr (12, mo g (nI ta) (nI pa) (nI pe) pd (nI pb) pp pf pg pn rt rn (nI cd) sn (nI il) 1 o w 0 mt_ (nI bh) wd wt wy (nI it_) (nI rm) (nI ud) (nI nu) sd (nI qn) (nI qw) qo (nI qb) (nI qp2_6) qa (nI qi) (nI oc))), (g 24, .inl (cI, 6, .inl (l6 u0 u1 u2 u3 (nI ca_4) u5))), (g 25, .inl (cI, 6, .inl (l6 v0 v1 v2 v3 (nI cb_5) v5))), (g 26, .inl (cI, 3200, .inl (fun j => nI (cs j)))), (g 31, .inl (cI, 120, .inl nw)), (g 46, .inl (cI, 9, .inl (fun j => nI (pt j)))), (g 86, .inl (cJ, 1700, .inr (.inl ql2_7)))]) eu_9 hP hD rfl (fun hP hD => ?_)
        refine sk_Si (n := 1) (rest := []) (wr := [(mm, .inr (12, mo g (nI ta) (nI pa) (nI pe) pd (nI pb) pp pf pg pn rt rn (nI cd) sn (nI il) 1 o w 0 mt_ (nI bh) wd wt wy (nI it_) (nI rm) (nI ud) (nI nu) sd (nI qn) (nI qw) qo (nI qb) (nI qp2_6) qa (nI qi) (nI oc))), (g 24, .inl (cI, 6, .inl (l6 u0 u1 u2 u3 (nI ca_4) u5))), (g 25, .inl (cI, 6, .inl (l6 v0 v1 v2 v3 (nI cb_5) v5))), (g 26, .inl (cI, 3200, .inl (fun j => nI (cs j)))), (g 31, .inl (cI, 120, .inl nw)), (g 46, .inl (cI, 9, .inl (fun j => nI (pt j)))), (g 86, .inl (cJ, 1700, .inr (.inl ql2_7)))]) ⟨hx, hb, hml, hown, hts⟩ hl.1 (c_m_byTen l D cI cJ cC cZ cS r_8) w_7_168 w_7_169 w_1_14 w_7_170 hd_X12_byTen_1 ⟨⟨(Nat.le_of_ble_eq_true rfl), (Nat.le_of_ble_eq_true rfl)⟩, (Nat.le_of_ble_eq_true rfl), (Nat.le_of_ble_eq_true rfl)⟩ hK hP hD hS hA [] [0, 1, 2, 3, 4, 5, 6] rfl rfl (by decide +kernel) (by decide +kernel) (by decide +kernel) rfl rfl (Nat.le_of_ble_eq_true rfl) dX12_becomesBy_56 (fun r_10 u H locs hw hP hD hS => ?_)
        obtain rfl := hw
        refine o_re (ws' := [(mm, .inr (12, mo g (nI ta) (nI pa) (nI pe) pd (nI pb) pp pf pg pn rt rn (nI cd) sn (nI il) 1 o w 0 mt_ (nI bh) wd wt wy (nI it_) (nI rm) (nI ud) (nI nu) sd (nI qn) (nI qw) qo (nI qb) (nI qp2_6) qa (nI qi) (nI oc))), (g 24, .inl (cI, 6, .inl (l6 u0 u1 u2 u3 (nI ca_4) u5))), (g 25, .inl (cI, 6, .inl (l6 v0 v1 v2 v3 (nI cb_5) v5))), (g 26, .inl (cI, 3200, .inl (fun j => nI (cs j)))), (g 31, .inl (cI, 120, .inl nw)), (g 46, .inl (cI, 9, .inl (fun j => nI (pt j)))), (g 86, .inl (cJ, 1700, .inr (.inl ql2_7)))]) hP hD rfl (fun hP hD => ?_)
        exact sk_iret hx hb hr rfl hlocks hK hP hD hS (⟨1, qp2_6, o, w, 0, ql2_7, rfl⟩) (Nat.le_of_ble_eq_true rfl) (Nat.le_of_ble_eq_true rfl) dX12_becomesBy_59
      · skip
        refine lv_aload_n hx hb dX12_becomesBy_43 rfl (lv_at hl 0 rfl) ?_
        refine sk_get (v := .int w) (C := RX12) (T := TX12) (N := 92) hx hb hts inlX12 hown hK hP 0 rfl rfl 34 (by decide) w_5_189 rfl dX12_becomesBy_44 ?_
        refine lv_goto (tgt := 59) hx hb dX12_becomesBy_47 (by decide) ?_
        exact sk_iret hx hb hr rfl hlocks hK hP hD hS (⟨tk, qp, o, w, 0, ql, rfl⟩) (Nat.le_of_ble_eq_true rfl) (Nat.le_of_ble_eq_true rfl) dX12_becomesBy_59
    · have c_2 : ¬ (b0 = 0) := fun h => c_2 ((neq b0 0 (by omega) (by omega)).mpr h)
      refine lv_iconst (v := 1) hx hb dX12_becomesBy_25 (by decide) ?_
      refine lv_goto (tgt := 30) hx hb dX12_becomesBy_26 (by decide) ?_
      refine sk_put (ws' := [(mm, .inr (12, mo g (nI ta) (nI pa) (nI pe) pd (nI pb) pp pf pg pn rt rn (nI cd) sn (nI il) tk o w 1 mt_ (nI bh) wd wt wy (nI it_) (nI rm) (nI ud) (nI nu) sd (nI qn) (nI qw) qo (nI qb) (nI qp) qa (nI qi) (nI oc))), (g 24, .inl (cI, 6, .inl (l6 u0 u1 u2 u3 u4 u5))), (g 25, .inl (cI, 6, .inl (l6 v0 v1 v2 v3 v4 v5))), (g 26, .inl (cI, 3200, .inl (fun j => nI (cs j)))), (g 31, .inl (cI, 120, .inl nw)), (g 46, .inl (cI, 9, .inl (fun j => nI (pt j)))), (g 86, .inl (cJ, 1700, .inr (.inl ql)))]) (C := RX12) (T := TX12) (N := 92) (v := .int 1) hx hb hts inlX12 tyX12 tyX12_ok nmX12 hown hK hP hD hS 0 rfl rfl 35 (by decide) w_5_190 rfl rfl rfl (Nat.le_of_ble_eq_true rfl) rfl dX12_becomesBy_30 (fun H locs hP hD hS => ?_)
      refine lv_aload_n hx hb dX12_becomesBy_33 rfl (lv_at hl 0 rfl) ?_
      refine sk_get (v := .ref (g 24)) (C := RX12) (T := TX12) (N := 92) hx hb hts inlX12 hown hK hP 0 rfl rfl 24 (by decide) w_5_179 rfl dX12_becomesBy_34 ?_
      refine lv_iconst (v := 4) hx hb dX12_becomesBy_37 (by decide) ?_
      refine va_iald hx hb hK.1 hP 1 0 rfl rfl (by unfold vp_in; decide) dX12_becomesBy_38 ?_
      refine sk_top u4 rfl ?_
      refine lv_iconst (v := (-1)) hx hb dX12_becomesBy_39 (by decide) ?_
      refine lv_icmp_ne (tgt := 50) hx hb dX12_becomesBy_40 (by decide) (fun c_11 => ?_) (fun c_11 => ?_)
      · skip
        refine lv_aload_n hx hb dX12_becomesBy_50 rfl (lv_at hl 0 rfl) ?_
        refine lv_iconst (v := 1) hx hb dX12_becomesBy_51 (by decide) ?_
        refine lv_iload_n hx hb dX12_becomesBy_52 rfl (lv_at hl 1 rfl) ?_
        obtain ⟨ca_12, cb_13, hab_, hcb_, rfl, rfl, hpv_⟩ := hp1.resolve_left c_11
        refine sk_Vl (q0 := 0) (n := 2) (rest := []) (wr := fmR om_7_7f _) ⟨hx, hb, hml, hown, hts⟩ hl.1 (c_m_codesTell1 l D cI cJ cC cZ cS mm g ta pa pe pd pb pp pf pg pn rt rn cd sn il tk o w 1 mt_ bh wd wt wy it_ rm ud nu sd qn qw qo qb qp qa qi oc d u0 u1 u2 u3 u5 ca_12 v0 v1 v2 v3 v5 cb_13 cs nw pt ql (by omega) (by omega) (by omega) hpv_ hcs hnw hpt) w_7_135 w_7_137 w_0_75 w_1_14 w_7_138 hd_X12_codesTell_2 ⟨⟨(Nat.le_of_ble_eq_true rfl), (Nat.le_of_ble_eq_true rfl)⟩, (Nat.le_of_ble_eq_true rfl), (Nat.le_of_ble_eq_true rfl)⟩ hK hP hD hS hA (fmT om_7_7f 0) (fmF om_7_7f 0) (fm_C1 rfl rfl) (fm_R rfl rfl) (fm_nT om_7_7f 0) (fm_nF om_7_7f 0) (fm_di om_7_7f 0) rfl rfl rfl rfl (Nat.le_of_ble_eq_true rfl) dX12_becomesBy_53 (fun r_16 u H locs hw hP hD hS => ?_)
        refine exE hw (fun qp2_14 hw1 => exE hw1 (fun ql2_15 eu_17 => ?_))
        clear hw hw1
        refine o_mgE (ws' := [(mm, .inr (12, mo g (nI ta) (nI pa) (nI pe) pd (nI pb) pp pf pg pn rt rn (nI cd) sn (nI il) 1 o w 1 mt_ (nI bh) wd wt wy (nI it_) (nI rm) (nI ud) (nI nu) sd (nI qn) (nI qw) qo (nI qb) (nI qp2_14) qa (nI qi) (nI oc))), (g 24, .inl (cI, 6, .inl (l6 u0 u1 u2 u3 (nI ca_12) u5))), (g 25, .inl (cI, 6, .inl (l6 v0 v1 v2 v3 (nI cb_13) v5))), (g 26, .inl (cI, 3200, .inl (fun j => nI (cs j)))), (g 31, .inl (cI, 120, .inl nw)), (g 46, .inl (cI, 9, .inl (fun j => nI (pt j)))), (g 86, .inl (cJ, 1700, .inr (.inl ql2_15)))]) eu_17 hP hD rfl (fun hP hD => ?_)
        refine sk_Si (n := 1) (rest := []) (wr := [(mm, .inr (12, mo g (nI ta) (nI pa) (nI pe) pd (nI pb) pp pf pg pn rt rn (nI cd) sn (nI il) 1 o w 1 mt_ (nI bh) wd wt wy (nI it_) (nI rm) (nI ud) (nI nu) sd (nI qn) (nI qw) qo (nI qb) (nI qp2_14) qa (nI qi) (nI oc))), (g 24, .inl (cI, 6, .inl (l6 u0 u1 u2 u3 (nI ca_12) u5))), (g 25, .inl (cI, 6, .inl (l6 v0 v1 v2 v3 (nI cb_13) v5))), (g 26, .inl (cI, 3200, .inl (fun j => nI (cs j)))), (g 31, .inl (cI, 120, .inl nw)), (g 46, .inl (cI, 9, .inl (fun j => nI (pt j)))), (g 86, .inl (cJ, 1700, .inr (.inl ql2_15)))]) ⟨hx, hb, hml, hown, hts⟩ hl.1 (c_m_byTen l D cI cJ cC cZ cS r_16) w_7_168 w_7_169 w_1_14 w_7_170 hd_X12_byTen_1 ⟨⟨(Nat.le_of_ble_eq_true rfl), (Nat.le_of_ble_eq_true rfl)⟩, (Nat.le_of_ble_eq_true rfl), (Nat.le_of_ble_eq_true rfl)⟩ hK hP hD hS hA [] [0, 1, 2, 3, 4, 5, 6] rfl rfl (by decide +kernel) (by decide +kernel) (by decide +kernel) rfl rfl (Nat.le_of_ble_eq_true rfl) dX12_becomesBy_56 (fun r_18 u H locs hw hP hD hS => ?_)
        obtain rfl := hw
        refine o_re (ws' := [(mm, .inr (12, mo g (nI ta) (nI pa) (nI pe) pd (nI pb) pp pf pg pn rt rn (nI cd) sn (nI il) 1 o w 1 mt_ (nI bh) wd wt wy (nI it_) (nI rm) (nI ud) (nI nu) sd (nI qn) (nI qw) qo (nI qb) (nI qp2_14) qa (nI qi) (nI oc))), (g 24, .inl (cI, 6, .inl (l6 u0 u1 u2 u3 (nI ca_12) u5))), (g 25, .inl (cI, 6, .inl (l6 v0 v1 v2 v3 (nI cb_13) v5))), (g 26, .inl (cI, 3200, .inl (fun j => nI (cs j)))), (g 31, .inl (cI, 120, .inl nw)), (g 46, .inl (cI, 9, .inl (fun j => nI (pt j)))), (g 86, .inl (cJ, 1700, .inr (.inl ql2_15)))]) hP hD rfl (fun hP hD => ?_)
        exact sk_iret hx hb hr rfl hlocks hK hP hD hS (⟨1, qp2_14, o, w, 1, ql2_15, rfl⟩) (Nat.le_of_ble_eq_true rfl) (Nat.le_of_ble_eq_true rfl) dX12_becomesBy_59
      · skip
        refine lv_aload_n hx hb dX12_becomesBy_43 rfl (lv_at hl 0 rfl) ?_
        refine sk_get (v := .int w) (C := RX12) (T := TX12) (N := 92) hx hb hts inlX12 hown hK hP 0 rfl rfl 34 (by decide) w_5_189 rfl dX12_becomesBy_44 ?_
        refine lv_goto (tgt := 59) hx hb dX12_becomesBy_47 (by decide) ?_
        exact sk_iret hx hb hr rfl hlocks hK hP hD hS (⟨tk, qp, o, w, 1, ql, rfl⟩) (Nat.le_of_ble_eq_true rfl) (Nat.le_of_ble_eq_true rfl) dX12_becomesBy_59
  · have c_1 : ¬ (b0 = 0) := fun h => c_1 ((neq b0 0 (by omega) (by omega)).mpr h)
    refine lv_iconst (v := 0) hx hb dX12_becomesBy_11 (by decide) ?_
    refine lv_goto (tgt := 16) hx hb dX12_becomesBy_12 (by decide) ?_
    refine sk_put (ws' := [(mm, .inr (12, mo g (nI ta) (nI pa) (nI pe) pd (nI pb) pp pf pg pn rt rn (nI cd) sn (nI il) tk o 0 aa mt_ (nI bh) wd wt wy (nI it_) (nI rm) (nI ud) (nI nu) sd (nI qn) (nI qw) qo (nI qb) (nI qp) qa (nI qi) (nI oc))), (g 24, .inl (cI, 6, .inl (l6 u0 u1 u2 u3 u4 u5))), (g 25, .inl (cI, 6, .inl (l6 v0 v1 v2 v3 v4 v5))), (g 26, .inl (cI, 3200, .inl (fun j => nI (cs j)))), (g 31, .inl (cI, 120, .inl nw)), (g 46, .inl (cI, 9, .inl (fun j => nI (pt j)))), (g 86, .inl (cJ, 1700, .inr (.inl ql)))]) (C := RX12) (T := TX12) (N := 92) (v := .int 0) hx hb hts inlX12 tyX12 tyX12_ok nmX12 hown hK hP hD hS 0 rfl rfl 34 (by decide) w_5_189 rfl rfl rfl (Nat.le_of_ble_eq_true rfl) rfl dX12_becomesBy_16 (fun H locs hP hD hS => ?_)
    refine lv_aload_n hx hb dX12_becomesBy_19 rfl (lv_at hl 0 rfl) ?_
    refine lv_iload hx hb dX12_becomesBy_20 (lv_at hl 4 rfl) ?_
    refine lv_if_eq (tgt := 29) hx hb dX12_becomesBy_22 (by decide) (fun c_19 => ?_) (fun c_19 => ?_)
    · have c_19 : b0 = 0 := (neq b0 0 (by omega) (by omega)).mp c_19
      refine lv_iconst (v := 0) hx hb dX12_becomesBy_29 (by decide) ?_
      refine sk_put (ws' := [(mm, .inr (12, mo g (nI ta) (nI pa) (nI pe) pd (nI pb) pp pf pg pn rt rn (nI cd) sn (nI il) tk o 0 0 mt_ (nI bh) wd wt wy (nI it_) (nI rm) (nI ud) (nI nu) sd (nI qn) (nI qw) qo (nI qb) (nI qp) qa (nI qi) (nI oc))), (g 24, .inl (cI, 6, .inl (l6 u0 u1 u2 u3 u4 u5))), (g 25, .inl (cI, 6, .inl (l6 v0 v1 v2 v3 v4 v5))), (g 26, .inl (cI, 3200, .inl (fun j => nI (cs j)))), (g 31, .inl (cI, 120, .inl nw)), (g 46, .inl (cI, 9, .inl (fun j => nI (pt j)))), (g 86, .inl (cJ, 1700, .inr (.inl ql)))]) (C := RX12) (T := TX12) (N := 92) (v := .int 0) hx hb hts inlX12 tyX12 tyX12_ok nmX12 hown hK hP hD hS 0 rfl rfl 35 (by decide) w_5_190 rfl rfl rfl (Nat.le_of_ble_eq_true rfl) rfl dX12_becomesBy_30 (fun H locs hP hD hS => ?_)
      refine lv_aload_n hx hb dX12_becomesBy_33 rfl (lv_at hl 0 rfl) ?_
      refine sk_get (v := .ref (g 24)) (C := RX12) (T := TX12) (N := 92) hx hb hts inlX12 hown hK hP 0 rfl rfl 24 (by decide) w_5_179 rfl dX12_becomesBy_34 ?_
      refine lv_iconst (v := 4) hx hb dX12_becomesBy_37 (by decide) ?_
      refine va_iald hx hb hK.1 hP 1 0 rfl rfl (by unfold vp_in; decide) dX12_becomesBy_38 ?_
      refine sk_top u4 rfl ?_
      refine lv_iconst (v := (-1)) hx hb dX12_becomesBy_39 (by decide) ?_
      refine lv_icmp_ne (tgt := 50) hx hb dX12_becomesBy_40 (by decide) (fun c_20 => ?_) (fun c_20 => ?_)
      · skip
        refine lv_aload_n hx hb dX12_becomesBy_50 rfl (lv_at hl 0 rfl) ?_
        refine lv_iconst (v := 1) hx hb dX12_becomesBy_51 (by decide) ?_
        refine lv_iload_n hx hb dX12_becomesBy_52 rfl (lv_at hl 1 rfl) ?_
        obtain ⟨ca_21, cb_22, hab_, hcb_, rfl, rfl, hpv_⟩ := hp1.resolve_left c_20
        refine sk_Vl (q0 := 0) (n := 2) (rest := []) (wr := fmR om_7_7f _) ⟨hx, hb, hml, hown, hts⟩ hl.1 (c_m_codesTell1 l D cI cJ cC cZ cS mm g ta pa pe pd pb pp pf pg pn rt rn cd sn il tk o 0 0 mt_ bh wd wt wy it_ rm ud nu sd qn qw qo qb qp qa qi oc d u0 u1 u2 u3 u5 ca_21 v0 v1 v2 v3 v5 cb_22 cs nw pt ql (by omega) (by omega) (by omega) hpv_ hcs hnw hpt) w_7_135 w_7_137 w_0_75 w_1_14 w_7_138 hd_X12_codesTell_2 ⟨⟨(Nat.le_of_ble_eq_true rfl), (Nat.le_of_ble_eq_true rfl)⟩, (Nat.le_of_ble_eq_true rfl), (Nat.le_of_ble_eq_true rfl)⟩ hK hP hD hS hA (fmT om_7_7f 0) (fmF om_7_7f 0) (fm_C1 rfl rfl) (fm_R rfl rfl) (fm_nT om_7_7f 0) (fm_nF om_7_7f 0) (fm_di om_7_7f 0) rfl rfl rfl rfl (Nat.le_of_ble_eq_true rfl) dX12_becomesBy_53 (fun r_25 u H locs hw hP hD hS => ?_)
        refine exE hw (fun qp2_23 hw1 => exE hw1 (fun ql2_24 eu_26 => ?_))
        clear hw hw1
        refine o_mgE (ws' := [(mm, .inr (12, mo g (nI ta) (nI pa) (nI pe) pd (nI pb) pp pf pg pn rt rn (nI cd) sn (nI il) 1 o 0 0 mt_ (nI bh) wd wt wy (nI it_) (nI rm) (nI ud) (nI nu) sd (nI qn) (nI qw) qo (nI qb) (nI qp2_23) qa (nI qi) (nI oc))), (g 24, .inl (cI, 6, .inl (l6 u0 u1 u2 u3 (nI ca_21) u5))), (g 25, .inl (cI, 6, .inl (l6 v0 v1 v2 v3 (nI cb_22) v5))), (g 26, .inl (cI, 3200, .inl (fun j => nI (cs j)))), (g 31, .inl (cI, 120, .inl nw)), (g 46, .inl (cI, 9, .inl (fun j => nI (pt j)))), (g 86, .inl (cJ, 1700, .inr (.inl ql2_24)))]) eu_26 hP hD rfl (fun hP hD => ?_)
        refine sk_Si (n := 1) (rest := []) (wr := [(mm, .inr (12, mo g (nI ta) (nI pa) (nI pe) pd (nI pb) pp pf pg pn rt rn (nI cd) sn (nI il) 1 o 0 0 mt_ (nI bh) wd wt wy (nI it_) (nI rm) (nI ud) (nI nu) sd (nI qn) (nI qw) qo (nI qb) (nI qp2_23) qa (nI qi) (nI oc))), (g 24, .inl (cI, 6, .inl (l6 u0 u1 u2 u3 (nI ca_21) u5))), (g 25, .inl (cI, 6, .inl (l6 v0 v1 v2 v3 (nI cb_22) v5))), (g 26, .inl (cI, 3200, .inl (fun j => nI (cs j)))), (g 31, .inl (cI, 120, .inl nw)), (g 46, .inl (cI, 9, .inl (fun j => nI (pt j)))), (g 86, .inl (cJ, 1700, .inr (.inl ql2_24)))]) ⟨hx, hb, hml, hown, hts⟩ hl.1 (c_m_byTen l D cI cJ cC cZ cS r_25) w_7_168 w_7_169 w_1_14 w_7_170 hd_X12_byTen_1 ⟨⟨(Nat.le_of_ble_eq_true rfl), (Nat.le_of_ble_eq_true rfl)⟩, (Nat.le_of_ble_eq_true rfl), (Nat.le_of_ble_eq_true rfl)⟩ hK hP hD hS hA [] [0, 1, 2, 3, 4, 5, 6] rfl rfl (by decide +kernel) (by decide +kernel) (by decide +kernel) rfl rfl (Nat.le_of_ble_eq_true rfl) dX12_becomesBy_56 (fun r_27 u H locs hw hP hD hS => ?_)
        obtain rfl := hw
        refine o_re (ws' := [(mm, .inr (12, mo g (nI ta) (nI pa) (nI pe) pd (nI pb) pp pf pg pn rt rn (nI cd) sn (nI il) 1 o 0 0 mt_ (nI bh) wd wt wy (nI it_) (nI rm) (nI ud) (nI nu) sd (nI qn) (nI qw) qo (nI qb) (nI qp2_23) qa (nI qi) (nI oc))), (g 24, .inl (cI, 6, .inl (l6 u0 u1 u2 u3 (nI ca_21) u5))), (g 25, .inl (cI, 6, .inl (l6 v0 v1 v2 v3 (nI cb_22) v5))), (g 26, .inl (cI, 3200, .inl (fun j => nI (cs j)))), (g 31, .inl (cI, 120, .inl nw)), (g 46, .inl (cI, 9, .inl (fun j => nI (pt j)))), (g 86, .inl (cJ, 1700, .inr (.inl ql2_24)))]) hP hD rfl (fun hP hD => ?_)
        exact sk_iret hx hb hr rfl hlocks hK hP hD hS (⟨1, qp2_23, o, 0, 0, ql2_24, rfl⟩) (Nat.le_of_ble_eq_true rfl) (Nat.le_of_ble_eq_true rfl) dX12_becomesBy_59
      · skip
        refine lv_aload_n hx hb dX12_becomesBy_43 rfl (lv_at hl 0 rfl) ?_
        refine sk_get (v := .int 0) (C := RX12) (T := TX12) (N := 92) hx hb hts inlX12 hown hK hP 0 rfl rfl 34 (by decide) w_5_189 rfl dX12_becomesBy_44 ?_
        refine lv_goto (tgt := 59) hx hb dX12_becomesBy_47 (by decide) ?_
        exact sk_iret hx hb hr rfl hlocks hK hP hD hS (⟨tk, qp, o, 0, 0, ql, rfl⟩) (Nat.le_of_ble_eq_true rfl) (Nat.le_of_ble_eq_true rfl) dX12_becomesBy_59
    · have c_19 : ¬ (b0 = 0) := fun h => c_19 ((neq b0 0 (by omega) (by omega)).mpr h)
      refine lv_iconst (v := 1) hx hb dX12_becomesBy_25 (by decide) ?_
      refine lv_goto (tgt := 30) hx hb dX12_becomesBy_26 (by decide) ?_
      refine sk_put (ws' := [(mm, .inr (12, mo g (nI ta) (nI pa) (nI pe) pd (nI pb) pp pf pg pn rt rn (nI cd) sn (nI il) tk o 0 1 mt_ (nI bh) wd wt wy (nI it_) (nI rm) (nI ud) (nI nu) sd (nI qn) (nI qw) qo (nI qb) (nI qp) qa (nI qi) (nI oc))), (g 24, .inl (cI, 6, .inl (l6 u0 u1 u2 u3 u4 u5))), (g 25, .inl (cI, 6, .inl (l6 v0 v1 v2 v3 v4 v5))), (g 26, .inl (cI, 3200, .inl (fun j => nI (cs j)))), (g 31, .inl (cI, 120, .inl nw)), (g 46, .inl (cI, 9, .inl (fun j => nI (pt j)))), (g 86, .inl (cJ, 1700, .inr (.inl ql)))]) (C := RX12) (T := TX12) (N := 92) (v := .int 1) hx hb hts inlX12 tyX12 tyX12_ok nmX12 hown hK hP hD hS 0 rfl rfl 35 (by decide) w_5_190 rfl rfl rfl (Nat.le_of_ble_eq_true rfl) rfl dX12_becomesBy_30 (fun H locs hP hD hS => ?_)
      refine lv_aload_n hx hb dX12_becomesBy_33 rfl (lv_at hl 0 rfl) ?_
      refine sk_get (v := .ref (g 24)) (C := RX12) (T := TX12) (N := 92) hx hb hts inlX12 hown hK hP 0 rfl rfl 24 (by decide) w_5_179 rfl dX12_becomesBy_34 ?_
      refine lv_iconst (v := 4) hx hb dX12_becomesBy_37 (by decide) ?_
      refine va_iald hx hb hK.1 hP 1 0 rfl rfl (by unfold vp_in; decide) dX12_becomesBy_38 ?_
      refine sk_top u4 rfl ?_
      refine lv_iconst (v := (-1)) hx hb dX12_becomesBy_39 (by decide) ?_
      refine lv_icmp_ne (tgt := 50) hx hb dX12_becomesBy_40 (by decide) (fun c_28 => ?_) (fun c_28 => ?_)
      · skip
        refine lv_aload_n hx hb dX12_becomesBy_50 rfl (lv_at hl 0 rfl) ?_
        refine lv_iconst (v := 1) hx hb dX12_becomesBy_51 (by decide) ?_
        refine lv_iload_n hx hb dX12_becomesBy_52 rfl (lv_at hl 1 rfl) ?_
        obtain ⟨ca_29, cb_30, hab_, hcb_, rfl, rfl, hpv_⟩ := hp1.resolve_left c_28
        refine sk_Vl (q0 := 0) (n := 2) (rest := []) (wr := fmR om_7_7f _) ⟨hx, hb, hml, hown, hts⟩ hl.1 (c_m_codesTell1 l D cI cJ cC cZ cS mm g ta pa pe pd pb pp pf pg pn rt rn cd sn il tk o 0 1 mt_ bh wd wt wy it_ rm ud nu sd qn qw qo qb qp qa qi oc d u0 u1 u2 u3 u5 ca_29 v0 v1 v2 v3 v5 cb_30 cs nw pt ql (by omega) (by omega) (by omega) hpv_ hcs hnw hpt) w_7_135 w_7_137 w_0_75 w_1_14 w_7_138 hd_X12_codesTell_2 ⟨⟨(Nat.le_of_ble_eq_true rfl), (Nat.le_of_ble_eq_true rfl)⟩, (Nat.le_of_ble_eq_true rfl), (Nat.le_of_ble_eq_true rfl)⟩ hK hP hD hS hA (fmT om_7_7f 0) (fmF om_7_7f 0) (fm_C1 rfl rfl) (fm_R rfl rfl) (fm_nT om_7_7f 0) (fm_nF om_7_7f 0) (fm_di om_7_7f 0) rfl rfl rfl rfl (Nat.le_of_ble_eq_true rfl) dX12_becomesBy_53 (fun r_33 u H locs hw hP hD hS => ?_)
        refine exE hw (fun qp2_31 hw1 => exE hw1 (fun ql2_32 eu_34 => ?_))
        clear hw hw1
        refine o_mgE (ws' := [(mm, .inr (12, mo g (nI ta) (nI pa) (nI pe) pd (nI pb) pp pf pg pn rt rn (nI cd) sn (nI il) 1 o 0 1 mt_ (nI bh) wd wt wy (nI it_) (nI rm) (nI ud) (nI nu) sd (nI qn) (nI qw) qo (nI qb) (nI qp2_31) qa (nI qi) (nI oc))), (g 24, .inl (cI, 6, .inl (l6 u0 u1 u2 u3 (nI ca_29) u5))), (g 25, .inl (cI, 6, .inl (l6 v0 v1 v2 v3 (nI cb_30) v5))), (g 26, .inl (cI, 3200, .inl (fun j => nI (cs j)))), (g 31, .inl (cI, 120, .inl nw)), (g 46, .inl (cI, 9, .inl (fun j => nI (pt j)))), (g 86, .inl (cJ, 1700, .inr (.inl ql2_32)))]) eu_34 hP hD rfl (fun hP hD => ?_)
        refine sk_Si (n := 1) (rest := []) (wr := [(mm, .inr (12, mo g (nI ta) (nI pa) (nI pe) pd (nI pb) pp pf pg pn rt rn (nI cd) sn (nI il) 1 o 0 1 mt_ (nI bh) wd wt wy (nI it_) (nI rm) (nI ud) (nI nu) sd (nI qn) (nI qw) qo (nI qb) (nI qp2_31) qa (nI qi) (nI oc))), (g 24, .inl (cI, 6, .inl (l6 u0 u1 u2 u3 (nI ca_29) u5))), (g 25, .inl (cI, 6, .inl (l6 v0 v1 v2 v3 (nI cb_30) v5))), (g 26, .inl (cI, 3200, .inl (fun j => nI (cs j)))), (g 31, .inl (cI, 120, .inl nw)), (g 46, .inl (cI, 9, .inl (fun j => nI (pt j)))), (g 86, .inl (cJ, 1700, .inr (.inl ql2_32)))]) ⟨hx, hb, hml, hown, hts⟩ hl.1 (c_m_byTen l D cI cJ cC cZ cS r_33) w_7_168 w_7_169 w_1_14 w_7_170 hd_X12_byTen_1 ⟨⟨(Nat.le_of_ble_eq_true rfl), (Nat.le_of_ble_eq_true rfl)⟩, (Nat.le_of_ble_eq_true rfl), (Nat.le_of_ble_eq_true rfl)⟩ hK hP hD hS hA [] [0, 1, 2, 3, 4, 5, 6] rfl rfl (by decide +kernel) (by decide +kernel) (by decide +kernel) rfl rfl (Nat.le_of_ble_eq_true rfl) dX12_becomesBy_56 (fun r_35 u H locs hw hP hD hS => ?_)
        obtain rfl := hw
        refine o_re (ws' := [(mm, .inr (12, mo g (nI ta) (nI pa) (nI pe) pd (nI pb) pp pf pg pn rt rn (nI cd) sn (nI il) 1 o 0 1 mt_ (nI bh) wd wt wy (nI it_) (nI rm) (nI ud) (nI nu) sd (nI qn) (nI qw) qo (nI qb) (nI qp2_31) qa (nI qi) (nI oc))), (g 24, .inl (cI, 6, .inl (l6 u0 u1 u2 u3 (nI ca_29) u5))), (g 25, .inl (cI, 6, .inl (l6 v0 v1 v2 v3 (nI cb_30) v5))), (g 26, .inl (cI, 3200, .inl (fun j => nI (cs j)))), (g 31, .inl (cI, 120, .inl nw)), (g 46, .inl (cI, 9, .inl (fun j => nI (pt j)))), (g 86, .inl (cJ, 1700, .inr (.inl ql2_32)))]) hP hD rfl (fun hP hD => ?_)
        exact sk_iret hx hb hr rfl hlocks hK hP hD hS (⟨1, qp2_31, o, 0, 1, ql2_32, rfl⟩) (Nat.le_of_ble_eq_true rfl) (Nat.le_of_ble_eq_true rfl) dX12_becomesBy_59
      · skip
        refine lv_aload_n hx hb dX12_becomesBy_43 rfl (lv_at hl 0 rfl) ?_
        refine sk_get (v := .int 0) (C := RX12) (T := TX12) (N := 92) hx hb hts inlX12 hown hK hP 0 rfl rfl 34 (by decide) w_5_189 rfl dX12_becomesBy_44 ?_
        refine lv_goto (tgt := 59) hx hb dX12_becomesBy_47 (by decide) ?_
        exact sk_iret hx hb hr rfl hlocks hK hP hD hS (⟨tk, qp, o, 0, 1, ql, rfl⟩) (Nat.le_of_ble_eq_true rfl) (Nat.le_of_ble_eq_true rfl) dX12_becomesBy_59
