theorem dX12_day_11 : decode cX12_day 11 = .ok (.ldc2_w 416, 3) := q_ldc2_w (bat_get dg_X12_day_0_0 9 rfl rfl) rfl
theorem dX12_day_14 : decode cX12_day 14 = .ok (.invokestatic 238, 3) := q_invokestatic (bat_get dg_X12_day_0_0 10 rfl rfl) rfl
theorem dX12_day_17 : decode cX12_day 17 = .ok (.ifCond .eq 18, 3) := q_ifCond_eq (bat_get dg_X12_day_0_0 11 rfl rfl) rfl
theorem dX12_day_20 : decode cX12_day 20 = .ok (.aload_n 0, 1) := q_aload_n0 (bat_get dg_X12_day_0_0 12 rfl rfl)
theorem dX12_day_21 : decode cX12_day 21 = .ok (.getfield 63, 3) := q_getfield (bat_get dg_X12_day_0_0 13 rfl rfl) rfl
theorem dX12_day_24 : decode cX12_day 24 = .ok (.iconst 2, 1) := q_iconst2 (bat_get dg_X12_day_0_0 14 rfl rfl)
theorem dX12_day_25 : decode cX12_day 25 = .ok (.iconst 3, 1) := q_iconst3 (bat_get dg_X12_day_0_0 15 rfl rfl)
theorem dX12_day_26 : decode cX12_day 26 = .ok (.iload_n 1, 1) := q_iload_n1 (bat_get dg_X12_day_0_0 16 rfl rfl)
theorem dX12_day_27 : decode cX12_day 27 = .ok (.imul, 1) := q_imul (bat_get dg_X12_day_0_0 17 rfl rfl)
theorem dX12_day_28 : decode cX12_day 28 = .ok (.iadd, 1) := q_iadd (bat_get dg_X12_day_0_0 18 rfl rfl)
theorem dX12_day_29 : decode cX12_day 29 = .ok (.iload_n 2, 1) := q_iload_n2 (bat_get dg_X12_day_0_0 19 rfl rfl)
theorem dX12_day_30 : decode cX12_day 30 = .ok (.iadd, 1) := q_iadd (bat_get dg_X12_day_0_0 20 rfl rfl)
theorem dX12_day_31 : decode cX12_day 31 = .ok (.iaload, 1) := q_iaload (bat_get dg_X12_day_0_0 21 rfl rfl)
theorem dX12_day_32 : decode cX12_day 32 = .ok (.goto 4, 3) := q_goto (bat_get dg_X12_day_0_0 22 rfl rfl) rfl
theorem w_7_121 : (Cond.constantLong RX12 416 (2)) ∈ wsL_law := sk_mem (ck_7 _ (List.mem_of_getElem? (i := 121) rfl)) rfl
theorem w_7_116 : (Cond.code yX12_day cX12_day 3 (some .int)) ∈ wsL_law := sk_mem (ck_7 _ (List.mem_of_getElem? (i := 116) rfl)) rfl
set_option maxHeartbeats 4000000 in
set_option maxRecDepth 100000 in
theorem c_nm_day (l : Launch) (D : va_G) (cI cJ cC cZ cS : ClassId) (mm : Nat) (g : Nat → Nat) (ta : Nat) (pa : Nat) (pe : Nat) (pd : Int32) (pb : Nat) (pp : Int32) (pf : Int32) (pg : Int32) (pn : Int32) (rt : Int32) (rn : Int32) (cd : Nat) (sn : Int32) (il : Nat) (tk : Int32) (am : Int32) (at_ : Int32) (aa : Int32) (wt : Int32) (wy : Int64) (rm : Nat) (ud : Nat) (nu : Nat) (sd : Int64) (qn : Nat) (qw : Nat) (qo : Int32) (qb : Nat) (qp : Nat) (qa : Int64) (qi : Nat) (oc : Nat) (d : Int32) (w : Int32) (l0 : Nat) (l1 : Nat) (dm : Nat) (l3 : Nat) (nw : Nat → Int32) (wn : Nat) (mN : Nat) (Ba : Nat → Nat) (We : Nat → Nat) (U : Nat → Bool) (ke : Nat) (lg : KLg) (hdm : dm ≤ 9) (hnw : nwX wn mN Ba We U ke lg nw) : skM l yX12_day cX12_day 3 (some .int) 2 46 0 0 D (skT cI cJ cC cZ cS) [.ref mm, .int d, .int w] [(mm, .inr (12, mo g (nI ta) (nI pa) (nI pe) pd (nI pb) pp pf pg pn rt rn (nI cd) sn (nI il) tk am at_ aa 0 0 (-1) wt wy 0 (nI rm) (nI ud) (nI nu) sd (nI qn) (nI qw) qo (nI qb) (nI qp) qa (nI qi) (nI oc))), (g 20, .inl (cI, 4, .inl (l4 (nI l0) (nI l1) (nI dm) (nI l3)))), (g 31, .inl (cI, 120, .inl nw))] (skI D (skT cI cJ cC cZ cS) (fun (r : Int32) (u : va_W) => dayR dm Ba We U d w r ∧ u = [(mm, .inr (12, mo g (nI ta) (nI pa) (nI pe) pd (nI pb) pp pf pg pn rt rn (nI cd) sn (nI il) tk am at_ aa 0 0 (-1) wt wy 0 (nI rm) (nI ud) (nI nu) sd (nI qn) (nI qw) qo (nI qb) (nI qp) qa (nI qi) (nI oc))), (g 20, .inl (cI, 4, .inl (l4 (nI l0) (nI l1) (nI dm) (nI l3)))), (g 31, .inl (cI, 120, .inl nw))])) := by
  refine skM_of pf_X12_day (Nat.le_of_ble_eq_true rfl) ?_
  intro p e s m below meth c A ls E hP hD hl
  refine skE_el E (fun hx hb hr hml hlocks hin hown hts hK hA => ?_)
  have hown : s.vm.findClass RX12 = some m.cls := hown
  have hS : va_S A s.heap s.heap [] := va_S.rf
  have hl : lv_has ls 3 [(0, .ref mm), (1, .int d), (2, .int w)] := hl
  refine lv_aload_n hx hb dX12_day_0 rfl (lv_at hl 0 rfl) ?_
  refine lv_iload_n hx hb dX12_day_1 rfl (lv_at hl 1 rfl) ?_
  refine sk_Vi (q0 := 0) (n := 1) (rest := []) (wr := fmR om_3_6 _) ⟨hx, hb, hml, hown, hts⟩ hl.1 (c_nm_isDay l D cI cJ cC cZ cS mm g ta pa pe pd pb pp pf pg pn rt rn cd sn il tk am at_ aa wt wy rm ud nu sd qn qw qo qb qp qa qi oc d l0 l1 dm l3 (by omega)) w_7_117 w_7_119 w_0_72 w_1_14 w_7_120 hd_X12_isDay_1 ⟨⟨(Nat.le_of_ble_eq_true rfl), (Nat.le_of_ble_eq_true rfl)⟩, (Nat.le_of_ble_eq_true rfl), (Nat.le_of_ble_eq_true rfl)⟩ hK hP hD hS hA (fmT om_3_6 0) (fmF om_3_6 0) (fm_C1 rfl rfl) (fm_R rfl rfl) (fm_nT om_3_6 0) (fm_nF om_3_6 0) (fm_di om_3_6 0) rfl rfl rfl rfl (Nat.le_of_ble_eq_true rfl) dX12_day_2 (fun r_2 u H locs hw hP hD hS => ?_)
  refine exE hw (fun b_1 hw1 => anE hw1 (fun hb1_3 hw2 => anE hw2 (fun er_5 eu_4 => ?_)))
  clear hw hw1 hw2
  subst er_5
  refine o_mgE (ws' := [(mm, .inr (12, mo g (nI ta) (nI pa) (nI pe) pd (nI pb) pp pf pg pn rt rn (nI cd) sn (nI il) tk am at_ aa 0 0 (-1) wt wy 0 (nI rm) (nI ud) (nI nu) sd (nI qn) (nI qw) qo (nI qb) (nI qp) qa (nI qi) (nI oc))), (g 20, .inl (cI, 4, .inl (l4 (nI l0) (nI l1) (nI dm) (nI l3)))), (g 31, .inl (cI, 120, .inl nw))]) eu_4 hP hD rfl (fun hP hD => ?_)
  refine lv_if_eq (tgt := 35) hx hb dX12_day_5 (by decide) (fun c_6 => ?_) (fun c_6 => ?_)
  · have c_6 : b_1 = 0 := (neq b_1 0 (by omega) (by omega)).mp c_6
    refine lv_iconst (v := (-1)) hx hb dX12_day_35 (by decide) ?_
    exact sk_iret hx hb hr rfl hlocks hK hP hD hS (⟨Or.inl ⟨(rr_0 hb1_3 (by omega)), rfl⟩, rfl⟩) (Nat.le_of_ble_eq_true rfl) (Nat.le_of_ble_eq_true rfl) dX12_day_36
  · have c_6 : ¬ (b_1 = 0) := fun h => c_6 ((neq b_1 0 (by omega) (by omega)).mpr h)
    obtain ⟨kd_7, hkd_7, rfl⟩ := rr_1 hb1_3 (by omega)
    refine lv_iload_n hx hb dX12_day_8 rfl (lv_at hl 2 rfl) ?_
    refine lv_i2l hx hb dX12_day_9 rfl ?_
    refine lv_lconst (v := 0) hx hb dX12_day_10 (by decide) ?_
    refine lv_ldc2 (v := 2) hx hb hown (hts _ w_7_121) dX12_day_11 ?_
    refine sk_Si (n := 3) (rest := []) (wr := [(mm, .inr (12, mo g (nI ta) (nI pa) (nI pe) pd (nI pb) pp pf pg pn rt rn (nI cd) sn (nI il) tk am at_ aa 0 0 (-1) wt wy 0 (nI rm) (nI ud) (nI nu) sd (nI qn) (nI qw) qo (nI qb) (nI qp) qa (nI qi) (nI oc))), (g 20, .inl (cI, 4, .inl (l4 (nI l0) (nI l1) (nI dm) (nI l3)))), (g 31, .inl (cI, 120, .inl nw))]) ⟨hx, hb, hml, hown, hts⟩ hl.1 (c_nm_isIn l D cI cJ cC cZ cS (Int32.toInt64 w) 0 2) w_7_0 w_7_1 w_1_14 w_7_2 hd_X12_isIn_3 ⟨⟨(Nat.le_of_ble_eq_true rfl), (Nat.le_of_ble_eq_true rfl)⟩, (Nat.le_of_ble_eq_true rfl), (Nat.le_of_ble_eq_true rfl)⟩ hK hP hD hS hA [] [0, 1, 2] rfl rfl (by decide +kernel) (by decide +kernel) (by decide +kernel) rfl rfl (Nat.le_of_ble_eq_true rfl) dX12_day_14 (fun r_9 u H locs hw hP hD hS => ?_)
    obtain ⟨b_8, hb1_10, rfl, rfl⟩ := hw
    refine o_re (ws' := [(mm, .inr (12, mo g (nI ta) (nI pa) (nI pe) pd (nI pb) pp pf pg pn rt rn (nI cd) sn (nI il) tk am at_ aa 0 0 (-1) wt wy 0 (nI rm) (nI ud) (nI nu) sd (nI qn) (nI qw) qo (nI qb) (nI qp) qa (nI qi) (nI oc))), (g 20, .inl (cI, 4, .inl (l4 (nI l0) (nI l1) (nI dm) (nI l3)))), (g 31, .inl (cI, 120, .inl nw))]) hP hD rfl (fun hP hD => ?_)
    refine lv_if_eq (tgt := 35) hx hb dX12_day_17 (by decide) (fun c_11 => ?_) (fun c_11 => ?_)
    · have c_11 : b_8 = 0 := (neq b_8 0 (by omega) (by omega)).mp c_11
      refine lv_iconst (v := (-1)) hx hb dX12_day_35 (by decide) ?_
      exact sk_iret hx hb hr rfl hlocks hK hP hD hS (⟨Or.inr ⟨kd_7, by omega, rfl, dyR_n (fun hq => rr_0 hb1_10 (by omega) ((kin0 (n := 3) (by decide) (by omega)).mpr hq))⟩, rfl⟩) (Nat.le_of_ble_eq_true rfl) (Nat.le_of_ble_eq_true rfl) dX12_day_36
    · have c_11 : ¬ (b_8 = 0) := fun h => c_11 ((neq b_8 0 (by omega) (by omega)).mpr h)
      obtain ⟨kd_12, hkd_12, rfl⟩ := (kin0 (n := 3) (by decide) (by omega)).mp (rr_1 hb1_10 (by omega))
      refine lv_aload_n hx hb dX12_day_20 rfl (lv_at hl 0 rfl) ?_
      refine sk_get (v := .ref (g 31)) (C := RX12) (T := TX12) (N := 92) hx hb hts inlX12 hown hK hP 0 rfl rfl 31 (by decide) w_5_186 rfl dX12_day_21 ?_
      refine lv_iconst (v := 2) hx hb dX12_day_24 (by decide) ?_
      refine lv_iconst (v := 3) hx hb dX12_day_25 (by decide) ?_
      refine lv_iload_n hx hb dX12_day_26 rfl (lv_at hl 1 rfl) ?_
      refine lv_imul hx hb dX12_day_27 ?_
      refine sk_top (nI (3 * kd_7)) (nmul 3 kd_7) ?_
      refine lv_iadd hx hb dX12_day_28 ?_
      refine sk_top (nI (2 + (3 * kd_7))) (nI_add 2 (3 * kd_7)) ?_
      refine lv_iload_n hx hb dX12_day_29 rfl (lv_at hl 2 rfl) ?_
      refine lv_iadd hx hb dX12_day_30 ?_
      refine sk_top (nI (2 + (3 * kd_7) + kd_12)) (nI_add (2 + (3 * kd_7)) kd_12) ?_
      refine va_iald hx hb hK.1 hP 2 0 rfl rfl (vin (2 + (3 * kd_7) + kd_12) 120 (by omega) (by omega)) dX12_day_31 ?_
      refine sk_top (nw (2 + (3 * kd_7) + kd_12)) (by rw [nI_clamp (by omega)]) ?_
      refine lv_goto (tgt := 36) hx hb dX12_day_32 (by decide) ?_
      exact sk_iret hx hb hr rfl hlocks hK hP hD hS (⟨Or.inr ⟨kd_7, by omega, rfl, dyR_y hnw (by omega) (by omega) rfl⟩, rfl⟩) (Nat.le_of_ble_eq_true rfl) (Nat.le_of_ble_eq_true rfl) dX12_day_36
theorem dg_X12_told_0_0 : bqL cX12_told 0 [(0, [42]), (1, [27]), (2, [182, 1, 157]), (5, [153, 0, 28]), (33, [2]), (34, [172]), (8, [42]), (9, [28]), (10, [182, 1, 162]), (13, [153, 0, 20]), (16, [42]), (17, [27]), (18, [182, 1, 103]), (21, [154, 0, 12]), (24, [42]), (25, [27]), (26, [28]), (27, [182, 1, 96]), (30, [167, 0, 4])] = true := by decide +kernel
theorem dX12_told_0 : decode cX12_told 0 = .ok (.aload_n 0, 1) := q_aload_n0 (bat_get dg_X12_told_0_0 0 rfl rfl)
theorem dX12_told_1 : decode cX12_told 1 = .ok (.iload_n 1, 1) := q_iload_n1 (bat_get dg_X12_told_0_0 1 rfl rfl)
theorem dX12_told_2 : decode cX12_told 2 = .ok (.invokevirtual 413, 3) := q_invokevirtual (bat_get dg_X12_told_0_0 2 rfl rfl) rfl
theorem dX12_told_5 : decode cX12_told 5 = .ok (.ifCond .eq 28, 3) := q_ifCond_eq (bat_get dg_X12_told_0_0 3 rfl rfl) rfl
theorem dX12_told_33 : decode cX12_told 33 = .ok (.iconst (-1), 1) := q_iconstm1 (bat_get dg_X12_told_0_0 4 rfl rfl)
theorem dX12_told_34 : decode cX12_told 34 = .ok (.ireturn, 1) := q_ireturn (bat_get dg_X12_told_0_0 5 rfl rfl)
theorem dX12_told_8 : decode cX12_told 8 = .ok (.aload_n 0, 1) := q_aload_n0 (bat_get dg_X12_told_0_0 6 rfl rfl)
theorem dX12_told_9 : decode cX12_told 9 = .ok (.iload_n 2, 1) := q_iload_n2 (bat_get dg_X12_told_0_0 7 rfl rfl)
theorem dX12_told_10 : decode cX12_told 10 = .ok (.invokevirtual 418, 3) := q_invokevirtual (bat_get dg_X12_told_0_0 8 rfl rfl) rfl
theorem dX12_told_13 : decode cX12_told 13 = .ok (.ifCond .eq 20, 3) := q_ifCond_eq (bat_get dg_X12_told_0_0 9 rfl rfl) rfl
theorem dX12_told_16 : decode cX12_told 16 = .ok (.aload_n 0, 1) := q_aload_n0 (bat_get dg_X12_told_0_0 10 rfl rfl)
theorem dX12_told_17 : decode cX12_told 17 = .ok (.iload_n 1, 1) := q_iload_n1 (bat_get dg_X12_told_0_0 11 rfl rfl)
theorem dX12_told_18 : decode cX12_told 18 = .ok (.invokevirtual 359, 3) := q_invokevirtual (bat_get dg_X12_told_0_0 12 rfl rfl) rfl
theorem dX12_told_21 : decode cX12_told 21 = .ok (.ifCond .ne 12, 3) := q_ifCond_ne (bat_get dg_X12_told_0_0 13 rfl rfl) rfl
theorem dX12_told_24 : decode cX12_told 24 = .ok (.aload_n 0, 1) := q_aload_n0 (bat_get dg_X12_told_0_0 14 rfl rfl)
theorem dX12_told_25 : decode cX12_told 25 = .ok (.iload_n 1, 1) := q_iload_n1 (bat_get dg_X12_told_0_0 15 rfl rfl)
theorem dX12_told_26 : decode cX12_told 26 = .ok (.iload_n 2, 1) := q_iload_n2 (bat_get dg_X12_told_0_0 16 rfl rfl)
theorem dX12_told_27 : decode cX12_told 27 = .ok (.invokevirtual 352, 3) := q_invokevirtual (bat_get dg_X12_told_0_0 17 rfl rfl) rfl
theorem dX12_told_30 : decode cX12_told 30 = .ok (.goto 4, 3) := q_goto (bat_get dg_X12_told_0_0 18 rfl rfl) rfl
theorem w_7_125 : (Cond.code yX12_told cX12_told 3 (some .int)) ∈ wsL_law := sk_mem (ck_7 _ (List.mem_of_getElem? (i := 125) rfl)) rfl
set_option maxHeartbeats 4000000 in
set_option maxRecDepth 100000 in
theorem c_nm_told (l : Launch) (D : va_G) (cI cJ cC cZ cS : ClassId) (mm : Nat) (g : Nat → Nat) (ta : Nat) (pa : Nat) (pe : Nat) (pd : Int32) (pb : Nat) (pp : Int32) (pf : Int32) (pg : Int32) (pn : Int32) (rt : Int32) (rn : Int32) (cd : Nat) (sn : Int32) (il : Nat) (tk : Int32) (am : Int32) (at_ : Int32) (aa : Int32) (wt : Int32) (wy : Int64) (rm : Nat) (ud : Nat) (nu : Nat) (sd : Int64) (qn : Nat) (qw : Nat) (qo : Int32) (qb : Nat) (qp : Nat) (qa : Int64) (qi : Nat) (oc : Nat) (d : Int32) (o : Int32) (u0 : Int32) (u1 : Int32) (u2 : Int32) (u3 : Int32) (u4 : Int32) (u5 : Int32) (v0 : Int32) (v1 : Int32) (v2 : Int32) (v3 : Int32) (v4 : Int32) (v5 : Int32) (cs : Nat → Nat) (nw : Nat → Int32) (pt : Nat → Nat) (ql : Nat → Int64) (l0 : Nat) (l1 : Nat) (dm : Nat) (l3 : Nat) (wn : Nat) (mN : Nat) (Ba : Nat → Nat) (We : Nat → Nat) (U : Nat → Bool) (ke : Nat) (lg : KLg) (L : LkS) (hdm : dm ≤ 9) (hLk : kcLk L) (hkl : (lK L).length ≤ 1600) (hB9 : ∀ j, Ba j ≤ 9) (hW9 : ∀ j, We j ≤ 9) (hwk : wn ≤ 999) (hmw0 : mwO L 0 u3 v3 cs) (hcs : ∀ j, cs j ≤ 20000) (hnw : nwX wn mN Ba We U ke lg nw) (hpt : ∀ j, pt j ≤ 9) : skM l yX12_told cX12_told 3 (some .int) 4 96 0 0 D (skT cI cJ cC cZ cS) [.ref mm, .int d, .int o] [(mm, .inr (12, mo g (nI ta) (nI pa) (nI pe) pd (nI pb) pp pf pg pn rt rn (nI cd) sn (nI il) tk am at_ aa 0 0 (-1) wt wy 0 (nI rm) (nI ud) (nI nu) sd (nI qn) (nI qw) qo (nI qb) (nI qp) qa (nI qi) (nI oc))), (g 24, .inl (cI, 6, .inl (l6 u0 u1 u2 u3 u4 u5))), (g 25, .inl (cI, 6, .inl (l6 v0 v1 v2 v3 v4 v5))), (g 26, .inl (cI, 3200, .inl (fun j => nI (cs j)))), (g 31, .inl (cI, 120, .inl nw)), (g 46, .inl (cI, 9, .inl (fun j => nI (pt j)))), (g 86, .inl (cJ, 1700, .inr (.inl ql))), (g 20, .inl (cI, 4, .inl (l4 (nI l0) (nI l1) (nI dm) (nI l3))))] (skI D (skT cI cJ cC cZ cS) (fun (r : Int32) (u : va_W) => ∃ (tk2 : Int32), ∃ (qp2 : Nat), ∃ (am2 : Int32), ∃ (ql2 : Nat → Int64), toldR L dm wn Ba We U d o r ∧ u = [(mm, .inr (12, mo g (nI ta) (nI pa) (nI pe) pd (nI pb) pp pf pg pn rt rn (nI cd) sn (nI il) tk2 am2 at_ aa 0 0 (-1) wt wy 0 (nI rm) (nI ud) (nI nu) sd (nI qn) (nI qw) qo (nI qb) (nI qp2) qa (nI qi) (nI oc))), (g 24, .inl (cI, 6, .inl (l6 u0 u1 u2 u3 u4 u5))), (g 25, .inl (cI, 6, .inl (l6 v0 v1 v2 v3 v4 v5))), (g 26, .inl (cI, 3200, .inl (fun j => nI (cs j)))), (g 31, .inl (cI, 120, .inl nw)), (g 46, .inl (cI, 9, .inl (fun j => nI (pt j)))), (g 86, .inl (cJ, 1700, .inr (.inl ql2))), (g 20, .inl (cI, 4, .inl (l4 (nI l0) (nI l1) (nI dm) (nI l3))))])) := by
  refine skM_of pf_X12_told (Nat.le_of_ble_eq_true rfl) ?_
  intro p e s m below meth c A ls E hP hD hl
  refine skE_el E (fun hx hb hr hml hlocks hin hown hts hK hA => ?_)
  have hown : s.vm.findClass RX12 = some m.cls := hown
  have hS : va_S A s.heap s.heap [] := va_S.rf
  have hl : lv_has ls 3 [(0, .ref mm), (1, .int d), (2, .int o)] := hl
  refine lv_aload_n hx hb dX12_told_0 rfl (lv_at hl 0 rfl) ?_
  refine lv_iload_n hx hb dX12_told_1 rfl (lv_at hl 1 rfl) ?_
  refine sk_Vi (q0 := 0) (n := 1) (rest := []) (wr := fmR om_8_81 _) ⟨hx, hb, hml, hown, hts⟩ hl.1 (c_nm_isDay l D cI cJ cC cZ cS mm g ta pa pe pd pb pp pf pg pn rt rn cd sn il tk am at_ aa wt wy rm ud nu sd qn qw qo qb qp qa qi oc d l0 l1 dm l3 (by omega)) w_7_117 w_7_119 w_0_72 w_1_14 w_7_120 hd_X12_isDay_1 ⟨⟨(Nat.le_of_ble_eq_true rfl), (Nat.le_of_ble_eq_true rfl)⟩, (Nat.le_of_ble_eq_true rfl), (Nat.le_of_ble_eq_true rfl)⟩ hK hP hD hS hA (fmT om_8_81 0) (fmF om_8_81 0) (fm_C1 rfl rfl) (fm_R rfl rfl) (fm_nT om_8_81 0) (fm_nF om_8_81 0) (fm_di om_8_81 0) rfl rfl rfl rfl (Nat.le_of_ble_eq_true rfl) dX12_told_2 (fun r_2 u H locs hw hP hD hS => ?_)
  refine exE hw (fun b_1 hw1 => anE hw1 (fun hb1_3 hw2 => anE hw2 (fun er_5 eu_4 => ?_)))
  clear hw hw1 hw2
  subst er_5
  refine o_mgE (ws' := [(mm, .inr (12, mo g (nI ta) (nI pa) (nI pe) pd (nI pb) pp pf pg pn rt rn (nI cd) sn (nI il) tk am at_ aa 0 0 (-1) wt wy 0 (nI rm) (nI ud) (nI nu) sd (nI qn) (nI qw) qo (nI qb) (nI qp) qa (nI qi) (nI oc))), (g 24, .inl (cI, 6, .inl (l6 u0 u1 u2 u3 u4 u5))), (g 25, .inl (cI, 6, .inl (l6 v0 v1 v2 v3 v4 v5))), (g 26, .inl (cI, 3200, .inl (fun j => nI (cs j)))), (g 31, .inl (cI, 120, .inl nw)), (g 46, .inl (cI, 9, .inl (fun j => nI (pt j)))), (g 86, .inl (cJ, 1700, .inr (.inl ql))), (g 20, .inl (cI, 4, .inl (l4 (nI l0) (nI l1) (nI dm) (nI l3))))]) eu_4 hP hD rfl (fun hP hD => ?_)
  refine lv_if_eq (tgt := 33) hx hb dX12_told_5 (by decide) (fun c_6 => ?_) (fun c_6 => ?_)
  · have c_6 : b_1 = 0 := (neq b_1 0 (by omega) (by omega)).mp c_6
    refine lv_iconst (v := (-1)) hx hb dX12_told_33 (by decide) ?_
    exact sk_iret hx hb hr rfl hlocks hK hP hD hS (⟨tk, qp, am, ql, tld_0 (rr_0 hb1_3 (by omega)), rfl⟩) (Nat.le_of_ble_eq_true rfl) (Nat.le_of_ble_eq_true rfl) dX12_told_34
  · have c_6 : ¬ (b_1 = 0) := fun h => c_6 ((neq b_1 0 (by omega) (by omega)).mpr h)
    obtain ⟨kd_7, hkd_7, rfl⟩ := rr_1 hb1_3 (by omega)
    refine lv_aload_n hx hb dX12_told_8 rfl (lv_at hl 0 rfl) ?_
    refine lv_iload_n hx hb dX12_told_9 rfl (lv_at hl 2 rfl) ?_
    refine sk_Vi (q0 := 0) (n := 1) (rest := []) (wr := fmR om_8_80 _) ⟨hx, hb, hml, hown, hts⟩ hl.1 (c_nm_isMood l D cI cJ cC cZ cS mm g ta pa pe pd pb pp pf pg pn rt rn cd sn il tk am at_ aa wt wy rm ud nu sd qn qw qo qb qp qa qi oc o) w_7_126 w_7_128 w_0_73 w_1_14 w_7_129 hd_X12_isMood_1 ⟨⟨(Nat.le_of_ble_eq_true rfl), (Nat.le_of_ble_eq_true rfl)⟩, (Nat.le_of_ble_eq_true rfl), (Nat.le_of_ble_eq_true rfl)⟩ hK hP hD hS hA (fmT om_8_80 0) (fmF om_8_80 0) (fm_C1 rfl rfl) (fm_R rfl rfl) (fm_nT om_8_80 0) (fm_nF om_8_80 0) (fm_di om_8_80 0) rfl rfl rfl rfl (Nat.le_of_ble_eq_true rfl) dX12_told_10 (fun r_9 u H locs hw hP hD hS => ?_)
    refine exE hw (fun b_8 hw1 => anE hw1 (fun hb1_10 hw2 => anE hw2 (fun er_12 eu_11 => ?_)))
    clear hw hw1 hw2
    subst er_12
    refine o_mgE (ws' := [(mm, .inr (12, mo g (nI ta) (nI pa) (nI pe) pd (nI pb) pp pf pg pn rt rn (nI cd) sn (nI il) tk am at_ aa 0 0 (-1) wt wy 0 (nI rm) (nI ud) (nI nu) sd (nI qn) (nI qw) qo (nI qb) (nI qp) qa (nI qi) (nI oc))), (g 24, .inl (cI, 6, .inl (l6 u0 u1 u2 u3 u4 u5))), (g 25, .inl (cI, 6, .inl (l6 v0 v1 v2 v3 v4 v5))), (g 26, .inl (cI, 3200, .inl (fun j => nI (cs j)))), (g 31, .inl (cI, 120, .inl nw)), (g 46, .inl (cI, 9, .inl (fun j => nI (pt j)))), (g 86, .inl (cJ, 1700, .inr (.inl ql))), (g 20, .inl (cI, 4, .inl (l4 (nI l0) (nI l1) (nI dm) (nI l3))))]) eu_11 hP hD rfl (fun hP hD => ?_)
    refine lv_if_eq (tgt := 33) hx hb dX12_told_13 (by decide) (fun c_13 => ?_) (fun c_13 => ?_)
    · have c_13 : b_8 = 0 := (neq b_8 0 (by omega) (by omega)).mp c_13
      refine lv_iconst (v := (-1)) hx hb dX12_told_33 (by decide) ?_
      exact sk_iret hx hb hr rfl hlocks hK hP hD hS (⟨tk, qp, am, ql, tld_1 (rr_0 hb1_10 (by omega)), rfl⟩) (Nat.le_of_ble_eq_true rfl) (Nat.le_of_ble_eq_true rfl) dX12_told_34
    · have c_13 : ¬ (b_8 = 0) := fun h => c_13 ((neq b_8 0 (by omega) (by omega)).mpr h)
      obtain ⟨kd_14, hkd_14, rfl⟩ := rr_1 hb1_10 (by omega)
      refine lv_aload_n hx hb dX12_told_16 rfl (lv_at hl 0 rfl) ?_
      refine lv_iload_n hx hb dX12_told_17 rfl (lv_at hl 1 rfl) ?_
      refine sk_Vi (q0 := 0) (n := 1) (rest := []) (wr := fmR om_8_88 _) ⟨hx, hb, hml, hown, hts⟩ hl.1 (c_nm_isMute l D cI cJ cC cZ cS mm g ta pa pe pd pb pp pf pg pn rt rn cd sn il tk am at_ aa wt wy rm ud nu sd qn qw qo qb qp qa qi oc kd_7 nw wn mN Ba We U ke lg (by omega) hnw) w_7_106 w_7_108 w_0_71 w_1_14 w_7_109 hd_X12_isMute_1 ⟨⟨(Nat.le_of_ble_eq_true rfl), (Nat.le_of_ble_eq_true rfl)⟩, (Nat.le_of_ble_eq_true rfl), (Nat.le_of_ble_eq_true rfl)⟩ hK hP hD hS hA (fmT om_8_88 0) (fmF om_8_88 0) (fm_C1 rfl rfl) (fm_R rfl rfl) (fm_nT om_8_88 0) (fm_nF om_8_88 0) (fm_di om_8_88 0) rfl rfl rfl rfl (Nat.le_of_ble_eq_true rfl) dX12_told_18 (fun r_16 u H locs hw hP hD hS => ?_)
      refine exE hw (fun b_15 hw1 => anE hw1 (fun hb1_17 hw2 => anE hw2 (fun er_19 eu_18 => ?_)))
      clear hw hw1 hw2
      subst er_19
      refine o_mgE (ws' := [(mm, .inr (12, mo g (nI ta) (nI pa) (nI pe) pd (nI pb) pp pf pg pn rt rn (nI cd) sn (nI il) tk am at_ aa 0 0 (-1) wt wy 0 (nI rm) (nI ud) (nI nu) sd (nI qn) (nI qw) qo (nI qb) (nI qp) qa (nI qi) (nI oc))), (g 24, .inl (cI, 6, .inl (l6 u0 u1 u2 u3 u4 u5))), (g 25, .inl (cI, 6, .inl (l6 v0 v1 v2 v3 v4 v5))), (g 26, .inl (cI, 3200, .inl (fun j => nI (cs j)))), (g 31, .inl (cI, 120, .inl nw)), (g 46, .inl (cI, 9, .inl (fun j => nI (pt j)))), (g 86, .inl (cJ, 1700, .inr (.inl ql))), (g 20, .inl (cI, 4, .inl (l4 (nI l0) (nI l1) (nI dm) (nI l3))))]) eu_18 hP hD rfl (fun hP hD => ?_)
      refine lv_if_ne (tgt := 33) hx hb dX12_told_21 (by decide) (fun c_20 => ?_) (fun c_20 => ?_)
      · have c_20 : ¬ (b_15 = 0) := fun h => c_20 ((neq b_15 0 (by omega) (by omega)).mpr h)
        refine lv_iconst (v := (-1)) hx hb dX12_told_33 (by decide) ?_
        exact sk_iret hx hb hr rfl hlocks hK hP hD hS (⟨tk, qp, am, ql, tld_2 hdm hkd_7 (km_1 hb1_17 (by omega)), rfl⟩) (Nat.le_of_ble_eq_true rfl) (Nat.le_of_ble_eq_true rfl) dX12_told_34
      · have c_20 : b_15 = 0 := (neq b_15 0 (by omega) (by omega)).mp c_20
        refine lv_aload_n hx hb dX12_told_24 rfl (lv_at hl 0 rfl) ?_
        refine lv_iload_n hx hb dX12_told_25 rfl (lv_at hl 1 rfl) ?_
        refine lv_iload_n hx hb dX12_told_26 rfl (lv_at hl 2 rfl) ?_
        refine sk_Vi (q0 := 0) (n := 2) (rest := []) (wr := fmR om_8_fe _) ⟨hx, hb, hml, hown, hts⟩ hl.1 (c_nm_wordOf l D cI cJ cC cZ cS mm g ta pa pe pd pb pp pf pg pn rt rn cd sn il tk am at_ aa 0 wt wy 0 rm ud nu sd qn qw qo qb qp qa qi oc kd_7 kd_14 u0 u1 u2 u3 u4 u5 v0 v1 v2 v3 v4 v5 cs nw pt ql L wn (Ba kd_7) (We kd_7) (by omega) (by omega) hLk hkl (nwX_md hnw (by omega)) hwk (hB9 _) (hW9 _) hmw0 hcs (nwX_ok hnw) hpt) w_7_131 w_7_133 w_0_74 w_1_14 w_7_134 hd_X12_wordOf_2 ⟨⟨(Nat.le_of_ble_eq_true rfl), (Nat.le_of_ble_eq_true rfl)⟩, (Nat.le_of_ble_eq_true rfl), (Nat.le_of_ble_eq_true rfl)⟩ hK hP hD hS hA (fmT om_8_fe 0) (fmF om_8_fe 0) (fm_C1 rfl rfl) (fm_R rfl rfl) (fm_nT om_8_fe 0) (fm_nF om_8_fe 0) (fm_di om_8_fe 0) rfl rfl rfl rfl (Nat.le_of_ble_eq_true rfl) dX12_told_27 (fun r_26 u H locs hw hP hD hS => ?_)
        refine exE hw (fun v_21 hw1 => exE hw1 (fun tk2_22 hw2 => exE hw2 (fun qp2_23 hw3 => exE hw3 (fun am2_24 hw4 => exE hw4 (fun ql2_25 hw5 => anE hw5 (fun hv_27 hw6 => anE hw6 (fun er_29 eu_28 => ?_)))))))
        clear hw hw1 hw2 hw3 hw4 hw5 hw6
        subst er_29
        refine o_mgE (ws' := [(mm, .inr (12, mo g (nI ta) (nI pa) (nI pe) pd (nI pb) pp pf pg pn rt rn (nI cd) sn (nI il) tk2_22 am2_24 at_ aa 0 0 (-1) wt wy 0 (nI rm) (nI ud) (nI nu) sd (nI qn) (nI qw) qo (nI qb) (nI qp2_23) qa (nI qi) (nI oc))), (g 24, .inl (cI, 6, .inl (l6 u0 u1 u2 u3 u4 u5))), (g 25, .inl (cI, 6, .inl (l6 v0 v1 v2 v3 v4 v5))), (g 26, .inl (cI, 3200, .inl (fun j => nI (cs j)))), (g 31, .inl (cI, 120, .inl nw)), (g 46, .inl (cI, 9, .inl (fun j => nI (pt j)))), (g 86, .inl (cJ, 1700, .inr (.inl ql2_25))), (g 20, .inl (cI, 4, .inl (l4 (nI l0) (nI l1) (nI dm) (nI l3))))]) eu_28 hP hD rfl (fun hP hD => ?_)
        refine lv_goto (tgt := 34) hx hb dX12_told_30 (by decide) ?_
        exact sk_iret hx hb hr rfl hlocks hK hP hD hS (⟨tk2_22, qp2_23, am2_24, ql2_25, tld_3 hkd_7 hkd_14 (km_0 hb1_17 (by omega)) (congrArg nI hv_27), rfl⟩) (Nat.le_of_ble_eq_true rfl) (Nat.le_of_ble_eq_true rfl) dX12_told_34
