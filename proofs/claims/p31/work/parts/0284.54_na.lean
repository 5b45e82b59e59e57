theorem dg_X12_set_0_0 : bqL cX12_set 0 [(0, [42]), (1, [27]), (2, [28]), (3, [4]), (4, [160, 0, 7]), (11, [3]), (12, [29]), (13, [28]), (14, [133]), (15, [9]), (16, [10]), (17, [184, 0, 238]), (20, [153, 0, 19]), (39, [3]), (40, [182, 1, 221]), (43, [172]), (23, [29]), (24, [133]), (25, [9]), (26, [20, 1, 62]), (29, [184, 0, 238]), (32, [153, 0, 7]), (35, [4]), (36, [167, 0, 4]), (7, [4]), (8, [167, 0, 4])] = true := by decide +kernel
theorem dX12_set_0 : decode cX12_set 0 = .ok (.aload_n 0, 1) := q_aload_n0 (bat_get dg_X12_set_0_0 0 rfl rfl)
theorem dX12_set_1 : decode cX12_set 1 = .ok (.iload_n 1, 1) := q_iload_n1 (bat_get dg_X12_set_0_0 1 rfl rfl)
theorem dX12_set_2 : decode cX12_set 2 = .ok (.iload_n 2, 1) := q_iload_n2 (bat_get dg_X12_set_0_0 2 rfl rfl)
theorem dX12_set_3 : decode cX12_set 3 = .ok (.iconst 1, 1) := q_iconst1 (bat_get dg_X12_set_0_0 3 rfl rfl)
theorem dX12_set_4 : decode cX12_set 4 = .ok (.if_icmp .ne 7, 3) := q_if_icmp_ne (bat_get dg_X12_set_0_0 4 rfl rfl) rfl
theorem dX12_set_11 : decode cX12_set 11 = .ok (.iconst 0, 1) := q_iconst0 (bat_get dg_X12_set_0_0 5 rfl rfl)
theorem dX12_set_12 : decode cX12_set 12 = .ok (.iload_n 3, 1) := q_iload_n3 (bat_get dg_X12_set_0_0 6 rfl rfl)
theorem dX12_set_13 : decode cX12_set 13 = .ok (.iload_n 2, 1) := q_iload_n2 (bat_get dg_X12_set_0_0 7 rfl rfl)
theorem dX12_set_14 : decode cX12_set 14 = .ok (.i2l, 1) := q_i2l (bat_get dg_X12_set_0_0 8 rfl rfl)
theorem dX12_set_15 : decode cX12_set 15 = .ok (.lconst 0, 1) := q_lconst0 (bat_get dg_X12_set_0_0 9 rfl rfl)
theorem dX12_set_16 : decode cX12_set 16 = .ok (.lconst 1, 1) := q_lconst1 (bat_get dg_X12_set_0_0 10 rfl rfl)
theorem dX12_set_17 : decode cX12_set 17 = .ok (.invokestatic 238, 3) := q_invokestatic (bat_get dg_X12_set_0_0 11 rfl rfl) rfl
theorem dX12_set_20 : decode cX12_set 20 = .ok (.ifCond .eq 19, 3) := q_ifCond_eq (bat_get dg_X12_set_0_0 12 rfl rfl) rfl
theorem dX12_set_39 : decode cX12_set 39 = .ok (.iconst 0, 1) := q_iconst0 (bat_get dg_X12_set_0_0 13 rfl rfl)
theorem dX12_set_40 : decode cX12_set 40 = .ok (.invokevirtual 477, 3) := q_invokevirtual (bat_get dg_X12_set_0_0 14 rfl rfl) rfl
theorem dX12_set_43 : decode cX12_set 43 = .ok (.ireturn, 1) := q_ireturn (bat_get dg_X12_set_0_0 15 rfl rfl)
theorem dX12_set_23 : decode cX12_set 23 = .ok (.iload_n 3, 1) := q_iload_n3 (bat_get dg_X12_set_0_0 16 rfl rfl)
theorem dX12_set_24 : decode cX12_set 24 = .ok (.i2l, 1) := q_i2l (bat_get dg_X12_set_0_0 17 rfl rfl)
theorem dX12_set_25 : decode cX12_set 25 = .ok (.lconst 0, 1) := q_lconst0 (bat_get dg_X12_set_0_0 18 rfl rfl)
theorem dX12_set_26 : decode cX12_set 26 = .ok (.ldc2_w 318, 3) := q_ldc2_w (bat_get dg_X12_set_0_0 19 rfl rfl) rfl
theorem dX12_set_29 : decode cX12_set 29 = .ok (.invokestatic 238, 3) := q_invokestatic (bat_get dg_X12_set_0_0 20 rfl rfl) rfl
theorem dX12_set_32 : decode cX12_set 32 = .ok (.ifCond .eq 7, 3) := q_ifCond_eq (bat_get dg_X12_set_0_0 21 rfl rfl) rfl
theorem dX12_set_35 : decode cX12_set 35 = .ok (.iconst 1, 1) := q_iconst1 (bat_get dg_X12_set_0_0 22 rfl rfl)
theorem dX12_set_36 : decode cX12_set 36 = .ok (.goto 4, 3) := q_goto (bat_get dg_X12_set_0_0 23 rfl rfl) rfl
theorem dX12_set_7 : decode cX12_set 7 = .ok (.iconst 1, 1) := q_iconst1 (bat_get dg_X12_set_0_0 24 rfl rfl)
theorem dX12_set_8 : decode cX12_set 8 = .ok (.goto 4, 3) := q_goto (bat_get dg_X12_set_0_0 25 rfl rfl) rfl
theorem w_8_126 : (Cond.methodLink RX12 477 yX12_becomes) ∈ wsL_law := sk_mem (ck_8 _ (List.mem_of_getElem? (i := 126) rfl)) rfl
theorem w_8_128 : (Cond.instanceMethod yX12_becomes) ∈ wsL_law := sk_mem (ck_8 _ (List.mem_of_getElem? (i := 128) rfl)) rfl
theorem w_0_106 : (Cond.selects RX12 yX12_becomes yX12_becomes) ∈ wsL_law := sk_mem (ck_0 _ (List.mem_of_getElem? (i := 106) rfl)) rfl
theorem w_8_125 : (Cond.code yX12_set cX12_set 4 (some .boolean)) ∈ wsL_law := sk_mem (ck_8 _ (List.mem_of_getElem? (i := 125) rfl)) rfl
def om_5_1f : List Bool := true :: true :: true :: true :: true :: []
theorem hd_X12_becomes_4 : skD yX12_becomes 4 := by decide +kernel
set_option maxHeartbeats 4000000 in
set_option maxRecDepth 100000 in
theorem c_nm_set (l : Launch) (D : va_G) (cI cJ cC cZ cS : ClassId) (mm : Nat) (g : Nat → Nat) (ta : Nat) (pa : Nat) (pe : Nat) (pd : Int32) (pb : Nat) (pp : Int32) (pf : Int32) (pg : Int32) (pn : Int32) (rt : Int32) (rn : Int32) (cd : Nat) (sn : Int32) (il : Nat) (tk : Int32) (am : Int32) (at_ : Int32) (aa : Int32) (wt : Int32) (wy : Int64) (rm : Nat) (ud : Nat) (nu : Nat) (sd : Int64) (qn : Nat) (qw : Nat) (qo : Int32) (qb : Nat) (qp : Nat) (qa : Int64) (qi : Nat) (oc : Nat) (d : Int32) (w : Int32) (o : Int32) (l0 : Nat) (l1 : Nat) (dm : Nat) (l3 : Nat) (nw : Nat → Int32) (kp : Nat → Int32) (rf : Nat → Int32) (wn : Nat) (mN : Nat) (Ba : Nat → Nat) (We : Nat → Nat) (U : Nat → Bool) (ke : Nat) (lg : KLg) (su : Nat → KN) (hdm : dm ≤ 9) (hnu : nu < 20) (hud : ud ≤ 20) (hB9 : ∀ j, Ba j ≤ 9) (hW9 : ∀ j, We j ≤ 9) (hnw : nwX wn mN Ba We U ke lg nw) (hkp : kpX ud nu su lg kp) : skM l yX12_set cX12_set 4 (some .boolean) 3 70 0 0 D (skT cI cJ cC cZ cS) [.ref mm, .int d, .int w, .int o] [(mm, .inr (12, mo g (nI ta) (nI pa) (nI pe) pd (nI pb) pp pf pg pn rt rn (nI cd) sn (nI il) tk am at_ aa 0 0 (-1) wt wy 0 (nI rm) (nI ud) (nI nu) sd (nI qn) (nI qw) qo (nI qb) (nI qp) qa (nI qi) (nI oc))), (g 20, .inl (cI, 4, .inl (l4 (nI l0) (nI l1) (nI dm) (nI l3)))), (g 31, .inl (cI, 120, .inl nw)), (g 54, .inl (cI, 2400, .inl kp)), (g 9, .inl (cI, 6, .inl rf))] (skI D (skT cI cJ cC cZ cS) (fun (r : Int32) (u : va_W) => ∃ (Ba2 : Nat → Nat), ∃ (We2 : Nat → Nat), ∃ (U2 : Nat → Bool), ∃ (su2 : Nat → KN), ∃ (nw2 : Nat → Int32), ∃ (kp2 : Nat → Int32), ∃ (b : Nat), ∃ (nu2 : Nat), ∃ (ud2 : Nat), ∃ (rf2 : Nat → Int32), nwX wn mN Ba2 We2 U2 ke lg nw2 ∧ kpX ud2 nu2 su2 lg kp2 ∧ nu2 < 20 ∧ ud2 ≤ 20 ∧ setR dm (wn, mN, Ba, We, U, ke) ud su rf d w o (nI b) (wn, mN, Ba2, We2, U2, ke) ud2 su2 rf2 ∧ r = nI b ∧ u = [(mm, .inr (12, mo g (nI ta) (nI pa) (nI pe) pd (nI pb) pp pf pg pn rt rn (nI cd) sn (nI il) tk am at_ aa 0 0 (-1) wt wy 0 (nI rm) (nI ud2) (nI nu2) sd (nI qn) (nI qw) qo (nI qb) (nI qp) qa (nI qi) (nI oc))), (g 20, .inl (cI, 4, .inl (l4 (nI l0) (nI l1) (nI dm) (nI l3)))), (g 31, .inl (cI, 120, .inl nw2)), (g 54, .inl (cI, 2400, .inl kp2)), (g 9, .inl (cI, 6, .inl rf2))])) := by
  refine skM_of pf_X12_set (Nat.le_of_ble_eq_true rfl) ?_
  intro p e s m below meth c A ls E hP hD hl
  refine skE_el E (fun hx hb hr hml hlocks hin hown hts hK hA => ?_)
  have hown : s.vm.findClass RX12 = some m.cls := hown
  have hS : va_S A s.heap s.heap [] := va_S.rf
  have hl : lv_has ls 4 [(0, .ref mm), (1, .int d), (2, .int w), (3, .int o)] := hl
  refine lv_aload_n hx hb dX12_set_0 rfl (lv_at hl 0 rfl) ?_
  refine lv_iload_n hx hb dX12_set_1 rfl (lv_at hl 1 rfl) ?_
  refine lv_iload_n hx hb dX12_set_2 rfl (lv_at hl 2 rfl) ?_
  refine lv_iconst (v := 1) hx hb dX12_set_3 (by decide) ?_
  refine lv_icmp_ne (tgt := 11) hx hb dX12_set_4 (by decide) (fun c_1 => ?_) (fun c_1 => ?_)
  · skip
    refine lv_iconst (v := 0) hx hb dX12_set_11 (by decide) ?_
    refine lv_iload_n hx hb dX12_set_12 rfl (lv_at hl 3 rfl) ?_
    refine lv_iload_n hx hb dX12_set_13 rfl (lv_at hl 2 rfl) ?_
    refine lv_i2l hx hb dX12_set_14 rfl ?_
    refine lv_lconst (v := 0) hx hb dX12_set_15 (by decide) ?_
    refine lv_lconst (v := 1) hx hb dX12_set_16 (by decide) ?_
    refine sk_Si (n := 3) (rest := [.int o, .int 0, .int d, .ref mm]) (wr := [(mm, .inr (12, mo g (nI ta) (nI pa) (nI pe) pd (nI pb) pp pf pg pn rt rn (nI cd) sn (nI il) tk am at_ aa 0 0 (-1) wt wy 0 (nI rm) (nI ud) (nI nu) sd (nI qn) (nI qw) qo (nI qb) (nI qp) qa (nI qi) (nI oc))), (g 20, .inl (cI, 4, .inl (l4 (nI l0) (nI l1) (nI dm) (nI l3)))), (g 31, .inl (cI, 120, .inl nw)), (g 54, .inl (cI, 2400, .inl kp)), (g 9, .inl (cI, 6, .inl rf))]) ⟨hx, hb, hml, hown, hts⟩ hl.1 (c_nm_isIn l D cI cJ cC cZ cS (Int32.toInt64 w) 0 1) w_7_0 w_7_1 w_1_14 w_7_2 hd_X12_isIn_3 ⟨⟨(Nat.le_of_ble_eq_true rfl), (Nat.le_of_ble_eq_true rfl)⟩, (Nat.le_of_ble_eq_true rfl), (Nat.le_of_ble_eq_true rfl)⟩ hK hP hD hS hA [] [0, 1, 2, 3, 4] rfl rfl (by decide +kernel) (by decide +kernel) (by decide +kernel) rfl rfl (Nat.le_of_ble_eq_true rfl) dX12_set_17 (fun r_3 u H locs hw hP hD hS => ?_)
    obtain ⟨b_2, hb1_4, rfl, rfl⟩ := hw
    refine o_re (ws' := [(mm, .inr (12, mo g (nI ta) (nI pa) (nI pe) pd (nI pb) pp pf pg pn rt rn (nI cd) sn (nI il) tk am at_ aa 0 0 (-1) wt wy 0 (nI rm) (nI ud) (nI nu) sd (nI qn) (nI qw) qo (nI qb) (nI qp) qa (nI qi) (nI oc))), (g 20, .inl (cI, 4, .inl (l4 (nI l0) (nI l1) (nI dm) (nI l3)))), (g 31, .inl (cI, 120, .inl nw)), (g 54, .inl (cI, 2400, .inl kp)), (g 9, .inl (cI, 6, .inl rf))]) hP hD rfl (fun hP hD => ?_)
    refine lv_if_eq (tgt := 39) hx hb dX12_set_20 (by decide) (fun c_5 => ?_) (fun c_5 => ?_)
    · have c_5 : b_2 = 0 := (neq b_2 0 (by omega) (by omega)).mp c_5
      refine lv_iconst (v := 0) hx hb dX12_set_39 (by decide) ?_
      refine sk_Vi (q0 := 0) (n := 4) (rest := []) (wr := fmR om_5_19 _) ⟨hx, hb, hml, hown, hts⟩ hl.1 (c_nm_becomes0 l D cI cJ cC cZ cS mm g ta pa pe pd pb pp pf pg pn rt rn cd sn il tk am at_ aa wt wy rm ud nu sd qn qw qo qb qp qa qi oc d 0 o l0 l1 dm l3 rf (by omega)) w_8_126 w_8_128 w_0_106 w_1_14 w_8_129 hd_X12_becomes_4 ⟨⟨(Nat.le_of_ble_eq_true rfl), (Nat.le_of_ble_eq_true rfl)⟩, (Nat.le_of_ble_eq_true rfl), (Nat.le_of_ble_eq_true rfl)⟩ hK hP hD hS hA (fmT om_5_19 0) (fmF om_5_19 0) (fm_C1 rfl rfl) (fm_R rfl rfl) (fm_nT om_5_19 0) (fm_nF om_5_19 0) (fm_di om_5_19 0) rfl rfl rfl rfl (Nat.le_of_ble_eq_true rfl) dX12_set_40 (fun r_7 u H locs hw hP hD hS => ?_)
      refine exE hw (fun rf2_6 hw1 => anE hw1 (fun hrf_8 hw2 => anE hw2 (fun er_10 eu_9 => ?_)))
      clear hw hw1 hw2
      subst er_10
      refine o_mgE (ws' := [(mm, .inr (12, mo g (nI ta) (nI pa) (nI pe) pd (nI pb) pp pf pg pn rt rn (nI cd) sn (nI il) tk am at_ aa 0 0 (-1) wt wy 0 (nI rm) (nI ud) (nI nu) sd (nI qn) (nI qw) qo (nI qb) (nI qp) qa (nI qi) (nI oc))), (g 20, .inl (cI, 4, .inl (l4 (nI l0) (nI l1) (nI dm) (nI l3)))), (g 31, .inl (cI, 120, .inl nw)), (g 54, .inl (cI, 2400, .inl kp)), (g 9, .inl (cI, 6, .inl rf2_6))]) eu_9 hP hD rfl (fun hP hD => ?_)
      exact sk_iret hx hb hr rfl hlocks hK hP hD hS (⟨Ba, We, U, su, nw, kp, 0, nu, ud, rf2_6, hnw, hkp, by omega, by omega, set_w (fun hq => rr_0 hb1_4 (by omega) ((kin0 (n := 2) (by decide) (by omega)).mpr hq)) hrf_8, rfl, rfl⟩) (Nat.le_of_ble_eq_true rfl) (Nat.le_of_ble_eq_true rfl) dX12_set_43
    · have c_5 : ¬ (b_2 = 0) := fun h => c_5 ((neq b_2 0 (by omega) (by omega)).mpr h)
      obtain ⟨kd_11, hkd_11, rfl⟩ := (kin0 (n := 2) (by decide) (by omega)).mp (rr_1 hb1_4 (by omega))
      refine lv_iload_n hx hb dX12_set_23 rfl (lv_at hl 3 rfl) ?_
      refine lv_i2l hx hb dX12_set_24 rfl ?_
      refine lv_lconst (v := 0) hx hb dX12_set_25 (by decide) ?_
      refine lv_ldc2 (v := 9) hx hb hown (hts _ w_7_130) dX12_set_26 ?_
      refine sk_Si (n := 3) (rest := [.int o, .int 0, .int d, .ref mm]) (wr := [(mm, .inr (12, mo g (nI ta) (nI pa) (nI pe) pd (nI pb) pp pf pg pn rt rn (nI cd) sn (nI il) tk am at_ aa 0 0 (-1) wt wy 0 (nI rm) (nI ud) (nI nu) sd (nI qn) (nI qw) qo (nI qb) (nI qp) qa (nI qi) (nI oc))), (g 20, .inl (cI, 4, .inl (l4 (nI l0) (nI l1) (nI dm) (nI l3)))), (g 31, .inl (cI, 120, .inl nw)), (g 54, .inl (cI, 2400, .inl kp)), (g 9, .inl (cI, 6, .inl rf))]) ⟨hx, hb, hml, hown, hts⟩ hl.1 (c_nm_isIn l D cI cJ cC cZ cS (Int32.toInt64 o) 0 9) w_7_0 w_7_1 w_1_14 w_7_2 hd_X12_isIn_3 ⟨⟨(Nat.le_of_ble_eq_true rfl), (Nat.le_of_ble_eq_true rfl)⟩, (Nat.le_of_ble_eq_true rfl), (Nat.le_of_ble_eq_true rfl)⟩ hK hP hD hS hA [] [0, 1, 2, 3, 4] rfl rfl (by decide +kernel) (by decide +kernel) (by decide +kernel) rfl rfl (Nat.le_of_ble_eq_true rfl) dX12_set_29 (fun r_13 u H locs hw hP hD hS => ?_)
      obtain ⟨b_12, hb1_14, rfl, rfl⟩ := hw
      refine o_re (ws' := [(mm, .inr (12, mo g (nI ta) (nI pa) (nI pe) pd (nI pb) pp pf pg pn rt rn (nI cd) sn (nI il) tk am at_ aa 0 0 (-1) wt wy 0 (nI rm) (nI ud) (nI nu) sd (nI qn) (nI qw) qo (nI qb) (nI qp) qa (nI qi) (nI oc))), (g 20, .inl (cI, 4, .inl (l4 (nI l0) (nI l1) (nI dm) (nI l3)))), (g 31, .inl (cI, 120, .inl nw)), (g 54, .inl (cI, 2400, .inl kp)), (g 9, .inl (cI, 6, .inl rf))]) hP hD rfl (fun hP hD => ?_)
      refine lv_if_eq (tgt := 39) hx hb dX12_set_32 (by decide) (fun c_15 => ?_) (fun c_15 => ?_)
      · have c_15 : b_12 = 0 := (neq b_12 0 (by omega) (by omega)).mp c_15
        refine lv_iconst (v := 0) hx hb dX12_set_39 (by decide) ?_
        refine sk_Vi (q0 := 0) (n := 4) (rest := []) (wr := fmR om_5_19 _) ⟨hx, hb, hml, hown, hts⟩ hl.1 (c_nm_becomes0 l D cI cJ cC cZ cS mm g ta pa pe pd pb pp pf pg pn rt rn cd sn il tk am at_ aa wt wy rm ud nu sd qn qw qo qb qp qa qi oc d 0 o l0 l1 dm l3 rf (by omega)) w_8_126 w_8_128 w_0_106 w_1_14 w_8_129 hd_X12_becomes_4 ⟨⟨(Nat.le_of_ble_eq_true rfl), (Nat.le_of_ble_eq_true rfl)⟩, (Nat.le_of_ble_eq_true rfl), (Nat.le_of_ble_eq_true rfl)⟩ hK hP hD hS hA (fmT om_5_19 0) (fmF om_5_19 0) (fm_C1 rfl rfl) (fm_R rfl rfl) (fm_nT om_5_19 0) (fm_nF om_5_19 0) (fm_di om_5_19 0) rfl rfl rfl rfl (Nat.le_of_ble_eq_true rfl) dX12_set_40 (fun r_17 u H locs hw hP hD hS => ?_)
        refine exE hw (fun rf2_16 hw1 => anE hw1 (fun hrf_18 hw2 => anE hw2 (fun er_20 eu_19 => ?_)))
        clear hw hw1 hw2
        subst er_20
        refine o_mgE (ws' := [(mm, .inr (12, mo g (nI ta) (nI pa) (nI pe) pd (nI pb) pp pf pg pn rt rn (nI cd) sn (nI il) tk am at_ aa 0 0 (-1) wt wy 0 (nI rm) (nI ud) (nI nu) sd (nI qn) (nI qw) qo (nI qb) (nI qp) qa (nI qi) (nI oc))), (g 20, .inl (cI, 4, .inl (l4 (nI l0) (nI l1) (nI dm) (nI l3)))), (g 31, .inl (cI, 120, .inl nw)), (g 54, .inl (cI, 2400, .inl kp)), (g 9, .inl (cI, 6, .inl rf2_16))]) eu_19 hP hD rfl (fun hP hD => ?_)
        exact sk_iret hx hb hr rfl hlocks hK hP hD hS (⟨Ba, We, U, su, nw, kp, 0, nu, ud, rf2_16, hnw, hkp, by omega, by omega, set_3 (fun hq => rr_0 hb1_14 (by omega) ((kin0 (n := 10) (by decide) (by omega)).mpr hq)) hrf_18, rfl, rfl⟩) (Nat.le_of_ble_eq_true rfl) (Nat.le_of_ble_eq_true rfl) dX12_set_43
      · have c_15 : ¬ (b_12 = 0) := fun h => c_15 ((neq b_12 0 (by omega) (by omega)).mpr h)
        obtain ⟨kd_21, hkd_21, rfl⟩ := (kin0 (n := 10) (by decide) (by omega)).mp (rr_1 hb1_14 (by omega))
        refine lv_iconst (v := 1) hx hb dX12_set_35 (by decide) ?_
        refine lv_goto (tgt := 40) hx hb dX12_set_36 (by decide) ?_
        have hq9 : ¬ kd_11 = 1 := fun q => c_1 ((neq kd_11 1 (by omega) (by omega)).mpr q)
        obtain rfl : kd_11 = 0 := by omega
        refine sk_Vi (q0 := 0) (n := 4) (rest := []) (wr := fmR om_5_1f _) ⟨hx, hb, hml, hown, hts⟩ hl.1 (c_nm_becomes10 l D cI cJ cC cZ cS mm g ta pa pe pd pb pp pf pg pn rt rn cd sn il tk am at_ aa wt wy rm ud nu sd qn qw qo qb qp qa qi oc d kd_21 l0 l1 dm l3 nw kp rf wn mN Ba We U ke lg su (by omega) (by omega) (by omega) (by omega) hB9 hW9 hnw hkp) w_8_126 w_8_128 w_0_106 w_1_14 w_8_129 hd_X12_becomes_4 ⟨⟨(Nat.le_of_ble_eq_true rfl), (Nat.le_of_ble_eq_true rfl)⟩, (Nat.le_of_ble_eq_true rfl), (Nat.le_of_ble_eq_true rfl)⟩ hK hP hD hS hA (fmT om_5_1f 0) (fmF om_5_1f 0) (fm_C1 rfl rfl) (fm_R rfl rfl) (fm_nT om_5_1f 0) (fm_nF om_5_1f 0) (fm_di om_5_1f 0) rfl rfl rfl rfl (Nat.le_of_ble_eq_true rfl) dX12_set_40 (fun r_32 u H locs hw hP hD hS => ?_)
        refine exE hw (fun Ba2_22 hw1 => exE hw1 (fun We2_23 hw2 => exE hw2 (fun U2_24 hw3 => exE hw3 (fun su2_25 hw4 => exE hw4 (fun nw2_26 hw5 => exE hw5 (fun kp2_27 hw6 => exE hw6 (fun b_28 hw7 => exE hw7 (fun nu2_29 hw8 => exE hw8 (fun ud2_30 hw9 => exE hw9 (fun rf2_31 hw10 => anE hw10 (fun hnw2_33 hw11 => anE hw11 (fun hkp2_34 hw12 => anE hw12 (fun hnu2_35 hw13 => anE hw13 (fun hud2_36 hw14 => anE hw14 (fun hbb_37 hw15 => anE hw15 (fun hset_38 hw16 => anE hw16 (fun er_40 eu_39 => ?_)))))))))))))))))
        clear hw hw1 hw2 hw3 hw4 hw5 hw6 hw7 hw8 hw9 hw10 hw11 hw12 hw13 hw14 hw15 hw16
        subst er_40
        refine o_mgE (ws' := [(mm, .inr (12, mo g (nI ta) (nI pa) (nI pe) pd (nI pb) pp pf pg pn rt rn (nI cd) sn (nI il) tk am at_ aa 0 0 (-1) wt wy 0 (nI rm) (nI ud2_30) (nI nu2_29) sd (nI qn) (nI qw) qo (nI qb) (nI qp) qa (nI qi) (nI oc))), (g 20, .inl (cI, 4, .inl (l4 (nI l0) (nI l1) (nI dm) (nI l3)))), (g 31, .inl (cI, 120, .inl nw2_26)), (g 54, .inl (cI, 2400, .inl kp2_27)), (g 9, .inl (cI, 6, .inl rf2_31))]) eu_39 hP hD rfl (fun hP hD => ?_)
        exact sk_iret hx hb hr (nbool b_28 (by omega)) hlocks hK hP hD hS (⟨Ba2_22, We2_23, U2_24, su2_25, nw2_26, kp2_27, b_28, nu2_29, ud2_30, rf2_31, hnw2_33, hkp2_34, by omega, by omega, hset_38, rfl, rfl⟩) (Nat.le_of_ble_eq_true rfl) (Nat.le_of_ble_eq_true rfl) dX12_set_43
  · skip
    refine lv_iconst (v := 1) hx hb dX12_set_7 (by decide) ?_
    refine lv_goto (tgt := 12) hx hb dX12_set_8 (by decide) ?_
    refine lv_iload_n hx hb dX12_set_12 rfl (lv_at hl 3 rfl) ?_
    refine lv_iload_n hx hb dX12_set_13 rfl (lv_at hl 2 rfl) ?_
    refine lv_i2l hx hb dX12_set_14 rfl ?_
    refine lv_lconst (v := 0) hx hb dX12_set_15 (by decide) ?_
    refine lv_lconst (v := 1) hx hb dX12_set_16 (by decide) ?_
    refine sk_Si (n := 3) (rest := [.int o, .int 1, .int d, .ref mm]) (wr := [(mm, .inr (12, mo g (nI ta) (nI pa) (nI pe) pd (nI pb) pp pf pg pn rt rn (nI cd) sn (nI il) tk am at_ aa 0 0 (-1) wt wy 0 (nI rm) (nI ud) (nI nu) sd (nI qn) (nI qw) qo (nI qb) (nI qp) qa (nI qi) (nI oc))), (g 20, .inl (cI, 4, .inl (l4 (nI l0) (nI l1) (nI dm) (nI l3)))), (g 31, .inl (cI, 120, .inl nw)), (g 54, .inl (cI, 2400, .inl kp)), (g 9, .inl (cI, 6, .inl rf))]) ⟨hx, hb, hml, hown, hts⟩ hl.1 (c_nm_isIn l D cI cJ cC cZ cS (Int32.toInt64 w) 0 1) w_7_0 w_7_1 w_1_14 w_7_2 hd_X12_isIn_3 ⟨⟨(Nat.le_of_ble_eq_true rfl), (Nat.le_of_ble_eq_true rfl)⟩, (Nat.le_of_ble_eq_true rfl), (Nat.le_of_ble_eq_true rfl)⟩ hK hP hD hS hA [] [0, 1, 2, 3, 4] rfl rfl (by decide +kernel) (by decide +kernel) (by decide +kernel) rfl rfl (Nat.le_of_ble_eq_true rfl) dX12_set_17 (fun r_42 u H locs hw hP hD hS => ?_)
    obtain ⟨b_41, hb1_43, rfl, rfl⟩ := hw
    refine o_re (ws' := [(mm, .inr (12, mo g (nI ta) (nI pa) (nI pe) pd (nI pb) pp pf pg pn rt rn (nI cd) sn (nI il) tk am at_ aa 0 0 (-1) wt wy 0 (nI rm) (nI ud) (nI nu) sd (nI qn) (nI qw) qo (nI qb) (nI qp) qa (nI qi) (nI oc))), (g 20, .inl (cI, 4, .inl (l4 (nI l0) (nI l1) (nI dm) (nI l3)))), (g 31, .inl (cI, 120, .inl nw)), (g 54, .inl (cI, 2400, .inl kp)), (g 9, .inl (cI, 6, .inl rf))]) hP hD rfl (fun hP hD => ?_)
    refine lv_if_eq (tgt := 39) hx hb dX12_set_20 (by decide) (fun c_44 => ?_) (fun c_44 => ?_)
    · have c_44 : b_41 = 0 := (neq b_41 0 (by omega) (by omega)).mp c_44
      refine lv_iconst (v := 0) hx hb dX12_set_39 (by decide) ?_
      refine sk_Vi (q0 := 0) (n := 4) (rest := []) (wr := fmR om_5_19 _) ⟨hx, hb, hml, hown, hts⟩ hl.1 (c_nm_becomes0 l D cI cJ cC cZ cS mm g ta pa pe pd pb pp pf pg pn rt rn cd sn il tk am at_ aa wt wy rm ud nu sd qn qw qo qb qp qa qi oc d 1 o l0 l1 dm l3 rf (by omega)) w_8_126 w_8_128 w_0_106 w_1_14 w_8_129 hd_X12_becomes_4 ⟨⟨(Nat.le_of_ble_eq_true rfl), (Nat.le_of_ble_eq_true rfl)⟩, (Nat.le_of_ble_eq_true rfl), (Nat.le_of_ble_eq_true rfl)⟩ hK hP hD hS hA (fmT om_5_19 0) (fmF om_5_19 0) (fm_C1 rfl rfl) (fm_R rfl rfl) (fm_nT om_5_19 0) (fm_nF om_5_19 0) (fm_di om_5_19 0) rfl rfl rfl rfl (Nat.le_of_ble_eq_true rfl) dX12_set_40 (fun r_46 u H locs hw hP hD hS => ?_)
      refine exE hw (fun rf2_45 hw1 => anE hw1 (fun hrf_47 hw2 => anE hw2 (fun er_49 eu_48 => ?_)))
      clear hw hw1 hw2
      subst er_49
      refine o_mgE (ws' := [(mm, .inr (12, mo g (nI ta) (nI pa) (nI pe) pd (nI pb) pp pf pg pn rt rn (nI cd) sn (nI il) tk am at_ aa 0 0 (-1) wt wy 0 (nI rm) (nI ud) (nI nu) sd (nI qn) (nI qw) qo (nI qb) (nI qp) qa (nI qi) (nI oc))), (g 20, .inl (cI, 4, .inl (l4 (nI l0) (nI l1) (nI dm) (nI l3)))), (g 31, .inl (cI, 120, .inl nw)), (g 54, .inl (cI, 2400, .inl kp)), (g 9, .inl (cI, 6, .inl rf2_45))]) eu_48 hP hD rfl (fun hP hD => ?_)
      exact sk_iret hx hb hr rfl hlocks hK hP hD hS (⟨Ba, We, U, su, nw, kp, 0, nu, ud, rf2_45, hnw, hkp, by omega, by omega, set_w (fun hq => rr_0 hb1_43 (by omega) ((kin0 (n := 2) (by decide) (by omega)).mpr hq)) hrf_47, rfl, rfl⟩) (Nat.le_of_ble_eq_true rfl) (Nat.le_of_ble_eq_true rfl) dX12_set_43
    · have c_44 : ¬ (b_41 = 0) := fun h => c_44 ((neq b_41 0 (by omega) (by omega)).mpr h)
      obtain ⟨kd_50, hkd_50, rfl⟩ := (kin0 (n := 2) (by decide) (by omega)).mp (rr_1 hb1_43 (by omega))
      refine lv_iload_n hx hb dX12_set_23 rfl (lv_at hl 3 rfl) ?_
      refine lv_i2l hx hb dX12_set_24 rfl ?_
      refine lv_lconst (v := 0) hx hb dX12_set_25 (by decide) ?_
      refine lv_ldc2 (v := 9) hx hb hown (hts _ w_7_130) dX12_set_26 ?_
      refine sk_Si (n := 3) (rest := [.int o, .int 1, .int d, .ref mm]) (wr := [(mm, .inr (12, mo g (nI ta) (nI pa) (nI pe) pd (nI pb) pp pf pg pn rt rn (nI cd) sn (nI il) tk am at_ aa 0 0 (-1) wt wy 0 (nI rm) (nI ud) (nI nu) sd (nI qn) (nI qw) qo (nI qb) (nI qp) qa (nI qi) (nI oc))), (g 20, .inl (cI, 4, .inl (l4 (nI l0) (nI l1) (nI dm) (nI l3)))), (g 31, .inl (cI, 120, .inl nw)), (g 54, .inl (cI, 2400, .inl kp)), (g 9, .inl (cI, 6, .inl rf))]) ⟨hx, hb, hml, hown, hts⟩ hl.1 (c_nm_isIn l D cI cJ cC cZ cS (Int32.toInt64 o) 0 9) w_7_0 w_7_1 w_1_14 w_7_2 hd_X12_isIn_3 ⟨⟨(Nat.le_of_ble_eq_true rfl), (Nat.le_of_ble_eq_true rfl)⟩, (Nat.le_of_ble_eq_true rfl), (Nat.le_of_ble_eq_true rfl)⟩ hK hP hD hS hA [] [0, 1, 2, 3, 4] rfl rfl (by decide +kernel) (by decide +kernel) (by decide +kernel) rfl rfl (Nat.le_of_ble_eq_true rfl) dX12_set_29 (fun r_52 u H locs hw hP hD hS => ?_)
      obtain ⟨b_51, hb1_53, rfl, rfl⟩ := hw
      refine o_re (ws' := [(mm, .inr (12, mo g (nI ta) (nI pa) (nI pe) pd (nI pb) pp pf pg pn rt rn (nI cd) sn (nI il) tk am at_ aa 0 0 (-1) wt wy 0 (nI rm) (nI ud) (nI nu) sd (nI qn) (nI qw) qo (nI qb) (nI qp) qa (nI qi) (nI oc))), (g 20, .inl (cI, 4, .inl (l4 (nI l0) (nI l1) (nI dm) (nI l3)))), (g 31, .inl (cI, 120, .inl nw)), (g 54, .inl (cI, 2400, .inl kp)), (g 9, .inl (cI, 6, .inl rf))]) hP hD rfl (fun hP hD => ?_)
      refine lv_if_eq (tgt := 39) hx hb dX12_set_32 (by decide) (fun c_54 => ?_) (fun c_54 => ?_)
      · have c_54 : b_51 = 0 := (neq b_51 0 (by omega) (by omega)).mp c_54
        refine lv_iconst (v := 0) hx hb dX12_set_39 (by decide) ?_
        refine sk_Vi (q0 := 0) (n := 4) (rest := []) (wr := fmR om_5_19 _) ⟨hx, hb, hml, hown, hts⟩ hl.1 (c_nm_becomes0 l D cI cJ cC cZ cS mm g ta pa pe pd pb pp pf pg pn rt rn cd sn il tk am at_ aa wt wy rm ud nu sd qn qw qo qb qp qa qi oc d 1 o l0 l1 dm l3 rf (by omega)) w_8_126 w_8_128 w_0_106 w_1_14 w_8_129 hd_X12_becomes_4 ⟨⟨(Nat.le_of_ble_eq_true rfl), (Nat.le_of_ble_eq_true rfl)⟩, (Nat.le_of_ble_eq_true rfl), (Nat.le_of_ble_eq_true rfl)⟩ hK hP hD hS hA (fmT om_5_19 0) (fmF om_5_19 0) (fm_C1 rfl rfl) (fm_R rfl rfl) (fm_nT om_5_19 0) (fm_nF om_5_19 0) (fm_di om_5_19 0) rfl rfl rfl rfl (Nat.le_of_ble_eq_true rfl) dX12_set_40 (fun r_56 u H locs hw hP hD hS => ?_)
        refine exE hw (fun rf2_55 hw1 => anE hw1 (fun hrf_57 hw2 => anE hw2 (fun er_59 eu_58 => ?_)))
        clear hw hw1 hw2
        subst er_59
        refine o_mgE (ws' := [(mm, .inr (12, mo g (nI ta) (nI pa) (nI pe) pd (nI pb) pp pf pg pn rt rn (nI cd) sn (nI il) tk am at_ aa 0 0 (-1) wt wy 0 (nI rm) (nI ud) (nI nu) sd (nI qn) (nI qw) qo (nI qb) (nI qp) qa (nI qi) (nI oc))), (g 20, .inl (cI, 4, .inl (l4 (nI l0) (nI l1) (nI dm) (nI l3)))), (g 31, .inl (cI, 120, .inl nw)), (g 54, .inl (cI, 2400, .inl kp)), (g 9, .inl (cI, 6, .inl rf2_55))]) eu_58 hP hD rfl (fun hP hD => ?_)
        exact sk_iret hx hb hr rfl hlocks hK hP hD hS (⟨Ba, We, U, su, nw, kp, 0, nu, ud, rf2_55, hnw, hkp, by omega, by omega, set_3 (fun hq => rr_0 hb1_53 (by omega) ((kin0 (n := 10) (by decide) (by omega)).mpr hq)) hrf_57, rfl, rfl⟩) (Nat.le_of_ble_eq_true rfl) (Nat.le_of_ble_eq_true rfl) dX12_set_43
      · have c_54 : ¬ (b_51 = 0) := fun h => c_54 ((neq b_51 0 (by omega) (by omega)).mpr h)
        obtain ⟨kd_60, hkd_60, rfl⟩ := (kin0 (n := 10) (by decide) (by omega)).mp (rr_1 hb1_53 (by omega))
        refine lv_iconst (v := 1) hx hb dX12_set_35 (by decide) ?_
        refine lv_goto (tgt := 40) hx hb dX12_set_36 (by decide) ?_
        have hq9 : kd_50 = 1 := (neq kd_50 1 (by omega) (by omega)).mp c_1
        obtain rfl : kd_50 = 1 := by omega
        refine sk_Vi (q0 := 0) (n := 4) (rest := []) (wr := fmR om_5_1f _) ⟨hx, hb, hml, hown, hts⟩ hl.1 (c_nm_becomes11 l D cI cJ cC cZ cS mm g ta pa pe pd pb pp pf pg pn rt rn cd sn il tk am at_ aa wt wy rm ud nu sd qn qw qo qb qp qa qi oc d kd_60 l0 l1 dm l3 nw kp rf wn mN Ba We U ke lg su (by omega) (by omega) (by omega) (by omega) hB9 hW9 hnw hkp) w_8_126 w_8_128 w_0_106 w_1_14 w_8_129 hd_X12_becomes_4 ⟨⟨(Nat.le_of_ble_eq_true rfl), (Nat.le_of_ble_eq_true rfl)⟩, (Nat.le_of_ble_eq_true rfl), (Nat.le_of_ble_eq_true rfl)⟩ hK hP hD hS hA (fmT om_5_1f 0) (fmF om_5_1f 0) (fm_C1 rfl rfl) (fm_R rfl rfl) (fm_nT om_5_1f 0) (fm_nF om_5_1f 0) (fm_di om_5_1f 0) rfl rfl rfl rfl (Nat.le_of_ble_eq_true rfl) dX12_set_40 (fun r_71 u H locs hw hP hD hS => ?_)
        refine exE hw (fun Ba2_61 hw1 => exE hw1 (fun We2_62 hw2 => exE hw2 (fun U2_63 hw3 => exE hw3 (fun su2_64 hw4 => exE hw4 (fun nw2_65 hw5 => exE hw5 (fun kp2_66 hw6 => exE hw6 (fun b_67 hw7 => exE hw7 (fun nu2_68 hw8 => exE hw8 (fun ud2_69 hw9 => exE hw9 (fun rf2_70 hw10 => anE hw10 (fun hnw2_72 hw11 => anE hw11 (fun hkp2_73 hw12 => anE hw12 (fun hnu2_74 hw13 => anE hw13 (fun hud2_75 hw14 => anE hw14 (fun hbb_76 hw15 => anE hw15 (fun hset_77 hw16 => anE hw16 (fun er_79 eu_78 => ?_)))))))))))))))))
        clear hw hw1 hw2 hw3 hw4 hw5 hw6 hw7 hw8 hw9 hw10 hw11 hw12 hw13 hw14 hw15 hw16
        subst er_79
        refine o_mgE (ws' := [(mm, .inr (12, mo g (nI ta) (nI pa) (nI pe) pd (nI pb) pp pf pg pn rt rn (nI cd) sn (nI il) tk am at_ aa 0 0 (-1) wt wy 0 (nI rm) (nI ud2_69) (nI nu2_68) sd (nI qn) (nI qw) qo (nI qb) (nI qp) qa (nI qi) (nI oc))), (g 20, .inl (cI, 4, .inl (l4 (nI l0) (nI l1) (nI dm) (nI l3)))), (g 31, .inl (cI, 120, .inl nw2_65)), (g 54, .inl (cI, 2400, .inl kp2_66)), (g 9, .inl (cI, 6, .inl rf2_70))]) eu_78 hP hD rfl (fun hP hD => ?_)
        exact sk_iret hx hb hr (nbool b_67 (by omega)) hlocks hK hP hD hS (⟨Ba2_61, We2_62, U2_63, su2_64, nw2_65, kp2_66, b_67, nu2_68, ud2_69, rf2_70, hnw2_72, hkp2_73, by omega, by omega, hset_77, rfl, rfl⟩) (Nat.le_of_ble_eq_true rfl) (Nat.le_of_ble_eq_true rfl) dX12_set_43
