theorem dg_X12_mute_0_0 : bqL cX12_mute 0 [(0, [42]), (1, [27]), (2, [5]), (3, [28]), (4, [28]), (5, [133]), (6, [9]), (7, [10]), (8, [184, 0, 238]), (11, [182, 1, 221]), (14, [172])] = true := by decide +kernel
theorem dX12_mute_0 : decode cX12_mute 0 = .ok (.aload_n 0, 1) := q_aload_n0 (bat_get dg_X12_mute_0_0 0 rfl rfl)
theorem dX12_mute_1 : decode cX12_mute 1 = .ok (.iload_n 1, 1) := q_iload_n1 (bat_get dg_X12_mute_0_0 1 rfl rfl)
theorem dX12_mute_2 : decode cX12_mute 2 = .ok (.iconst 2, 1) := q_iconst2 (bat_get dg_X12_mute_0_0 2 rfl rfl)
theorem dX12_mute_3 : decode cX12_mute 3 = .ok (.iload_n 2, 1) := q_iload_n2 (bat_get dg_X12_mute_0_0 3 rfl rfl)
theorem dX12_mute_4 : decode cX12_mute 4 = .ok (.iload_n 2, 1) := q_iload_n2 (bat_get dg_X12_mute_0_0 4 rfl rfl)
theorem dX12_mute_5 : decode cX12_mute 5 = .ok (.i2l, 1) := q_i2l (bat_get dg_X12_mute_0_0 5 rfl rfl)
theorem dX12_mute_6 : decode cX12_mute 6 = .ok (.lconst 0, 1) := q_lconst0 (bat_get dg_X12_mute_0_0 6 rfl rfl)
theorem dX12_mute_7 : decode cX12_mute 7 = .ok (.lconst 1, 1) := q_lconst1 (bat_get dg_X12_mute_0_0 7 rfl rfl)
theorem dX12_mute_8 : decode cX12_mute 8 = .ok (.invokestatic 238, 3) := q_invokestatic (bat_get dg_X12_mute_0_0 8 rfl rfl) rfl
theorem dX12_mute_11 : decode cX12_mute 11 = .ok (.invokevirtual 477, 3) := q_invokevirtual (bat_get dg_X12_mute_0_0 9 rfl rfl) rfl
theorem dX12_mute_14 : decode cX12_mute 14 = .ok (.ireturn, 1) := q_ireturn (bat_get dg_X12_mute_0_0 10 rfl rfl)
theorem w_8_137 : (Cond.code yX12_mute cX12_mute 3 (some .boolean)) ∈ wsL_law := sk_mem (ck_8 _ (List.mem_of_getElem? (i := 137) rfl)) rfl
set_option maxHeartbeats 4000000 in
set_option maxRecDepth 100000 in
theorem c_nm_mute (l : Launch) (D : va_G) (cI cJ cC cZ cS : ClassId) (mm : Nat) (g : Nat → Nat) (ta : Nat) (pa : Nat) (pe : Nat) (pd : Int32) (pb : Nat) (pp : Int32) (pf : Int32) (pg : Int32) (pn : Int32) (rt : Int32) (rn : Int32) (cd : Nat) (sn : Int32) (il : Nat) (tk : Int32) (am : Int32) (at_ : Int32) (aa : Int32) (wt : Int32) (wy : Int64) (rm : Nat) (ud : Nat) (nu : Nat) (sd : Int64) (qn : Nat) (qw : Nat) (qo : Int32) (qb : Nat) (qp : Nat) (qa : Int64) (qi : Nat) (oc : Nat) (d : Int32) (o : Int32) (l0 : Nat) (l1 : Nat) (dm : Nat) (l3 : Nat) (nw : Nat → Int32) (kp : Nat → Int32) (rf : Nat → Int32) (wn : Nat) (mN : Nat) (Ba : Nat → Nat) (We : Nat → Nat) (U : Nat → Bool) (ke : Nat) (lg : KLg) (su : Nat → KN) (hdm : dm ≤ 9) (hnu : nu < 20) (hud : ud ≤ 20) (hB9 : ∀ j, Ba j ≤ 9) (hW9 : ∀ j, We j ≤ 9) (hnw : nwX wn mN Ba We U ke lg nw) (hkp : kpX ud nu su lg kp) : skM l yX12_mute cX12_mute 3 (some .boolean) 3 70 0 0 D (skT cI cJ cC cZ cS) [.ref mm, .int d, .int o] [(mm, .inr (12, mo g (nI ta) (nI pa) (nI pe) pd (nI pb) pp pf pg pn rt rn (nI cd) sn (nI il) tk am at_ aa 0 0 (-1) wt wy 0 (nI rm) (nI ud) (nI nu) sd (nI qn) (nI qw) qo (nI qb) (nI qp) qa (nI qi) (nI oc))), (g 20, .inl (cI, 4, .inl (l4 (nI l0) (nI l1) (nI dm) (nI l3)))), (g 31, .inl (cI, 120, .inl nw)), (g 54, .inl (cI, 2400, .inl kp)), (g 9, .inl (cI, 6, .inl rf))] (skI D (skT cI cJ cC cZ cS) (fun (r : Int32) (u : va_W) => ∃ (Ba2 : Nat → Nat), ∃ (We2 : Nat → Nat), ∃ (U2 : Nat → Bool), ∃ (su2 : Nat → KN), ∃ (nw2 : Nat → Int32), ∃ (kp2 : Nat → Int32), ∃ (b : Nat), ∃ (nu2 : Nat), ∃ (ud2 : Nat), ∃ (rf2 : Nat → Int32), nwX wn mN Ba2 We2 U2 ke lg nw2 ∧ kpX ud2 nu2 su2 lg kp2 ∧ nu2 < 20 ∧ ud2 ≤ 20 ∧ muteR dm (wn, mN, Ba, We, U, ke) ud su rf d o (nI b) (wn, mN, Ba2, We2, U2, ke) ud2 su2 rf2 ∧ r = nI b ∧ u = [(mm, .inr (12, mo g (nI ta) (nI pa) (nI pe) pd (nI pb) pp pf pg pn rt rn (nI cd) sn (nI il) tk am at_ aa 0 0 (-1) wt wy 0 (nI rm) (nI ud2) (nI nu2) sd (nI qn) (nI qw) qo (nI qb) (nI qp) qa (nI qi) (nI oc))), (g 20, .inl (cI, 4, .inl (l4 (nI l0) (nI l1) (nI dm) (nI l3)))), (g 31, .inl (cI, 120, .inl nw2)), (g 54, .inl (cI, 2400, .inl kp2)), (g 9, .inl (cI, 6, .inl rf2))])) := by
  refine skM_of pf_X12_mute (Nat.le_of_ble_eq_true rfl) ?_
  intro p e s m below meth c A ls E hP hD hl
  refine skE_el E (fun hx hb hr hml hlocks hin hown hts hK hA => ?_)
  have hown : s.vm.findClass RX12 = some m.cls := hown
  have hS : va_S A s.heap s.heap [] := va_S.rf
  have hl : lv_has ls 3 [(0, .ref mm), (1, .int d), (2, .int o)] := hl
  refine lv_aload_n hx hb dX12_mute_0 rfl (lv_at hl 0 rfl) ?_
  refine lv_iload_n hx hb dX12_mute_1 rfl (lv_at hl 1 rfl) ?_
  refine lv_iconst (v := 2) hx hb dX12_mute_2 (by decide) ?_
  refine lv_iload_n hx hb dX12_mute_3 rfl (lv_at hl 2 rfl) ?_
  refine lv_iload_n hx hb dX12_mute_4 rfl (lv_at hl 2 rfl) ?_
  refine lv_i2l hx hb dX12_mute_5 rfl ?_
  refine lv_lconst (v := 0) hx hb dX12_mute_6 (by decide) ?_
  refine lv_lconst (v := 1) hx hb dX12_mute_7 (by decide) ?_
  refine sk_Si (n := 3) (rest := [.int o, .int 2, .int d, .ref mm]) (wr := [(mm, .inr (12, mo g (nI ta) (nI pa) (nI pe) pd (nI pb) pp pf pg pn rt rn (nI cd) sn (nI il) tk am at_ aa 0 0 (-1) wt wy 0 (nI rm) (nI ud) (nI nu) sd (nI qn) (nI qw) qo (nI qb) (nI qp) qa (nI qi) (nI oc))), (g 20, .inl (cI, 4, .inl (l4 (nI l0) (nI l1) (nI dm) (nI l3)))), (g 31, .inl (cI, 120, .inl nw)), (g 54, .inl (cI, 2400, .inl kp)), (g 9, .inl (cI, 6, .inl rf))]) ⟨hx, hb, hml, hown, hts⟩ hl.1 (c_nm_isIn l D cI cJ cC cZ cS (Int32.toInt64 o) 0 1) w_7_0 w_7_1 w_1_14 w_7_2 hd_X12_isIn_3 ⟨⟨(Nat.le_of_ble_eq_true rfl), (Nat.le_of_ble_eq_true rfl)⟩, (Nat.le_of_ble_eq_true rfl), (Nat.le_of_ble_eq_true rfl)⟩ hK hP hD hS hA [] [0, 1, 2, 3, 4] rfl rfl (by decide +kernel) (by decide +kernel) (by decide +kernel) rfl rfl (Nat.le_of_ble_eq_true rfl) dX12_mute_8 (fun r_2 u H locs hw hP hD hS => ?_)
  obtain ⟨b_1, hb1_3, rfl, rfl⟩ := hw
  refine o_re (ws' := [(mm, .inr (12, mo g (nI ta) (nI pa) (nI pe) pd (nI pb) pp pf pg pn rt rn (nI cd) sn (nI il) tk am at_ aa 0 0 (-1) wt wy 0 (nI rm) (nI ud) (nI nu) sd (nI qn) (nI qw) qo (nI qb) (nI qp) qa (nI qi) (nI oc))), (g 20, .inl (cI, 4, .inl (l4 (nI l0) (nI l1) (nI dm) (nI l3)))), (g 31, .inl (cI, 120, .inl nw)), (g 54, .inl (cI, 2400, .inl kp)), (g 9, .inl (cI, 6, .inl rf))]) hP hD rfl (fun hP hD => ?_)
  rcases (show b_1 = 0 ∨ b_1 = 1 by have h9 := hb1_3; omega) with rfl | rfl
  · skip
    refine sk_Vi (q0 := 0) (n := 4) (rest := []) (wr := fmR om_5_19 _) ⟨hx, hb, hml, hown, hts⟩ hl.1 (c_nm_becomes0 l D cI cJ cC cZ cS mm g ta pa pe pd pb pp pf pg pn rt rn cd sn il tk am at_ aa wt wy rm ud nu sd qn qw qo qb qp qa qi oc d 2 o l0 l1 dm l3 rf (by omega)) w_8_126 w_8_128 w_0_106 w_1_14 w_8_129 hd_X12_becomes_4 ⟨⟨(Nat.le_of_ble_eq_true rfl), (Nat.le_of_ble_eq_true rfl)⟩, (Nat.le_of_ble_eq_true rfl), (Nat.le_of_ble_eq_true rfl)⟩ hK hP hD hS hA (fmT om_5_19 0) (fmF om_5_19 0) (fm_C1 rfl rfl) (fm_R rfl rfl) (fm_nT om_5_19 0) (fm_nF om_5_19 0) (fm_di om_5_19 0) rfl rfl rfl rfl (Nat.le_of_ble_eq_true rfl) dX12_mute_11 (fun r_5 u H locs hw hP hD hS => ?_)
    refine exE hw (fun rf2_4 hw1 => anE hw1 (fun hrf_6 hw2 => anE hw2 (fun er_8 eu_7 => ?_)))
    clear hw hw1 hw2
    subst er_8
    refine o_mgE (ws' := [(mm, .inr (12, mo g (nI ta) (nI pa) (nI pe) pd (nI pb) pp pf pg pn rt rn (nI cd) sn (nI il) tk am at_ aa 0 0 (-1) wt wy 0 (nI rm) (nI ud) (nI nu) sd (nI qn) (nI qw) qo (nI qb) (nI qp) qa (nI qi) (nI oc))), (g 20, .inl (cI, 4, .inl (l4 (nI l0) (nI l1) (nI dm) (nI l3)))), (g 31, .inl (cI, 120, .inl nw)), (g 54, .inl (cI, 2400, .inl kp)), (g 9, .inl (cI, 6, .inl rf2_4))]) eu_7 hP hD rfl (fun hP hD => ?_)
    exact sk_iret hx hb hr rfl hlocks hK hP hD hS (⟨Ba, We, U, su, nw, kp, 0, nu, ud, rf2_4, hnw, hkp, by omega, by omega, mut_w (fun hq => rr_0 hb1_3 rfl ((kin0 (n := 2) (by decide) (by omega)).mpr hq)) hrf_6, rfl, rfl⟩) (Nat.le_of_ble_eq_true rfl) (Nat.le_of_ble_eq_true rfl) dX12_mute_14
  · obtain ⟨kj, hkj, rfl⟩ := (kin0 (n := 2) (by decide) (by omega)).mp (rr_1 hb1_3 (by decide))
    refine sk_Vi (q0 := 0) (n := 4) (rest := []) (wr := fmR om_5_1f _) ⟨hx, hb, hml, hown, hts⟩ hl.1 (c_nm_becomes12 l D cI cJ cC cZ cS mm g ta pa pe pd pb pp pf pg pn rt rn cd sn il tk am at_ aa wt wy rm ud nu sd qn qw qo qb qp qa qi oc d kj l0 l1 dm l3 nw kp rf wn mN Ba We U ke lg su (by omega) (by omega) (by omega) (by omega) hB9 hW9 hnw hkp) w_8_126 w_8_128 w_0_106 w_1_14 w_8_129 hd_X12_becomes_4 ⟨⟨(Nat.le_of_ble_eq_true rfl), (Nat.le_of_ble_eq_true rfl)⟩, (Nat.le_of_ble_eq_true rfl), (Nat.le_of_ble_eq_true rfl)⟩ hK hP hD hS hA (fmT om_5_1f 0) (fmF om_5_1f 0) (fm_C1 rfl rfl) (fm_R rfl rfl) (fm_nT om_5_1f 0) (fm_nF om_5_1f 0) (fm_di om_5_1f 0) rfl rfl rfl rfl (Nat.le_of_ble_eq_true rfl) dX12_mute_11 (fun r_19 u H locs hw hP hD hS => ?_)
    refine exE hw (fun Ba2_9 hw1 => exE hw1 (fun We2_10 hw2 => exE hw2 (fun U2_11 hw3 => exE hw3 (fun su2_12 hw4 => exE hw4 (fun nw2_13 hw5 => exE hw5 (fun kp2_14 hw6 => exE hw6 (fun b_15 hw7 => exE hw7 (fun nu2_16 hw8 => exE hw8 (fun ud2_17 hw9 => exE hw9 (fun rf2_18 hw10 => anE hw10 (fun hnw2_20 hw11 => anE hw11 (fun hkp2_21 hw12 => anE hw12 (fun hnu2_22 hw13 => anE hw13 (fun hud2_23 hw14 => anE hw14 (fun hbb_24 hw15 => anE hw15 (fun hset_25 hw16 => anE hw16 (fun er_27 eu_26 => ?_)))))))))))))))))
    clear hw hw1 hw2 hw3 hw4 hw5 hw6 hw7 hw8 hw9 hw10 hw11 hw12 hw13 hw14 hw15 hw16
    subst er_27
    refine o_mgE (ws' := [(mm, .inr (12, mo g (nI ta) (nI pa) (nI pe) pd (nI pb) pp pf pg pn rt rn (nI cd) sn (nI il) tk am at_ aa 0 0 (-1) wt wy 0 (nI rm) (nI ud2_17) (nI nu2_16) sd (nI qn) (nI qw) qo (nI qb) (nI qp) qa (nI qi) (nI oc))), (g 20, .inl (cI, 4, .inl (l4 (nI l0) (nI l1) (nI dm) (nI l3)))), (g 31, .inl (cI, 120, .inl nw2_13)), (g 54, .inl (cI, 2400, .inl kp2_14)), (g 9, .inl (cI, 6, .inl rf2_18))]) eu_26 hP hD rfl (fun hP hD => ?_)
    exact sk_iret hx hb hr (nbool b_15 (by omega)) hlocks hK hP hD hS (⟨Ba2_9, We2_10, U2_11, su2_12, nw2_13, kp2_14, b_15, nu2_16, ud2_17, rf2_18, hnw2_20, hkp2_21, by omega, by omega, hset_25, rfl, rfl⟩) (Nat.le_of_ble_eq_true rfl) (Nat.le_of_ble_eq_true rfl) dX12_mute_14

