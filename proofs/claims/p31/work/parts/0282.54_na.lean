theorem dg_X12_becomes_0_0 : bqL cX12_becomes 0 [(0, [42]), (1, [27]), (2, [182, 1, 157]), (5, [153, 0, 24]), (29, [42]), (30, [180, 0, 17]), (33, [5]), (34, [92]), (35, [46]), (36, [4]), (37, [96]), (38, [79]), (39, [3]), (40, [172]), (8, [21, 4]), (10, [153, 0, 19])] = true := by decide +kernel
theorem dX12_becomes_0 : decode cX12_becomes 0 = .ok (.aload_n 0, 1) := q_aload_n0 (bat_get dg_X12_becomes_0_0 0 rfl rfl)
theorem dX12_becomes_1 : decode cX12_becomes 1 = .ok (.iload_n 1, 1) := q_iload_n1 (bat_get dg_X12_becomes_0_0 1 rfl rfl)
theorem dX12_becomes_2 : decode cX12_becomes 2 = .ok (.invokevirtual 413, 3) := q_invokevirtual (bat_get dg_X12_becomes_0_0 2 rfl rfl) rfl
theorem dX12_becomes_5 : decode cX12_becomes 5 = .ok (.ifCond .eq 24, 3) := q_ifCond_eq (bat_get dg_X12_becomes_0_0 3 rfl rfl) rfl
theorem dX12_becomes_29 : decode cX12_becomes 29 = .ok (.aload_n 0, 1) := q_aload_n0 (bat_get dg_X12_becomes_0_0 4 rfl rfl)
theorem dX12_becomes_30 : decode cX12_becomes 30 = .ok (.getfield 17, 3) := q_getfield (bat_get dg_X12_becomes_0_0 5 rfl rfl) rfl
theorem dX12_becomes_33 : decode cX12_becomes 33 = .ok (.iconst 2, 1) := q_iconst2 (bat_get dg_X12_becomes_0_0 6 rfl rfl)
theorem dX12_becomes_34 : decode cX12_becomes 34 = .ok (.dup2, 1) := q_dup2 (bat_get dg_X12_becomes_0_0 7 rfl rfl)
theorem dX12_becomes_35 : decode cX12_becomes 35 = .ok (.iaload, 1) := q_iaload (bat_get dg_X12_becomes_0_0 8 rfl rfl)
theorem dX12_becomes_36 : decode cX12_becomes 36 = .ok (.iconst 1, 1) := q_iconst1 (bat_get dg_X12_becomes_0_0 9 rfl rfl)
theorem dX12_becomes_37 : decode cX12_becomes 37 = .ok (.iadd, 1) := q_iadd (bat_get dg_X12_becomes_0_0 10 rfl rfl)
theorem dX12_becomes_38 : decode cX12_becomes 38 = .ok (.iastore, 1) := q_iastore (bat_get dg_X12_becomes_0_0 11 rfl rfl)
theorem dX12_becomes_39 : decode cX12_becomes 39 = .ok (.iconst 0, 1) := q_iconst0 (bat_get dg_X12_becomes_0_0 12 rfl rfl)
theorem dX12_becomes_40 : decode cX12_becomes 40 = .ok (.ireturn, 1) := q_ireturn (bat_get dg_X12_becomes_0_0 13 rfl rfl)
theorem dX12_becomes_8 : decode cX12_becomes 8 = .ok (.iload 4, 2) := q_iload (bat_get dg_X12_becomes_0_0 14 rfl rfl)
theorem dX12_becomes_10 : decode cX12_becomes 10 = .ok (.ifCond .eq 19, 3) := q_ifCond_eq (bat_get dg_X12_becomes_0_0 15 rfl rfl) rfl
theorem w_8_129 : (Cond.code yX12_becomes cX12_becomes 5 (some .boolean)) ∈ wsL_law := sk_mem (ck_8 _ (List.mem_of_getElem? (i := 129) rfl)) rfl
set_option maxHeartbeats 4000000 in
set_option maxRecDepth 100000 in
theorem c_nm_becomes0 (l : Launch) (D : va_G) (cI cJ cC cZ cS : ClassId) (mm : Nat) (g : Nat → Nat) (ta : Nat) (pa : Nat) (pe : Nat) (pd : Int32) (pb : Nat) (pp : Int32) (pf : Int32) (pg : Int32) (pn : Int32) (rt : Int32) (rn : Int32) (cd : Nat) (sn : Int32) (il : Nat) (tk : Int32) (am : Int32) (at_ : Int32) (aa : Int32) (wt : Int32) (wy : Int64) (rm : Nat) (ud : Nat) (nu : Nat) (sd : Int64) (qn : Nat) (qw : Nat) (qo : Int32) (qb : Nat) (qp : Nat) (qa : Int64) (qi : Nat) (oc : Nat) (d : Int32) (w : Int32) (o : Int32) (l0 : Nat) (l1 : Nat) (dm : Nat) (l3 : Nat) (rf : Nat → Int32) (hdm : dm ≤ 9) : skM l yX12_becomes cX12_becomes 5 (some .boolean) 2 46 0 0 D (skT cI cJ cC cZ cS) [.ref mm, .int d, .int w, .int o, .int 0] [(mm, .inr (12, mo g (nI ta) (nI pa) (nI pe) pd (nI pb) pp pf pg pn rt rn (nI cd) sn (nI il) tk am at_ aa 0 0 (-1) wt wy 0 (nI rm) (nI ud) (nI nu) sd (nI qn) (nI qw) qo (nI qb) (nI qp) qa (nI qi) (nI oc))), (g 20, .inl (cI, 4, .inl (l4 (nI l0) (nI l1) (nI dm) (nI l3)))), (g 9, .inl (cI, 6, .inl rf))] (skI D (skT cI cJ cC cZ cS) (fun (r : Int32) (u : va_W) => ∃ (rf2 : Nat → Int32), rf2 = upd rf 2 (rf 2 + 1) ∧ r = 0 ∧ u = [(mm, .inr (12, mo g (nI ta) (nI pa) (nI pe) pd (nI pb) pp pf pg pn rt rn (nI cd) sn (nI il) tk am at_ aa 0 0 (-1) wt wy 0 (nI rm) (nI ud) (nI nu) sd (nI qn) (nI qw) qo (nI qb) (nI qp) qa (nI qi) (nI oc))), (g 20, .inl (cI, 4, .inl (l4 (nI l0) (nI l1) (nI dm) (nI l3)))), (g 9, .inl (cI, 6, .inl rf2))])) := by
  refine skM_of pf_X12_becomes (Nat.le_of_ble_eq_true rfl) ?_
  intro p e s m below meth c A ls E hP hD hl
  refine skE_el E (fun hx hb hr hml hlocks hin hown hts hK hA => ?_)
  have hown : s.vm.findClass RX12 = some m.cls := hown
  have hS : va_S A s.heap s.heap [] := va_S.rf
  have hl : lv_has ls 5 [(0, .ref mm), (1, .int d), (2, .int w), (3, .int o), (4, .int 0)] := hl
  refine lv_aload_n hx hb dX12_becomes_0 rfl (lv_at hl 0 rfl) ?_
  refine lv_iload_n hx hb dX12_becomes_1 rfl (lv_at hl 1 rfl) ?_
  refine sk_Vi (q0 := 0) (n := 1) (rest := []) (wr := fmR om_3_6 _) ⟨hx, hb, hml, hown, hts⟩ hl.1 (c_nm_isDay l D cI cJ cC cZ cS mm g ta pa pe pd pb pp pf pg pn rt rn cd sn il tk am at_ aa wt wy rm ud nu sd qn qw qo qb qp qa qi oc d l0 l1 dm l3 (by omega)) w_7_117 w_7_119 w_0_72 w_1_14 w_7_120 hd_X12_isDay_1 ⟨⟨(Nat.le_of_ble_eq_true rfl), (Nat.le_of_ble_eq_true rfl)⟩, (Nat.le_of_ble_eq_true rfl), (Nat.le_of_ble_eq_true rfl)⟩ hK hP hD hS hA (fmT om_3_6 0) (fmF om_3_6 0) (fm_C1 rfl rfl) (fm_R rfl rfl) (fm_nT om_3_6 0) (fm_nF om_3_6 0) (fm_di om_3_6 0) rfl rfl rfl rfl (Nat.le_of_ble_eq_true rfl) dX12_becomes_2 (fun r_2 u H locs hw hP hD hS => ?_)
  refine exE hw (fun b_1 hw1 => anE hw1 (fun hb1_3 hw2 => anE hw2 (fun er_5 eu_4 => ?_)))
  clear hw hw1 hw2
  subst er_5
  refine o_mgE (ws' := [(mm, .inr (12, mo g (nI ta) (nI pa) (nI pe) pd (nI pb) pp pf pg pn rt rn (nI cd) sn (nI il) tk am at_ aa 0 0 (-1) wt wy 0 (nI rm) (nI ud) (nI nu) sd (nI qn) (nI qw) qo (nI qb) (nI qp) qa (nI qi) (nI oc))), (g 20, .inl (cI, 4, .inl (l4 (nI l0) (nI l1) (nI dm) (nI l3)))), (g 9, .inl (cI, 6, .inl rf))]) eu_4 hP hD rfl (fun hP hD => ?_)
  refine lv_if_eq (tgt := 29) hx hb dX12_becomes_5 (by decide) (fun c_6 => ?_) (fun c_6 => ?_)
  · have c_6 : b_1 = 0 := (neq b_1 0 (by omega) (by omega)).mp c_6
    refine lv_aload_n hx hb dX12_becomes_29 rfl (lv_at hl 0 rfl) ?_
    refine sk_get (v := .ref (g 9)) (C := RX12) (T := TX12) (N := 92) hx hb hts inlX12 hown hK hP 0 rfl rfl 9 (by decide) w_5_164 rfl dX12_becomes_30 ?_
    refine lv_iconst (v := 2) hx hb dX12_becomes_33 (by decide) ?_
    refine lv_dup2_11 hx hb dX12_becomes_34 rfl rfl ?_
    refine va_iald hx hb hK.1 hP 2 0 rfl rfl (by unfold vp_in; decide) dX12_becomes_35 ?_
    refine sk_top (rf 2) (rfl) ?_
    refine lv_iconst (v := 1) hx hb dX12_becomes_36 (by decide) ?_
    refine lv_iadd hx hb dX12_becomes_37 ?_
    refine sk_iastE (k := 2) (ws' := fun f_7 => [(mm, .inr (12, mo g (nI ta) (nI pa) (nI pe) pd (nI pb) pp pf pg pn rt rn (nI cd) sn (nI il) tk am at_ aa 0 0 (-1) wt wy 0 (nI rm) (nI ud) (nI nu) sd (nI qn) (nI qw) qo (nI qb) (nI qp) qa (nI qi) (nI oc))), (g 20, .inl (cI, 4, .inl (l4 (nI l0) (nI l1) (nI dm) (nI l3)))), (g 9, .inl (cI, 6, .inl f_7))]) hx hb hK hP hD hS 2 0 rfl rfl (by omega) (by omega) (fun _ => rfl) dX12_becomes_38 (fun f_7 H locs ef_8 hP hD hS => ?_)
    refine lv_iconst (v := 0) hx hb dX12_becomes_39 (by decide) ?_
    exact sk_iret hx hb hr rfl hlocks hK hP hD hS (⟨f_7, ef_8, rfl, rfl⟩) (Nat.le_of_ble_eq_true rfl) (Nat.le_of_ble_eq_true rfl) dX12_becomes_40
  · have c_6 : ¬ (b_1 = 0) := fun h => c_6 ((neq b_1 0 (by omega) (by omega)).mpr h)
    obtain ⟨kd_9, hkd_9, rfl⟩ := rr_1 hb1_3 (by omega)
    refine lv_iload hx hb dX12_becomes_8 (lv_at hl 4 rfl) ?_
    refine lv_if_eq (tgt := 29) hx hb dX12_becomes_10 (by decide) (fun c_10 => ?_) (fun c => absurd c (by decide))
    refine lv_aload_n hx hb dX12_becomes_29 rfl (lv_at hl 0 rfl) ?_
    refine sk_get (v := .ref (g 9)) (C := RX12) (T := TX12) (N := 92) hx hb hts inlX12 hown hK hP 0 rfl rfl 9 (by decide) w_5_164 rfl dX12_becomes_30 ?_
    refine lv_iconst (v := 2) hx hb dX12_becomes_33 (by decide) ?_
    refine lv_dup2_11 hx hb dX12_becomes_34 rfl rfl ?_
    refine va_iald hx hb hK.1 hP 2 0 rfl rfl (by unfold vp_in; decide) dX12_becomes_35 ?_
    refine sk_top (rf 2) (rfl) ?_
    refine lv_iconst (v := 1) hx hb dX12_becomes_36 (by decide) ?_
    refine lv_iadd hx hb dX12_becomes_37 ?_
    refine sk_iastE (k := 2) (ws' := fun f_11 => [(mm, .inr (12, mo g (nI ta) (nI pa) (nI pe) pd (nI pb) pp pf pg pn rt rn (nI cd) sn (nI il) tk am at_ aa 0 0 (-1) wt wy 0 (nI rm) (nI ud) (nI nu) sd (nI qn) (nI qw) qo (nI qb) (nI qp) qa (nI qi) (nI oc))), (g 20, .inl (cI, 4, .inl (l4 (nI l0) (nI l1) (nI dm) (nI l3)))), (g 9, .inl (cI, 6, .inl f_11))]) hx hb hK hP hD hS 2 0 rfl rfl (by omega) (by omega) (fun _ => rfl) dX12_becomes_38 (fun f_11 H locs ef_12 hP hD hS => ?_)
    refine lv_iconst (v := 0) hx hb dX12_becomes_39 (by decide) ?_
    exact sk_iret hx hb hr rfl hlocks hK hP hD hS (⟨f_11, ef_12, rfl, rfl⟩) (Nat.le_of_ble_eq_true rfl) (Nat.le_of_ble_eq_true rfl) dX12_becomes_40
theorem dg_X12_becomes_13_13 : bqL cX12_becomes 13 [(0, [42]), (1, [180, 0, 63]), (4, [5]), (5, [6]), (6, [27]), (7, [104]), (8, [96]), (9, [28]), (10, [96]), (11, [46]), (12, [29]), (13, [160, 0, 15]), (28, [42]), (29, [182, 1, 218]), (32, [42]), (33, [180, 0, 63]), (36, [5]), (37, [6]), (38, [27]), (39, [104]), (40, [96]), (41, [28]), (42, [96]), (43, [29]), (44, [79]), (45, [4]), (46, [172])] = true := by decide +kernel
theorem dX12_becomes_13 : decode cX12_becomes 13 = .ok (.aload_n 0, 1) := q_aload_n0 (bat_get dg_X12_becomes_13_13 0 rfl rfl)
theorem dX12_becomes_14 : decode cX12_becomes 14 = .ok (.getfield 63, 3) := q_getfield (bat_get dg_X12_becomes_13_13 1 rfl rfl) rfl
theorem dX12_becomes_17 : decode cX12_becomes 17 = .ok (.iconst 2, 1) := q_iconst2 (bat_get dg_X12_becomes_13_13 2 rfl rfl)
theorem dX12_becomes_18 : decode cX12_becomes 18 = .ok (.iconst 3, 1) := q_iconst3 (bat_get dg_X12_becomes_13_13 3 rfl rfl)
theorem dX12_becomes_19 : decode cX12_becomes 19 = .ok (.iload_n 1, 1) := q_iload_n1 (bat_get dg_X12_becomes_13_13 4 rfl rfl)
theorem dX12_becomes_20 : decode cX12_becomes 20 = .ok (.imul, 1) := q_imul (bat_get dg_X12_becomes_13_13 5 rfl rfl)
theorem dX12_becomes_21 : decode cX12_becomes 21 = .ok (.iadd, 1) := q_iadd (bat_get dg_X12_becomes_13_13 6 rfl rfl)
theorem dX12_becomes_22 : decode cX12_becomes 22 = .ok (.iload_n 2, 1) := q_iload_n2 (bat_get dg_X12_becomes_13_13 7 rfl rfl)
theorem dX12_becomes_23 : decode cX12_becomes 23 = .ok (.iadd, 1) := q_iadd (bat_get dg_X12_becomes_13_13 8 rfl rfl)
theorem dX12_becomes_24 : decode cX12_becomes 24 = .ok (.iaload, 1) := q_iaload (bat_get dg_X12_becomes_13_13 9 rfl rfl)
theorem dX12_becomes_25 : decode cX12_becomes 25 = .ok (.iload_n 3, 1) := q_iload_n3 (bat_get dg_X12_becomes_13_13 10 rfl rfl)
theorem dX12_becomes_26 : decode cX12_becomes 26 = .ok (.if_icmp .ne 15, 3) := q_if_icmp_ne (bat_get dg_X12_becomes_13_13 11 rfl rfl) rfl
theorem dX12_becomes_41 : decode cX12_becomes 41 = .ok (.aload_n 0, 1) := q_aload_n0 (bat_get dg_X12_becomes_13_13 12 rfl rfl)
theorem dX12_becomes_42 : decode cX12_becomes 42 = .ok (.invokevirtual 474, 3) := q_invokevirtual (bat_get dg_X12_becomes_13_13 13 rfl rfl) rfl
theorem dX12_becomes_45 : decode cX12_becomes 45 = .ok (.aload_n 0, 1) := q_aload_n0 (bat_get dg_X12_becomes_13_13 14 rfl rfl)
theorem dX12_becomes_46 : decode cX12_becomes 46 = .ok (.getfield 63, 3) := q_getfield (bat_get dg_X12_becomes_13_13 15 rfl rfl) rfl
theorem dX12_becomes_49 : decode cX12_becomes 49 = .ok (.iconst 2, 1) := q_iconst2 (bat_get dg_X12_becomes_13_13 16 rfl rfl)
theorem dX12_becomes_50 : decode cX12_becomes 50 = .ok (.iconst 3, 1) := q_iconst3 (bat_get dg_X12_becomes_13_13 17 rfl rfl)
theorem dX12_becomes_51 : decode cX12_becomes 51 = .ok (.iload_n 1, 1) := q_iload_n1 (bat_get dg_X12_becomes_13_13 18 rfl rfl)
theorem dX12_becomes_52 : decode cX12_becomes 52 = .ok (.imul, 1) := q_imul (bat_get dg_X12_becomes_13_13 19 rfl rfl)
theorem dX12_becomes_53 : decode cX12_becomes 53 = .ok (.iadd, 1) := q_iadd (bat_get dg_X12_becomes_13_13 20 rfl rfl)
theorem dX12_becomes_54 : decode cX12_becomes 54 = .ok (.iload_n 2, 1) := q_iload_n2 (bat_get dg_X12_becomes_13_13 21 rfl rfl)
theorem dX12_becomes_55 : decode cX12_becomes 55 = .ok (.iadd, 1) := q_iadd (bat_get dg_X12_becomes_13_13 22 rfl rfl)
theorem dX12_becomes_56 : decode cX12_becomes 56 = .ok (.iload_n 3, 1) := q_iload_n3 (bat_get dg_X12_becomes_13_13 23 rfl rfl)
theorem dX12_becomes_57 : decode cX12_becomes 57 = .ok (.iastore, 1) := q_iastore (bat_get dg_X12_becomes_13_13 24 rfl rfl)
theorem dX12_becomes_58 : decode cX12_becomes 58 = .ok (.iconst 1, 1) := q_iconst1 (bat_get dg_X12_becomes_13_13 25 rfl rfl)
theorem dX12_becomes_59 : decode cX12_becomes 59 = .ok (.ireturn, 1) := q_ireturn (bat_get dg_X12_becomes_13_13 26 rfl rfl)
theorem w_8_130 : (Cond.methodLink RX12 474 yX12_keeps) ∈ wsL_law := sk_mem (ck_8 _ (List.mem_of_getElem? (i := 130) rfl)) rfl
theorem w_8_132 : (Cond.instanceMethod yX12_keeps) ∈ wsL_law := sk_mem (ck_8 _ (List.mem_of_getElem? (i := 132) rfl)) rfl
theorem w_0_107 : (Cond.selects RX12 yX12_keeps yX12_keeps) ∈ wsL_law := sk_mem (ck_0 _ (List.mem_of_getElem? (i := 107) rfl)) rfl
def om_5_16 : List Bool := true :: false :: true :: true :: false :: []
theorem hd_X12_keeps_0 : skD yX12_keeps 0 := by decide +kernel
set_option maxHeartbeats 4000000 in
set_option maxRecDepth 100000 in
theorem c_nm_becomes10 (l : Launch) (D : va_G) (cI cJ cC cZ cS : ClassId) (mm : Nat) (g : Nat → Nat) (ta : Nat) (pa : Nat) (pe : Nat) (pd : Int32) (pb : Nat) (pp : Int32) (pf : Int32) (pg : Int32) (pn : Int32) (rt : Int32) (rn : Int32) (cd : Nat) (sn : Int32) (il : Nat) (tk : Int32) (am : Int32) (at_ : Int32) (aa : Int32) (wt : Int32) (wy : Int64) (rm : Nat) (ud : Nat) (nu : Nat) (sd : Int64) (qn : Nat) (qw : Nat) (qo : Int32) (qb : Nat) (qp : Nat) (qa : Int64) (qi : Nat) (oc : Nat) (d : Int32) (ov : Nat) (l0 : Nat) (l1 : Nat) (dm : Nat) (l3 : Nat) (nw : Nat → Int32) (kp : Nat → Int32) (rf : Nat → Int32) (wn : Nat) (mN : Nat) (Ba : Nat → Nat) (We : Nat → Nat) (U : Nat → Bool) (ke : Nat) (lg : KLg) (su : Nat → KN) (hdm : dm ≤ 9) (hnu : nu < 20) (hud : ud ≤ 20) (hov : ov < 10) (hB9 : ∀ j, Ba j ≤ 9) (hW9 : ∀ j, We j ≤ 9) (hnw : nwX wn mN Ba We U ke lg nw) (hkp : kpX ud nu su lg kp) : skM l yX12_becomes cX12_becomes 5 (some .boolean) 2 46 0 0 D (skT cI cJ cC cZ cS) [.ref mm, .int d, .int 0, .int (nI ov), .int 1] [(mm, .inr (12, mo g (nI ta) (nI pa) (nI pe) pd (nI pb) pp pf pg pn rt rn (nI cd) sn (nI il) tk am at_ aa 0 0 (-1) wt wy 0 (nI rm) (nI ud) (nI nu) sd (nI qn) (nI qw) qo (nI qb) (nI qp) qa (nI qi) (nI oc))), (g 20, .inl (cI, 4, .inl (l4 (nI l0) (nI l1) (nI dm) (nI l3)))), (g 31, .inl (cI, 120, .inl nw)), (g 54, .inl (cI, 2400, .inl kp)), (g 9, .inl (cI, 6, .inl rf))] (skI D (skT cI cJ cC cZ cS) (fun (r : Int32) (u : va_W) => ∃ (Ba2 : Nat → Nat), ∃ (We2 : Nat → Nat), ∃ (U2 : Nat → Bool), ∃ (su2 : Nat → KN), ∃ (nw2 : Nat → Int32), ∃ (kp2 : Nat → Int32), ∃ (b : Nat), ∃ (nu2 : Nat), ∃ (ud2 : Nat), ∃ (rf2 : Nat → Int32), nwX wn mN Ba2 We2 U2 ke lg nw2 ∧ kpX ud2 nu2 su2 lg kp2 ∧ nu2 < 20 ∧ ud2 ≤ 20 ∧ b ≤ 1 ∧ setR dm (wn, mN, Ba, We, U, ke) ud su rf d (nI 0) (nI ov) (nI b) (wn, mN, Ba2, We2, U2, ke) ud2 su2 rf2 ∧ r = nI b ∧ u = [(mm, .inr (12, mo g (nI ta) (nI pa) (nI pe) pd (nI pb) pp pf pg pn rt rn (nI cd) sn (nI il) tk am at_ aa 0 0 (-1) wt wy 0 (nI rm) (nI ud2) (nI nu2) sd (nI qn) (nI qw) qo (nI qb) (nI qp) qa (nI qi) (nI oc))), (g 20, .inl (cI, 4, .inl (l4 (nI l0) (nI l1) (nI dm) (nI l3)))), (g 31, .inl (cI, 120, .inl nw2)), (g 54, .inl (cI, 2400, .inl kp2)), (g 9, .inl (cI, 6, .inl rf2))])) := by
  refine skM_of pf_X12_becomes (Nat.le_of_ble_eq_true rfl) ?_
  intro p e s m below meth c A ls E hP hD hl
  refine skE_el E (fun hx hb hr hml hlocks hin hown hts hK hA => ?_)
  have hown : s.vm.findClass RX12 = some m.cls := hown
  have hS : va_S A s.heap s.heap [] := va_S.rf
  have hl : lv_has ls 5 [(0, .ref mm), (1, .int d), (2, .int 0), (3, .int (nI ov)), (4, .int 1)] := hl
  refine lv_aload_n hx hb dX12_becomes_0 rfl (lv_at hl 0 rfl) ?_
  refine lv_iload_n hx hb dX12_becomes_1 rfl (lv_at hl 1 rfl) ?_
  refine sk_Vi (q0 := 0) (n := 1) (rest := []) (wr := fmR om_5_18 _) ⟨hx, hb, hml, hown, hts⟩ hl.1 (c_nm_isDay l D cI cJ cC cZ cS mm g ta pa pe pd pb pp pf pg pn rt rn cd sn il tk am at_ aa wt wy rm ud nu sd qn qw qo qb qp qa qi oc d l0 l1 dm l3 (by omega)) w_7_117 w_7_119 w_0_72 w_1_14 w_7_120 hd_X12_isDay_1 ⟨⟨(Nat.le_of_ble_eq_true rfl), (Nat.le_of_ble_eq_true rfl)⟩, (Nat.le_of_ble_eq_true rfl), (Nat.le_of_ble_eq_true rfl)⟩ hK hP hD hS hA (fmT om_5_18 0) (fmF om_5_18 0) (fm_C1 rfl rfl) (fm_R rfl rfl) (fm_nT om_5_18 0) (fm_nF om_5_18 0) (fm_di om_5_18 0) rfl rfl rfl rfl (Nat.le_of_ble_eq_true rfl) dX12_becomes_2 (fun r_2 u H locs hw hP hD hS => ?_)
  refine exE hw (fun b_1 hw1 => anE hw1 (fun hb1_3 hw2 => anE hw2 (fun er_5 eu_4 => ?_)))
  clear hw hw1 hw2
  subst er_5
  refine o_mgE (ws' := [(mm, .inr (12, mo g (nI ta) (nI pa) (nI pe) pd (nI pb) pp pf pg pn rt rn (nI cd) sn (nI il) tk am at_ aa 0 0 (-1) wt wy 0 (nI rm) (nI ud) (nI nu) sd (nI qn) (nI qw) qo (nI qb) (nI qp) qa (nI qi) (nI oc))), (g 20, .inl (cI, 4, .inl (l4 (nI l0) (nI l1) (nI dm) (nI l3)))), (g 31, .inl (cI, 120, .inl nw)), (g 54, .inl (cI, 2400, .inl kp)), (g 9, .inl (cI, 6, .inl rf))]) eu_4 hP hD rfl (fun hP hD => ?_)
  refine lv_if_eq (tgt := 29) hx hb dX12_becomes_5 (by decide) (fun c_6 => ?_) (fun c_6 => ?_)
  · have c_6 : b_1 = 0 := (neq b_1 0 (by omega) (by omega)).mp c_6
    refine lv_aload_n hx hb dX12_becomes_29 rfl (lv_at hl 0 rfl) ?_
    refine sk_get (v := .ref (g 9)) (C := RX12) (T := TX12) (N := 92) hx hb hts inlX12 hown hK hP 0 rfl rfl 9 (by decide) w_5_164 rfl dX12_becomes_30 ?_
    refine lv_iconst (v := 2) hx hb dX12_becomes_33 (by decide) ?_
    refine lv_dup2_11 hx hb dX12_becomes_34 rfl rfl ?_
    refine va_iald hx hb hK.1 hP 4 0 rfl rfl (by unfold vp_in; decide) dX12_becomes_35 ?_
    refine sk_top (rf 2) (rfl) ?_
    refine lv_iconst (v := 1) hx hb dX12_becomes_36 (by decide) ?_
    refine lv_iadd hx hb dX12_becomes_37 ?_
    refine sk_iastE (k := 2) (ws' := fun f_7 => [(mm, .inr (12, mo g (nI ta) (nI pa) (nI pe) pd (nI pb) pp pf pg pn rt rn (nI cd) sn (nI il) tk am at_ aa 0 0 (-1) wt wy 0 (nI rm) (nI ud) (nI nu) sd (nI qn) (nI qw) qo (nI qb) (nI qp) qa (nI qi) (nI oc))), (g 20, .inl (cI, 4, .inl (l4 (nI l0) (nI l1) (nI dm) (nI l3)))), (g 31, .inl (cI, 120, .inl nw)), (g 54, .inl (cI, 2400, .inl kp)), (g 9, .inl (cI, 6, .inl f_7))]) hx hb hK hP hD hS 4 0 rfl rfl (by omega) (by omega) (fun _ => rfl) dX12_becomes_38 (fun f_7 H locs ef_8 hP hD hS => ?_)
    refine lv_iconst (v := 0) hx hb dX12_becomes_39 (by decide) ?_
    exact sk_iret hx hb hr rfl hlocks hK hP hD hS (⟨Ba, We, U, su, nw, kp, 0, nu, ud, f_7, hnw, hkp, by omega, by omega, (by decide), set_0 (rr_0 hb1_3 (by omega)) ef_8, rfl, rfl⟩) (Nat.le_of_ble_eq_true rfl) (Nat.le_of_ble_eq_true rfl) dX12_becomes_40
  · have c_6 : ¬ (b_1 = 0) := fun h => c_6 ((neq b_1 0 (by omega) (by omega)).mpr h)
    obtain ⟨kd_9, hkd_9, rfl⟩ := rr_1 hb1_3 (by omega)
    refine lv_iload hx hb dX12_becomes_8 (lv_at hl 4 rfl) ?_
    refine lv_if_eq (tgt := 29) hx hb dX12_becomes_10 (by decide) (fun c => absurd c (by decide)) (fun c_10 => ?_)
    refine lv_aload_n hx hb dX12_becomes_13 rfl (lv_at hl 0 rfl) ?_
    refine sk_get (v := .ref (g 31)) (C := RX12) (T := TX12) (N := 92) hx hb hts inlX12 hown hK hP 0 rfl rfl 31 (by decide) w_5_186 rfl dX12_becomes_14 ?_
    refine lv_iconst (v := 2) hx hb dX12_becomes_17 (by decide) ?_
    refine lv_iconst (v := 3) hx hb dX12_becomes_18 (by decide) ?_
    refine lv_iload_n hx hb dX12_becomes_19 rfl (lv_at hl 1 rfl) ?_
    refine lv_imul hx hb dX12_becomes_20 ?_
    refine sk_top (nI (3 * kd_9)) (nmul 3 kd_9) ?_
    refine lv_iadd hx hb dX12_becomes_21 ?_
    refine sk_top (nI (2 + (3 * kd_9))) (nI_add 2 (3 * kd_9)) ?_
    refine lv_iload_n hx hb dX12_becomes_22 rfl (lv_at hl 2 rfl) ?_
    refine lv_iadd hx hb dX12_becomes_23 ?_
    refine sk_top (nI (2 + (3 * kd_9) + 0)) (nI_add (2 + (3 * kd_9)) 0) ?_
    refine va_iald hx hb hK.1 hP 2 0 rfl rfl (vin (2 + (3 * kd_9) + 0) 120 (by omega) (by omega)) dX12_becomes_24 ?_
    have hv_ := hB9 kd_9
    refine sk_top (nI (Ba kd_9)) (by rw [nI_clamp (by omega)]; exact nwX_b hnw (by omega)) ?_
    refine lv_iload_n hx hb dX12_becomes_25 rfl (lv_at hl 3 rfl) ?_
    refine lv_icmp_ne (tgt := 41) hx hb dX12_becomes_26 (by decide) (fun c_11 => ?_) (fun c_11 => ?_)
    · have c_11 : ¬ (Ba kd_9 = ov) := fun h => c_11 ((neq (Ba kd_9) ov (by omega) (by omega)).mpr h)
      refine lv_aload_n hx hb dX12_becomes_41 rfl (lv_at hl 0 rfl) ?_
      refine sk_Vv (q0 := 0) (n := 0) (rest := []) (wr := fmR om_5_16 _) ⟨hx, hb, hml, hown, hts⟩ hl.1 (c_nm_keeps l D cI cJ cC cZ cS mm g ta pa pe pd pb pp pf pg pn rt rn cd sn il tk am at_ aa wt wy rm ud nu sd qn qw qo qb qp qa qi oc nw kp wn mN Ba We U ke lg su (by omega) (by omega) hnw hkp) w_8_130 w_8_132 w_0_107 w_1_14 w_8_133 hd_X12_keeps_0 ⟨⟨(Nat.le_of_ble_eq_true rfl), (Nat.le_of_ble_eq_true rfl)⟩, (Nat.le_of_ble_eq_true rfl), (Nat.le_of_ble_eq_true rfl)⟩ hK hP hD hS hA (fmT om_5_16 0) (fmF om_5_16 0) (fm_C1 rfl rfl) (fm_R rfl rfl) (fm_nT om_5_16 0) (fm_nF om_5_16 0) (fm_di om_5_16 0) rfl rfl rfl rfl (Nat.le_of_ble_eq_true rfl) dX12_becomes_42 (fun u H locs hw hP hD hS => ?_)
      refine exE hw (fun kp2_12 hw1 => exE hw1 (fun ud2_13 hw2 => anE hw2 (fun hud2_14 hw3 => anE hw3 (fun hkp2_15 eu_16 => ?_))))
      clear hw hw1 hw2 hw3
      refine o_mgE (ws' := [(mm, .inr (12, mo g (nI ta) (nI pa) (nI pe) pd (nI pb) pp pf pg pn rt rn (nI cd) sn (nI il) tk am at_ aa 0 0 (-1) wt wy 0 (nI rm) (nI ud2_13) (nI ((nu + 1) % 20)) sd (nI qn) (nI qw) qo (nI qb) (nI qp) qa (nI qi) (nI oc))), (g 20, .inl (cI, 4, .inl (l4 (nI l0) (nI l1) (nI dm) (nI l3)))), (g 31, .inl (cI, 120, .inl nw)), (g 54, .inl (cI, 2400, .inl kp2_12)), (g 9, .inl (cI, 6, .inl rf))]) eu_16 hP hD rfl (fun hP hD => ?_)
      refine lv_aload_n hx hb dX12_becomes_45 rfl (lv_at hl 0 rfl) ?_
      refine sk_get (v := .ref (g 31)) (C := RX12) (T := TX12) (N := 92) hx hb hts inlX12 hown hK hP 0 rfl rfl 31 (by decide) w_5_186 rfl dX12_becomes_46 ?_
      refine lv_iconst (v := 2) hx hb dX12_becomes_49 (by decide) ?_
      refine lv_iconst (v := 3) hx hb dX12_becomes_50 (by decide) ?_
      refine lv_iload_n hx hb dX12_becomes_51 rfl (lv_at hl 1 rfl) ?_
      refine lv_imul hx hb dX12_becomes_52 ?_
      refine sk_top (nI (3 * kd_9)) (nmul 3 kd_9) ?_
      refine lv_iadd hx hb dX12_becomes_53 ?_
      refine sk_top (nI (2 + (3 * kd_9))) (nI_add 2 (3 * kd_9)) ?_
      refine lv_iload_n hx hb dX12_becomes_54 rfl (lv_at hl 2 rfl) ?_
      refine lv_iadd hx hb dX12_becomes_55 ?_
      refine sk_top (nI (2 + (3 * kd_9) + 0)) (nI_add (2 + (3 * kd_9)) 0) ?_
      refine lv_iload_n hx hb dX12_becomes_56 rfl (lv_at hl 3 rfl) ?_
      refine sk_iastE (k := (2 + (3 * kd_9) + 0)) (x := (nI ov)) (ws' := fun f_17 => [(mm, .inr (12, mo g (nI ta) (nI pa) (nI pe) pd (nI pb) pp pf pg pn rt rn (nI cd) sn (nI il) tk am at_ aa 0 0 (-1) wt wy 0 (nI rm) (nI ud2_13) (nI ((nu + 1) % 20)) sd (nI qn) (nI qw) qo (nI qb) (nI qp) qa (nI qi) (nI oc))), (g 20, .inl (cI, 4, .inl (l4 (nI l0) (nI l1) (nI dm) (nI l3)))), (g 31, .inl (cI, 120, .inl f_17)), (g 54, .inl (cI, 2400, .inl kp2_12)), (g 9, .inl (cI, 6, .inl rf))]) hx hb hK hP hD hS 2 0 rfl rfl (by omega) (by omega) (fun _ => rfl) dX12_becomes_57 (fun f_17 H locs ef_18 hP hD hS => ?_)
      have hN_19 : nwX wn mN (updG Ba kd_9 ov) We U ke lg f_17 := nwX_upb hnw ef_18 (by omega)
      refine lv_iconst (v := 1) hx hb dX12_becomes_58 (by decide) ?_
      exact sk_iret hx hb hr rfl hlocks hK hP hD hS (⟨(updG Ba kd_9 ov), We, U, (psh ud su (wn, mN, Ba, We, U, ke)), f_17, kp2_12, 1, (nu + 1) % 20, ud2_13, rf, hN_19, hkp2_15, by omega, by omega, (by decide), (by rw [hud2_14]; exact set_y0 (n := (wn, mN, Ba, We, U, ke)) hkd_9 hov rfl c_11), rfl, rfl⟩) (Nat.le_of_ble_eq_true rfl) (Nat.le_of_ble_eq_true rfl) dX12_becomes_59
    · have c_11 : Ba kd_9 = ov := (neq (Ba kd_9) ov (by omega) (by omega)).mp c_11
      refine lv_aload_n hx hb dX12_becomes_29 rfl (lv_at hl 0 rfl) ?_
      refine sk_get (v := .ref (g 9)) (C := RX12) (T := TX12) (N := 92) hx hb hts inlX12 hown hK hP 0 rfl rfl 9 (by decide) w_5_164 rfl dX12_becomes_30 ?_
      refine lv_iconst (v := 2) hx hb dX12_becomes_33 (by decide) ?_
      refine lv_dup2_11 hx hb dX12_becomes_34 rfl rfl ?_
      refine va_iald hx hb hK.1 hP 4 0 rfl rfl (by unfold vp_in; decide) dX12_becomes_35 ?_
      refine sk_top (rf 2) (rfl) ?_
      refine lv_iconst (v := 1) hx hb dX12_becomes_36 (by decide) ?_
      refine lv_iadd hx hb dX12_becomes_37 ?_
      refine sk_iastE (k := 2) (ws' := fun f_20 => [(mm, .inr (12, mo g (nI ta) (nI pa) (nI pe) pd (nI pb) pp pf pg pn rt rn (nI cd) sn (nI il) tk am at_ aa 0 0 (-1) wt wy 0 (nI rm) (nI ud) (nI nu) sd (nI qn) (nI qw) qo (nI qb) (nI qp) qa (nI qi) (nI oc))), (g 20, .inl (cI, 4, .inl (l4 (nI l0) (nI l1) (nI dm) (nI l3)))), (g 31, .inl (cI, 120, .inl nw)), (g 54, .inl (cI, 2400, .inl kp)), (g 9, .inl (cI, 6, .inl f_20))]) hx hb hK hP hD hS 4 0 rfl rfl (by omega) (by omega) (fun _ => rfl) dX12_becomes_38 (fun f_20 H locs ef_21 hP hD hS => ?_)
      refine lv_iconst (v := 0) hx hb dX12_becomes_39 (by decide) ?_
      exact sk_iret hx hb hr rfl hlocks hK hP hD hS (⟨Ba, We, U, su, nw, kp, 0, nu, ud, f_20, hnw, hkp, by omega, by omega, (by decide), set_4 (j := 0) (n := (wn, mN, Ba, We, U, ke)) hdm hkd_9 hov (by decide) rfl c_11 ef_21, rfl, rfl⟩) (Nat.le_of_ble_eq_true rfl) (Nat.le_of_ble_eq_true rfl) dX12_becomes_40
