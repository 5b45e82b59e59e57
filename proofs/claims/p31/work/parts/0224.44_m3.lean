theorem dg_X12_canFollow_0_0 : bqL cX12_canFollow 0 [(0, [16, 100]), (2, [27]), (3, [104]), (4, [16, 10]), (6, [28]), (7, [104]), (8, [96]), (9, [29]), (10, [96]), (11, [54, 4]), (13, [42]), (14, [27]), (15, [182, 1, 115]), (18, [153, 0, 16]), (34, [42]), (35, [180, 0, 69]), (38, [21, 4]), (40, [51]), (41, [153, 0, 16]), (57, [3]), (58, [172]), (44, [42]), (45, [27]), (46, [29]), (47, [182, 1, 118]), (50, [153, 0, 7]), (53, [4]), (54, [167, 0, 4]), (21, [42]), (22, [180, 0, 73]), (25, [21, 4]), (27, [51]), (28, [153, 0, 29]), (31, [167, 0, 13])] = true := by decide +kernel
theorem dX12_canFollow_0 : decode cX12_canFollow 0 = .ok (.bipush 100, 2) := q_bipush (bat_get dg_X12_canFollow_0_0 0 rfl rfl) rfl
theorem dX12_canFollow_2 : decode cX12_canFollow 2 = .ok (.iload_n 1, 1) := q_iload_n1 (bat_get dg_X12_canFollow_0_0 1 rfl rfl)
theorem dX12_canFollow_3 : decode cX12_canFollow 3 = .ok (.imul, 1) := q_imul (bat_get dg_X12_canFollow_0_0 2 rfl rfl)
theorem dX12_canFollow_4 : decode cX12_canFollow 4 = .ok (.bipush 10, 2) := q_bipush (bat_get dg_X12_canFollow_0_0 3 rfl rfl) rfl
theorem dX12_canFollow_6 : decode cX12_canFollow 6 = .ok (.iload_n 2, 1) := q_iload_n2 (bat_get dg_X12_canFollow_0_0 4 rfl rfl)
theorem dX12_canFollow_7 : decode cX12_canFollow 7 = .ok (.imul, 1) := q_imul (bat_get dg_X12_canFollow_0_0 5 rfl rfl)
theorem dX12_canFollow_8 : decode cX12_canFollow 8 = .ok (.iadd, 1) := q_iadd (bat_get dg_X12_canFollow_0_0 6 rfl rfl)
theorem dX12_canFollow_9 : decode cX12_canFollow 9 = .ok (.iload_n 3, 1) := q_iload_n3 (bat_get dg_X12_canFollow_0_0 7 rfl rfl)
theorem dX12_canFollow_10 : decode cX12_canFollow 10 = .ok (.iadd, 1) := q_iadd (bat_get dg_X12_canFollow_0_0 8 rfl rfl)
theorem dX12_canFollow_11 : decode cX12_canFollow 11 = .ok (.istore 4, 2) := q_istore (bat_get dg_X12_canFollow_0_0 9 rfl rfl)
theorem dX12_canFollow_13 : decode cX12_canFollow 13 = .ok (.aload_n 0, 1) := q_aload_n0 (bat_get dg_X12_canFollow_0_0 10 rfl rfl)
theorem dX12_canFollow_14 : decode cX12_canFollow 14 = .ok (.iload_n 1, 1) := q_iload_n1 (bat_get dg_X12_canFollow_0_0 11 rfl rfl)
theorem dX12_canFollow_15 : decode cX12_canFollow 15 = .ok (.invokevirtual 371, 3) := q_invokevirtual (bat_get dg_X12_canFollow_0_0 12 rfl rfl) rfl
theorem dX12_canFollow_18 : decode cX12_canFollow 18 = .ok (.ifCond .eq 16, 3) := q_ifCond_eq (bat_get dg_X12_canFollow_0_0 13 rfl rfl) rfl
theorem dX12_canFollow_34 : decode cX12_canFollow 34 = .ok (.aload_n 0, 1) := q_aload_n0 (bat_get dg_X12_canFollow_0_0 14 rfl rfl)
theorem dX12_canFollow_35 : decode cX12_canFollow 35 = .ok (.getfield 69, 3) := q_getfield (bat_get dg_X12_canFollow_0_0 15 rfl rfl) rfl
theorem dX12_canFollow_38 : decode cX12_canFollow 38 = .ok (.iload 4, 2) := q_iload (bat_get dg_X12_canFollow_0_0 16 rfl rfl)
theorem dX12_canFollow_40 : decode cX12_canFollow 40 = .ok (.baload, 1) := q_baload (bat_get dg_X12_canFollow_0_0 17 rfl rfl)
theorem dX12_canFollow_41 : decode cX12_canFollow 41 = .ok (.ifCond .eq 16, 3) := q_ifCond_eq (bat_get dg_X12_canFollow_0_0 18 rfl rfl) rfl
theorem dX12_canFollow_57 : decode cX12_canFollow 57 = .ok (.iconst 0, 1) := q_iconst0 (bat_get dg_X12_canFollow_0_0 19 rfl rfl)
theorem dX12_canFollow_58 : decode cX12_canFollow 58 = .ok (.ireturn, 1) := q_ireturn (bat_get dg_X12_canFollow_0_0 20 rfl rfl)
theorem dX12_canFollow_44 : decode cX12_canFollow 44 = .ok (.aload_n 0, 1) := q_aload_n0 (bat_get dg_X12_canFollow_0_0 21 rfl rfl)
theorem dX12_canFollow_45 : decode cX12_canFollow 45 = .ok (.iload_n 1, 1) := q_iload_n1 (bat_get dg_X12_canFollow_0_0 22 rfl rfl)
theorem dX12_canFollow_46 : decode cX12_canFollow 46 = .ok (.iload_n 3, 1) := q_iload_n3 (bat_get dg_X12_canFollow_0_0 23 rfl rfl)
theorem dX12_canFollow_47 : decode cX12_canFollow 47 = .ok (.invokevirtual 374, 3) := q_invokevirtual (bat_get dg_X12_canFollow_0_0 24 rfl rfl) rfl
theorem dX12_canFollow_50 : decode cX12_canFollow 50 = .ok (.ifCond .eq 7, 3) := q_ifCond_eq (bat_get dg_X12_canFollow_0_0 25 rfl rfl) rfl
theorem dX12_canFollow_53 : decode cX12_canFollow 53 = .ok (.iconst 1, 1) := q_iconst1 (bat_get dg_X12_canFollow_0_0 26 rfl rfl)
theorem dX12_canFollow_54 : decode cX12_canFollow 54 = .ok (.goto 4, 3) := q_goto (bat_get dg_X12_canFollow_0_0 27 rfl rfl) rfl
theorem dX12_canFollow_21 : decode cX12_canFollow 21 = .ok (.aload_n 0, 1) := q_aload_n0 (bat_get dg_X12_canFollow_0_0 28 rfl rfl)
theorem dX12_canFollow_22 : decode cX12_canFollow 22 = .ok (.getfield 73, 3) := q_getfield (bat_get dg_X12_canFollow_0_0 29 rfl rfl) rfl
theorem dX12_canFollow_25 : decode cX12_canFollow 25 = .ok (.iload 4, 2) := q_iload (bat_get dg_X12_canFollow_0_0 30 rfl rfl)
theorem dX12_canFollow_27 : decode cX12_canFollow 27 = .ok (.baload, 1) := q_baload (bat_get dg_X12_canFollow_0_0 31 rfl rfl)
theorem dX12_canFollow_28 : decode cX12_canFollow 28 = .ok (.ifCond .eq 29, 3) := q_ifCond_eq (bat_get dg_X12_canFollow_0_0 32 rfl rfl) rfl
theorem dX12_canFollow_31 : decode cX12_canFollow 31 = .ok (.goto 13, 3) := q_goto (bat_get dg_X12_canFollow_0_0 33 rfl rfl) rfl
theorem w_7_205 : (Cond.methodLink RX12 371 yX12_isMuteNow) ∈ wsL_law := sk_mem (ck_7 _ (List.mem_of_getElem? (i := 205) rfl)) rfl
theorem w_7_207 : (Cond.instanceMethod yX12_isMuteNow) ∈ wsL_law := sk_mem (ck_7 _ (List.mem_of_getElem? (i := 207) rfl)) rfl
theorem w_0_86 : (Cond.selects RX12 yX12_isMuteNow yX12_isMuteNow) ∈ wsL_law := sk_mem (ck_0 _ (List.mem_of_getElem? (i := 86) rfl)) rfl
theorem w_7_209 : (Cond.methodLink RX12 374 yX12_isLeft) ∈ wsL_law := sk_mem (ck_7 _ (List.mem_of_getElem? (i := 209) rfl)) rfl
theorem w_7_211 : (Cond.instanceMethod yX12_isLeft) ∈ wsL_law := sk_mem (ck_7 _ (List.mem_of_getElem? (i := 211) rfl)) rfl
theorem w_0_87 : (Cond.selects RX12 yX12_isLeft yX12_isLeft) ∈ wsL_law := sk_mem (ck_0 _ (List.mem_of_getElem? (i := 87) rfl)) rfl
theorem w_7_204 : (Cond.code yX12_canFollow cX12_canFollow 5 (some .boolean)) ∈ wsL_law := sk_mem (ck_7 _ (List.mem_of_getElem? (i := 204) rfl)) rfl
def om_6_30 : List Bool := true :: true :: false :: false :: false :: false :: []
theorem hd_X12_isMuteNow_1 : skD yX12_isMuteNow 1 := by decide +kernel
theorem hd_X12_isLeft_2 : skD yX12_isLeft 2 := by decide +kernel
set_option maxHeartbeats 4000000 in
set_option maxRecDepth 100000 in
theorem c_m_canFollowS (l : Launch) (D : va_G) (cI cJ cC cZ cS : ClassId) (mm : Nat) (g : Nat → Nat) (ta : Nat) (pa : Nat) (pe : Nat) (pd : Int32) (pb : Nat) (pp : Int32) (pf : Int32) (pg : Int32) (pn : Int32) (rt : Int32) (rn : Int32) (cd : Nat) (sn : Int32) (il : Nat) (tk : Int32) (am : Int32) (at_ : Int32) (aa : Int32) (mt_ : Int32) (bh : Nat) (wd : Int32) (wt : Int32) (wy : Int64) (it_ : Nat) (rm : Nat) (ud : Nat) (nu : Nat) (sd : Int64) (qn : Nat) (qw : Nat) (qo : Int32) (qb : Nat) (qp : Nat) (qa : Int64) (qi : Nat) (oc : Nat) (d : Nat) (aa_ : Nat) (o : Nat) (nw : Nat → Int32) (ws_ : Nat → Int32) (rw_ : Nat → Int32) (yo : Nat → Int32) (yw : Nat → Int32) (hd : d < 9) (ho : o < 10) (ha_ : aa_ < 10) (hrm : rm ≤ 16) (hbh : bh ≤ 1) (hnw : nowOk nw) : skM l yX12_canFollow cX12_canFollow 5 (some .boolean) 2 44 0 0 D (skT cI cJ cC cZ cS) [.ref mm, .int (nI d), .int (nI aa_), .int (nI o)] [(mm, .inr (12, mo g (nI ta) (nI pa) (nI pe) pd (nI pb) pp pf pg pn rt rn (nI cd) sn (nI il) tk am at_ aa mt_ (nI bh) wd wt wy (nI it_) (nI rm) (nI ud) (nI nu) sd (nI qn) (nI qw) qo (nI qb) (nI qp) qa (nI qi) (nI oc))), (g 31, .inl (cI, 120, .inl nw)), (g 38, .inl (cI, 90, .inl ws_)), (g 53, .inl (cI, 32, .inl rw_)), (g 37, .inl (cZ, 900, .inl yo)), (g 36, .inl (cZ, 900, .inl yw))] (skI D (skT cI cJ cC cZ cS) (fun (r : Int32) (u : va_W) => ∃ (b : Nat), b ≤ 1 ∧ r = nI b ∧ u = [(mm, .inr (12, mo g (nI ta) (nI pa) (nI pe) pd (nI pb) pp pf pg pn rt rn (nI cd) sn (nI il) tk am at_ aa mt_ (nI bh) wd wt wy (nI it_) (nI rm) (nI ud) (nI nu) sd (nI qn) (nI qw) qo (nI qb) (nI qp) qa (nI qi) (nI oc))), (g 31, .inl (cI, 120, .inl nw)), (g 38, .inl (cI, 90, .inl ws_)), (g 53, .inl (cI, 32, .inl rw_)), (g 37, .inl (cZ, 900, .inl yo)), (g 36, .inl (cZ, 900, .inl yw))])) := by
  refine skM_of pf_X12_canFollow (Nat.le_of_ble_eq_true rfl) ?_
  intro p e s m below meth c A ls E hP hD hl
  refine skE_el E (fun hx hb hr hml hlocks hin hown hts hK hA => ?_)
  have hown : s.vm.findClass RX12 = some m.cls := hown
  have hS : va_S A s.heap s.heap [] := va_S.rf
  have hl : lv_has ls 5 [(0, .ref mm), (1, .int (nI d)), (2, .int (nI aa_)), (3, .int (nI o))] := hl
  refine lv_bipush (v := 100) hx hb dX12_canFollow_0 (by decide) ?_
  refine lv_iload_n hx hb dX12_canFollow_2 rfl (lv_at hl 1 rfl) ?_
  refine lv_imul hx hb dX12_canFollow_3 ?_
  refine sk_top (nI (100 * d)) (nmul 100 d) ?_
  refine lv_bipush (v := 10) hx hb dX12_canFollow_4 (by decide) ?_
  refine lv_iload_n hx hb dX12_canFollow_6 rfl (lv_at hl 2 rfl) ?_
  refine lv_imul hx hb dX12_canFollow_7 ?_
  refine sk_top (nI (10 * aa_)) (nmul 10 aa_) ?_
  refine lv_iadd hx hb dX12_canFollow_8 ?_
  refine sk_top (nI (100 * d + (10 * aa_))) (nI_add (100 * d) (10 * aa_)) ?_
  refine lv_iload_n hx hb dX12_canFollow_9 rfl (lv_at hl 3 rfl) ?_
  refine lv_iadd hx hb dX12_canFollow_10 ?_
  refine sk_top (nI (100 * d + (10 * aa_) + o)) (nI_add (100 * d + (10 * aa_)) o) ?_
  refine lv_istore (lv' := [(4, .int (nI (100 * d + (10 * aa_) + o))), (0, .ref mm), (1, .int (nI d)), (2, .int (nI aa_)), (3, .int (nI o))]) hx hb dX12_canFollow_11 hl (by decide) rfl (fun ls hl => ?_)
  refine lv_aload_n hx hb dX12_canFollow_13 rfl (lv_at hl 1 rfl) ?_
  refine lv_iload_n hx hb dX12_canFollow_14 rfl (lv_at hl 2 rfl) ?_
  refine sk_Vi (q0 := 0) (n := 1) (rest := []) (wr := fmR om_6_30 _) ⟨hx, hb, hml, hown, hts⟩ hl.1 (c_m_isMuteNow l D cI cJ cC cZ cS mm g ta pa pe pd pb pp pf pg pn rt rn cd sn il tk am at_ aa mt_ bh wd wt wy it_ rm ud nu sd qn qw qo qb qp qa qi oc d nw (by omega) hnw) w_7_205 w_7_207 w_0_86 w_1_14 w_7_208 hd_X12_isMuteNow_1 ⟨⟨(Nat.le_of_ble_eq_true rfl), (Nat.le_of_ble_eq_true rfl)⟩, (Nat.le_of_ble_eq_true rfl), (Nat.le_of_ble_eq_true rfl)⟩ hK hP hD hS hA (fmT om_6_30 0) (fmF om_6_30 0) (fm_C1 rfl rfl) (fm_R rfl rfl) (fm_nT om_6_30 0) (fm_nF om_6_30 0) (fm_di om_6_30 0) rfl rfl rfl rfl (Nat.le_of_ble_eq_true rfl) dX12_canFollow_15 (fun r_2 u H locs hw hP hD hS => ?_)
  refine exE hw (fun b_1 hw1 => anE hw1 (fun hb1_3 hw2 => anE hw2 (fun hb2_4 hw3 => anE hw3 (fun er_6 eu_5 => ?_))))
  clear hw hw1 hw2 hw3
  subst er_6
  refine o_mgE (ws' := [(mm, .inr (12, mo g (nI ta) (nI pa) (nI pe) pd (nI pb) pp pf pg pn rt rn (nI cd) sn (nI il) tk am at_ aa mt_ (nI bh) wd wt wy (nI it_) (nI rm) (nI ud) (nI nu) sd (nI qn) (nI qw) qo (nI qb) (nI qp) qa (nI qi) (nI oc))), (g 31, .inl (cI, 120, .inl nw)), (g 38, .inl (cI, 90, .inl ws_)), (g 53, .inl (cI, 32, .inl rw_)), (g 37, .inl (cZ, 900, .inl yo)), (g 36, .inl (cZ, 900, .inl yw))]) eu_5 hP hD rfl (fun hP hD => ?_)
  refine lv_if_eq (tgt := 34) hx hb dX12_canFollow_18 (by decide) (fun c_7 => ?_) (fun c_7 => ?_)
  · have c_7 : b_1 = 0 := (neq b_1 0 (by omega) (by omega)).mp c_7
    refine lv_aload_n hx hb dX12_canFollow_34 rfl (lv_at hl 1 rfl) ?_
    refine sk_get (v := .ref (g 36)) (C := RX12) (T := TX12) (N := 92) hx hb hts inlX12 hown hK hP 0 rfl rfl 36 (by decide) w_5_191 rfl dX12_canFollow_35 ?_
    refine lv_iload hx hb dX12_canFollow_38 (lv_at hl 0 rfl) ?_
    refine va_zald hx hb hK.1 hP 5 3 rfl rfl (vin (100 * d + (10 * aa_) + o) 900 (by omega) (by omega)) dX12_canFollow_40 ?_
    refine lv_topi (fun v_8 ev_8 => ?_)
    refine lv_if_eq (tgt := 57) hx hb dX12_canFollow_41 (by decide) (fun c_9 => ?_) (fun c_9 => ?_)
    · skip
      refine lv_iconst (v := 0) hx hb dX12_canFollow_57 (by decide) ?_
      exact sk_iret hx hb hr rfl hlocks hK hP hD hS (⟨0, by omega, rfl, rfl⟩) (Nat.le_of_ble_eq_true rfl) (Nat.le_of_ble_eq_true rfl) dX12_canFollow_58
    · skip
      refine lv_aload_n hx hb dX12_canFollow_44 rfl (lv_at hl 1 rfl) ?_
      refine lv_iload_n hx hb dX12_canFollow_45 rfl (lv_at hl 2 rfl) ?_
      refine lv_iload_n hx hb dX12_canFollow_46 rfl (lv_at hl 4 rfl) ?_
      refine sk_Vi (q0 := 0) (n := 2) (rest := []) (wr := fmR om_6_3c _) ⟨hx, hb, hml, hown, hts⟩ hl.1 (c_m_isLeft l D cI cJ cC cZ cS mm g ta pa pe pd pb pp pf pg pn rt rn cd sn il tk am at_ aa mt_ bh wd wt wy it_ rm ud nu sd qn qw qo qb qp qa qi oc d o nw ws_ rw_ (by omega) (by omega) (by omega) (by omega) hnw) w_7_209 w_7_211 w_0_87 w_1_14 w_7_212 hd_X12_isLeft_2 ⟨⟨(Nat.le_of_ble_eq_true rfl), (Nat.le_of_ble_eq_true rfl)⟩, (Nat.le_of_ble_eq_true rfl), (Nat.le_of_ble_eq_true rfl)⟩ hK hP hD hS hA (fmT om_6_3c 0) (fmF om_6_3c 0) (fm_C1 rfl rfl) (fm_R rfl rfl) (fm_nT om_6_3c 0) (fm_nF om_6_3c 0) (fm_di om_6_3c 0) rfl rfl rfl rfl (Nat.le_of_ble_eq_true rfl) dX12_canFollow_47 (fun r_11 u H locs hw hP hD hS => ?_)
      refine exE hw (fun b_10 hw1 => anE hw1 (fun hb1_12 hw2 => anE hw2 (fun er_14 eu_13 => ?_)))
      clear hw hw1 hw2
      subst er_14
      refine o_mgE (ws' := [(mm, .inr (12, mo g (nI ta) (nI pa) (nI pe) pd (nI pb) pp pf pg pn rt rn (nI cd) sn (nI il) tk am at_ aa mt_ (nI bh) wd wt wy (nI it_) (nI rm) (nI ud) (nI nu) sd (nI qn) (nI qw) qo (nI qb) (nI qp) qa (nI qi) (nI oc))), (g 31, .inl (cI, 120, .inl nw)), (g 38, .inl (cI, 90, .inl ws_)), (g 53, .inl (cI, 32, .inl rw_)), (g 37, .inl (cZ, 900, .inl yo)), (g 36, .inl (cZ, 900, .inl yw))]) eu_13 hP hD rfl (fun hP hD => ?_)
      refine lv_if_eq (tgt := 57) hx hb dX12_canFollow_50 (by decide) (fun c_15 => ?_) (fun c_15 => ?_)
      · have c_15 : b_10 = 0 := (neq b_10 0 (by omega) (by omega)).mp c_15
        refine lv_iconst (v := 0) hx hb dX12_canFollow_57 (by decide) ?_
        exact sk_iret hx hb hr rfl hlocks hK hP hD hS (⟨0, by omega, rfl, rfl⟩) (Nat.le_of_ble_eq_true rfl) (Nat.le_of_ble_eq_true rfl) dX12_canFollow_58
      · have c_15 : ¬ (b_10 = 0) := fun h => c_15 ((neq b_10 0 (by omega) (by omega)).mpr h)
        refine lv_iconst (v := 1) hx hb dX12_canFollow_53 (by decide) ?_
        refine lv_goto (tgt := 58) hx hb dX12_canFollow_54 (by decide) ?_
        exact sk_iret hx hb hr rfl hlocks hK hP hD hS (⟨1, by omega, rfl, rfl⟩) (Nat.le_of_ble_eq_true rfl) (Nat.le_of_ble_eq_true rfl) dX12_canFollow_58
  · have c_7 : ¬ (b_1 = 0) := fun h => c_7 ((neq b_1 0 (by omega) (by omega)).mpr h)
    refine lv_aload_n hx hb dX12_canFollow_21 rfl (lv_at hl 1 rfl) ?_
    refine sk_get (v := .ref (g 37)) (C := RX12) (T := TX12) (N := 92) hx hb hts inlX12 hown hK hP 0 rfl rfl 37 (by decide) w_5_192 rfl dX12_canFollow_22 ?_
    refine lv_iload hx hb dX12_canFollow_25 (lv_at hl 0 rfl) ?_
    refine va_zald hx hb hK.1 hP 4 3 rfl rfl (vin (100 * d + (10 * aa_) + o) 900 (by omega) (by omega)) dX12_canFollow_27 ?_
    refine lv_topi (fun v_16 ev_16 => ?_)
    refine lv_if_eq (tgt := 57) hx hb dX12_canFollow_28 (by decide) (fun c_17 => ?_) (fun c_17 => ?_)
    · skip
      refine lv_iconst (v := 0) hx hb dX12_canFollow_57 (by decide) ?_
      exact sk_iret hx hb hr rfl hlocks hK hP hD hS (⟨0, by omega, rfl, rfl⟩) (Nat.le_of_ble_eq_true rfl) (Nat.le_of_ble_eq_true rfl) dX12_canFollow_58
    · skip
      refine lv_goto (tgt := 44) hx hb dX12_canFollow_31 (by decide) ?_
      refine lv_aload_n hx hb dX12_canFollow_44 rfl (lv_at hl 1 rfl) ?_
      refine lv_iload_n hx hb dX12_canFollow_45 rfl (lv_at hl 2 rfl) ?_
      refine lv_iload_n hx hb dX12_canFollow_46 rfl (lv_at hl 4 rfl) ?_
      refine sk_Vi (q0 := 0) (n := 2) (rest := []) (wr := fmR om_6_3c _) ⟨hx, hb, hml, hown, hts⟩ hl.1 (c_m_isLeft l D cI cJ cC cZ cS mm g ta pa pe pd pb pp pf pg pn rt rn cd sn il tk am at_ aa mt_ bh wd wt wy it_ rm ud nu sd qn qw qo qb qp qa qi oc d o nw ws_ rw_ (by omega) (by omega) (by omega) (by omega) hnw) w_7_209 w_7_211 w_0_87 w_1_14 w_7_212 hd_X12_isLeft_2 ⟨⟨(Nat.le_of_ble_eq_true rfl), (Nat.le_of_ble_eq_true rfl)⟩, (Nat.le_of_ble_eq_true rfl), (Nat.le_of_ble_eq_true rfl)⟩ hK hP hD hS hA (fmT om_6_3c 0) (fmF om_6_3c 0) (fm_C1 rfl rfl) (fm_R rfl rfl) (fm_nT om_6_3c 0) (fm_nF om_6_3c 0) (fm_di om_6_3c 0) rfl rfl rfl rfl (Nat.le_of_ble_eq_true rfl) dX12_canFollow_47 (fun r_19 u H locs hw hP hD hS => ?_)
      refine exE hw (fun b_18 hw1 => anE hw1 (fun hb1_20 hw2 => anE hw2 (fun er_22 eu_21 => ?_)))
      clear hw hw1 hw2
      subst er_22
      refine o_mgE (ws' := [(mm, .inr (12, mo g (nI ta) (nI pa) (nI pe) pd (nI pb) pp pf pg pn rt rn (nI cd) sn (nI il) tk am at_ aa mt_ (nI bh) wd wt wy (nI it_) (nI rm) (nI ud) (nI nu) sd (nI qn) (nI qw) qo (nI qb) (nI qp) qa (nI qi) (nI oc))), (g 31, .inl (cI, 120, .inl nw)), (g 38, .inl (cI, 90, .inl ws_)), (g 53, .inl (cI, 32, .inl rw_)), (g 37, .inl (cZ, 900, .inl yo)), (g 36, .inl (cZ, 900, .inl yw))]) eu_21 hP hD rfl (fun hP hD => ?_)
      refine lv_if_eq (tgt := 57) hx hb dX12_canFollow_50 (by decide) (fun c_23 => ?_) (fun c_23 => ?_)
      · have c_23 : b_18 = 0 := (neq b_18 0 (by omega) (by omega)).mp c_23
        refine lv_iconst (v := 0) hx hb dX12_canFollow_57 (by decide) ?_
        exact sk_iret hx hb hr rfl hlocks hK hP hD hS (⟨0, by omega, rfl, rfl⟩) (Nat.le_of_ble_eq_true rfl) (Nat.le_of_ble_eq_true rfl) dX12_canFollow_58
      · have c_23 : ¬ (b_18 = 0) := fun h => c_23 ((neq b_18 0 (by omega) (by omega)).mpr h)
        refine lv_iconst (v := 1) hx hb dX12_canFollow_53 (by decide) ?_
        refine lv_goto (tgt := 58) hx hb dX12_canFollow_54 (by decide) ?_
        exact sk_iret hx hb hr rfl hlocks hK hP hD hS (⟨1, by omega, rfl, rfl⟩) (Nat.le_of_ble_eq_true rfl) (Nat.le_of_ble_eq_true rfl) dX12_canFollow_58
