theorem dg_X12_later_0_0 : bqL cX12_later 0 [(0, [42]), (1, [27]), (2, [3]), (3, [16, 30]), (5, [182, 1, 170]), (8, [154, 0, 5]), (13, [42]), (14, [182, 1, 173]), (17, [4]), (18, [61]), (19, [3]), (20, [62]), (21, [29]), (22, [27]), (23, [162, 0, 18]), (41, [42]), (42, [180, 0, 63]), (45, [4]), (46, [46]), (47, [62]), (48, [42]), (49, [182, 1, 180]), (52, [28]), (53, [153, 0, 7]), (60, [2]), (61, [172]), (56, [29]), (57, [167, 0, 4]), (26, [28]), (27, [153, 0, 14]), (30, [42]), (31, [182, 1, 176]), (34, [61]), (35, [132, 3, 1]), (38, [167, 255, 239]), (11, [2]), (12, [172])] = true := by decide +kernel
theorem dX12_later_0 : decode cX12_later 0 = .ok (.aload_n 0, 1) := q_aload_n0 (bat_get dg_X12_later_0_0 0 rfl rfl)
theorem dX12_later_1 : decode cX12_later 1 = .ok (.iload_n 1, 1) := q_iload_n1 (bat_get dg_X12_later_0_0 1 rfl rfl)
theorem dX12_later_2 : decode cX12_later 2 = .ok (.iconst 0, 1) := q_iconst0 (bat_get dg_X12_later_0_0 2 rfl rfl)
theorem dX12_later_3 : decode cX12_later 3 = .ok (.bipush 30, 2) := q_bipush (bat_get dg_X12_later_0_0 3 rfl rfl) rfl
theorem dX12_later_5 : decode cX12_later 5 = .ok (.invokevirtual 426, 3) := q_invokevirtual (bat_get dg_X12_later_0_0 4 rfl rfl) rfl
theorem dX12_later_8 : decode cX12_later 8 = .ok (.ifCond .ne 5, 3) := q_ifCond_ne (bat_get dg_X12_later_0_0 5 rfl rfl) rfl
theorem dX12_later_13 : decode cX12_later 13 = .ok (.aload_n 0, 1) := q_aload_n0 (bat_get dg_X12_later_0_0 6 rfl rfl)
theorem dX12_later_14 : decode cX12_later 14 = .ok (.invokevirtual 429, 3) := q_invokevirtual (bat_get dg_X12_later_0_0 7 rfl rfl) rfl
theorem dX12_later_17 : decode cX12_later 17 = .ok (.iconst 1, 1) := q_iconst1 (bat_get dg_X12_later_0_0 8 rfl rfl)
theorem dX12_later_18 : decode cX12_later 18 = .ok (.istore_n 2, 1) := q_istore_n2 (bat_get dg_X12_later_0_0 9 rfl rfl)
theorem dX12_later_19 : decode cX12_later 19 = .ok (.iconst 0, 1) := q_iconst0 (bat_get dg_X12_later_0_0 10 rfl rfl)
theorem dX12_later_20 : decode cX12_later 20 = .ok (.istore_n 3, 1) := q_istore_n3 (bat_get dg_X12_later_0_0 11 rfl rfl)
theorem dX12_later_21 : decode cX12_later 21 = .ok (.iload_n 3, 1) := q_iload_n3 (bat_get dg_X12_later_0_0 12 rfl rfl)
theorem dX12_later_22 : decode cX12_later 22 = .ok (.iload_n 1, 1) := q_iload_n1 (bat_get dg_X12_later_0_0 13 rfl rfl)
theorem dX12_later_23 : decode cX12_later 23 = .ok (.if_icmp .ge 18, 3) := q_if_icmp_ge (bat_get dg_X12_later_0_0 14 rfl rfl) rfl
theorem dX12_later_41 : decode cX12_later 41 = .ok (.aload_n 0, 1) := q_aload_n0 (bat_get dg_X12_later_0_0 15 rfl rfl)
theorem dX12_later_42 : decode cX12_later 42 = .ok (.getfield 63, 3) := q_getfield (bat_get dg_X12_later_0_0 16 rfl rfl) rfl
theorem dX12_later_45 : decode cX12_later 45 = .ok (.iconst 1, 1) := q_iconst1 (bat_get dg_X12_later_0_0 17 rfl rfl)
theorem dX12_later_46 : decode cX12_later 46 = .ok (.iaload, 1) := q_iaload (bat_get dg_X12_later_0_0 18 rfl rfl)
theorem dX12_later_47 : decode cX12_later 47 = .ok (.istore_n 3, 1) := q_istore_n3 (bat_get dg_X12_later_0_0 19 rfl rfl)
theorem dX12_later_48 : decode cX12_later 48 = .ok (.aload_n 0, 1) := q_aload_n0 (bat_get dg_X12_later_0_0 20 rfl rfl)
theorem dX12_later_49 : decode cX12_later 49 = .ok (.invokevirtual 436, 3) := q_invokevirtual (bat_get dg_X12_later_0_0 21 rfl rfl) rfl
theorem dX12_later_52 : decode cX12_later 52 = .ok (.iload_n 2, 1) := q_iload_n2 (bat_get dg_X12_later_0_0 22 rfl rfl)
theorem dX12_later_53 : decode cX12_later 53 = .ok (.ifCond .eq 7, 3) := q_ifCond_eq (bat_get dg_X12_later_0_0 23 rfl rfl) rfl
theorem dX12_later_60 : decode cX12_later 60 = .ok (.iconst (-1), 1) := q_iconstm1 (bat_get dg_X12_later_0_0 24 rfl rfl)
theorem dX12_later_61 : decode cX12_later 61 = .ok (.ireturn, 1) := q_ireturn (bat_get dg_X12_later_0_0 25 rfl rfl)
theorem dX12_later_56 : decode cX12_later 56 = .ok (.iload_n 3, 1) := q_iload_n3 (bat_get dg_X12_later_0_0 26 rfl rfl)
theorem dX12_later_57 : decode cX12_later 57 = .ok (.goto 4, 3) := q_goto (bat_get dg_X12_later_0_0 27 rfl rfl) rfl
theorem dX12_later_26 : decode cX12_later 26 = .ok (.iload_n 2, 1) := q_iload_n2 (bat_get dg_X12_later_0_0 28 rfl rfl)
theorem dX12_later_27 : decode cX12_later 27 = .ok (.ifCond .eq 14, 3) := q_ifCond_eq (bat_get dg_X12_later_0_0 29 rfl rfl) rfl
theorem dX12_later_30 : decode cX12_later 30 = .ok (.aload_n 0, 1) := q_aload_n0 (bat_get dg_X12_later_0_0 30 rfl rfl)
theorem dX12_later_31 : decode cX12_later 31 = .ok (.invokevirtual 432, 3) := q_invokevirtual (bat_get dg_X12_later_0_0 31 rfl rfl) rfl
theorem dX12_later_34 : decode cX12_later 34 = .ok (.istore_n 2, 1) := q_istore_n2 (bat_get dg_X12_later_0_0 32 rfl rfl)
theorem dX12_later_35 : decode cX12_later 35 = .ok (.iinc 3 1, 3) := q_iinc (bat_get dg_X12_later_0_0 33 rfl rfl) rfl
theorem dX12_later_38 : decode cX12_later 38 = .ok (.goto (-17), 3) := q_goto (bat_get dg_X12_later_0_0 34 rfl rfl) rfl
theorem dX12_later_11 : decode cX12_later 11 = .ok (.iconst (-1), 1) := q_iconstm1 (bat_get dg_X12_later_0_0 35 rfl rfl)
theorem dX12_later_12 : decode cX12_later 12 = .ok (.ireturn, 1) := q_ireturn (bat_get dg_X12_later_0_0 36 rfl rfl)
theorem w_8_9 : (Cond.methodLink RX12 429 yX12_putsAside) ∈ wsL_law := sk_mem (ck_8 _ (List.mem_of_getElem? (i := 9) rfl)) rfl
theorem w_8_11 : (Cond.instanceMethod yX12_putsAside) ∈ wsL_law := sk_mem (ck_8 _ (List.mem_of_getElem? (i := 11) rfl)) rfl
theorem w_0_91 : (Cond.selects RX12 yX12_putsAside yX12_putsAside) ∈ wsL_law := sk_mem (ck_0 _ (List.mem_of_getElem? (i := 91) rfl)) rfl
theorem w_8_25 : (Cond.methodLink RX12 436 yX12_takesBack) ∈ wsL_law := sk_mem (ck_8 _ (List.mem_of_getElem? (i := 25) rfl)) rfl
theorem w_8_27 : (Cond.instanceMethod yX12_takesBack) ∈ wsL_law := sk_mem (ck_8 _ (List.mem_of_getElem? (i := 27) rfl)) rfl
theorem w_0_95 : (Cond.selects RX12 yX12_takesBack yX12_takesBack) ∈ wsL_law := sk_mem (ck_0 _ (List.mem_of_getElem? (i := 95) rfl)) rfl
theorem w_8_13 : (Cond.methodLink RX12 432 yX12_doGo) ∈ wsL_law := sk_mem (ck_8 _ (List.mem_of_getElem? (i := 13) rfl)) rfl
theorem w_8_15 : (Cond.instanceMethod yX12_doGo) ∈ wsL_law := sk_mem (ck_8 _ (List.mem_of_getElem? (i := 15) rfl)) rfl
theorem w_0_92 : (Cond.selects RX12 yX12_doGo yX12_doGo) ∈ wsL_law := sk_mem (ck_0 _ (List.mem_of_getElem? (i := 92) rfl)) rfl
theorem w_8_4 : (Cond.code yX12_later cX12_later 4 (some .int)) ∈ wsL_law := sk_mem (ck_8 _ (List.mem_of_getElem? (i := 4) rfl)) rfl
def om_14_2200 : List Bool := true :: false :: false :: false :: true :: false :: false :: false :: false :: false :: false :: false :: false :: false :: []
def om_14_2201 : List Bool := true :: false :: false :: false :: true :: false :: false :: false :: false :: false :: false :: false :: false :: true :: []
theorem hd_X12_putsAside_0 : skD yX12_putsAside 0 := by decide +kernel
theorem hd_X12_takesBack_0 : skD yX12_takesBack 0 := by decide +kernel
theorem hd_X12_doGo_0 : skD yX12_doGo 0 := by decide +kernel
set_option maxHeartbeats 4000000 in
set_option maxRecDepth 100000 in
theorem c_nm_later (l : Launch) (D : va_G) (cI cJ cC cZ cS : ClassId) (mm : Nat) (g : Nat → Nat) (ta : Nat) (pa : Nat) (pe : Nat) (pd : Int32) (pb : Nat) (pp : Int32) (pf : Int32) (pg : Int32) (pn : Int32) (rt : Int32) (rn : Int32) (cd : Nat) (sn : Int32) (il : Nat) (tk : Int32) (am : Int32) (at_ : Int32) (aa : Int32) (wt : Int32) (wy : Int64) (rm : Nat) (ud : Nat) (nu : Nat) (sd : Int64) (qn : Nat) (qw : Nat) (qo : Int32) (qb : Nat) (qp : Nat) (qa : Int64) (qi : Nat) (oc : Nat) (n : Int32) (u0 : Int32) (u1 : Int32) (u2 : Int32) (u3 : Int32) (u4 : Int32) (u5 : Int32) (v0 : Int32) (v1 : Int32) (v2 : Int32) (v3 : Int32) (v4 : Int32) (v5 : Int32) (cs : Nat → Nat) (nw : Nat → Int32) (pt : Nat → Nat) (ql : Nat → Int64) (l0 : Nat) (l1 : Nat) (dm : Nat) (l3 : Nat) (ws_ : Nat → Int32) (yw : Nat → Int32) (yo : Nat → Int32) (be : Nat → Int64) (bf : Nat → Int64) (az : Nat → Int32) (wn : Nat) (mN : Nat) (Ba : Nat → Nat) (We : Nat → Nat) (U : Nat → Bool) (ke : Nat) (lg : KLg) (L : LkS) (hil : il ≤ 1) (hild : il = 1 → 1 ≤ dm) (hilb : 1 ≤ dm → il = 1) (hdm : dm ≤ 9) (hLk : kcLk L) (hkl : (lK L).length ≤ 1600) (hmw0 : mwO L 0 u3 v3 cs) (hmw1 : mwO L 1 u4 v4 cs) (hB9 : ∀ j, Ba j ≤ 9) (hW9 : ∀ j, We j ≤ 9) (hwk : wn ≤ 999) (hcs : ∀ j, cs j ≤ 20000) (hnw : nwX wn mN Ba We U ke lg nw) (hpt : ∀ j, pt j ≤ 9) : skM l yX12_later cX12_later 4 (some .int) 7 162 0 0 D (skT cI cJ cC cZ cS) [.ref mm, .int n] [(mm, .inr (12, mo g (nI ta) (nI pa) (nI pe) pd (nI pb) pp pf pg pn rt rn (nI cd) sn (nI il) tk am at_ aa 0 0 (-1) wt wy 0 (nI rm) (nI ud) (nI nu) sd (nI qn) (nI qw) qo (nI qb) (nI qp) qa (nI qi) (nI oc))), (g 24, .inl (cI, 6, .inl (l6 u0 u1 u2 u3 u4 u5))), (g 25, .inl (cI, 6, .inl (l6 v0 v1 v2 v3 v4 v5))), (g 26, .inl (cI, 3200, .inl (fun j => nI (cs j)))), (g 31, .inl (cI, 120, .inl nw)), (g 46, .inl (cI, 9, .inl (fun j => nI (pt j)))), (g 86, .inl (cJ, 1700, .inr (.inl ql))), (g 20, .inl (cI, 4, .inl (l4 (nI l0) (nI l1) (nI dm) (nI l3)))), (g 38, .inl (cI, 90, .inl ws_)), (g 36, .inl (cZ, 900, .inl yw)), (g 37, .inl (cZ, 900, .inl yo)), (g 43, .inl (cJ, 90, .inr (.inl be))), (g 44, .inl (cJ, 90, .inr (.inl bf))), (g 32, .inl (cI, 29, .inl az))] (skI D (skT cI cJ cC cZ cS) (fun (r : Int32) (u : va_W) => ∃ (nw2 : Nat → Int32), ∃ (tk2 : Int32), ∃ (qp2 : Nat), ∃ (am2 : Int32), ∃ (at_2 : Int32), ∃ (aa2 : Int32), ∃ (wy2 : Int64), ∃ (pt2 : Nat → Nat), ∃ (ql2 : Nat → Int64), ∃ (ws_2 : Nat → Int32), ∃ (yw2 : Nat → Int32), ∃ (yo2 : Nat → Int32), ∃ (be2 : Nat → Int64), ∃ (bf2 : Nat → Int64), ∃ (az2 : Nat → Int32), nwX wn mN Ba We U ke lg nw2 ∧ (∀ j, pt2 j ≤ 9) ∧ u = [(mm, .inr (12, mo g (nI ta) (nI pa) (nI pe) pd (nI pb) pp pf pg pn rt rn (nI cd) sn (nI il) tk2 am2 at_2 aa2 0 0 (-1) wt wy2 0 (nI rm) (nI ud) (nI nu) sd (nI qn) (nI qw) qo (nI qb) (nI qp2) qa (nI qi) (nI oc))), (g 24, .inl (cI, 6, .inl (l6 u0 u1 u2 u3 u4 u5))), (g 25, .inl (cI, 6, .inl (l6 v0 v1 v2 v3 v4 v5))), (g 26, .inl (cI, 3200, .inl (fun j => nI (cs j)))), (g 31, .inl (cI, 120, .inl nw2)), (g 46, .inl (cI, 9, .inl (fun j => nI (pt2 j)))), (g 86, .inl (cJ, 1700, .inr (.inl ql2))), (g 20, .inl (cI, 4, .inl (l4 (nI l0) (nI l1) (nI dm) (nI l3)))), (g 38, .inl (cI, 90, .inl ws_2)), (g 36, .inl (cZ, 900, .inl yw2)), (g 37, .inl (cZ, 900, .inl yo2)), (g 43, .inl (cJ, 90, .inr (.inl be2))), (g 44, .inl (cJ, 90, .inr (.inl bf2))), (g 32, .inl (cI, 29, .inl az2))])) := by
  refine skM_of pf_X12_later (Nat.le_of_ble_eq_true rfl) ?_
  intro p e s m below meth c A ls E hP hD hl
  refine skE_el E (fun hx hb hr hml hlocks hin hown hts hK hA => ?_)
  have hown : s.vm.findClass RX12 = some m.cls := hown
  have hS : va_S A s.heap s.heap [] := va_S.rf
  have hl : lv_has ls 4 [(0, .ref mm), (1, .int n)] := hl
  refine lv_aload_n hx hb dX12_later_0 rfl (lv_at hl 0 rfl) ?_
  refine lv_iload_n hx hb dX12_later_1 rfl (lv_at hl 1 rfl) ?_
  refine lv_iconst (v := 0) hx hb dX12_later_2 (by decide) ?_
  refine lv_bipush (v := 30) hx hb dX12_later_3 (by decide) ?_
  refine sk_Vi (q0 := 0) (n := 3) (rest := []) (wr := fmR om_14_2200 _) ⟨hx, hb, hml, hown, hts⟩ hl.1 (c_nm_isAhead l D cI cJ cC cZ cS mm g ta pa pe pd pb pp pf pg pn rt rn cd sn il tk am at_ aa wt wy rm ud nu sd qn qw qo qb qp qa qi oc n 0 30 nw wn mN Ba We U ke lg (by omega) (by omega) (by omega) (by omega) hnw) w_8_5 w_8_7 w_0_90 w_1_14 w_8_8 hd_X12_isAhead_3 ⟨⟨(Nat.le_of_ble_eq_true rfl), (Nat.le_of_ble_eq_true rfl)⟩, (Nat.le_of_ble_eq_true rfl), (Nat.le_of_ble_eq_true rfl)⟩ hK hP hD hS hA (fmT om_14_2200 0) (fmF om_14_2200 0) (fm_C1 rfl rfl) (fm_R rfl rfl) (fm_nT om_14_2200 0) (fm_nF om_14_2200 0) (fm_di om_14_2200 0) rfl rfl rfl rfl (Nat.le_of_ble_eq_true rfl) dX12_later_5 (fun r_2 u H locs hw hP hD hS => ?_)
  refine exE hw (fun b_1 hw1 => anE hw1 (fun hah_3 hw2 => anE hw2 (fun er_5 eu_4 => ?_)))
  clear hw hw1 hw2
  subst er_5
  refine o_mgE (ws' := [(mm, .inr (12, mo g (nI ta) (nI pa) (nI pe) pd (nI pb) pp pf pg pn rt rn (nI cd) sn (nI il) tk am at_ aa 0 0 (-1) wt wy 0 (nI rm) (nI ud) (nI nu) sd (nI qn) (nI qw) qo (nI qb) (nI qp) qa (nI qi) (nI oc))), (g 24, .inl (cI, 6, .inl (l6 u0 u1 u2 u3 u4 u5))), (g 25, .inl (cI, 6, .inl (l6 v0 v1 v2 v3 v4 v5))), (g 26, .inl (cI, 3200, .inl (fun j => nI (cs j)))), (g 31, .inl (cI, 120, .inl nw)), (g 46, .inl (cI, 9, .inl (fun j => nI (pt j)))), (g 86, .inl (cJ, 1700, .inr (.inl ql))), (g 20, .inl (cI, 4, .inl (l4 (nI l0) (nI l1) (nI dm) (nI l3)))), (g 38, .inl (cI, 90, .inl ws_)), (g 36, .inl (cZ, 900, .inl yw)), (g 37, .inl (cZ, 900, .inl yo)), (g 43, .inl (cJ, 90, .inr (.inl be))), (g 44, .inl (cJ, 90, .inr (.inl bf))), (g 32, .inl (cI, 29, .inl az))]) eu_4 hP hD rfl (fun hP hD => ?_)
  refine lv_if_ne (tgt := 13) hx hb dX12_later_8 (by decide) (fun c_6 => ?_) (fun c_6 => ?_)
  · have c_6 : ¬ (b_1 = 0) := fun h => c_6 ((neq b_1 0 (by omega) (by omega)).mpr h)
    obtain ⟨hil1, ka, hka1, hka2, rfl, hka3⟩ := rr_1 hah_3 (by omega)
    have hdm1 := hild hil1
    refine lv_aload_n hx hb dX12_later_13 rfl (lv_at hl 0 rfl) ?_
    refine sk_Vv (q0 := 0) (n := 0) (rest := []) (wr := fmR om_14_2201 _) ⟨hx, hb, hml, hown, hts⟩ hl.1 (c_nm_putsAside l D cI cJ cC cZ cS mm g ta pa pe pd pb pp pf pg pn rt rn cd sn il tk am at_ aa wt wy rm ud nu sd qn qw qo qb qp qa qi oc nw az wn mN Ba We U ke lg hnw) w_8_9 w_8_11 w_0_91 w_1_14 w_8_12 hd_X12_putsAside_0 ⟨⟨(Nat.le_of_ble_eq_true rfl), (Nat.le_of_ble_eq_true rfl)⟩, (Nat.le_of_ble_eq_true rfl), (Nat.le_of_ble_eq_true rfl)⟩ hK hP hD hS hA (fmT om_14_2201 0) (fmF om_14_2201 0) (fm_C1 rfl rfl) (fm_R rfl rfl) (fm_nT om_14_2201 0) (fm_nF om_14_2201 0) (fm_di om_14_2201 0) rfl rfl rfl rfl (Nat.le_of_ble_eq_true rfl) dX12_later_14 (fun u H locs hw hP hD hS => ?_)
    refine exE hw (fun az2_7 hw1 => anE hw1 (fun haz2_8 eu_9 => ?_))
    clear hw hw1
    refine o_mgE (ws' := [(mm, .inr (12, mo g (nI ta) (nI pa) (nI pe) pd (nI pb) pp pf pg pn rt rn (nI cd) sn (nI il) tk am at_ aa 0 0 (-1) wt wy 1 (nI rm) (nI ud) (nI nu) sd (nI qn) (nI qw) qo (nI qb) (nI qp) qa (nI qi) (nI oc))), (g 24, .inl (cI, 6, .inl (l6 u0 u1 u2 u3 u4 u5))), (g 25, .inl (cI, 6, .inl (l6 v0 v1 v2 v3 v4 v5))), (g 26, .inl (cI, 3200, .inl (fun j => nI (cs j)))), (g 31, .inl (cI, 120, .inl nw)), (g 46, .inl (cI, 9, .inl (fun j => nI (pt j)))), (g 86, .inl (cJ, 1700, .inr (.inl ql))), (g 20, .inl (cI, 4, .inl (l4 (nI l0) (nI l1) (nI dm) (nI l3)))), (g 38, .inl (cI, 90, .inl ws_)), (g 36, .inl (cZ, 900, .inl yw)), (g 37, .inl (cZ, 900, .inl yo)), (g 43, .inl (cJ, 90, .inr (.inl be))), (g 44, .inl (cJ, 90, .inr (.inl bf))), (g 32, .inl (cI, 29, .inl az2_7))]) eu_9 hP hD rfl (fun hP hD => ?_)
    refine lv_iconst (v := 1) hx hb dX12_later_17 (by decide) ?_
    refine lv_istore_n (lv' := [(2, .int 1), (0, .ref mm), (1, .int (nI ka))]) hx hb dX12_later_18 rfl hl (by decide) rfl (fun ls hl => ?_)
    refine lv_iconst (v := 0) hx hb dX12_later_19 (by decide) ?_
    refine lv_istore_n (lv' := [(3, .int 0), (2, .int 1), (0, .ref mm), (1, .int (nI ka))]) hx hb dX12_later_20 rfl hl (by decide) rfl (fun ls hl => ?_)
    have lp_10 : ∀ (n_11 : Nat) (i : Nat) (gb : Nat) (zaml : Int32) (zat_l : Int32) (zaal : Int32) (ztkl : Int32) (zqpl : Nat) (zwyl : Int64) (zn : Nat → Int32) (y46l : Nat → Nat) (y86l : Nat → Int64) (y38l : Nat → Int32) (y36l : Nat → Int32) (y37l : Nat → Int32) (y43l : Nat → Int64) (y44l : Nat → Int64) (wv : Nat) (mv : Nat) (H : Heap) (locs : List Loc) (ls : Array Slot), 31 - i < n_11 → (∀ j, y46l j ≤ 9) → (i ≤ 30) → (gb ≤ 1) → (wv ≤ wn + i) → (nwX wv mv Ba We U ke lg zn) → va_P D vwCl [(mm, .inr (12, mo g (nI ta) (nI pa) (nI pe) pd (nI pb) pp pf pg pn rt rn (nI cd) sn (nI il) ztkl zaml zat_l zaal 0 0 (-1) wt zwyl 1 (nI rm) (nI ud) (nI nu) sd (nI qn) (nI qw) qo (nI qb) (nI zqpl) qa (nI qi) (nI oc))), (g 24, .inl (cI, 6, .inl (l6 u0 u1 u2 u3 u4 u5))), (g 25, .inl (cI, 6, .inl (l6 v0 v1 v2 v3 v4 v5))), (g 26, .inl (cI, 3200, .inl (fun j => nI (cs j)))), (g 31, .inl (cI, 120, .inl zn)), (g 46, .inl (cI, 9, .inl (fun j => nI (y46l j)))), (g 86, .inl (cJ, 1700, .inr (.inl y86l))), (g 20, .inl (cI, 4, .inl (l4 (nI l0) (nI l1) (nI dm) (nI l3)))), (g 38, .inl (cI, 90, .inl y38l)), (g 36, .inl (cZ, 900, .inl y36l)), (g 37, .inl (cZ, 900, .inl y37l)), (g 43, .inl (cJ, 90, .inr (.inl y43l))), (g 44, .inl (cJ, 90, .inr (.inl y44l))), (g 32, .inl (cI, 29, .inl az2_7))] H → va_D A [(mm, .inr (12, mo g (nI ta) (nI pa) (nI pe) pd (nI pb) pp pf pg pn rt rn (nI cd) sn (nI il) ztkl zaml zat_l zaal 0 0 (-1) wt zwyl 1 (nI rm) (nI ud) (nI nu) sd (nI qn) (nI qw) qo (nI qb) (nI zqpl) qa (nI qi) (nI oc))), (g 24, .inl (cI, 6, .inl (l6 u0 u1 u2 u3 u4 u5))), (g 25, .inl (cI, 6, .inl (l6 v0 v1 v2 v3 v4 v5))), (g 26, .inl (cI, 3200, .inl (fun j => nI (cs j)))), (g 31, .inl (cI, 120, .inl zn)), (g 46, .inl (cI, 9, .inl (fun j => nI (y46l j)))), (g 86, .inl (cJ, 1700, .inr (.inl y86l))), (g 20, .inl (cI, 4, .inl (l4 (nI l0) (nI l1) (nI dm) (nI l3)))), (g 38, .inl (cI, 90, .inl y38l)), (g 36, .inl (cZ, 900, .inl y36l)), (g 37, .inl (cZ, 900, .inl y37l)), (g 43, .inl (cJ, 90, .inr (.inl y43l))), (g 44, .inl (cJ, 90, .inr (.inl y44l))), (g 32, .inl (cI, 29, .inl az2_7))] → va_S A s.heap H locs → lv_has ls 4 [(3, .int (nI i)), (2, .int (nI gb)), (0, .ref mm), (1, .int (nI ka))] → W p l e { frames := 7, cells := 0, slots := 0, locals := 162 } s m ([.ref mm, .int (nI ka)] : List Value).toArray below meth c H locs 0 0 (MQ below (skI D (skT cI cJ cC cZ cS) (fun (r : Int32) (u : va_W) => ∃ (nw2 : Nat → Int32), ∃ (tk2 : Int32), ∃ (qp2 : Nat), ∃ (am2 : Int32), ∃ (at_2 : Int32), ∃ (aa2 : Int32), ∃ (wy2 : Int64), ∃ (pt2 : Nat → Nat), ∃ (ql2 : Nat → Int64), ∃ (ws_2 : Nat → Int32), ∃ (yw2 : Nat → Int32), ∃ (yo2 : Nat → Int32), ∃ (be2 : Nat → Int64), ∃ (bf2 : Nat → Int64), ∃ (az2 : Nat → Int32), nwX wn mN Ba We U ke lg nw2 ∧ (∀ j, pt2 j ≤ 9) ∧ u = [(mm, .inr (12, mo g (nI ta) (nI pa) (nI pe) pd (nI pb) pp pf pg pn rt rn (nI cd) sn (nI il) tk2 am2 at_2 aa2 0 0 (-1) wt wy2 0 (nI rm) (nI ud) (nI nu) sd (nI qn) (nI qw) qo (nI qb) (nI qp2) qa (nI qi) (nI oc))), (g 24, .inl (cI, 6, .inl (l6 u0 u1 u2 u3 u4 u5))), (g 25, .inl (cI, 6, .inl (l6 v0 v1 v2 v3 v4 v5))), (g 26, .inl (cI, 3200, .inl (fun j => nI (cs j)))), (g 31, .inl (cI, 120, .inl nw2)), (g 46, .inl (cI, 9, .inl (fun j => nI (pt2 j)))), (g 86, .inl (cJ, 1700, .inr (.inl ql2))), (g 20, .inl (cI, 4, .inl (l4 (nI l0) (nI l1) (nI dm) (nI l3)))), (g 38, .inl (cI, 90, .inl ws_2)), (g 36, .inl (cZ, 900, .inl yw2)), (g 37, .inl (cZ, 900, .inl yo2)), (g 43, .inl (cJ, 90, .inr (.inl be2))), (g 44, .inl (cJ, 90, .inr (.inl bf2))), (g 32, .inl (cI, 29, .inl az2))]) A) ([.ref mm, .int (nI ka)] : List Value).toArray s 0 0 A) (F0 m 21 ls []) := by
      intro n_11
      induction n_11 with
      | zero => intro i gb zaml zat_l zaal ztkl zqpl zwyl zn y46l y86l y38l y36l y37l y43l y44l wv mv H locs ls hm; exact absurd hm (Nat.not_lt_zero _)
      | succ n_11 ih_lp_10 =>
        intro i gb zaml zat_l zaal ztkl zqpl zwyl zn y46l y86l y38l y36l y37l y43l y44l wv mv H locs ls hm hy46l hi hgb hwv hzn hP hD hS hl
        refine lv_iload_n hx hb dX12_later_21 rfl (lv_at hl 0 rfl) ?_
        refine lv_iload_n hx hb dX12_later_22 rfl (lv_at hl 3 rfl) ?_
        refine lv_icmp_ge (tgt := 41) hx hb dX12_later_23 (by decide) (fun c_12 => ?_) (fun c_12 => ?_)
        · have c_12 : ka ≤ i := (nle ka i (by omega) (by omega)).mp c_12
          refine lv_aload_n hx hb dX12_later_41 rfl (lv_at hl 2 rfl) ?_
          refine sk_get (v := .ref (g 31)) (C := RX12) (T := TX12) (N := 92) hx hb hts inlX12 hown hK hP 0 rfl rfl 31 (by decide) w_5_186 rfl dX12_later_42 ?_
          refine lv_iconst (v := 1) hx hb dX12_later_45 (by decide) ?_
          refine va_iald hx hb hK.1 hP 4 0 rfl rfl (by unfold vp_in; decide) dX12_later_46 ?_
          refine sk_top (nI mv) (nwX_1 hzn) ?_
          refine lv_istore_n (lv' := [(3, .int (nI mv)), (2, .int (nI gb)), (0, .ref mm), (1, .int (nI ka))]) hx hb dX12_later_47 rfl hl (by decide) rfl (fun ls hl => ?_)
          refine lv_aload_n hx hb dX12_later_48 rfl (lv_at hl 2 rfl) ?_
          refine sk_Vv (q0 := 0) (n := 0) (rest := []) (wr := fmR om_14_2201 _) ⟨hx, hb, hml, hown, hts⟩ hl.1 (c_nm_takesBack l D cI cJ cC cZ cS mm g ta pa pe pd pb pp pf pg pn rt rn cd sn il ztkl zaml zat_l zaal wt zwyl rm ud nu sd qn qw qo qb zqpl qa qi oc zn az2_7 wn mN Ba We U ke lg wv mv Ba We U haz2_8 hzn) w_8_25 w_8_27 w_0_95 w_1_14 w_8_28 hd_X12_takesBack_0 ⟨⟨(Nat.le_of_ble_eq_true rfl), (Nat.le_of_ble_eq_true rfl)⟩, (Nat.le_of_ble_eq_true rfl), (Nat.le_of_ble_eq_true rfl)⟩ hK hP hD hS hA (fmT om_14_2201 0) (fmF om_14_2201 0) (fm_C1 rfl rfl) (fm_R rfl rfl) (fm_nT om_14_2201 0) (fm_nF om_14_2201 0) (fm_di om_14_2201 0) rfl rfl rfl rfl (Nat.le_of_ble_eq_true rfl) dX12_later_49 (fun u H locs hw hP hD hS => ?_)
          refine exE hw (fun nw2_13 hw1 => anE hw1 (fun hnw2_14 eu_15 => ?_))
          clear hw hw1
          refine o_mgE (ws' := [(mm, .inr (12, mo g (nI ta) (nI pa) (nI pe) pd (nI pb) pp pf pg pn rt rn (nI cd) sn (nI il) ztkl zaml zat_l zaal 0 0 (-1) wt zwyl 0 (nI rm) (nI ud) (nI nu) sd (nI qn) (nI qw) qo (nI qb) (nI zqpl) qa (nI qi) (nI oc))), (g 24, .inl (cI, 6, .inl (l6 u0 u1 u2 u3 u4 u5))), (g 25, .inl (cI, 6, .inl (l6 v0 v1 v2 v3 v4 v5))), (g 26, .inl (cI, 3200, .inl (fun j => nI (cs j)))), (g 31, .inl (cI, 120, .inl nw2_13)), (g 46, .inl (cI, 9, .inl (fun j => nI (y46l j)))), (g 86, .inl (cJ, 1700, .inr (.inl y86l))), (g 20, .inl (cI, 4, .inl (l4 (nI l0) (nI l1) (nI dm) (nI l3)))), (g 38, .inl (cI, 90, .inl y38l)), (g 36, .inl (cZ, 900, .inl y36l)), (g 37, .inl (cZ, 900, .inl y37l)), (g 43, .inl (cJ, 90, .inr (.inl y43l))), (g 44, .inl (cJ, 90, .inr (.inl y44l))), (g 32, .inl (cI, 29, .inl az2_7))]) eu_15 hP hD rfl (fun hP hD => ?_)
          refine lv_iload_n hx hb dX12_later_52 rfl (lv_at hl 1 rfl) ?_
          refine lv_if_eq (tgt := 60) hx hb dX12_later_53 (by decide) (fun c_16 => ?_) (fun c_16 => ?_)
          · have c_16 : gb = 0 := (neq gb 0 (by omega) (by omega)).mp c_16
            refine lv_iconst (v := (-1)) hx hb dX12_later_60 (by decide) ?_
            exact sk_iret hx hb hr rfl hlocks hK hP hD hS (⟨nw2_13, ztkl, zqpl, zaml, zat_l, zaal, zwyl, y46l, y86l, y38l, y36l, y37l, y43l, y44l, az2_7, hnw2_14, hy46l, rfl⟩) (Nat.le_of_ble_eq_true rfl) (Nat.le_of_ble_eq_true rfl) dX12_later_61
          · have c_16 : ¬ (gb = 0) := fun h => c_16 ((neq gb 0 (by omega) (by omega)).mpr h)
            refine lv_iload_n hx hb dX12_later_56 rfl (lv_at hl 0 rfl) ?_
            refine lv_goto (tgt := 61) hx hb dX12_later_57 (by decide) ?_
            exact sk_iret hx hb hr rfl hlocks hK hP hD hS (⟨nw2_13, ztkl, zqpl, zaml, zat_l, zaal, zwyl, y46l, y86l, y38l, y36l, y37l, y43l, y44l, az2_7, hnw2_14, hy46l, rfl⟩) (Nat.le_of_ble_eq_true rfl) (Nat.le_of_ble_eq_true rfl) dX12_later_61
        · have c_12 : ¬ (ka ≤ i) := fun h => c_12 ((nle ka i (by omega) (by omega)).mpr h)
          refine lv_iload_n hx hb dX12_later_26 rfl (lv_at hl 1 rfl) ?_
          refine lv_if_eq (tgt := 41) hx hb dX12_later_27 (by decide) (fun c_17 => ?_) (fun c_17 => ?_)
          · have c_17 : gb = 0 := (neq gb 0 (by omega) (by omega)).mp c_17
            refine lv_aload_n hx hb dX12_later_41 rfl (lv_at hl 2 rfl) ?_
            refine sk_get (v := .ref (g 31)) (C := RX12) (T := TX12) (N := 92) hx hb hts inlX12 hown hK hP 0 rfl rfl 31 (by decide) w_5_186 rfl dX12_later_42 ?_
            refine lv_iconst (v := 1) hx hb dX12_later_45 (by decide) ?_
            refine va_iald hx hb hK.1 hP 4 0 rfl rfl (by unfold vp_in; decide) dX12_later_46 ?_
            refine sk_top (nI mv) (nwX_1 hzn) ?_
            refine lv_istore_n (lv' := [(3, .int (nI mv)), (2, .int (nI gb)), (0, .ref mm), (1, .int (nI ka))]) hx hb dX12_later_47 rfl hl (by decide) rfl (fun ls hl => ?_)
            refine lv_aload_n hx hb dX12_later_48 rfl (lv_at hl 2 rfl) ?_
            refine sk_Vv (q0 := 0) (n := 0) (rest := []) (wr := fmR om_14_2201 _) ⟨hx, hb, hml, hown, hts⟩ hl.1 (c_nm_takesBack l D cI cJ cC cZ cS mm g ta pa pe pd pb pp pf pg pn rt rn cd sn il ztkl zaml zat_l zaal wt zwyl rm ud nu sd qn qw qo qb zqpl qa qi oc zn az2_7 wn mN Ba We U ke lg wv mv Ba We U haz2_8 hzn) w_8_25 w_8_27 w_0_95 w_1_14 w_8_28 hd_X12_takesBack_0 ⟨⟨(Nat.le_of_ble_eq_true rfl), (Nat.le_of_ble_eq_true rfl)⟩, (Nat.le_of_ble_eq_true rfl), (Nat.le_of_ble_eq_true rfl)⟩ hK hP hD hS hA (fmT om_14_2201 0) (fmF om_14_2201 0) (fm_C1 rfl rfl) (fm_R rfl rfl) (fm_nT om_14_2201 0) (fm_nF om_14_2201 0) (fm_di om_14_2201 0) rfl rfl rfl rfl (Nat.le_of_ble_eq_true rfl) dX12_later_49 (fun u H locs hw hP hD hS => ?_)
            refine exE hw (fun nw2_18 hw1 => anE hw1 (fun hnw2_19 eu_20 => ?_))
            clear hw hw1
            refine o_mgE (ws' := [(mm, .inr (12, mo g (nI ta) (nI pa) (nI pe) pd (nI pb) pp pf pg pn rt rn (nI cd) sn (nI il) ztkl zaml zat_l zaal 0 0 (-1) wt zwyl 0 (nI rm) (nI ud) (nI nu) sd (nI qn) (nI qw) qo (nI qb) (nI zqpl) qa (nI qi) (nI oc))), (g 24, .inl (cI, 6, .inl (l6 u0 u1 u2 u3 u4 u5))), (g 25, .inl (cI, 6, .inl (l6 v0 v1 v2 v3 v4 v5))), (g 26, .inl (cI, 3200, .inl (fun j => nI (cs j)))), (g 31, .inl (cI, 120, .inl nw2_18)), (g 46, .inl (cI, 9, .inl (fun j => nI (y46l j)))), (g 86, .inl (cJ, 1700, .inr (.inl y86l))), (g 20, .inl (cI, 4, .inl (l4 (nI l0) (nI l1) (nI dm) (nI l3)))), (g 38, .inl (cI, 90, .inl y38l)), (g 36, .inl (cZ, 900, .inl y36l)), (g 37, .inl (cZ, 900, .inl y37l)), (g 43, .inl (cJ, 90, .inr (.inl y43l))), (g 44, .inl (cJ, 90, .inr (.inl y44l))), (g 32, .inl (cI, 29, .inl az2_7))]) eu_20 hP hD rfl (fun hP hD => ?_)
            refine lv_iload_n hx hb dX12_later_52 rfl (lv_at hl 1 rfl) ?_
            refine lv_if_eq (tgt := 60) hx hb dX12_later_53 (by decide) (fun c_21 => ?_) (fun c_21 => ?_)
            · have c_21 : gb = 0 := (neq gb 0 (by omega) (by omega)).mp c_21
              refine lv_iconst (v := (-1)) hx hb dX12_later_60 (by decide) ?_
              exact sk_iret hx hb hr rfl hlocks hK hP hD hS (⟨nw2_18, ztkl, zqpl, zaml, zat_l, zaal, zwyl, y46l, y86l, y38l, y36l, y37l, y43l, y44l, az2_7, hnw2_19, hy46l, rfl⟩) (Nat.le_of_ble_eq_true rfl) (Nat.le_of_ble_eq_true rfl) dX12_later_61
            · have c_21 : ¬ (gb = 0) := fun h => c_21 ((neq gb 0 (by omega) (by omega)).mpr h)
              refine lv_iload_n hx hb dX12_later_56 rfl (lv_at hl 0 rfl) ?_
              refine lv_goto (tgt := 61) hx hb dX12_later_57 (by decide) ?_
              exact sk_iret hx hb hr rfl hlocks hK hP hD hS (⟨nw2_18, ztkl, zqpl, zaml, zat_l, zaal, zwyl, y46l, y86l, y38l, y36l, y37l, y43l, y44l, az2_7, hnw2_19, hy46l, rfl⟩) (Nat.le_of_ble_eq_true rfl) (Nat.le_of_ble_eq_true rfl) dX12_later_61
          · have c_17 : ¬ (gb = 0) := fun h => c_17 ((neq gb 0 (by omega) (by omega)).mpr h)
            refine lv_aload_n hx hb dX12_later_30 rfl (lv_at hl 2 rfl) ?_
            refine sk_Vi (q0 := 0) (n := 0) (rest := []) (wr := fmR om_14_3ffe _) ⟨hx, hb, hml, hown, hts⟩ hl.1 (c_nm_doGo l D cI cJ cC cZ cS mm g ta pa pe pd pb pp pf pg pn rt rn cd sn il ztkl zaml zat_l zaal wt zwyl rm ud nu sd qn qw qo qb zqpl qa qi oc u0 u1 u2 u3 u4 u5 v0 v1 v2 v3 v4 v5 cs zn y46l y86l l0 l1 dm l3 y38l y36l y37l y43l y44l wv mv Ba We U ke lg L (by omega) (by omega) hLk hkl hmw0 hmw1 hB9 hW9 (by omega) hcs hzn hy46l) w_8_13 w_8_15 w_0_92 w_1_14 w_8_16 hd_X12_doGo_0 ⟨⟨(Nat.le_of_ble_eq_true rfl), (Nat.le_of_ble_eq_true rfl)⟩, (Nat.le_of_ble_eq_true rfl), (Nat.le_of_ble_eq_true rfl)⟩ hK hP hD hS hA (fmT om_14_3ffe 0) (fmF om_14_3ffe 0) (fm_C1 rfl rfl) (fm_R rfl rfl) (fm_nT om_14_3ffe 0) (fm_nF om_14_3ffe 0) (fm_di om_14_3ffe 0) rfl rfl rfl rfl (Nat.le_of_ble_eq_true rfl) dX12_later_31 (fun r_39 u H locs hw hP hD hS => ?_)
            refine exE hw (fun wv2_22 hw1 => exE hw1 (fun mv2_23 hw2 => exE hw2 (fun b_24 hw3 => exE hw3 (fun nw2_25 hw4 => exE hw4 (fun tk2_26 hw5 => exE hw5 (fun qp2_27 hw6 => exE hw6 (fun am2_28 hw7 => exE hw7 (fun at_2_29 hw8 => exE hw8 (fun aa2_30 hw9 => exE hw9 (fun wy2_31 hw10 => exE hw10 (fun pt2_32 hw11 => exE hw11 (fun ql2_33 hw12 => exE hw12 (fun ws_2_34 hw13 => exE hw13 (fun yw2_35 hw14 => exE hw14 (fun yo2_36 hw15 => exE hw15 (fun be2_37 hw16 => exE hw16 (fun bf2_38 hw17 => anE hw17 (fun hnw2_40 hw18 => anE hw18 (fun hdg_41 hw19 => anE hw19 (fun hpt2_42 hw20 => anE hw20 (fun er_44 eu_43 => ?_)))))))))))))))))))))
            clear hw hw1 hw2 hw3 hw4 hw5 hw6 hw7 hw8 hw9 hw10 hw11 hw12 hw13 hw14 hw15 hw16 hw17 hw18 hw19 hw20
            subst er_44
            refine o_mgE (ws' := [(mm, .inr (12, mo g (nI ta) (nI pa) (nI pe) pd (nI pb) pp pf pg pn rt rn (nI cd) sn (nI il) tk2_26 am2_28 at_2_29 aa2_30 0 0 (-1) wt wy2_31 1 (nI rm) (nI ud) (nI nu) sd (nI qn) (nI qw) qo (nI qb) (nI qp2_27) qa (nI qi) (nI oc))), (g 24, .inl (cI, 6, .inl (l6 u0 u1 u2 u3 u4 u5))), (g 25, .inl (cI, 6, .inl (l6 v0 v1 v2 v3 v4 v5))), (g 26, .inl (cI, 3200, .inl (fun j => nI (cs j)))), (g 31, .inl (cI, 120, .inl nw2_25)), (g 46, .inl (cI, 9, .inl (fun j => nI (pt2_32 j)))), (g 86, .inl (cJ, 1700, .inr (.inl ql2_33))), (g 20, .inl (cI, 4, .inl (l4 (nI l0) (nI l1) (nI dm) (nI l3)))), (g 38, .inl (cI, 90, .inl ws_2_34)), (g 36, .inl (cZ, 900, .inl yw2_35)), (g 37, .inl (cZ, 900, .inl yo2_36)), (g 43, .inl (cJ, 90, .inr (.inl be2_37))), (g 44, .inl (cJ, 90, .inr (.inl bf2_38))), (g 32, .inl (cI, 29, .inl az2_7))]) eu_43 hP hD rfl (fun hP hD => ?_)
            have hm_45 := hnw2_40.1
            have hm_46 := hnw.1
            refine lv_istore_n (lv' := [(2, .int (nI b_24)), (3, .int (nI i)), (0, .ref mm), (1, .int (nI ka))]) hx hb dX12_later_34 rfl hl (by decide) rfl (fun ls hl => ?_)
            refine lv_iinc (v := nI (i + 1)) (lv' := [(3, .int (nI (i + 1))), (2, .int (nI b_24)), (0, .ref mm), (1, .int (nI ka))]) hx hb dX12_later_35 hl (k := 1) rfl (ninc i 1 (by decide)) (by decide) rfl (fun ls hl => ?_)
            refine lv_goto (tgt := 21) hx hb dX12_later_38 (by decide) ?_
            exact ih_lp_10 (i + 1) b_24 am2_28 at_2_29 aa2_30 tk2_26 qp2_27 wy2_31 nw2_25 pt2_32 ql2_33 ws_2_34 yw2_35 yo2_36 be2_37 bf2_38 wv2_22 mv2_23 _ _ _ (by omega) hpt2_42 (by omega) (by omega) (by omega) hnw2_40 hP hD hS (lv_sub hl [0, 1, 2, 3] rfl)
    exact lp_10 (31 - 0 + 1) 0 1 am at_ aa tk qp wy nw pt ql ws_ yw yo be bf wn mN _ _ _ (Nat.lt_succ_self _) hpt (by omega) (by omega) (by omega) hnw hP hD hS (lv_sub hl [0, 1, 2, 3] rfl)
  · have c_6 : b_1 = 0 := (neq b_1 0 (by omega) (by omega)).mp c_6
    refine lv_iconst (v := (-1)) hx hb dX12_later_11 (by decide) ?_
    exact sk_iret hx hb hr rfl hlocks hK hP hD hS (⟨nw, tk, qp, am, at_, aa, wy, pt, ql, ws_, yw, yo, be, bf, az, hnw, hpt, rfl⟩) (Nat.le_of_ble_eq_true rfl) (Nat.le_of_ble_eq_true rfl) dX12_later_12
