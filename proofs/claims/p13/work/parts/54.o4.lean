theorem dg_X12_later_0_0 : bqL cX12_later 0 [(0, [42]), (1, [27]), (2, [3]), (3, [16, 30]), (5, [182, 1, 170]), (8, [154, 0, 5]), (13, [42]), (14, [182, 1, 173]), (17, [4]), (18, [61]), (19, [3]), (20, [62]), (21, [29]), (22, [27]), (23, [162, 0, 18]), (41, [42]), (42, [180, 0, 63]), (45, [4]), (46, [46]), (47, [62]), (48, [42]), (49, [182, 1, 180]), (52, [28]), (53, [153, 0, 7]), (60, [2]), (61, [172]), (56, [29]), (57, [167, 0, 4]), (26, [28]), (27, [153, 0, 14]), (30, [42]), (31, [182, 1, 176]), (34, [61]), (35, [132, 3, 1]), (38, [167, 255, 239]), (11, [2]), (12, [172])] = true := by decide +kernel
theorem dX12_later_0 : decode cX12_later 0 = .ok (.aload_n 0, 1) := q_aload_n0 (bat_get dg_X12_later_0_0 0 rfl rfl)
theorem dX12_later_1 : decode cX12_later 1 = .ok (.iload_n 1, 1) := q_iload_n1 (bat_get dg_X12_later_0_0 1 rfl rfl)
theorem dX12_later_2 : decode cX12_later 2 = .ok (.iconst 0, 1) := q_iconst0 (bat_get dg_X12_later_0_0 2 rfl rfl)
theorem dX12_later_3 : decode cX12_later 3 = .ok (.bipush 30, 2) := q_bipush (bat_get dg_X12_later_0_0 3 rfl rfl) rfl
theorem dX12_later_5 : decode cX12_later 5 = .ok (.invokevirtual 426, 3) := q_invokevirtual (bat_get dg_X12_later_0_0 4 rfl rfl) rfl
theorem dX12_later_8 : decode cX12_later 8 = .ok (.ifCond .ne 5, 3) := q_ifCond_ne (bat_get dg_X12_later_0_0 5 rfl rfl) rfl
theorem dX12_later_13 : decode cX12_later 13 = .ok (.aload_n 0, 1) := q_aload_n0 (bat_get dg_X12_later_0_0 6 rfl rfl)
theorem dX12_later_14 : decode cX12_later 14 = .ok (.invokevirtual 429, 3) := q_invokevirtual (bat_get dg_X12_later_0_0 7 rfl rfl) rfl
theorem dX12_later_17 : decode cX12_later 17 = .ok (.iconst 1, 1) := q_iconst1 (bat_get dg_X12_later_0_0 8 rfl rfl)
theorem dX12_later_18 : decode cX12_later 18 = .ok (.istore_n 2, 1) := q_istore_n2 (bat_get dg_X12_later_0_0 9 rfl rfl)
theorem dX12_later_19 : decode cX12_later 19 = .ok (.iconst 0, 1) := q_iconst0 (bat_get dg_X12_later_0_0 10 rfl rfl)
theorem dX12_later_20 : decode cX12_later 20 = .ok (.istore_n 3, 1) := q_istore_n3 (bat_get dg_X12_later_0_0 11 rfl rfl)
theorem dX12_later_21 : decode cX12_later 21 = .ok (.iload_n 3, 1) := q_iload_n3 (bat_get dg_X12_later_0_0 12 rfl rfl)
theorem dX12_later_22 : decode cX12_later 22 = .ok (.iload_n 1, 1) := q_iload_n1 (bat_get dg_X12_later_0_0 13 rfl rfl)
theorem dX12_later_23 : decode cX12_later 23 = .ok (.if_icmp .ge 18, 3) := q_if_icmp_ge (bat_get dg_X12_later_0_0 14 rfl rfl) rfl
theorem dX12_later_41 : decode cX12_later 41 = .ok (.aload_n 0, 1) := q_aload_n0 (bat_get dg_X12_later_0_0 15 rfl rfl)
theorem dX12_later_42 : decode cX12_later 42 = .ok (.getfield 63, 3) := q_getfield (bat_get dg_X12_later_0_0 16 rfl rfl) rfl
theorem dX12_later_45 : decode cX12_later 45 = .ok (.iconst 1, 1) := q_iconst1 (bat_get dg_X12_later_0_0 17 rfl rfl)
theorem dX12_later_46 : decode cX12_later 46 = .ok (.iaload, 1) := q_iaload (bat_get dg_X12_later_0_0 18 rfl rfl)
theorem dX12_later_47 : decode cX12_later 47 = .ok (.istore_n 3, 1) := q_istore_n3 (bat_get dg_X12_later_0_0 19 rfl rfl)
theorem dX12_later_48 : decode cX12_later 48 = .ok (.aload_n 0, 1) := q_aload_n0 (bat_get dg_X12_later_0_0 20 rfl rfl)
theorem dX12_later_49 : decode cX12_later 49 = .ok (.invokevirtual 436, 3) := q_invokevirtual (bat_get dg_X12_later_0_0 21 rfl rfl) rfl
theorem dX12_later_52 : decode cX12_later 52 = .ok (.iload_n 2, 1) := q_iload_n2 (bat_get dg_X12_later_0_0 22 rfl rfl)
theorem dX12_later_53 : decode cX12_later 53 = .ok (.ifCond .eq 7, 3) := q_ifCond_eq (bat_get dg_X12_later_0_0 23 rfl rfl) rfl
theorem dX12_later_60 : decode cX12_later 60 = .ok (.iconst (-1), 1) := q_iconstm1 (bat_get dg_X12_later_0_0 24 rfl rfl)
theorem dX12_later_61 : decode cX12_later 61 = .ok (.ireturn, 1) := q_ireturn (bat_get dg_X12_later_0_0 25 rfl rfl)
theorem dX12_later_56 : decode cX12_later 56 = .ok (.iload_n 3, 1) := q_iload_n3 (bat_get dg_X12_later_0_0 26 rfl rfl)
theorem dX12_later_57 : decode cX12_later 57 = .ok (.goto 4, 3) := q_goto (bat_get dg_X12_later_0_0 27 rfl rfl) rfl
theorem dX12_later_26 : decode cX12_later 26 = .ok (.iload_n 2, 1) := q_iload_n2 (bat_get dg_X12_later_0_0 28 rfl rfl)
theorem dX12_later_27 : decode cX12_later 27 = .ok (.ifCond .eq 14, 3) := q_ifCond_eq (bat_get dg_X12_later_0_0 29 rfl rfl) rfl
theorem dX12_later_30 : decode cX12_later 30 = .ok (.aload_n 0, 1) := q_aload_n0 (bat_get dg_X12_later_0_0 30 rfl rfl)
theorem dX12_later_31 : decode cX12_later 31 = .ok (.invokevirtual 432, 3) := q_invokevirtual (bat_get dg_X12_later_0_0 31 rfl rfl) rfl
theorem dX12_later_34 : decode cX12_later 34 = .ok (.istore_n 2, 1) := q_istore_n2 (bat_get dg_X12_later_0_0 32 rfl rfl)
theorem dX12_later_35 : decode cX12_later 35 = .ok (.iinc 3 1, 3) := q_iinc (bat_get dg_X12_later_0_0 33 rfl rfl) rfl
theorem dX12_later_38 : decode cX12_later 38 = .ok (.goto (-17), 3) := q_goto (bat_get dg_X12_later_0_0 34 rfl rfl) rfl
theorem dX12_later_11 : decode cX12_later 11 = .ok (.iconst (-1), 1) := q_iconstm1 (bat_get dg_X12_later_0_0 35 rfl rfl)
theorem dX12_later_12 : decode cX12_later 12 = .ok (.ireturn, 1) := q_ireturn (bat_get dg_X12_later_0_0 36 rfl rfl)
theorem w_8_9 : (Cond.methodLink RX12 429 yX12_putsAside) ∈ wsL_law := sk_mem (ck_8 _ (List.mem_of_getElem? (i := 9) rfl)) rfl
theorem w_8_11 : (Cond.instanceMethod yX12_putsAside) ∈ wsL_law := sk_mem (ck_8 _ (List.mem_of_getElem? (i := 11) rfl)) rfl
theorem w_0_91 : (Cond.selects RX12 yX12_putsAside yX12_putsAside) ∈ wsL_law := sk_mem (ck_0 _ (List.mem_of_getElem? (i := 91) rfl)) rfl
theorem w_8_25 : (Cond.methodLink RX12 436 yX12_takesBack) ∈ wsL_law := sk_mem (ck_8 _ (List.mem_of_getElem? (i := 25) rfl)) rfl
theorem w_8_27 : (Cond.instanceMethod yX12_takesBack) ∈ wsL_law := sk_mem (ck_8 _ (List.mem_of_getElem? (i := 27) rfl)) rfl
theorem w_0_95 : (Cond.selects RX12 yX12_takesBack yX12_takesBack) ∈ wsL_law := sk_mem (ck_0 _ (List.mem_of_getElem? (i := 95) rfl)) rfl
theorem w_8_13 : (Cond.methodLink RX12 432 yX12_doGo) ∈ wsL_law := sk_mem (ck_8 _ (List.mem_of_getElem? (i := 13) rfl)) rfl
theorem w_8_15 : (Cond.instanceMethod yX12_doGo) ∈ wsL_law := sk_mem (ck_8 _ (List.mem_of_getElem? (i := 15) rfl)) rfl
theorem w_0_92 : (Cond.selects RX12 yX12_doGo yX12_doGo) ∈ wsL_law := sk_mem (ck_0 _ (List.mem_of_getElem? (i := 92) rfl)) rfl
theorem w_8_4 : (Cond.code yX12_later cX12_later 4 (some .int)) ∈ wsL_law := sk_mem (ck_8 _ (List.mem_of_getElem? (i := 4) rfl)) rfl
def om_14_2200 : List Bool := true :: false :: false :: false :: true :: false :: false :: false :: false :: false :: false :: false :: false :: false :: []
def om_14_2201 : List Bool := true :: false :: false :: false :: true :: false :: false :: false :: false :: false :: false :: false :: false :: true :: []
theorem hd_X12_putsAside_0 : skD yX12_putsAside 0 := by decide +kernel
theorem hd_X12_takesBack_0 : skD yX12_takesBack 0 := by decide +kernel
theorem hd_X12_doGo_0 : skD yX12_doGo 0 := by decide +kernel
set_option maxHeartbeats 4000000 in
set_option maxRecDepth 100000 in
theorem c_vm_later (l : Launch) (D : va_G) (cI cJ cC cZ cS : ClassId) (mm : Nat) (g : Nat → Nat) (ta : Nat) (pa : Nat) (pe : Nat) (pd : Int32) (pb : Nat) (pp : Int32) (pf : Int32) (pg : Int32) (pn : Int32) (rt : Int32) (rn : Int32) (cd : Nat) (sn : Int32) (il : Nat) (tk : Int32) (am : Int32) (at_ : Int32) (aa : Int32) (wt : Int32) (wy : Int64) (rm : Nat) (ud : Nat) (nu : Nat) (sd : Int64) (qn : Nat) (qw : Nat) (qo : Int32) (qb : Nat) (qp : Nat) (qa : Int64) (qi : Nat) (oc : Nat) (n : Int32) (u0 : Int32) (u1 : Int32) (u2 : Int32) (u3 : Int32) (u4 : Int32) (u5 : Int32) (v0 : Int32) (v1 : Int32) (v2 : Int32) (v3 : Int32) (v4 : Int32) (v5 : Int32) (cs : Nat → Nat) (nw : Nat → Int32) (pt : Nat → Nat) (ql : Nat → Int64) (l0 : Nat) (l1 : Nat) (dm : Nat) (l3 : Nat) (ws_ : Nat → Int32) (yw : Nat → Int32) (yo : Nat → Int32) (be : Nat → Int64) (bf : Nat → Int64) (az : Nat → Int32) (wn : Nat) (mN : Nat) (Ba : Nat → Nat) (We : Nat → Nat) (U : Nat → Bool) (ke : Nat) (lg : KLg) (L : LkS) (hil : il ≤ 1) (hild : il = 1 → 1 ≤ dm) (hilb : 1 ≤ dm → il = 1) (hdm : dm ≤ 9) (hLk : kcLk L) (hkl : (lK L).length ≤ 1600) (hmw0 : mwO L 0 u3 v3 cs) (hmw1 : mwO L 1 u4 v4 cs) (hB9 : ∀ j, Ba j ≤ 9) (hW9 : ∀ j, We j ≤ 9) (hwk : wn ≤ 999) (hcs : ∀ j, cs j ≤ 20000) (hnw : nwX wn mN Ba We U ke lg nw) (hpt : ∀ j, pt j ≤ 9) : skM l yX12_later cX12_later 4 (some .int) 7 162 0 0 D (skT cI cJ cC cZ cS) [.ref mm, .int n] [ro_ mm 12 (mo g (nI ta) (nI pa) (nI pe) pd (nI pb) pp pf pg pn rt rn (nI cd) sn (nI il) tk am at_ aa 0 0 (-1) wt wy 0 (nI rm) (nI ud) (nI nu) sd (nI qn) (nI qw) qo (nI qb) (nI qp) qa (nI qi) (nI oc)), ra_I (g 24) cI 6 (l6 u0 u1 u2 u3 u4 u5), ra_I (g 25) cI 6 (l6 v0 v1 v2 v3 v4 v5), ra_N (g 26) cI 3200 cs, ra_I (g 31) cI 120 nw, ra_N (g 46) cI 9 pt, ra_J (g 86) cJ 1700 ql, ra_I (g 20) cI 4 (l4 (nI l0) (nI l1) (nI dm) (nI l3)), ra_I (g 38) cI 90 ws_, ra_I (g 36) cZ 900 yw, ra_I (g 37) cZ 900 yo, ra_J (g 43) cJ 90 be, ra_J (g 44) cJ 90 bf, ra_I (g 32) cI 29 az] (skI D (skT cI cJ cC cZ cS) (fun (r : Int32) (u : va_W) => ∃ (nw2 : Nat → Int32), ∃ (tk2 : Int32), ∃ (qp2 : Nat), ∃ (am2 : Int32), ∃ (at_2 : Int32), ∃ (aa2 : Int32), ∃ (wy2 : Int64), ∃ (pt2 : Nat → Nat), ∃ (ql2 : Nat → Int64), ∃ (ws_2 : Nat → Int32), ∃ (yw2 : Nat → Int32), ∃ (yo2 : Nat → Int32), ∃ (be2 : Nat → Int64), ∃ (bf2 : Nat → Int64), ∃ (az2 : Nat → Int32), nwX wn mN Ba We U ke lg nw2 ∧ laterR L dm wn mN Ba We U n r ∧ (∀ j, pt2 j ≤ 9) ∧ u = [ro_ mm 12 (mo g (nI ta) (nI pa) (nI pe) pd (nI pb) pp pf pg pn rt rn (nI cd) sn (nI il) tk2 am2 at_2 aa2 0 0 (-1) wt wy2 0 (nI rm) (nI ud) (nI nu) sd (nI qn) (nI qw) qo (nI qb) (nI qp2) qa (nI qi) (nI oc)), ra_I (g 24) cI 6 (l6 u0 u1 u2 u3 u4 u5), ra_I (g 25) cI 6 (l6 v0 v1 v2 v3 v4 v5), ra_N (g 26) cI 3200 cs, ra_I (g 31) cI 120 nw2, ra_N (g 46) cI 9 pt2, ra_J (g 86) cJ 1700 ql2, ra_I (g 20) cI 4 (l4 (nI l0) (nI l1) (nI dm) (nI l3)), ra_I (g 38) cI 90 ws_2, ra_I (g 36) cZ 900 yw2, ra_I (g 37) cZ 900 yo2, ra_J (g 43) cJ 90 be2, ra_J (g 44) cJ 90 bf2, ra_I (g 32) cI 29 az2])) := by
  refine skM_of pf_X12_later (Nat.le_of_ble_eq_true rfl) ?_
  intro p e s m below meth c A ls E hP hD hl
  refine skE_el E (fun hx hb hr hml hlocks hin hown hts hK hA => ?_)
  have hown : s.vm.findClass RX12 = some m.cls := hown
  have hS : va_S A s.heap s.heap [] := va_S.rf
  have hl : lv_has ls 4 [(0, .ref mm), (1, .int n)] := hl
  refine lv_aload_n hx hb dX12_later_0 rfl (lv_at hl 0 rfl) ?_
  refine lv_iload_n hx hb dX12_later_1 rfl (lv_at hl 1 rfl) ?_
  refine lv_iconst (v := 0) hx hb dX12_later_2 ic_0 ?_
  refine lv_bipush (v := 30) hx hb dX12_later_3 (by decide) ?_
  refine sk_Vi (q0 := 0) (n := 3) (rest := []) (wr := fmR om_14_2200 _) ⟨hx, hb, hml, hown, hts⟩ hl.1 (c_nm_isAhead l D cI cJ cC cZ cS mm g ta pa pe pd pb pp pf pg pn rt rn cd sn il tk am at_ aa wt wy rm ud nu sd qn qw qo qb qp qa qi oc n 0 30 nw wn mN Ba We U ke lg hil hwk (by omega) (by omega) hnw) w_8_5 w_8_7 w_0_90 w_1_14 w_8_8 hd_X12_isAhead_3 ⟨⟨(Nat.le_of_ble_eq_true rfl), (Nat.le_of_ble_eq_true rfl)⟩, (Nat.le_of_ble_eq_true rfl), (Nat.le_of_ble_eq_true rfl)⟩ hK hP hD hS hA (fmT om_14_2200 0) (fmF om_14_2200 0) (fm_C1 rfl rfl) (fm_R rfl rfl) (fm_nT om_14_2200 0) (fm_nF om_14_2200 0) (fm_di om_14_2200 0) rfl rfl rfl rfl (Nat.le_of_ble_eq_true rfl) dX12_later_5 (fun r_2 u H locs hw hP hD hS => ?_)
  refine exE hw (fun b_1 hw1 => anE hw1 (fun hah_3 hw2 => anE hw2 (fun er_5 eu_4 => ?_)))
  clear hw hw1 hw2
  subst er_5
  refine o_mgE (ws' := [ro_ mm 12 (mo g (nI ta) (nI pa) (nI pe) pd (nI pb) pp pf pg pn rt rn (nI cd) sn (nI il) tk am at_ aa 0 0 (-1) wt wy 0 (nI rm) (nI ud) (nI nu) sd (nI qn) (nI qw) qo (nI qb) (nI qp) qa (nI qi) (nI oc)), ra_I (g 24) cI 6 (l6 u0 u1 u2 u3 u4 u5), ra_I (g 25) cI 6 (l6 v0 v1 v2 v3 v4 v5), ra_N (g 26) cI 3200 cs, ra_I (g 31) cI 120 nw, ra_N (g 46) cI 9 pt, ra_J (g 86) cJ 1700 ql, ra_I (g 20) cI 4 (l4 (nI l0) (nI l1) (nI dm) (nI l3)), ra_I (g 38) cI 90 ws_, ra_I (g 36) cZ 900 yw, ra_I (g 37) cZ 900 yo, ra_J (g 43) cJ 90 be, ra_J (g 44) cJ 90 bf, ra_I (g 32) cI 29 az]) eu_4 hP hD rfl (fun hP hD => ?_)
  refine lv_if_ne (tgt := 13) hx hb dX12_later_8 (by decide) (fun c_6 => ?_) (fun c_6 => ?_)
  · have c_6 : ¬ (b_1 = 0) := fun h => c_6 ((neq b_1 0 (by omega) (Nat.le_of_ble_eq_true rfl)).mpr h)
    obtain ⟨hil1, ka, hka1, hka2, rfl, hka3⟩ := rr_1 hah_3 (by omega)
    have hdm1 := hild hil1
    refine lv_aload_n hx hb dX12_later_13 rfl (lv_at hl 0 rfl) ?_
    refine sk_Vv (q0 := 0) (n := 0) (rest := []) (wr := fmR om_14_2201 _) ⟨hx, hb, hml, hown, hts⟩ hl.1 (c_nm_putsAside l D cI cJ cC cZ cS mm g ta pa pe pd pb pp pf pg pn rt rn cd sn il tk am at_ aa wt wy rm ud nu sd qn qw qo qb qp qa qi oc nw az wn mN Ba We U ke lg hnw) w_8_9 w_8_11 w_0_91 w_1_14 w_8_12 hd_X12_putsAside_0 ⟨⟨(Nat.le_of_ble_eq_true rfl), (Nat.le_of_ble_eq_true rfl)⟩, (Nat.le_of_ble_eq_true rfl), (Nat.le_of_ble_eq_true rfl)⟩ hK hP hD hS hA (fmT om_14_2201 0) (fmF om_14_2201 0) (fm_C1 rfl rfl) (fm_R rfl rfl) (fm_nT om_14_2201 0) (fm_nF om_14_2201 0) (fm_di om_14_2201 0) rfl rfl rfl rfl (Nat.le_of_ble_eq_true rfl) dX12_later_14 (fun u H locs hw hP hD hS => ?_)
    refine exE hw (fun az2_7 hw1 => anE hw1 (fun haz2_8 eu_9 => ?_))
    clear hw hw1
    refine o_mgE (ws' := [ro_ mm 12 (mo g (nI ta) (nI pa) (nI pe) pd (nI pb) pp pf pg pn rt rn (nI cd) sn (nI il) tk am at_ aa 0 0 (-1) wt wy 1 (nI rm) (nI ud) (nI nu) sd (nI qn) (nI qw) qo (nI qb) (nI qp) qa (nI qi) (nI oc)), ra_I (g 24) cI 6 (l6 u0 u1 u2 u3 u4 u5), ra_I (g 25) cI 6 (l6 v0 v1 v2 v3 v4 v5), ra_N (g 26) cI 3200 cs, ra_I (g 31) cI 120 nw, ra_N (g 46) cI 9 pt, ra_J (g 86) cJ 1700 ql, ra_I (g 20) cI 4 (l4 (nI l0) (nI l1) (nI dm) (nI l3)), ra_I (g 38) cI 90 ws_, ra_I (g 36) cZ 900 yw, ra_I (g 37) cZ 900 yo, ra_J (g 43) cJ 90 be, ra_J (g 44) cJ 90 bf, ra_I (g 32) cI 29 az2_7]) eu_9 hP hD rfl (fun hP hD => ?_)
    refine lv_iconst (v := 1) hx hb dX12_later_17 ic_1 ?_
    refine lv_istore_n (lv' := [(2, .int 1), (0, .ref mm), (1, .int (nI ka))]) hx hb dX12_later_18 rfl hl (by decide) rfl (fun ls hl => ?_)
    refine lv_iconst (v := 0) hx hb dX12_later_19 ic_0 ?_
    refine lv_istore_n (lv' := [(3, .int 0), (2, .int 1), (0, .ref mm), (1, .int (nI ka))]) hx hb dX12_later_20 rfl hl (by decide) rfl (fun ls hl => ?_)
    have lp_10 : ∀ (n_11 : Nat) (i : Nat) (gb : Nat) (zaml : Int32) (zat_l : Int32) (zaal : Int32) (ztkl : Int32) (zqpl : Nat) (zwyl : Int64) (zn : Nat → Int32) (y46l : Nat → Nat) (y86l : Nat → Int64) (y38l : Nat → Int32) (y36l : Nat → Int32) (y37l : Nat → Int32) (y43l : Nat → Int64) (y44l : Nat → Int64) (wv : Nat) (mv : Nat) (H : Heap) (locs : List Loc) (ls : Array Slot), 31 - i < n_11 → (∀ j, y46l j ≤ 9) → (i ≤ 30) → (gb ≤ 1) → (wv ≤ wn + i) → (latI L dm Ba We U ka i wn mN wv mv gb) → (nwX wv mv Ba We U ke lg zn) → va_P D vwCl [ro_ mm 12 (mo g (nI ta) (nI pa) (nI pe) pd (nI pb) pp pf pg pn rt rn (nI cd) sn (nI il) ztkl zaml zat_l zaal 0 0 (-1) wt zwyl 1 (nI rm) (nI ud) (nI nu) sd (nI qn) (nI qw) qo (nI qb) (nI zqpl) qa (nI qi) (nI oc)), ra_I (g 24) cI 6 (l6 u0 u1 u2 u3 u4 u5), ra_I (g 25) cI 6 (l6 v0 v1 v2 v3 v4 v5), ra_N (g 26) cI 3200 cs, ra_I (g 31) cI 120 zn, ra_N (g 46) cI 9 y46l, ra_J (g 86) cJ 1700 y86l, ra_I (g 20) cI 4 (l4 (nI l0) (nI l1) (nI dm) (nI l3)), ra_I (g 38) cI 90 y38l, ra_I (g 36) cZ 900 y36l, ra_I (g 37) cZ 900 y37l, ra_J (g 43) cJ 90 y43l, ra_J (g 44) cJ 90 y44l, ra_I (g 32) cI 29 az2_7] H → va_D A [ro_ mm 12 (mo g (nI ta) (nI pa) (nI pe) pd (nI pb) pp pf pg pn rt rn (nI cd) sn (nI il) ztkl zaml zat_l zaal 0 0 (-1) wt zwyl 1 (nI rm) (nI ud) (nI nu) sd (nI qn) (nI qw) qo (nI qb) (nI zqpl) qa (nI qi) (nI oc)), ra_I (g 24) cI 6 (l6 u0 u1 u2 u3 u4 u5), ra_I (g 25) cI 6 (l6 v0 v1 v2 v3 v4 v5), ra_N (g 26) cI 3200 cs, ra_I (g 31) cI 120 zn, ra_N (g 46) cI 9 y46l, ra_J (g 86) cJ 1700 y86l, ra_I (g 20) cI 4 (l4 (nI l0) (nI l1) (nI dm) (nI l3)), ra_I (g 38) cI 90 y38l, ra_I (g 36) cZ 900 y36l, ra_I (g 37) cZ 900 y37l, ra_J (g 43) cJ 90 y43l, ra_J (g 44) cJ 90 y44l, ra_I (g 32) cI 29 az2_7] → va_S A s.heap H locs → lv_has ls 4 [(3, .int (nI i)), (2, .int (nI gb)), (0, .ref mm), (1, .int (nI ka))] → W p l e { frames := 7, cells := 0, slots := 0, locals := 162 } s m ([.ref mm, .int (nI ka)] : List Value).toArray below meth c H locs 0 0 (MQ below (skI D (skT cI cJ cC cZ cS) (fun (r : Int32) (u : va_W) => ∃ (nw2 : Nat → Int32), ∃ (tk2 : Int32), ∃ (qp2 : Nat), ∃ (am2 : Int32), ∃ (at_2 : Int32), ∃ (aa2 : Int32), ∃ (wy2 : Int64), ∃ (pt2 : Nat → Nat), ∃ (ql2 : Nat → Int64), ∃ (ws_2 : Nat → Int32), ∃ (yw2 : Nat → Int32), ∃ (yo2 : Nat → Int32), ∃ (be2 : Nat → Int64), ∃ (bf2 : Nat → Int64), ∃ (az2 : Nat → Int32), nwX wn mN Ba We U ke lg nw2 ∧ laterR L dm wn mN Ba We U (nI ka) r ∧ (∀ j, pt2 j ≤ 9) ∧ u = [ro_ mm 12 (mo g (nI ta) (nI pa) (nI pe) pd (nI pb) pp pf pg pn rt rn (nI cd) sn (nI il) tk2 am2 at_2 aa2 0 0 (-1) wt wy2 0 (nI rm) (nI ud) (nI nu) sd (nI qn) (nI qw) qo (nI qb) (nI qp2) qa (nI qi) (nI oc)), ra_I (g 24) cI 6 (l6 u0 u1 u2 u3 u4 u5), ra_I (g 25) cI 6 (l6 v0 v1 v2 v3 v4 v5), ra_N (g 26) cI 3200 cs, ra_I (g 31) cI 120 nw2, ra_N (g 46) cI 9 pt2, ra_J (g 86) cJ 1700 ql2, ra_I (g 20) cI 4 (l4 (nI l0) (nI l1) (nI dm) (nI l3)), ra_I (g 38) cI 90 ws_2, ra_I (g 36) cZ 900 yw2, ra_I (g 37) cZ 900 yo2, ra_J (g 43) cJ 90 be2, ra_J (g 44) cJ 90 bf2, ra_I (g 32) cI 29 az2]) A) ([.ref mm, .int (nI ka)] : List Value).toArray s 0 0 A) (F0 m 21 ls []) := by
      intro n_11
      induction n_11 with
      | zero => intro i gb zaml zat_l zaal ztkl zqpl zwyl zn y46l y86l y38l y36l y37l y43l y44l wv mv H locs ls hm; exact absurd hm (Nat.not_lt_zero _)
      | succ n_11 ih_lp_10 =>
        intro i gb zaml zat_l zaal ztkl zqpl zwyl zn y46l y86l y38l y36l y37l y43l y44l wv mv H locs ls hm hy46l hi hgb hwv hlt hzn hP hD hS hl
        refine lv_iload_n hx hb dX12_later_21 rfl (lv_at hl 0 rfl) ?_
        refine lv_iload_n hx hb dX12_later_22 rfl (lv_at hl 3 rfl) ?_
        refine lv_icmp_ge (tgt := 41) hx hb dX12_later_23 (by decide) (fun c_12 => ?_) (fun c_12 => ?_)
        · have c_12 : ka ≤ i := (nle ka i (by omega) (by omega)).mp c_12
          refine lv_aload_n hx hb dX12_later_41 rfl (lv_at hl 2 rfl) ?_
          refine sk_get (v := .ref (g 31)) (C := RX12) (T := TX12) (N := 92) hx hb hts inlX12 hown hK hP 0 rfl rfl 31 (Nat.le_of_ble_eq_true rfl) w_5_186 rfl dX12_later_42 ?_
          refine lv_iconst (v := 1) hx hb dX12_later_45 ic_1 ?_
          refine va_iald hx hb hK.1 hP 4 0 rfl rfl (by unfold vp_in; decide) dX12_later_46 ?_
          refine sk_top (nI mv) (nwX_1 hzn) ?_
          refine lv_istore_n (lv' := [(3, .int (nI mv)), (2, .int (nI gb)), (0, .ref mm), (1, .int (nI ka))]) hx hb dX12_later_47 rfl hl (by decide) rfl (fun ls hl => ?_)
          refine lv_aload_n hx hb dX12_later_48 rfl (lv_at hl 2 rfl) ?_
          refine sk_Vv (q0 := 0) (n := 0) (rest := []) (wr := fmR om_14_2201 _) ⟨hx, hb, hml, hown, hts⟩ hl.1 (c_nm_takesBack l D cI cJ cC cZ cS mm g ta pa pe pd pb pp pf pg pn rt rn cd sn il ztkl zaml zat_l zaal wt zwyl rm ud nu sd qn qw qo qb zqpl qa qi oc zn az2_7 wn mN Ba We U ke lg wv mv Ba We U haz2_8 hzn) w_8_25 w_8_27 w_0_95 w_1_14 w_8_28 hd_X12_takesBack_0 ⟨⟨(Nat.le_of_ble_eq_true rfl), (Nat.le_of_ble_eq_true rfl)⟩, (Nat.le_of_ble_eq_true rfl), (Nat.le_of_ble_eq_true rfl)⟩ hK hP hD hS hA (fmT om_14_2201 0) (fmF om_14_2201 0) (fm_C1 rfl rfl) (fm_R rfl rfl) (fm_nT om_14_2201 0) (fm_nF om_14_2201 0) (fm_di om_14_2201 0) rfl rfl rfl rfl (Nat.le_of_ble_eq_true rfl) dX12_later_49 (fun u H locs hw hP hD hS => ?_)
          refine exE hw (fun nw2_13 hw1 => anE hw1 (fun hnw2_14 eu_15 => ?_))
          clear hw hw1
          refine o_mgE (ws' := [ro_ mm 12 (mo g (nI ta) (nI pa) (nI pe) pd (nI pb) pp pf pg pn rt rn (nI cd) sn (nI il) ztkl zaml zat_l zaal 0 0 (-1) wt zwyl 0 (nI rm) (nI ud) (nI nu) sd (nI qn) (nI qw) qo (nI qb) (nI zqpl) qa (nI qi) (nI oc)), ra_I (g 24) cI 6 (l6 u0 u1 u2 u3 u4 u5), ra_I (g 25) cI 6 (l6 v0 v1 v2 v3 v4 v5), ra_N (g 26) cI 3200 cs, ra_I (g 31) cI 120 nw2_13, ra_N (g 46) cI 9 y46l, ra_J (g 86) cJ 1700 y86l, ra_I (g 20) cI 4 (l4 (nI l0) (nI l1) (nI dm) (nI l3)), ra_I (g 38) cI 90 y38l, ra_I (g 36) cZ 900 y36l, ra_I (g 37) cZ 900 y37l, ra_J (g 43) cJ 90 y43l, ra_J (g 44) cJ 90 y44l, ra_I (g 32) cI 29 az2_7]) eu_15 hP hD rfl (fun hP hD => ?_)
          refine lv_iload_n hx hb dX12_later_52 rfl (lv_at hl 1 rfl) ?_
          refine lv_if_eq (tgt := 60) hx hb dX12_later_53 (by decide) (fun c_16 => ?_) (fun c_16 => ?_)
          · have c_16 : gb = 0 := (neq gb 0 (by omega) (Nat.le_of_ble_eq_true rfl)).mp c_16
            refine lv_iconst (v := (-1)) hx hb dX12_later_60 (by decide) ?_
            exact sk_iret hx hb hr rfl hlocks hK hP hD hS (⟨nw2_13, ztkl, zqpl, zaml, zat_l, zaal, zwyl, y46l, y86l, y38l, y36l, y37l, y43l, y44l, az2_7, hnw2_14, lat_2 (by omega) (hlt.elim (fun q => absurd q.1 (by omega)) (fun q => q.2)), hy46l, rfl⟩) (Nat.le_of_ble_eq_true rfl) (Nat.le_of_ble_eq_true rfl) dX12_later_61
          · have c_16 : ¬ (gb = 0) := fun h => c_16 ((neq gb 0 (by omega) (Nat.le_of_ble_eq_true rfl)).mpr h)
            refine lv_iload_n hx hb dX12_later_56 rfl (lv_at hl 0 rfl) ?_
            refine lv_goto (tgt := 61) hx hb dX12_later_57 (by decide) ?_
            exact sk_iret hx hb hr rfl hlocks hK hP hD hS (⟨nw2_13, ztkl, zqpl, zaml, zat_l, zaal, zwyl, y46l, y86l, y38l, y36l, y37l, y43l, y44l, az2_7, hnw2_14, lat_3 (by omega) (by omega) (kLtI_e (hlt.elim (fun q => q.2) (fun q => absurd q.1 (by omega))) (by omega)), hy46l, rfl⟩) (Nat.le_of_ble_eq_true rfl) (Nat.le_of_ble_eq_true rfl) dX12_later_61
        · have c_12 : ¬ (ka ≤ i) := fun h => c_12 ((nle ka i (by omega) (by omega)).mpr h)
          refine lv_iload_n hx hb dX12_later_26 rfl (lv_at hl 1 rfl) ?_
          refine lv_if_eq (tgt := 41) hx hb dX12_later_27 (by decide) (fun c_17 => ?_) (fun c_17 => ?_)
          · have c_17 : gb = 0 := (neq gb 0 (by omega) (Nat.le_of_ble_eq_true rfl)).mp c_17
            refine lv_aload_n hx hb dX12_later_41 rfl (lv_at hl 2 rfl) ?_
            refine sk_get (v := .ref (g 31)) (C := RX12) (T := TX12) (N := 92) hx hb hts inlX12 hown hK hP 0 rfl rfl 31 (Nat.le_of_ble_eq_true rfl) w_5_186 rfl dX12_later_42 ?_
            refine lv_iconst (v := 1) hx hb dX12_later_45 ic_1 ?_
            refine va_iald hx hb hK.1 hP 4 0 rfl rfl (by unfold vp_in; decide) dX12_later_46 ?_
            refine sk_top (nI mv) (nwX_1 hzn) ?_
            refine lv_istore_n (lv' := [(3, .int (nI mv)), (2, .int (nI gb)), (0, .ref mm), (1, .int (nI ka))]) hx hb dX12_later_47 rfl hl (by decide) rfl (fun ls hl => ?_)
            refine lv_aload_n hx hb dX12_later_48 rfl (lv_at hl 2 rfl) ?_
            refine sk_Vv (q0 := 0) (n := 0) (rest := []) (wr := fmR om_14_2201 _) ⟨hx, hb, hml, hown, hts⟩ hl.1 (c_nm_takesBack l D cI cJ cC cZ cS mm g ta pa pe pd pb pp pf pg pn rt rn cd sn il ztkl zaml zat_l zaal wt zwyl rm ud nu sd qn qw qo qb zqpl qa qi oc zn az2_7 wn mN Ba We U ke lg wv mv Ba We U haz2_8 hzn) w_8_25 w_8_27 w_0_95 w_1_14 w_8_28 hd_X12_takesBack_0 ⟨⟨(Nat.le_of_ble_eq_true rfl), (Nat.le_of_ble_eq_true rfl)⟩, (Nat.le_of_ble_eq_true rfl), (Nat.le_of_ble_eq_true rfl)⟩ hK hP hD hS hA (fmT om_14_2201 0) (fmF om_14_2201 0) (fm_C1 rfl rfl) (fm_R rfl rfl) (fm_nT om_14_2201 0) (fm_nF om_14_2201 0) (fm_di om_14_2201 0) rfl rfl rfl rfl (Nat.le_of_ble_eq_true rfl) dX12_later_49 (fun u H locs hw hP hD hS => ?_)
            refine exE hw (fun nw2_18 hw1 => anE hw1 (fun hnw2_19 eu_20 => ?_))
            clear hw hw1
            refine o_mgE (ws' := [ro_ mm 12 (mo g (nI ta) (nI pa) (nI pe) pd (nI pb) pp pf pg pn rt rn (nI cd) sn (nI il) ztkl zaml zat_l zaal 0 0 (-1) wt zwyl 0 (nI rm) (nI ud) (nI nu) sd (nI qn) (nI qw) qo (nI qb) (nI zqpl) qa (nI qi) (nI oc)), ra_I (g 24) cI 6 (l6 u0 u1 u2 u3 u4 u5), ra_I (g 25) cI 6 (l6 v0 v1 v2 v3 v4 v5), ra_N (g 26) cI 3200 cs, ra_I (g 31) cI 120 nw2_18, ra_N (g 46) cI 9 y46l, ra_J (g 86) cJ 1700 y86l, ra_I (g 20) cI 4 (l4 (nI l0) (nI l1) (nI dm) (nI l3)), ra_I (g 38) cI 90 y38l, ra_I (g 36) cZ 900 y36l, ra_I (g 37) cZ 900 y37l, ra_J (g 43) cJ 90 y43l, ra_J (g 44) cJ 90 y44l, ra_I (g 32) cI 29 az2_7]) eu_20 hP hD rfl (fun hP hD => ?_)
            refine lv_iload_n hx hb dX12_later_52 rfl (lv_at hl 1 rfl) ?_
            refine lv_if_eq (tgt := 60) hx hb dX12_later_53 (by decide) (fun c_21 => ?_) (fun c_21 => ?_)
            · have c_21 : gb = 0 := (neq gb 0 (by omega) (Nat.le_of_ble_eq_true rfl)).mp c_21
              refine lv_iconst (v := (-1)) hx hb dX12_later_60 (by decide) ?_
              exact sk_iret hx hb hr rfl hlocks hK hP hD hS (⟨nw2_18, ztkl, zqpl, zaml, zat_l, zaal, zwyl, y46l, y86l, y38l, y36l, y37l, y43l, y44l, az2_7, hnw2_19, lat_2 (by omega) (hlt.elim (fun q => absurd q.1 (by omega)) (fun q => q.2)), hy46l, rfl⟩) (Nat.le_of_ble_eq_true rfl) (Nat.le_of_ble_eq_true rfl) dX12_later_61
            · have c_21 : ¬ (gb = 0) := fun h => c_21 ((neq gb 0 (by omega) (Nat.le_of_ble_eq_true rfl)).mpr h)
              refine lv_iload_n hx hb dX12_later_56 rfl (lv_at hl 0 rfl) ?_
              refine lv_goto (tgt := 61) hx hb dX12_later_57 (by decide) ?_
              exact sk_iret hx hb hr rfl hlocks hK hP hD hS (⟨nw2_18, ztkl, zqpl, zaml, zat_l, zaal, zwyl, y46l, y86l, y38l, y36l, y37l, y43l, y44l, az2_7, hnw2_19, lat_3 (by omega) (by omega) (kLtI_e (hlt.elim (fun q => q.2) (fun q => absurd q.1 (by omega))) (by omega)), hy46l, rfl⟩) (Nat.le_of_ble_eq_true rfl) (Nat.le_of_ble_eq_true rfl) dX12_later_61
          · have c_17 : ¬ (gb = 0) := fun h => c_17 ((neq gb 0 (by omega) (Nat.le_of_ble_eq_true rfl)).mpr h)
            refine lv_aload_n hx hb dX12_later_30 rfl (lv_at hl 2 rfl) ?_
            refine sk_Vi (q0 := 0) (n := 0) (rest := []) (wr := fmR om_14_3ffe _) ⟨hx, hb, hml, hown, hts⟩ hl.1 (c_nm_doGo l D cI cJ cC cZ cS mm g ta pa pe pd pb pp pf pg pn rt rn cd sn il ztkl zaml zat_l zaal wt zwyl rm ud nu sd qn qw qo qb zqpl qa qi oc u0 u1 u2 u3 u4 u5 v0 v1 v2 v3 v4 v5 cs zn y46l y86l l0 l1 dm l3 y38l y36l y37l y43l y44l wv mv Ba We U ke lg L hdm (by omega) hLk hkl hmw0 hmw1 hB9 hW9 (by omega) hcs hzn hy46l) w_8_13 w_8_15 w_0_92 w_1_14 w_8_16 hd_X12_doGo_0 ⟨⟨(Nat.le_of_ble_eq_true rfl), (Nat.le_of_ble_eq_true rfl)⟩, (Nat.le_of_ble_eq_true rfl), (Nat.le_of_ble_eq_true rfl)⟩ hK hP hD hS hA (fmT om_14_3ffe 0) (fmF om_14_3ffe 0) (fm_C1 rfl rfl) (fm_R rfl rfl) (fm_nT om_14_3ffe 0) (fm_nF om_14_3ffe 0) (fm_di om_14_3ffe 0) rfl rfl rfl rfl (Nat.le_of_ble_eq_true rfl) dX12_later_31 (fun r_39 u H locs hw hP hD hS => ?_)
            refine exE hw (fun wv2_22 hw1 => exE hw1 (fun mv2_23 hw2 => exE hw2 (fun b_24 hw3 => exE hw3 (fun nw2_25 hw4 => exE hw4 (fun tk2_26 hw5 => exE hw5 (fun qp2_27 hw6 => exE hw6 (fun am2_28 hw7 => exE hw7 (fun at_2_29 hw8 => exE hw8 (fun aa2_30 hw9 => exE hw9 (fun wy2_31 hw10 => exE hw10 (fun pt2_32 hw11 => exE hw11 (fun ql2_33 hw12 => exE hw12 (fun ws_2_34 hw13 => exE hw13 (fun yw2_35 hw14 => exE hw14 (fun yo2_36 hw15 => exE hw15 (fun be2_37 hw16 => exE hw16 (fun bf2_38 hw17 => anE hw17 (fun hnw2_40 hw18 => anE hw18 (fun hdg_41 hw19 => anE hw19 (fun hpt2_42 hw20 => anE hw20 (fun er_44 eu_43 => ?_)))))))))))))))))))))
            clear hw hw1 hw2 hw3 hw4 hw5 hw6 hw7 hw8 hw9 hw10 hw11 hw12 hw13 hw14 hw15 hw16 hw17 hw18 hw19 hw20
            subst er_44
            refine o_mgE (ws' := [ro_ mm 12 (mo g (nI ta) (nI pa) (nI pe) pd (nI pb) pp pf pg pn rt rn (nI cd) sn (nI il) tk2_26 am2_28 at_2_29 aa2_30 0 0 (-1) wt wy2_31 1 (nI rm) (nI ud) (nI nu) sd (nI qn) (nI qw) qo (nI qb) (nI qp2_27) qa (nI qi) (nI oc)), ra_I (g 24) cI 6 (l6 u0 u1 u2 u3 u4 u5), ra_I (g 25) cI 6 (l6 v0 v1 v2 v3 v4 v5), ra_N (g 26) cI 3200 cs, ra_I (g 31) cI 120 nw2_25, ra_N (g 46) cI 9 pt2_32, ra_J (g 86) cJ 1700 ql2_33, ra_I (g 20) cI 4 (l4 (nI l0) (nI l1) (nI dm) (nI l3)), ra_I (g 38) cI 90 ws_2_34, ra_I (g 36) cZ 900 yw2_35, ra_I (g 37) cZ 900 yo2_36, ra_J (g 43) cJ 90 be2_37, ra_J (g 44) cJ 90 bf2_38, ra_I (g 32) cI 29 az2_7]) eu_43 hP hD rfl (fun hP hD => ?_)
            have hm_45 := hnw2_40.1
            have hm_46 := hnw.1
            refine lv_istore_n (lv' := [(2, .int (nI b_24)), (3, .int (nI i)), (0, .ref mm), (1, .int (nI ka))]) hx hb dX12_later_34 rfl hl (by decide) rfl (fun ls hl => ?_)
            refine lv_iinc (v := nI (i + 1)) (lv' := [(3, .int (nI (i + 1))), (2, .int (nI b_24)), (0, .ref mm), (1, .int (nI ka))]) hx hb dX12_later_35 hl (k := 1) rfl (ninc i 1 (by decide)) (by decide) rfl (fun ls hl => ?_)
            refine lv_goto (tgt := 21) hx hb dX12_later_38 (by decide) ?_
            exact ih_lp_10 (i + 1) b_24 am2_28 at_2_29 aa2_30 tk2_26 qp2_27 wy2_31 nw2_25 pt2_32 ql2_33 ws_2_34 yw2_35 yo2_36 be2_37 bf2_38 wv2_22 mv2_23 _ _ _ (by omega) hpt2_42 (by omega) (by omega) (by omega) (latI_s (ke := ke) hlt (by omega) (by omega) (by omega) hdg_41) hnw2_40 hP hD hS (lv_sub hl [0, 1, 2, 3] rfl)
    exact lp_10 (31 - 0 + 1) 0 1 am at_ aa tk qp wy nw pt ql ws_ yw yo be bf wn mN _ _ _ (Nat.lt_succ_self _) hpt (by omega) (by omega) (by omega) (Or.inl ⟨rfl, kLtI_0⟩) hnw hP hD hS (lv_sub hl [0, 1, 2, 3] rfl)
  · have c_6 : b_1 = 0 := (neq b_1 0 (by omega) (Nat.le_of_ble_eq_true rfl)).mp c_6
    refine lv_iconst (v := (-1)) hx hb dX12_later_11 (by decide) ?_
    exact sk_iret hx hb hr rfl hlocks hK hP hD hS (⟨nw, tk, qp, am, at_, aa, wy, pt, ql, ws_, yw, yo, be, bf, az, hnw, lat_a (rr_0 hah_3 (by omega)) hilb hwk, hpt, rfl⟩) (Nat.le_of_ble_eq_true rfl) (Nat.le_of_ble_eq_true rfl) dX12_later_12
theorem dg_X12_ring_0_0 : bqL cX12_ring 0 [(0, [42]), (1, [180, 1, 46]), (4, [154, 0, 5]), (9, [42]), (10, [180, 0, 63]), (13, [4]), (14, [46]), (15, [60]), (16, [2]), (17, [61]), (18, [42]), (19, [182, 1, 173]), (22, [4]), (23, [62]), (24, [29]), (25, [16, 30]), (27, [163, 0, 45]), (72, [42]), (73, [182, 1, 180]), (76, [28]), (77, [172]), (30, [28]), (31, [2]), (32, [160, 0, 40]), (35, [42]), (36, [180, 0, 63]), (39, [3]), (40, [46]), (41, [17, 3, 231]), (44, [162, 0, 28]), (47, [42]), (48, [182, 1, 176]), (51, [153, 0, 21]), (54, [42]), (55, [180, 0, 63]), (58, [4]), (59, [46]), (60, [27]), (61, [160, 0, 5]), (66, [132, 3, 1])] = true := by decide +kernel
theorem dX12_ring_0 : decode cX12_ring 0 = .ok (.aload_n 0, 1) := q_aload_n0 (bat_get dg_X12_ring_0_0 0 rfl rfl)
theorem dX12_ring_1 : decode cX12_ring 1 = .ok (.getfield 302, 3) := q_getfield (bat_get dg_X12_ring_0_0 1 rfl rfl) rfl
theorem dX12_ring_4 : decode cX12_ring 4 = .ok (.ifCond .ne 5, 3) := q_ifCond_ne (bat_get dg_X12_ring_0_0 2 rfl rfl) rfl
theorem dX12_ring_9 : decode cX12_ring 9 = .ok (.aload_n 0, 1) := q_aload_n0 (bat_get dg_X12_ring_0_0 3 rfl rfl)
theorem dX12_ring_10 : decode cX12_ring 10 = .ok (.getfield 63, 3) := q_getfield (bat_get dg_X12_ring_0_0 4 rfl rfl) rfl
theorem dX12_ring_13 : decode cX12_ring 13 = .ok (.iconst 1, 1) := q_iconst1 (bat_get dg_X12_ring_0_0 5 rfl rfl)
theorem dX12_ring_14 : decode cX12_ring 14 = .ok (.iaload, 1) := q_iaload (bat_get dg_X12_ring_0_0 6 rfl rfl)
theorem dX12_ring_15 : decode cX12_ring 15 = .ok (.istore_n 1, 1) := q_istore_n1 (bat_get dg_X12_ring_0_0 7 rfl rfl)
theorem dX12_ring_16 : decode cX12_ring 16 = .ok (.iconst (-1), 1) := q_iconstm1 (bat_get dg_X12_ring_0_0 8 rfl rfl)
theorem dX12_ring_17 : decode cX12_ring 17 = .ok (.istore_n 2, 1) := q_istore_n2 (bat_get dg_X12_ring_0_0 9 rfl rfl)
theorem dX12_ring_18 : decode cX12_ring 18 = .ok (.aload_n 0, 1) := q_aload_n0 (bat_get dg_X12_ring_0_0 10 rfl rfl)
theorem dX12_ring_19 : decode cX12_ring 19 = .ok (.invokevirtual 429, 3) := q_invokevirtual (bat_get dg_X12_ring_0_0 11 rfl rfl) rfl
theorem dX12_ring_22 : decode cX12_ring 22 = .ok (.iconst 1, 1) := q_iconst1 (bat_get dg_X12_ring_0_0 12 rfl rfl)
theorem dX12_ring_23 : decode cX12_ring 23 = .ok (.istore_n 3, 1) := q_istore_n3 (bat_get dg_X12_ring_0_0 13 rfl rfl)
theorem dX12_ring_24 : decode cX12_ring 24 = .ok (.iload_n 3, 1) := q_iload_n3 (bat_get dg_X12_ring_0_0 14 rfl rfl)
theorem dX12_ring_25 : decode cX12_ring 25 = .ok (.bipush 30, 2) := q_bipush (bat_get dg_X12_ring_0_0 15 rfl rfl) rfl
theorem dX12_ring_27 : decode cX12_ring 27 = .ok (.if_icmp .gt 45, 3) := q_if_icmp_gt (bat_get dg_X12_ring_0_0 16 rfl rfl) rfl
theorem dX12_ring_72 : decode cX12_ring 72 = .ok (.aload_n 0, 1) := q_aload_n0 (bat_get dg_X12_ring_0_0 17 rfl rfl)
theorem dX12_ring_73 : decode cX12_ring 73 = .ok (.invokevirtual 436, 3) := q_invokevirtual (bat_get dg_X12_ring_0_0 18 rfl rfl) rfl
theorem dX12_ring_76 : decode cX12_ring 76 = .ok (.iload_n 2, 1) := q_iload_n2 (bat_get dg_X12_ring_0_0 19 rfl rfl)
theorem dX12_ring_77 : decode cX12_ring 77 = .ok (.ireturn, 1) := q_ireturn (bat_get dg_X12_ring_0_0 20 rfl rfl)
theorem dX12_ring_30 : decode cX12_ring 30 = .ok (.iload_n 2, 1) := q_iload_n2 (bat_get dg_X12_ring_0_0 21 rfl rfl)
theorem dX12_ring_31 : decode cX12_ring 31 = .ok (.iconst (-1), 1) := q_iconstm1 (bat_get dg_X12_ring_0_0 22 rfl rfl)
theorem dX12_ring_32 : decode cX12_ring 32 = .ok (.if_icmp .ne 40, 3) := q_if_icmp_ne (bat_get dg_X12_ring_0_0 23 rfl rfl) rfl
theorem dX12_ring_35 : decode cX12_ring 35 = .ok (.aload_n 0, 1) := q_aload_n0 (bat_get dg_X12_ring_0_0 24 rfl rfl)
theorem dX12_ring_36 : decode cX12_ring 36 = .ok (.getfield 63, 3) := q_getfield (bat_get dg_X12_ring_0_0 25 rfl rfl) rfl
theorem dX12_ring_39 : decode cX12_ring 39 = .ok (.iconst 0, 1) := q_iconst0 (bat_get dg_X12_ring_0_0 26 rfl rfl)
theorem dX12_ring_40 : decode cX12_ring 40 = .ok (.iaload, 1) := q_iaload (bat_get dg_X12_ring_0_0 27 rfl rfl)
theorem dX12_ring_41 : decode cX12_ring 41 = .ok (.sipush 999, 3) := q_sipush (bat_get dg_X12_ring_0_0 28 rfl rfl) rfl
theorem dX12_ring_44 : decode cX12_ring 44 = .ok (.if_icmp .ge 28, 3) := q_if_icmp_ge (bat_get dg_X12_ring_0_0 29 rfl rfl) rfl
theorem dX12_ring_47 : decode cX12_ring 47 = .ok (.aload_n 0, 1) := q_aload_n0 (bat_get dg_X12_ring_0_0 30 rfl rfl)
theorem dX12_ring_48 : decode cX12_ring 48 = .ok (.invokevirtual 432, 3) := q_invokevirtual (bat_get dg_X12_ring_0_0 31 rfl rfl) rfl
theorem dX12_ring_51 : decode cX12_ring 51 = .ok (.ifCond .eq 21, 3) := q_ifCond_eq (bat_get dg_X12_ring_0_0 32 rfl rfl) rfl
theorem dX12_ring_54 : decode cX12_ring 54 = .ok (.aload_n 0, 1) := q_aload_n0 (bat_get dg_X12_ring_0_0 33 rfl rfl)
theorem dX12_ring_55 : decode cX12_ring 55 = .ok (.getfield 63, 3) := q_getfield (bat_get dg_X12_ring_0_0 34 rfl rfl) rfl
theorem dX12_ring_58 : decode cX12_ring 58 = .ok (.iconst 1, 1) := q_iconst1 (bat_get dg_X12_ring_0_0 35 rfl rfl)
theorem dX12_ring_59 : decode cX12_ring 59 = .ok (.iaload, 1) := q_iaload (bat_get dg_X12_ring_0_0 36 rfl rfl)
theorem dX12_ring_60 : decode cX12_ring 60 = .ok (.iload_n 1, 1) := q_iload_n1 (bat_get dg_X12_ring_0_0 37 rfl rfl)
theorem dX12_ring_61 : decode cX12_ring 61 = .ok (.if_icmp .ne 5, 3) := q_if_icmp_ne (bat_get dg_X12_ring_0_0 38 rfl rfl) rfl
theorem dX12_ring_66 : decode cX12_ring 66 = .ok (.iinc 3 1, 3) := q_iinc (bat_get dg_X12_ring_0_0 39 rfl rfl) rfl
theorem dg_X12_ring_7_69 : bqL cX12_ring 7 [(62, [167, 255, 211]), (57, [29]), (58, [61]), (0, [2]), (1, [172])] = true := by decide +kernel
theorem dX12_ring_69 : decode cX12_ring 69 = .ok (.goto (-45), 3) := q_goto (bat_get dg_X12_ring_7_69 0 rfl rfl) rfl
theorem dX12_ring_64 : decode cX12_ring 64 = .ok (.iload_n 3, 1) := q_iload_n3 (bat_get dg_X12_ring_7_69 1 rfl rfl)
theorem dX12_ring_65 : decode cX12_ring 65 = .ok (.istore_n 2, 1) := q_istore_n2 (bat_get dg_X12_ring_7_69 2 rfl rfl)
theorem dX12_ring_7 : decode cX12_ring 7 = .ok (.iconst (-1), 1) := q_iconstm1 (bat_get dg_X12_ring_7_69 3 rfl rfl)
theorem dX12_ring_8 : decode cX12_ring 8 = .ok (.ireturn, 1) := q_ireturn (bat_get dg_X12_ring_7_69 4 rfl rfl)
theorem w_8_32 : (Cond.code yX12_ring cX12_ring 4 (some .int)) ∈ wsL_law := sk_mem (ck_8 _ (List.mem_of_getElem? (i := 32) rfl)) rfl
set_option maxHeartbeats 4000000 in
set_option maxRecDepth 100000 in
theorem c_vm_ring (l : Launch) (D : va_G) (cI cJ cC cZ cS : ClassId) (mm : Nat) (g : Nat → Nat) (ta : Nat) (pa : Nat) (pe : Nat) (pd : Int32) (pb : Nat) (pp : Int32) (pf : Int32) (pg : Int32) (pn : Int32) (rt : Int32) (rn : Int32) (cd : Nat) (sn : Int32) (il : Nat) (tk : Int32) (am : Int32) (at_ : Int32) (aa : Int32) (wt : Int32) (wy : Int64) (rm : Nat) (ud : Nat) (nu : Nat) (sd : Int64) (qn : Nat) (qw : Nat) (qo : Int32) (qb : Nat) (qp : Nat) (qa : Int64) (qi : Nat) (oc : Nat) (u0 : Int32) (u1 : Int32) (u2 : Int32) (u3 : Int32) (u4 : Int32) (u5 : Int32) (v0 : Int32) (v1 : Int32) (v2 : Int32) (v3 : Int32) (v4 : Int32) (v5 : Int32) (cs : Nat → Nat) (nw : Nat → Int32) (pt : Nat → Nat) (ql : Nat → Int64) (l0 : Nat) (l1 : Nat) (dm : Nat) (l3 : Nat) (ws_ : Nat → Int32) (yw : Nat → Int32) (yo : Nat → Int32) (be : Nat → Int64) (bf : Nat → Int64) (az : Nat → Int32) (wn : Nat) (mN : Nat) (Ba : Nat → Nat) (We : Nat → Nat) (U : Nat → Bool) (ke : Nat) (lg : KLg) (L : LkS) (hil : il ≤ 1) (hild : il = 1 → 1 ≤ dm) (hilb : 1 ≤ dm → il = 1) (hdm : dm ≤ 9) (hLk : kcLk L) (hkl : (lK L).length ≤ 1600) (hmw0 : mwO L 0 u3 v3 cs) (hmw1 : mwO L 1 u4 v4 cs) (hB9 : ∀ j, Ba j ≤ 9) (hW9 : ∀ j, We j ≤ 9) (hwk : wn ≤ 999) (hcs : ∀ j, cs j ≤ 20000) (hnw : nwX wn mN Ba We U ke lg nw) (hpt : ∀ j, pt j ≤ 9) : skM l yX12_ring cX12_ring 4 (some .int) 7 162 0 0 D (skT cI cJ cC cZ cS) [.ref mm] [ro_ mm 12 (mo g (nI ta) (nI pa) (nI pe) pd (nI pb) pp pf pg pn rt rn (nI cd) sn (nI il) tk am at_ aa 0 0 (-1) wt wy 0 (nI rm) (nI ud) (nI nu) sd (nI qn) (nI qw) qo (nI qb) (nI qp) qa (nI qi) (nI oc)), ra_I (g 24) cI 6 (l6 u0 u1 u2 u3 u4 u5), ra_I (g 25) cI 6 (l6 v0 v1 v2 v3 v4 v5), ra_N (g 26) cI 3200 cs, ra_I (g 31) cI 120 nw, ra_N (g 46) cI 9 pt, ra_J (g 86) cJ 1700 ql, ra_I (g 20) cI 4 (l4 (nI l0) (nI l1) (nI dm) (nI l3)), ra_I (g 38) cI 90 ws_, ra_I (g 36) cZ 900 yw, ra_I (g 37) cZ 900 yo, ra_J (g 43) cJ 90 be, ra_J (g 44) cJ 90 bf, ra_I (g 32) cI 29 az] (skI D (skT cI cJ cC cZ cS) (fun (r : Int32) (u : va_W) => ∃ (nw2 : Nat → Int32), ∃ (tk2 : Int32), ∃ (qp2 : Nat), ∃ (am2 : Int32), ∃ (at_2 : Int32), ∃ (aa2 : Int32), ∃ (wy2 : Int64), ∃ (pt2 : Nat → Nat), ∃ (ql2 : Nat → Int64), ∃ (ws_2 : Nat → Int32), ∃ (yw2 : Nat → Int32), ∃ (yo2 : Nat → Int32), ∃ (be2 : Nat → Int64), ∃ (bf2 : Nat → Int64), ∃ (az2 : Nat → Int32), nwX wn mN Ba We U ke lg nw2 ∧ ringR L dm wn mN Ba We U r ∧ (∀ j, pt2 j ≤ 9) ∧ u = [ro_ mm 12 (mo g (nI ta) (nI pa) (nI pe) pd (nI pb) pp pf pg pn rt rn (nI cd) sn (nI il) tk2 am2 at_2 aa2 0 0 (-1) wt wy2 0 (nI rm) (nI ud) (nI nu) sd (nI qn) (nI qw) qo (nI qb) (nI qp2) qa (nI qi) (nI oc)), ra_I (g 24) cI 6 (l6 u0 u1 u2 u3 u4 u5), ra_I (g 25) cI 6 (l6 v0 v1 v2 v3 v4 v5), ra_N (g 26) cI 3200 cs, ra_I (g 31) cI 120 nw2, ra_N (g 46) cI 9 pt2, ra_J (g 86) cJ 1700 ql2, ra_I (g 20) cI 4 (l4 (nI l0) (nI l1) (nI dm) (nI l3)), ra_I (g 38) cI 90 ws_2, ra_I (g 36) cZ 900 yw2, ra_I (g 37) cZ 900 yo2, ra_J (g 43) cJ 90 be2, ra_J (g 44) cJ 90 bf2, ra_I (g 32) cI 29 az2])) := by
  refine skM_of pf_X12_ring (Nat.le_of_ble_eq_true rfl) ?_
  intro p e s m below meth c A ls E hP hD hl
  refine skE_el E (fun hx hb hr hml hlocks hin hown hts hK hA => ?_)
  have hown : s.vm.findClass RX12 = some m.cls := hown
  have hS : va_S A s.heap s.heap [] := va_S.rf
  have hl : lv_has ls 4 [(0, .ref mm)] := hl
  refine lv_aload_n hx hb dX12_ring_0 rfl (lv_at hl 0 rfl) ?_
  refine sk_get (v := .int (nI il)) (C := RX12) (T := TX12) (N := 92) hx hb hts inlX12 hown hK hP 0 rfl rfl 29 (Nat.le_of_ble_eq_true rfl) w_5_184 rfl dX12_ring_1 ?_
  refine lv_if_ne (tgt := 9) hx hb dX12_ring_4 (by decide) (fun c_1 => ?_) (fun c_1 => ?_)
  · have c_1 : ¬ (il = 0) := fun h => c_1 ((neq il 0 (by omega) (Nat.le_of_ble_eq_true rfl)).mpr h)
    refine lv_aload_n hx hb dX12_ring_9 rfl (lv_at hl 0 rfl) ?_
    refine sk_get (v := .ref (g 31)) (C := RX12) (T := TX12) (N := 92) hx hb hts inlX12 hown hK hP 0 rfl rfl 31 (Nat.le_of_ble_eq_true rfl) w_5_186 rfl dX12_ring_10 ?_
    refine lv_iconst (v := 1) hx hb dX12_ring_13 ic_1 ?_
    refine va_iald hx hb hK.1 hP 4 0 rfl rfl (by unfold vp_in; decide) dX12_ring_14 ?_
    refine sk_top (nI mN) (nwX_1 hnw) ?_
    refine lv_istore_n (lv' := [(1, .int (nI mN)), (0, .ref mm)]) hx hb dX12_ring_15 rfl hl (by decide) rfl (fun ls hl => ?_)
    refine lv_iconst (v := (-1)) hx hb dX12_ring_16 (by decide) ?_
    refine lv_istore_n (lv' := [(2, .int (-1)), (1, .int (nI mN)), (0, .ref mm)]) hx hb dX12_ring_17 rfl hl (by decide) rfl (fun ls hl => ?_)
    refine lv_aload_n hx hb dX12_ring_18 rfl (lv_at hl 2 rfl) ?_
    refine sk_Vv (q0 := 0) (n := 0) (rest := []) (wr := fmR om_14_2201 _) ⟨hx, hb, hml, hown, hts⟩ hl.1 (c_nm_putsAside l D cI cJ cC cZ cS mm g ta pa pe pd pb pp pf pg pn rt rn cd sn il tk am at_ aa wt wy rm ud nu sd qn qw qo qb qp qa qi oc nw az wn mN Ba We U ke lg hnw) w_8_9 w_8_11 w_0_91 w_1_14 w_8_12 hd_X12_putsAside_0 ⟨⟨(Nat.le_of_ble_eq_true rfl), (Nat.le_of_ble_eq_true rfl)⟩, (Nat.le_of_ble_eq_true rfl), (Nat.le_of_ble_eq_true rfl)⟩ hK hP hD hS hA (fmT om_14_2201 0) (fmF om_14_2201 0) (fm_C1 rfl rfl) (fm_R rfl rfl) (fm_nT om_14_2201 0) (fm_nF om_14_2201 0) (fm_di om_14_2201 0) rfl rfl rfl rfl (Nat.le_of_ble_eq_true rfl) dX12_ring_19 (fun u H locs hw hP hD hS => ?_)
    refine exE hw (fun az2_2 hw1 => anE hw1 (fun haz2_3 eu_4 => ?_))
    clear hw hw1
    refine o_mgE (ws' := [ro_ mm 12 (mo g (nI ta) (nI pa) (nI pe) pd (nI pb) pp pf pg pn rt rn (nI cd) sn (nI il) tk am at_ aa 0 0 (-1) wt wy 1 (nI rm) (nI ud) (nI nu) sd (nI qn) (nI qw) qo (nI qb) (nI qp) qa (nI qi) (nI oc)), ra_I (g 24) cI 6 (l6 u0 u1 u2 u3 u4 u5), ra_I (g 25) cI 6 (l6 v0 v1 v2 v3 v4 v5), ra_N (g 26) cI 3200 cs, ra_I (g 31) cI 120 nw, ra_N (g 46) cI 9 pt, ra_J (g 86) cJ 1700 ql, ra_I (g 20) cI 4 (l4 (nI l0) (nI l1) (nI dm) (nI l3)), ra_I (g 38) cI 90 ws_, ra_I (g 36) cZ 900 yw, ra_I (g 37) cZ 900 yo, ra_J (g 43) cJ 90 be, ra_J (g 44) cJ 90 bf, ra_I (g 32) cI 29 az2_2]) eu_4 hP hD rfl (fun hP hD => ?_)
    refine lv_iconst (v := 1) hx hb dX12_ring_22 ic_1 ?_
    refine lv_istore_n (lv' := [(3, .int 1), (2, .int (-1)), (1, .int (nI mN)), (0, .ref mm)]) hx hb dX12_ring_23 rfl hl (by decide) rfl (fun ls hl => ?_)
    have lp_5 : ∀ (n_6 : Nat) (i : Nat) (fo : Int32) (zaml : Int32) (zat_l : Int32) (zaal : Int32) (ztkl : Int32) (zqpl : Nat) (zwyl : Int64) (zn : Nat → Int32) (y46l : Nat → Nat) (y86l : Nat → Int64) (y38l : Nat → Int32) (y36l : Nat → Int32) (y37l : Nat → Int32) (y43l : Nat → Int64) (y44l : Nat → Int64) (wv : Nat) (mv : Nat) (H : Heap) (locs : List Loc) (ls : Array Slot), 31 - i < n_6 → (∀ j, y46l j ≤ 9) → (i ≤ 31) → (wv ≤ 999) → (rngI L dm Ba We U mN i wn wv mv fo) → (nwX wv mv Ba We U ke lg zn) → va_P D vwCl [ro_ mm 12 (mo g (nI ta) (nI pa) (nI pe) pd (nI pb) pp pf pg pn rt rn (nI cd) sn (nI il) ztkl zaml zat_l zaal 0 0 (-1) wt zwyl 1 (nI rm) (nI ud) (nI nu) sd (nI qn) (nI qw) qo (nI qb) (nI zqpl) qa (nI qi) (nI oc)), ra_I (g 24) cI 6 (l6 u0 u1 u2 u3 u4 u5), ra_I (g 25) cI 6 (l6 v0 v1 v2 v3 v4 v5), ra_N (g 26) cI 3200 cs, ra_I (g 31) cI 120 zn, ra_N (g 46) cI 9 y46l, ra_J (g 86) cJ 1700 y86l, ra_I (g 20) cI 4 (l4 (nI l0) (nI l1) (nI dm) (nI l3)), ra_I (g 38) cI 90 y38l, ra_I (g 36) cZ 900 y36l, ra_I (g 37) cZ 900 y37l, ra_J (g 43) cJ 90 y43l, ra_J (g 44) cJ 90 y44l, ra_I (g 32) cI 29 az2_2] H → va_D A [ro_ mm 12 (mo g (nI ta) (nI pa) (nI pe) pd (nI pb) pp pf pg pn rt rn (nI cd) sn (nI il) ztkl zaml zat_l zaal 0 0 (-1) wt zwyl 1 (nI rm) (nI ud) (nI nu) sd (nI qn) (nI qw) qo (nI qb) (nI zqpl) qa (nI qi) (nI oc)), ra_I (g 24) cI 6 (l6 u0 u1 u2 u3 u4 u5), ra_I (g 25) cI 6 (l6 v0 v1 v2 v3 v4 v5), ra_N (g 26) cI 3200 cs, ra_I (g 31) cI 120 zn, ra_N (g 46) cI 9 y46l, ra_J (g 86) cJ 1700 y86l, ra_I (g 20) cI 4 (l4 (nI l0) (nI l1) (nI dm) (nI l3)), ra_I (g 38) cI 90 y38l, ra_I (g 36) cZ 900 y36l, ra_I (g 37) cZ 900 y37l, ra_J (g 43) cJ 90 y43l, ra_J (g 44) cJ 90 y44l, ra_I (g 32) cI 29 az2_2] → va_S A s.heap H locs → lv_has ls 4 [(3, .int (nI i)), (2, .int fo), (1, .int (nI mN)), (0, .ref mm)] → W p l e { frames := 7, cells := 0, slots := 0, locals := 162 } s m ([.ref mm] : List Value).toArray below meth c H locs 0 0 (MQ below (skI D (skT cI cJ cC cZ cS) (fun (r : Int32) (u : va_W) => ∃ (nw2 : Nat → Int32), ∃ (tk2 : Int32), ∃ (qp2 : Nat), ∃ (am2 : Int32), ∃ (at_2 : Int32), ∃ (aa2 : Int32), ∃ (wy2 : Int64), ∃ (pt2 : Nat → Nat), ∃ (ql2 : Nat → Int64), ∃ (ws_2 : Nat → Int32), ∃ (yw2 : Nat → Int32), ∃ (yo2 : Nat → Int32), ∃ (be2 : Nat → Int64), ∃ (bf2 : Nat → Int64), ∃ (az2 : Nat → Int32), nwX wn mN Ba We U ke lg nw2 ∧ ringR L dm wn mN Ba We U r ∧ (∀ j, pt2 j ≤ 9) ∧ u = [ro_ mm 12 (mo g (nI ta) (nI pa) (nI pe) pd (nI pb) pp pf pg pn rt rn (nI cd) sn (nI il) tk2 am2 at_2 aa2 0 0 (-1) wt wy2 0 (nI rm) (nI ud) (nI nu) sd (nI qn) (nI qw) qo (nI qb) (nI qp2) qa (nI qi) (nI oc)), ra_I (g 24) cI 6 (l6 u0 u1 u2 u3 u4 u5), ra_I (g 25) cI 6 (l6 v0 v1 v2 v3 v4 v5), ra_N (g 26) cI 3200 cs, ra_I (g 31) cI 120 nw2, ra_N (g 46) cI 9 pt2, ra_J (g 86) cJ 1700 ql2, ra_I (g 20) cI 4 (l4 (nI l0) (nI l1) (nI dm) (nI l3)), ra_I (g 38) cI 90 ws_2, ra_I (g 36) cZ 900 yw2, ra_I (g 37) cZ 900 yo2, ra_J (g 43) cJ 90 be2, ra_J (g 44) cJ 90 bf2, ra_I (g 32) cI 29 az2]) A) ([.ref mm] : List Value).toArray s 0 0 A) (F0 m 24 ls []) := by
      intro n_6
      induction n_6 with
      | zero => intro i fo zaml zat_l zaal ztkl zqpl zwyl zn y46l y86l y38l y36l y37l y43l y44l wv mv H locs ls hm; exact absurd hm (Nat.not_lt_zero _)
      | succ n_6 ih_lp_5 =>
        intro i fo zaml zat_l zaal ztkl zqpl zwyl zn y46l y86l y38l y36l y37l y43l y44l wv mv H locs ls hm hy46l hi hwv hri hzn hP hD hS hl
        refine lv_iload_n hx hb dX12_ring_24 rfl (lv_at hl 0 rfl) ?_
        refine lv_bipush (v := 30) hx hb dX12_ring_25 (by decide) ?_
        refine lv_icmp_gt (tgt := 72) hx hb dX12_ring_27 (by decide) (fun c_7 => ?_) (fun c_7 => ?_)
        · have c_7 : 30 < i := (nlt 30 i (Nat.le_of_ble_eq_true rfl) (by omega)).mp c_7
          refine lv_aload_n hx hb dX12_ring_72 rfl (lv_at hl 3 rfl) ?_
          refine sk_Vv (q0 := 0) (n := 0) (rest := []) (wr := fmR om_14_2201 _) ⟨hx, hb, hml, hown, hts⟩ hl.1 (c_nm_takesBack l D cI cJ cC cZ cS mm g ta pa pe pd pb pp pf pg pn rt rn cd sn il ztkl zaml zat_l zaal wt zwyl rm ud nu sd qn qw qo qb zqpl qa qi oc zn az2_2 wn mN Ba We U ke lg wv mv Ba We U haz2_3 hzn) w_8_25 w_8_27 w_0_95 w_1_14 w_8_28 hd_X12_takesBack_0 ⟨⟨(Nat.le_of_ble_eq_true rfl), (Nat.le_of_ble_eq_true rfl)⟩, (Nat.le_of_ble_eq_true rfl), (Nat.le_of_ble_eq_true rfl)⟩ hK hP hD hS hA (fmT om_14_2201 0) (fmF om_14_2201 0) (fm_C1 rfl rfl) (fm_R rfl rfl) (fm_nT om_14_2201 0) (fm_nF om_14_2201 0) (fm_di om_14_2201 0) rfl rfl rfl rfl (Nat.le_of_ble_eq_true rfl) dX12_ring_73 (fun u H locs hw hP hD hS => ?_)
          refine exE hw (fun nw2_8 hw1 => anE hw1 (fun hnw2_9 eu_10 => ?_))
          clear hw hw1
          refine o_mgE (ws' := [ro_ mm 12 (mo g (nI ta) (nI pa) (nI pe) pd (nI pb) pp pf pg pn rt rn (nI cd) sn (nI il) ztkl zaml zat_l zaal 0 0 (-1) wt zwyl 0 (nI rm) (nI ud) (nI nu) sd (nI qn) (nI qw) qo (nI qb) (nI zqpl) qa (nI qi) (nI oc)), ra_I (g 24) cI 6 (l6 u0 u1 u2 u3 u4 u5), ra_I (g 25) cI 6 (l6 v0 v1 v2 v3 v4 v5), ra_N (g 26) cI 3200 cs, ra_I (g 31) cI 120 nw2_8, ra_N (g 46) cI 9 y46l, ra_J (g 86) cJ 1700 y86l, ra_I (g 20) cI 4 (l4 (nI l0) (nI l1) (nI dm) (nI l3)), ra_I (g 38) cI 90 y38l, ra_I (g 36) cZ 900 y36l, ra_I (g 37) cZ 900 y37l, ra_J (g 43) cJ 90 y43l, ra_J (g 44) cJ 90 y44l, ra_I (g 32) cI 29 az2_2]) eu_10 hP hD rfl (fun hP hD => ?_)
          refine lv_iload_n hx hb dX12_ring_76 rfl (lv_at hl 1 rfl) ?_
          exact sk_iret hx hb hr rfl hlocks hK hP hD hS (⟨nw2_8, ztkl, zqpl, zaml, zat_l, zaal, zwyl, y46l, y86l, y38l, y36l, y37l, y43l, y44l, az2_2, hnw2_9, rin_f hri (by omega) (fun e => kRgI_e (rng_k hri e) (by omega)), hy46l, rfl⟩) (Nat.le_of_ble_eq_true rfl) (Nat.le_of_ble_eq_true rfl) dX12_ring_77
        · have c_7 : ¬ (30 < i) := fun h => c_7 ((nlt 30 i (Nat.le_of_ble_eq_true rfl) (by omega)).mpr h)
          refine lv_iload_n hx hb dX12_ring_30 rfl (lv_at hl 1 rfl) ?_
          refine lv_iconst (v := (-1)) hx hb dX12_ring_31 (by decide) ?_
          refine lv_icmp_ne (tgt := 72) hx hb dX12_ring_32 (by decide) (fun c_11 => ?_) (fun c_11 => ?_)
          · skip
            refine lv_aload_n hx hb dX12_ring_72 rfl (lv_at hl 3 rfl) ?_
            refine sk_Vv (q0 := 0) (n := 0) (rest := []) (wr := fmR om_14_2201 _) ⟨hx, hb, hml, hown, hts⟩ hl.1 (c_nm_takesBack l D cI cJ cC cZ cS mm g ta pa pe pd pb pp pf pg pn rt rn cd sn il ztkl zaml zat_l zaal wt zwyl rm ud nu sd qn qw qo qb zqpl qa qi oc zn az2_2 wn mN Ba We U ke lg wv mv Ba We U haz2_3 hzn) w_8_25 w_8_27 w_0_95 w_1_14 w_8_28 hd_X12_takesBack_0 ⟨⟨(Nat.le_of_ble_eq_true rfl), (Nat.le_of_ble_eq_true rfl)⟩, (Nat.le_of_ble_eq_true rfl), (Nat.le_of_ble_eq_true rfl)⟩ hK hP hD hS hA (fmT om_14_2201 0) (fmF om_14_2201 0) (fm_C1 rfl rfl) (fm_R rfl rfl) (fm_nT om_14_2201 0) (fm_nF om_14_2201 0) (fm_di om_14_2201 0) rfl rfl rfl rfl (Nat.le_of_ble_eq_true rfl) dX12_ring_73 (fun u H locs hw hP hD hS => ?_)
            refine exE hw (fun nw2_12 hw1 => anE hw1 (fun hnw2_13 eu_14 => ?_))
            clear hw hw1
            refine o_mgE (ws' := [ro_ mm 12 (mo g (nI ta) (nI pa) (nI pe) pd (nI pb) pp pf pg pn rt rn (nI cd) sn (nI il) ztkl zaml zat_l zaal 0 0 (-1) wt zwyl 0 (nI rm) (nI ud) (nI nu) sd (nI qn) (nI qw) qo (nI qb) (nI zqpl) qa (nI qi) (nI oc)), ra_I (g 24) cI 6 (l6 u0 u1 u2 u3 u4 u5), ra_I (g 25) cI 6 (l6 v0 v1 v2 v3 v4 v5), ra_N (g 26) cI 3200 cs, ra_I (g 31) cI 120 nw2_12, ra_N (g 46) cI 9 y46l, ra_J (g 86) cJ 1700 y86l, ra_I (g 20) cI 4 (l4 (nI l0) (nI l1) (nI dm) (nI l3)), ra_I (g 38) cI 90 y38l, ra_I (g 36) cZ 900 y36l, ra_I (g 37) cZ 900 y37l, ra_J (g 43) cJ 90 y43l, ra_J (g 44) cJ 90 y44l, ra_I (g 32) cI 29 az2_2]) eu_14 hP hD rfl (fun hP hD => ?_)
            refine lv_iload_n hx hb dX12_ring_76 rfl (lv_at hl 1 rfl) ?_
            exact sk_iret hx hb hr rfl hlocks hK hP hD hS (⟨nw2_12, ztkl, zqpl, zaml, zat_l, zaal, zwyl, y46l, y86l, y38l, y36l, y37l, y43l, y44l, az2_2, hnw2_13, rin_f hri (by omega) (fun e => absurd e c_11), hy46l, rfl⟩) (Nat.le_of_ble_eq_true rfl) (Nat.le_of_ble_eq_true rfl) dX12_ring_77
          · skip
            refine lv_aload_n hx hb dX12_ring_35 rfl (lv_at hl 3 rfl) ?_
            refine sk_get (v := .ref (g 31)) (C := RX12) (T := TX12) (N := 92) hx hb hts inlX12 hown hK hP 0 rfl rfl 31 (Nat.le_of_ble_eq_true rfl) w_5_186 rfl dX12_ring_36 ?_
            refine lv_iconst (v := 0) hx hb dX12_ring_39 ic_0 ?_
            refine va_iald hx hb hK.1 hP 4 0 rfl rfl (by unfold vp_in; decide) dX12_ring_40 ?_
            refine sk_top (nI wv) (nwX_0 hzn) ?_
            refine lv_sipush (v := 999) hx hb dX12_ring_41 (by decide) ?_
            refine lv_icmp_ge (tgt := 72) hx hb dX12_ring_44 (by decide) (fun c_15 => ?_) (fun c_15 => ?_)
            · have c_15 : 999 ≤ wv := (nle 999 wv (Nat.le_of_ble_eq_true rfl) (by omega)).mp c_15
              refine lv_aload_n hx hb dX12_ring_72 rfl (lv_at hl 3 rfl) ?_
              refine sk_Vv (q0 := 0) (n := 0) (rest := []) (wr := fmR om_14_2201 _) ⟨hx, hb, hml, hown, hts⟩ hl.1 (c_nm_takesBack l D cI cJ cC cZ cS mm g ta pa pe pd pb pp pf pg pn rt rn cd sn il ztkl zaml zat_l zaal wt zwyl rm ud nu sd qn qw qo qb zqpl qa qi oc zn az2_2 wn mN Ba We U ke lg wv mv Ba We U haz2_3 hzn) w_8_25 w_8_27 w_0_95 w_1_14 w_8_28 hd_X12_takesBack_0 ⟨⟨(Nat.le_of_ble_eq_true rfl), (Nat.le_of_ble_eq_true rfl)⟩, (Nat.le_of_ble_eq_true rfl), (Nat.le_of_ble_eq_true rfl)⟩ hK hP hD hS hA (fmT om_14_2201 0) (fmF om_14_2201 0) (fm_C1 rfl rfl) (fm_R rfl rfl) (fm_nT om_14_2201 0) (fm_nF om_14_2201 0) (fm_di om_14_2201 0) rfl rfl rfl rfl (Nat.le_of_ble_eq_true rfl) dX12_ring_73 (fun u H locs hw hP hD hS => ?_)
              refine exE hw (fun nw2_16 hw1 => anE hw1 (fun hnw2_17 eu_18 => ?_))
              clear hw hw1
              refine o_mgE (ws' := [ro_ mm 12 (mo g (nI ta) (nI pa) (nI pe) pd (nI pb) pp pf pg pn rt rn (nI cd) sn (nI il) ztkl zaml zat_l zaal 0 0 (-1) wt zwyl 0 (nI rm) (nI ud) (nI nu) sd (nI qn) (nI qw) qo (nI qb) (nI zqpl) qa (nI qi) (nI oc)), ra_I (g 24) cI 6 (l6 u0 u1 u2 u3 u4 u5), ra_I (g 25) cI 6 (l6 v0 v1 v2 v3 v4 v5), ra_N (g 26) cI 3200 cs, ra_I (g 31) cI 120 nw2_16, ra_N (g 46) cI 9 y46l, ra_J (g 86) cJ 1700 y86l, ra_I (g 20) cI 4 (l4 (nI l0) (nI l1) (nI dm) (nI l3)), ra_I (g 38) cI 90 y38l, ra_I (g 36) cZ 900 y36l, ra_I (g 37) cZ 900 y37l, ra_J (g 43) cJ 90 y43l, ra_J (g 44) cJ 90 y44l, ra_I (g 32) cI 29 az2_2]) eu_18 hP hD rfl (fun hP hD => ?_)
              refine lv_iload_n hx hb dX12_ring_76 rfl (lv_at hl 1 rfl) ?_
              exact sk_iret hx hb hr rfl hlocks hK hP hD hS (⟨nw2_16, ztkl, zqpl, zaml, zat_l, zaal, zwyl, y46l, y86l, y38l, y36l, y37l, y43l, y44l, az2_2, hnw2_17, rin_f hri (by omega) (fun e => kRgI_n (rng_k hri e) (by omega) (fun q => absurd q.1 (by omega))), hy46l, rfl⟩) (Nat.le_of_ble_eq_true rfl) (Nat.le_of_ble_eq_true rfl) dX12_ring_77
            · have c_15 : ¬ (999 ≤ wv) := fun h => c_15 ((nle 999 wv (Nat.le_of_ble_eq_true rfl) (by omega)).mpr h)
              refine lv_aload_n hx hb dX12_ring_47 rfl (lv_at hl 3 rfl) ?_
              refine sk_Vi (q0 := 0) (n := 0) (rest := []) (wr := fmR om_14_3ffe _) ⟨hx, hb, hml, hown, hts⟩ hl.1 (c_nm_doGo l D cI cJ cC cZ cS mm g ta pa pe pd pb pp pf pg pn rt rn cd sn il ztkl zaml zat_l zaal wt zwyl rm ud nu sd qn qw qo qb zqpl qa qi oc u0 u1 u2 u3 u4 u5 v0 v1 v2 v3 v4 v5 cs zn y46l y86l l0 l1 dm l3 y38l y36l y37l y43l y44l wv mv Ba We U ke lg L hdm (by omega) hLk hkl hmw0 hmw1 hB9 hW9 hwv hcs hzn hy46l) w_8_13 w_8_15 w_0_92 w_1_14 w_8_16 hd_X12_doGo_0 ⟨⟨(Nat.le_of_ble_eq_true rfl), (Nat.le_of_ble_eq_true rfl)⟩, (Nat.le_of_ble_eq_true rfl), (Nat.le_of_ble_eq_true rfl)⟩ hK hP hD hS hA (fmT om_14_3ffe 0) (fmF om_14_3ffe 0) (fm_C1 rfl rfl) (fm_R rfl rfl) (fm_nT om_14_3ffe 0) (fm_nF om_14_3ffe 0) (fm_di om_14_3ffe 0) rfl rfl rfl rfl (Nat.le_of_ble_eq_true rfl) dX12_ring_48 (fun r_36 u H locs hw hP hD hS => ?_)
              refine exE hw (fun wv2_19 hw1 => exE hw1 (fun mv2_20 hw2 => exE hw2 (fun b_21 hw3 => exE hw3 (fun nw2_22 hw4 => exE hw4 (fun tk2_23 hw5 => exE hw5 (fun qp2_24 hw6 => exE hw6 (fun am2_25 hw7 => exE hw7 (fun at_2_26 hw8 => exE hw8 (fun aa2_27 hw9 => exE hw9 (fun wy2_28 hw10 => exE hw10 (fun pt2_29 hw11 => exE hw11 (fun ql2_30 hw12 => exE hw12 (fun ws_2_31 hw13 => exE hw13 (fun yw2_32 hw14 => exE hw14 (fun yo2_33 hw15 => exE hw15 (fun be2_34 hw16 => exE hw16 (fun bf2_35 hw17 => anE hw17 (fun hnw2_37 hw18 => anE hw18 (fun hdg_38 hw19 => anE hw19 (fun hpt2_39 hw20 => anE hw20 (fun er_41 eu_40 => ?_)))))))))))))))))))))
              clear hw hw1 hw2 hw3 hw4 hw5 hw6 hw7 hw8 hw9 hw10 hw11 hw12 hw13 hw14 hw15 hw16 hw17 hw18 hw19 hw20
              subst er_41
              refine o_mgE (ws' := [ro_ mm 12 (mo g (nI ta) (nI pa) (nI pe) pd (nI pb) pp pf pg pn rt rn (nI cd) sn (nI il) tk2_23 am2_25 at_2_26 aa2_27 0 0 (-1) wt wy2_28 1 (nI rm) (nI ud) (nI nu) sd (nI qn) (nI qw) qo (nI qb) (nI qp2_24) qa (nI qi) (nI oc)), ra_I (g 24) cI 6 (l6 u0 u1 u2 u3 u4 u5), ra_I (g 25) cI 6 (l6 v0 v1 v2 v3 v4 v5), ra_N (g 26) cI 3200 cs, ra_I (g 31) cI 120 nw2_22, ra_N (g 46) cI 9 pt2_29, ra_J (g 86) cJ 1700 ql2_30, ra_I (g 20) cI 4 (l4 (nI l0) (nI l1) (nI dm) (nI l3)), ra_I (g 38) cI 90 ws_2_31, ra_I (g 36) cZ 900 yw2_32, ra_I (g 37) cZ 900 yo2_33, ra_J (g 43) cJ 90 be2_34, ra_J (g 44) cJ 90 bf2_35, ra_I (g 32) cI 29 az2_2]) eu_40 hP hD rfl (fun hP hD => ?_)
              have hm_42 := hnw2_37.1
              have hm_43 := hnw.1
              refine lv_if_eq (tgt := 72) hx hb dX12_ring_51 (by decide) (fun c_44 => ?_) (fun c_44 => ?_)
              · have c_44 : b_21 = 0 := (neq b_21 0 (by omega) (Nat.le_of_ble_eq_true rfl)).mp c_44
                refine lv_aload_n hx hb dX12_ring_72 rfl (lv_at hl 3 rfl) ?_
                refine sk_Vv (q0 := 0) (n := 0) (rest := []) (wr := fmR om_14_2201 _) ⟨hx, hb, hml, hown, hts⟩ hl.1 (c_nm_takesBack l D cI cJ cC cZ cS mm g ta pa pe pd pb pp pf pg pn rt rn cd sn il tk2_23 am2_25 at_2_26 aa2_27 wt wy2_28 rm ud nu sd qn qw qo qb qp2_24 qa qi oc nw2_22 az2_2 wn mN Ba We U ke lg wv2_19 mv2_20 Ba We U haz2_3 hnw2_37) w_8_25 w_8_27 w_0_95 w_1_14 w_8_28 hd_X12_takesBack_0 ⟨⟨(Nat.le_of_ble_eq_true rfl), (Nat.le_of_ble_eq_true rfl)⟩, (Nat.le_of_ble_eq_true rfl), (Nat.le_of_ble_eq_true rfl)⟩ hK hP hD hS hA (fmT om_14_2201 0) (fmF om_14_2201 0) (fm_C1 rfl rfl) (fm_R rfl rfl) (fm_nT om_14_2201 0) (fm_nF om_14_2201 0) (fm_di om_14_2201 0) rfl rfl rfl rfl (Nat.le_of_ble_eq_true rfl) dX12_ring_73 (fun u H locs hw hP hD hS => ?_)
                refine exE hw (fun nw2_45 hw1 => anE hw1 (fun hnw2_46 eu_47 => ?_))
                clear hw hw1
                refine o_mgE (ws' := [ro_ mm 12 (mo g (nI ta) (nI pa) (nI pe) pd (nI pb) pp pf pg pn rt rn (nI cd) sn (nI il) tk2_23 am2_25 at_2_26 aa2_27 0 0 (-1) wt wy2_28 0 (nI rm) (nI ud) (nI nu) sd (nI qn) (nI qw) qo (nI qb) (nI qp2_24) qa (nI qi) (nI oc)), ra_I (g 24) cI 6 (l6 u0 u1 u2 u3 u4 u5), ra_I (g 25) cI 6 (l6 v0 v1 v2 v3 v4 v5), ra_N (g 26) cI 3200 cs, ra_I (g 31) cI 120 nw2_45, ra_N (g 46) cI 9 pt2_29, ra_J (g 86) cJ 1700 ql2_30, ra_I (g 20) cI 4 (l4 (nI l0) (nI l1) (nI dm) (nI l3)), ra_I (g 38) cI 90 ws_2_31, ra_I (g 36) cZ 900 yw2_32, ra_I (g 37) cZ 900 yo2_33, ra_J (g 43) cJ 90 be2_34, ra_J (g 44) cJ 90 bf2_35, ra_I (g 32) cI 29 az2_2]) eu_47 hP hD rfl (fun hP hD => ?_)
                refine lv_iload_n hx hb dX12_ring_76 rfl (lv_at hl 1 rfl) ?_
                exact sk_iret hx hb hr rfl hlocks hK hP hD hS (⟨nw2_45, tk2_23, qp2_24, am2_25, at_2_26, aa2_27, wy2_28, pt2_29, ql2_30, ws_2_31, yw2_32, yo2_33, be2_34, bf2_35, az2_2, hnw2_46, rin_f hri (by omega) (fun e => kRgI_n (rng_k hri e) (by omega) (fun q => absurd q.2 (by rw [(rr_0 hdg_38 (by omega)).1]; exact Nat.lt_irrefl 0))), hpt2_39, rfl⟩) (Nat.le_of_ble_eq_true rfl) (Nat.le_of_ble_eq_true rfl) dX12_ring_77
              · have c_44 : ¬ (b_21 = 0) := fun h => c_44 ((neq b_21 0 (by omega) (Nat.le_of_ble_eq_true rfl)).mpr h)
                refine lv_aload_n hx hb dX12_ring_54 rfl (lv_at hl 3 rfl) ?_
                refine sk_get (v := .ref (g 31)) (C := RX12) (T := TX12) (N := 92) hx hb hts inlX12 hown hK hP 0 rfl rfl 31 (Nat.le_of_ble_eq_true rfl) w_5_186 rfl dX12_ring_55 ?_
                refine lv_iconst (v := 1) hx hb dX12_ring_58 ic_1 ?_
                refine va_iald hx hb hK.1 hP 4 0 rfl rfl (by unfold vp_in; decide) dX12_ring_59 ?_
                refine sk_top (nI mv2_20) (nwX_1 hnw2_37) ?_
                refine lv_iload_n hx hb dX12_ring_60 rfl (lv_at hl 2 rfl) ?_
                refine lv_icmp_ne (tgt := 66) hx hb dX12_ring_61 (by decide) (fun c_48 => ?_) (fun c_48 => ?_)
                · have c_48 : ¬ (mv2_20 = mN) := fun h => c_48 ((neq mv2_20 mN (by omega) (by omega)).mpr h)
                  refine lv_iinc (v := nI (i + 1)) (lv' := [(3, .int (nI (i + 1))), (2, .int fo), (1, .int (nI mN)), (0, .ref mm)]) hx hb dX12_ring_66 hl (k := 0) rfl (ninc i 1 (by decide)) (by decide) rfl (fun ls hl => ?_)
                  refine lv_goto (tgt := 24) hx hb dX12_ring_69 (by decide) ?_
                  exact ih_lp_5 (i + 1) fo am2_25 at_2_26 aa2_27 tk2_23 qp2_24 wy2_28 nw2_22 pt2_29 ql2_30 ws_2_31 yw2_32 yo2_33 be2_34 bf2_35 wv2_19 mv2_20 _ _ _ (by omega) hpt2_39 (by omega) (by omega) (Or.inl ⟨c_11, kRgI_s (rng_k hri c_11) (by omega) ⟨by omega, (rr_1 hdg_38 (by omega)).1⟩ (rr_1 hdg_38 (by omega)).2.1 (rr_1 hdg_38 (by omega)).2.2 c_48⟩) hnw2_37 hP hD hS (lv_sub hl [0, 1, 2, 3] rfl)
                · have c_48 : mv2_20 = mN := (neq mv2_20 mN (by omega) (by omega)).mp c_48
                  refine lv_iload_n hx hb dX12_ring_64 rfl (lv_at hl 0 rfl) ?_
                  refine lv_istore_n (lv' := [(2, .int (nI i)), (3, .int (nI i)), (1, .int (nI mN)), (0, .ref mm)]) hx hb dX12_ring_65 rfl hl (by decide) rfl (fun ls hl => ?_)
                  refine lv_iinc (v := nI (i + 1)) (lv' := [(3, .int (nI (i + 1))), (2, .int (nI i)), (1, .int (nI mN)), (0, .ref mm)]) hx hb dX12_ring_66 hl (k := 1) rfl (ninc i 1 (by decide)) (by decide) rfl (fun ls hl => ?_)
                  refine lv_goto (tgt := 24) hx hb dX12_ring_69 (by decide) ?_
                  exact ih_lp_5 (i + 1) (nI i) am2_25 at_2_26 aa2_27 tk2_23 qp2_24 wy2_28 nw2_22 pt2_29 ql2_30 ws_2_31 yw2_32 yo2_33 be2_34 bf2_35 wv2_19 mv2_20 _ _ _ (by omega) hpt2_39 (by omega) (by omega) (Or.inr ⟨i, by omega, rfl, kRgI_y (rng_k hri c_11) (by omega) ⟨by omega, (rr_1 hdg_38 (by omega)).1⟩ (rr_1 hdg_38 (by omega)).2.2 c_48⟩) hnw2_37 hP hD hS (lv_sub hl [0, 1, 2, 3] rfl)
    exact lp_5 (31 - 1 + 1) 1 (-1) am at_ aa tk qp wy nw pt ql ws_ yw yo be bf wn mN _ _ _ (Nat.lt_succ_self _) hpt (by omega) (by omega) (Or.inl ⟨rfl, kRgI_0⟩) hnw hP hD hS (lv_sub hl [0, 1, 2, 3] rfl)
  · have c_1 : il = 0 := (neq il 0 (by omega) (Nat.le_of_ble_eq_true rfl)).mp c_1
    refine lv_iconst (v := (-1)) hx hb dX12_ring_7 (by decide) ?_
    exact sk_iret hx hb hr rfl hlocks hK hP hD hS (⟨nw, tk, qp, am, at_, aa, wy, pt, ql, ws_, yw, yo, be, bf, az, hnw, rin_0 (by omega), hpt, rfl⟩) (Nat.le_of_ble_eq_true rfl) (Nat.le_of_ble_eq_true rfl) dX12_ring_8
theorem dg_X12_frees_0_0 : bqL cX12_frees 0 [(0, [42]), (1, [27]), (2, [182, 1, 157]), (5, [153, 0, 13]), (18, [2]), (19, [172]), (8, [28]), (9, [133]), (10, [9]), (11, [10]), (12, [184, 0, 238]), (15, [154, 0, 5]), (20, [5]), (21, [6]), (22, [27]), (23, [104]), (24, [96]), (25, [28]), (26, [96]), (27, [62]), (28, [42]), (29, [180, 0, 63]), (32, [29]), (33, [46]), (34, [54, 4]), (36, [2]), (37, [54, 5]), (39, [9]), (40, [55, 6]), (42, [3]), (43, [54, 8]), (45, [21, 8]), (47, [16, 10]), (49, [162, 0, 50]), (99, [42]), (100, [180, 0, 63]), (103, [29]), (104, [21, 4]), (106, [79]), (107, [21, 5])] = true := by decide +kernel
theorem dX12_frees_0 : decode cX12_frees 0 = .ok (.aload_n 0, 1) := q_aload_n0 (bat_get dg_X12_frees_0_0 0 rfl rfl)
theorem dX12_frees_1 : decode cX12_frees 1 = .ok (.iload_n 1, 1) := q_iload_n1 (bat_get dg_X12_frees_0_0 1 rfl rfl)
theorem dX12_frees_2 : decode cX12_frees 2 = .ok (.invokevirtual 413, 3) := q_invokevirtual (bat_get dg_X12_frees_0_0 2 rfl rfl) rfl
theorem dX12_frees_5 : decode cX12_frees 5 = .ok (.ifCond .eq 13, 3) := q_ifCond_eq (bat_get dg_X12_frees_0_0 3 rfl rfl) rfl
theorem dX12_frees_18 : decode cX12_frees 18 = .ok (.iconst (-1), 1) := q_iconstm1 (bat_get dg_X12_frees_0_0 4 rfl rfl)
theorem dX12_frees_19 : decode cX12_frees 19 = .ok (.ireturn, 1) := q_ireturn (bat_get dg_X12_frees_0_0 5 rfl rfl)
theorem dX12_frees_8 : decode cX12_frees 8 = .ok (.iload_n 2, 1) := q_iload_n2 (bat_get dg_X12_frees_0_0 6 rfl rfl)
theorem dX12_frees_9 : decode cX12_frees 9 = .ok (.i2l, 1) := q_i2l (bat_get dg_X12_frees_0_0 7 rfl rfl)
theorem dX12_frees_10 : decode cX12_frees 10 = .ok (.lconst 0, 1) := q_lconst0 (bat_get dg_X12_frees_0_0 8 rfl rfl)
theorem dX12_frees_11 : decode cX12_frees 11 = .ok (.lconst 1, 1) := q_lconst1 (bat_get dg_X12_frees_0_0 9 rfl rfl)
theorem dX12_frees_12 : decode cX12_frees 12 = .ok (.invokestatic 238, 3) := q_invokestatic (bat_get dg_X12_frees_0_0 10 rfl rfl) rfl
theorem dX12_frees_15 : decode cX12_frees 15 = .ok (.ifCond .ne 5, 3) := q_ifCond_ne (bat_get dg_X12_frees_0_0 11 rfl rfl) rfl
theorem dX12_frees_20 : decode cX12_frees 20 = .ok (.iconst 2, 1) := q_iconst2 (bat_get dg_X12_frees_0_0 12 rfl rfl)
theorem dX12_frees_21 : decode cX12_frees 21 = .ok (.iconst 3, 1) := q_iconst3 (bat_get dg_X12_frees_0_0 13 rfl rfl)
theorem dX12_frees_22 : decode cX12_frees 22 = .ok (.iload_n 1, 1) := q_iload_n1 (bat_get dg_X12_frees_0_0 14 rfl rfl)
theorem dX12_frees_23 : decode cX12_frees 23 = .ok (.imul, 1) := q_imul (bat_get dg_X12_frees_0_0 15 rfl rfl)
theorem dX12_frees_24 : decode cX12_frees 24 = .ok (.iadd, 1) := q_iadd (bat_get dg_X12_frees_0_0 16 rfl rfl)
theorem dX12_frees_25 : decode cX12_frees 25 = .ok (.iload_n 2, 1) := q_iload_n2 (bat_get dg_X12_frees_0_0 17 rfl rfl)
theorem dX12_frees_26 : decode cX12_frees 26 = .ok (.iadd, 1) := q_iadd (bat_get dg_X12_frees_0_0 18 rfl rfl)
theorem dX12_frees_27 : decode cX12_frees 27 = .ok (.istore_n 3, 1) := q_istore_n3 (bat_get dg_X12_frees_0_0 19 rfl rfl)
theorem dX12_frees_28 : decode cX12_frees 28 = .ok (.aload_n 0, 1) := q_aload_n0 (bat_get dg_X12_frees_0_0 20 rfl rfl)
theorem dX12_frees_29 : decode cX12_frees 29 = .ok (.getfield 63, 3) := q_getfield (bat_get dg_X12_frees_0_0 21 rfl rfl) rfl
theorem dX12_frees_32 : decode cX12_frees 32 = .ok (.iload_n 3, 1) := q_iload_n3 (bat_get dg_X12_frees_0_0 22 rfl rfl)
theorem dX12_frees_33 : decode cX12_frees 33 = .ok (.iaload, 1) := q_iaload (bat_get dg_X12_frees_0_0 23 rfl rfl)
theorem dX12_frees_34 : decode cX12_frees 34 = .ok (.istore 4, 2) := q_istore (bat_get dg_X12_frees_0_0 24 rfl rfl)
theorem dX12_frees_36 : decode cX12_frees 36 = .ok (.iconst (-1), 1) := q_iconstm1 (bat_get dg_X12_frees_0_0 25 rfl rfl)
theorem dX12_frees_37 : decode cX12_frees 37 = .ok (.istore 5, 2) := q_istore (bat_get dg_X12_frees_0_0 26 rfl rfl)
theorem dX12_frees_39 : decode cX12_frees 39 = .ok (.lconst 0, 1) := q_lconst0 (bat_get dg_X12_frees_0_0 27 rfl rfl)
theorem dX12_frees_40 : decode cX12_frees 40 = .ok (.lstore 6, 2) := q_lstore (bat_get dg_X12_frees_0_0 28 rfl rfl)
theorem dX12_frees_42 : decode cX12_frees 42 = .ok (.iconst 0, 1) := q_iconst0 (bat_get dg_X12_frees_0_0 29 rfl rfl)
theorem dX12_frees_43 : decode cX12_frees 43 = .ok (.istore 8, 2) := q_istore (bat_get dg_X12_frees_0_0 30 rfl rfl)
theorem dX12_frees_45 : decode cX12_frees 45 = .ok (.iload 8, 2) := q_iload (bat_get dg_X12_frees_0_0 31 rfl rfl)
theorem dX12_frees_47 : decode cX12_frees 47 = .ok (.bipush 10, 2) := q_bipush (bat_get dg_X12_frees_0_0 32 rfl rfl) rfl
theorem dX12_frees_49 : decode cX12_frees 49 = .ok (.if_icmp .ge 50, 3) := q_if_icmp_ge (bat_get dg_X12_frees_0_0 33 rfl rfl) rfl
theorem dX12_frees_99 : decode cX12_frees 99 = .ok (.aload_n 0, 1) := q_aload_n0 (bat_get dg_X12_frees_0_0 34 rfl rfl)
theorem dX12_frees_100 : decode cX12_frees 100 = .ok (.getfield 63, 3) := q_getfield (bat_get dg_X12_frees_0_0 35 rfl rfl) rfl
theorem dX12_frees_103 : decode cX12_frees 103 = .ok (.iload_n 3, 1) := q_iload_n3 (bat_get dg_X12_frees_0_0 36 rfl rfl)
theorem dX12_frees_104 : decode cX12_frees 104 = .ok (.iload 4, 2) := q_iload (bat_get dg_X12_frees_0_0 37 rfl rfl)
theorem dX12_frees_106 : decode cX12_frees 106 = .ok (.iastore, 1) := q_iastore (bat_get dg_X12_frees_0_0 38 rfl rfl)
theorem dX12_frees_107 : decode cX12_frees 107 = .ok (.iload 5, 2) := q_iload (bat_get dg_X12_frees_0_0 39 rfl rfl)
theorem dg_X12_frees_52_109 : bqL cX12_frees 52 [(57, [172]), (0, [42]), (1, [180, 0, 63]), (4, [29]), (5, [21, 8]), (7, [79]), (8, [42]), (9, [182, 1, 144]), (12, [21, 5]), (14, [2]), (15, [159, 0, 16]), (31, [21, 8]), (33, [54, 5]), (35, [42]), (36, [180, 1, 126]), (39, [55, 6]), (41, [132, 8, 1]), (44, [167, 255, 205]), (18, [42]), (19, [180, 1, 126]), (22, [22, 6]), (24, [148]), (25, [157, 0, 6]), (28, [167, 0, 13])] = true := by decide +kernel
theorem dX12_frees_109 : decode cX12_frees 109 = .ok (.ireturn, 1) := q_ireturn (bat_get dg_X12_frees_52_109 0 rfl rfl)
theorem dX12_frees_52 : decode cX12_frees 52 = .ok (.aload_n 0, 1) := q_aload_n0 (bat_get dg_X12_frees_52_109 1 rfl rfl)
theorem dX12_frees_53 : decode cX12_frees 53 = .ok (.getfield 63, 3) := q_getfield (bat_get dg_X12_frees_52_109 2 rfl rfl) rfl
theorem dX12_frees_56 : decode cX12_frees 56 = .ok (.iload_n 3, 1) := q_iload_n3 (bat_get dg_X12_frees_52_109 3 rfl rfl)
theorem dX12_frees_57 : decode cX12_frees 57 = .ok (.iload 8, 2) := q_iload (bat_get dg_X12_frees_52_109 4 rfl rfl)
theorem dX12_frees_59 : decode cX12_frees 59 = .ok (.iastore, 1) := q_iastore (bat_get dg_X12_frees_52_109 5 rfl rfl)
theorem dX12_frees_60 : decode cX12_frees 60 = .ok (.aload_n 0, 1) := q_aload_n0 (bat_get dg_X12_frees_52_109 6 rfl rfl)
theorem dX12_frees_61 : decode cX12_frees 61 = .ok (.invokevirtual 400, 3) := q_invokevirtual (bat_get dg_X12_frees_52_109 7 rfl rfl) rfl
theorem dX12_frees_64 : decode cX12_frees 64 = .ok (.iload 5, 2) := q_iload (bat_get dg_X12_frees_52_109 8 rfl rfl)
theorem dX12_frees_66 : decode cX12_frees 66 = .ok (.iconst (-1), 1) := q_iconstm1 (bat_get dg_X12_frees_52_109 9 rfl rfl)
theorem dX12_frees_67 : decode cX12_frees 67 = .ok (.if_icmp .eq 16, 3) := q_if_icmp_eq (bat_get dg_X12_frees_52_109 10 rfl rfl) rfl
theorem dX12_frees_83 : decode cX12_frees 83 = .ok (.iload 8, 2) := q_iload (bat_get dg_X12_frees_52_109 11 rfl rfl)
theorem dX12_frees_85 : decode cX12_frees 85 = .ok (.istore 5, 2) := q_istore (bat_get dg_X12_frees_52_109 12 rfl rfl)
theorem dX12_frees_87 : decode cX12_frees 87 = .ok (.aload_n 0, 1) := q_aload_n0 (bat_get dg_X12_frees_52_109 13 rfl rfl)
theorem dX12_frees_88 : decode cX12_frees 88 = .ok (.getfield 382, 3) := q_getfield (bat_get dg_X12_frees_52_109 14 rfl rfl) rfl
theorem dX12_frees_91 : decode cX12_frees 91 = .ok (.lstore 6, 2) := q_lstore (bat_get dg_X12_frees_52_109 15 rfl rfl)
theorem dX12_frees_93 : decode cX12_frees 93 = .ok (.iinc 8 1, 3) := q_iinc (bat_get dg_X12_frees_52_109 16 rfl rfl) rfl
theorem dX12_frees_96 : decode cX12_frees 96 = .ok (.goto (-51), 3) := q_goto (bat_get dg_X12_frees_52_109 17 rfl rfl) rfl
theorem dX12_frees_70 : decode cX12_frees 70 = .ok (.aload_n 0, 1) := q_aload_n0 (bat_get dg_X12_frees_52_109 18 rfl rfl)
theorem dX12_frees_71 : decode cX12_frees 71 = .ok (.getfield 382, 3) := q_getfield (bat_get dg_X12_frees_52_109 19 rfl rfl) rfl
theorem dX12_frees_74 : decode cX12_frees 74 = .ok (.lload 6, 2) := q_lload (bat_get dg_X12_frees_52_109 20 rfl rfl)
theorem dX12_frees_76 : decode cX12_frees 76 = .ok (.lcmp, 1) := q_lcmp (bat_get dg_X12_frees_52_109 21 rfl rfl)
theorem dX12_frees_77 : decode cX12_frees 77 = .ok (.ifCond .gt 6, 3) := q_ifCond_gt (bat_get dg_X12_frees_52_109 22 rfl rfl) rfl
theorem dX12_frees_80 : decode cX12_frees 80 = .ok (.goto 13, 3) := q_goto (bat_get dg_X12_frees_52_109 23 rfl rfl) rfl
theorem w_8_36 : (Cond.code yX12_frees cX12_frees 9 (some .int)) ∈ wsL_law := sk_mem (ck_8 _ (List.mem_of_getElem? (i := 36) rfl)) rfl
set_option maxHeartbeats 4000000 in
set_option maxRecDepth 100000 in
theorem c_vm_frees (l : Launch) (D : va_G) (cI cJ cC cZ cS : ClassId) (mm : Nat) (g : Nat → Nat) (ta : Nat) (pa : Nat) (pe : Nat) (pd : Int32) (pb : Nat) (pp : Int32) (pf : Int32) (pg : Int32) (pn : Int32) (rt : Int32) (rn : Int32) (cd : Nat) (sn : Int32) (il : Nat) (tk : Int32) (am : Int32) (at_ : Int32) (aa : Int32) (wt : Int32) (wy : Int64) (rm : Nat) (ud : Nat) (nu : Nat) (sd : Int64) (qn : Nat) (qw : Nat) (qo : Int32) (qb : Nat) (qp : Nat) (qa : Int64) (qi : Nat) (oc : Nat) (d : Int32) (w : Int32) (u0 : Int32) (u1 : Int32) (u2 : Int32) (u3 : Int32) (u4 : Int32) (u5 : Int32) (v0 : Int32) (v1 : Int32) (v2 : Int32) (v3 : Int32) (v4 : Int32) (v5 : Int32) (cs : Nat → Nat) (nw : Nat → Int32) (pt : Nat → Nat) (ql : Nat → Int64) (l0 : Nat) (l1 : Nat) (dm : Nat) (l3 : Nat) (ws_ : Nat → Int32) (yw : Nat → Int32) (yo : Nat → Int32) (be : Nat → Int64) (bf : Nat → Int64) (wn : Nat) (mN : Nat) (Ba : Nat → Nat) (We : Nat → Nat) (U : Nat → Bool) (ke : Nat) (lg : KLg) (L : LkS) (hil : il ≤ 1) (hild : il = 1 → 1 ≤ dm) (hilb : 1 ≤ dm → il = 1) (hdm : dm ≤ 9) (hLk : kcLk L) (hkl : (lK L).length ≤ 1600) (hmw0 : mwO L 0 u3 v3 cs) (hmw1 : mwO L 1 u4 v4 cs) (hB9 : ∀ j, Ba j ≤ 9) (hW9 : ∀ j, We j ≤ 9) (hwk : wn ≤ 999) (hcs : ∀ j, cs j ≤ 20000) (hnw : nwX wn mN Ba We U ke lg nw) (hpt : ∀ j, pt j ≤ 9) : skM l yX12_frees cX12_frees 9 (some .int) 6 142 0 0 D (skT cI cJ cC cZ cS) [.ref mm, .int d, .int w] [ro_ mm 12 (mo g (nI ta) (nI pa) (nI pe) pd (nI pb) pp pf pg pn rt rn (nI cd) sn (nI il) tk am at_ aa 0 0 (-1) wt wy 0 (nI rm) (nI ud) (nI nu) sd (nI qn) (nI qw) qo (nI qb) (nI qp) qa (nI qi) (nI oc)), ra_I (g 24) cI 6 (l6 u0 u1 u2 u3 u4 u5), ra_I (g 25) cI 6 (l6 v0 v1 v2 v3 v4 v5), ra_N (g 26) cI 3200 cs, ra_I (g 31) cI 120 nw, ra_N (g 46) cI 9 pt, ra_J (g 86) cJ 1700 ql, ra_I (g 20) cI 4 (l4 (nI l0) (nI l1) (nI dm) (nI l3)), ra_I (g 38) cI 90 ws_, ra_I (g 36) cZ 900 yw, ra_I (g 37) cZ 900 yo, ra_J (g 43) cJ 90 be, ra_J (g 44) cJ 90 bf] (skI D (skT cI cJ cC cZ cS) (fun (r : Int32) (u : va_W) => ∃ (nw2 : Nat → Int32), ∃ (tk2 : Int32), ∃ (qp2 : Nat), ∃ (am2 : Int32), ∃ (at_2 : Int32), ∃ (aa2 : Int32), ∃ (wy2 : Int64), ∃ (ql2 : Nat → Int64), ∃ (ws_2 : Nat → Int32), ∃ (yw2 : Nat → Int32), ∃ (yo2 : Nat → Int32), ∃ (be2 : Nat → Int64), ∃ (bf2 : Nat → Int64), nwX wn mN Ba We U ke lg nw2 ∧ freesR L dm wn mN Ba We U d w r ∧ u = [ro_ mm 12 (mo g (nI ta) (nI pa) (nI pe) pd (nI pb) pp pf pg pn rt rn (nI cd) sn (nI il) tk2 am2 at_2 aa2 0 0 (-1) wt wy2 0 (nI rm) (nI ud) (nI nu) sd (nI qn) (nI qw) qo (nI qb) (nI qp2) qa (nI qi) (nI oc)), ra_I (g 24) cI 6 (l6 u0 u1 u2 u3 u4 u5), ra_I (g 25) cI 6 (l6 v0 v1 v2 v3 v4 v5), ra_N (g 26) cI 3200 cs, ra_I (g 31) cI 120 nw2, ra_N (g 46) cI 9 pt, ra_J (g 86) cJ 1700 ql2, ra_I (g 20) cI 4 (l4 (nI l0) (nI l1) (nI dm) (nI l3)), ra_I (g 38) cI 90 ws_2, ra_I (g 36) cZ 900 yw2, ra_I (g 37) cZ 900 yo2, ra_J (g 43) cJ 90 be2, ra_J (g 44) cJ 90 bf2])) := by
  refine skM_of pf_X12_frees (Nat.le_of_ble_eq_true rfl) ?_
  intro p e s m below meth c A ls E hP hD hl
  refine skE_el E (fun hx hb hr hml hlocks hin hown hts hK hA => ?_)
  have hown : s.vm.findClass RX12 = some m.cls := hown
  have hS : va_S A s.heap s.heap [] := va_S.rf
  have hl : lv_has ls 9 [(0, .ref mm), (1, .int d), (2, .int w)] := hl
  refine lv_aload_n hx hb dX12_frees_0 rfl (lv_at hl 0 rfl) ?_
  refine lv_iload_n hx hb dX12_frees_1 rfl (lv_at hl 1 rfl) ?_
  refine sk_Vi (q0 := 0) (n := 1) (rest := []) (wr := fmR om_13_1020 _) ⟨hx, hb, hml, hown, hts⟩ hl.1 (c_nm_isDay l D cI cJ cC cZ cS mm g ta pa pe pd pb pp pf pg pn rt rn cd sn il tk am at_ aa wt wy rm ud nu sd qn qw qo qb qp qa qi oc d l0 l1 dm l3 hdm) w_7_117 w_7_119 w_0_72 w_1_14 w_7_120 hd_X12_isDay_1 ⟨⟨(Nat.le_of_ble_eq_true rfl), (Nat.le_of_ble_eq_true rfl)⟩, (Nat.le_of_ble_eq_true rfl), (Nat.le_of_ble_eq_true rfl)⟩ hK hP hD hS hA (fmT om_13_1020 0) (fmF om_13_1020 0) (fm_C1 rfl rfl) (fm_R rfl rfl) (fm_nT om_13_1020 0) (fm_nF om_13_1020 0) (fm_di om_13_1020 0) rfl rfl rfl rfl (Nat.le_of_ble_eq_true rfl) dX12_frees_2 (fun r_2 u H locs hw hP hD hS => ?_)
  refine exE hw (fun b_1 hw1 => anE hw1 (fun hb1_3 hw2 => anE hw2 (fun er_5 eu_4 => ?_)))
  clear hw hw1 hw2
  subst er_5
  refine o_mgE (ws' := [ro_ mm 12 (mo g (nI ta) (nI pa) (nI pe) pd (nI pb) pp pf pg pn rt rn (nI cd) sn (nI il) tk am at_ aa 0 0 (-1) wt wy 0 (nI rm) (nI ud) (nI nu) sd (nI qn) (nI qw) qo (nI qb) (nI qp) qa (nI qi) (nI oc)), ra_I (g 24) cI 6 (l6 u0 u1 u2 u3 u4 u5), ra_I (g 25) cI 6 (l6 v0 v1 v2 v3 v4 v5), ra_N (g 26) cI 3200 cs, ra_I (g 31) cI 120 nw, ra_N (g 46) cI 9 pt, ra_J (g 86) cJ 1700 ql, ra_I (g 20) cI 4 (l4 (nI l0) (nI l1) (nI dm) (nI l3)), ra_I (g 38) cI 90 ws_, ra_I (g 36) cZ 900 yw, ra_I (g 37) cZ 900 yo, ra_J (g 43) cJ 90 be, ra_J (g 44) cJ 90 bf]) eu_4 hP hD rfl (fun hP hD => ?_)
  refine lv_if_eq (tgt := 18) hx hb dX12_frees_5 (by decide) (fun c_6 => ?_) (fun c_6 => ?_)
  · have c_6 : b_1 = 0 := (neq b_1 0 (by omega) (Nat.le_of_ble_eq_true rfl)).mp c_6
    refine lv_iconst (v := (-1)) hx hb dX12_frees_18 (by decide) ?_
    exact sk_iret hx hb hr rfl hlocks hK hP hD hS (⟨nw, tk, qp, am, at_, aa, wy, ql, ws_, yw, yo, be, bf, hnw, fre_0 (rr_0 hb1_3 (by omega)), rfl⟩) (Nat.le_of_ble_eq_true rfl) (Nat.le_of_ble_eq_true rfl) dX12_frees_19
  · have c_6 : ¬ (b_1 = 0) := fun h => c_6 ((neq b_1 0 (by omega) (Nat.le_of_ble_eq_true rfl)).mpr h)
    obtain ⟨kd_7, hkd_7, rfl⟩ := rr_1 hb1_3 (by omega)
    refine lv_iload_n hx hb dX12_frees_8 rfl (lv_at hl 2 rfl) ?_
    refine lv_i2l hx hb dX12_frees_9 rfl ?_
    refine lv_lconst (v := 0) hx hb dX12_frees_10 (by decide) ?_
    refine lv_lconst (v := 1) hx hb dX12_frees_11 (by decide) ?_
    refine sk_Si (n := 3) (rest := []) (wr := [ro_ mm 12 (mo g (nI ta) (nI pa) (nI pe) pd (nI pb) pp pf pg pn rt rn (nI cd) sn (nI il) tk am at_ aa 0 0 (-1) wt wy 0 (nI rm) (nI ud) (nI nu) sd (nI qn) (nI qw) qo (nI qb) (nI qp) qa (nI qi) (nI oc)), ra_I (g 24) cI 6 (l6 u0 u1 u2 u3 u4 u5), ra_I (g 25) cI 6 (l6 v0 v1 v2 v3 v4 v5), ra_N (g 26) cI 3200 cs, ra_I (g 31) cI 120 nw, ra_N (g 46) cI 9 pt, ra_J (g 86) cJ 1700 ql, ra_I (g 20) cI 4 (l4 (nI l0) (nI l1) (nI dm) (nI l3)), ra_I (g 38) cI 90 ws_, ra_I (g 36) cZ 900 yw, ra_I (g 37) cZ 900 yo, ra_J (g 43) cJ 90 be, ra_J (g 44) cJ 90 bf]) ⟨hx, hb, hml, hown, hts⟩ hl.1 (c_nm_isIn l D cI cJ cC cZ cS (Int32.toInt64 w) 0 1) w_7_0 w_7_1 w_1_14 w_7_2 hd_X12_isIn_3 ⟨⟨(Nat.le_of_ble_eq_true rfl), (Nat.le_of_ble_eq_true rfl)⟩, (Nat.le_of_ble_eq_true rfl), (Nat.le_of_ble_eq_true rfl)⟩ hK hP hD hS hA [] [0, 1, 2, 3, 4, 5, 6, 7, 8, 9, 10, 11, 12] rfl rfl (by decide +kernel) (by decide +kernel) (by decide +kernel) rfl rfl (Nat.le_of_ble_eq_true rfl) dX12_frees_12 (fun r_9 u H locs hw hP hD hS => ?_)
    obtain ⟨b_8, hb1_10, rfl, rfl⟩ := hw
    refine o_re (ws' := [ro_ mm 12 (mo g (nI ta) (nI pa) (nI pe) pd (nI pb) pp pf pg pn rt rn (nI cd) sn (nI il) tk am at_ aa 0 0 (-1) wt wy 0 (nI rm) (nI ud) (nI nu) sd (nI qn) (nI qw) qo (nI qb) (nI qp) qa (nI qi) (nI oc)), ra_I (g 24) cI 6 (l6 u0 u1 u2 u3 u4 u5), ra_I (g 25) cI 6 (l6 v0 v1 v2 v3 v4 v5), ra_N (g 26) cI 3200 cs, ra_I (g 31) cI 120 nw, ra_N (g 46) cI 9 pt, ra_J (g 86) cJ 1700 ql, ra_I (g 20) cI 4 (l4 (nI l0) (nI l1) (nI dm) (nI l3)), ra_I (g 38) cI 90 ws_, ra_I (g 36) cZ 900 yw, ra_I (g 37) cZ 900 yo, ra_J (g 43) cJ 90 be, ra_J (g 44) cJ 90 bf]) hP hD rfl (fun hP hD => ?_)
    refine lv_if_ne (tgt := 20) hx hb dX12_frees_15 (by decide) (fun c_11 => ?_) (fun c_11 => ?_)
    · have c_11 : ¬ (b_8 = 0) := fun h => c_11 ((neq b_8 0 (by omega) (Nat.le_of_ble_eq_true rfl)).mpr h)
      obtain ⟨kd_12, hkd_12, rfl⟩ := (kin0 (n := 2) (by decide) (by omega)).mp (rr_1 hb1_10 (by omega))
      refine lv_iconst (v := 2) hx hb dX12_frees_20 ic_2 ?_
      refine lv_iconst (v := 3) hx hb dX12_frees_21 ic_3 ?_
      refine lv_iload_n hx hb dX12_frees_22 rfl (lv_at hl 1 rfl) ?_
      refine lv_imul hx hb dX12_frees_23 ?_
      refine sk_top (nI (3 * kd_7)) (nmul 3 kd_7) ?_
      refine lv_iadd hx hb dX12_frees_24 ?_
      refine sk_top (nI (2 + (3 * kd_7))) (nI_add 2 (3 * kd_7)) ?_
      refine lv_iload_n hx hb dX12_frees_25 rfl (lv_at hl 2 rfl) ?_
      refine lv_iadd hx hb dX12_frees_26 ?_
      refine sk_top (nI (2 + (3 * kd_7) + kd_12)) (nI_add (2 + (3 * kd_7)) kd_12) ?_
      refine lv_istore_n (lv' := [(3, .int (nI (2 + (3 * kd_7) + kd_12))), (0, .ref mm), (1, .int (nI kd_7)), (2, .int (nI kd_12))]) hx hb dX12_frees_27 rfl hl (by decide) rfl (fun ls hl => ?_)
      rcases (show kd_12 = 0 ∨ kd_12 = 1 by omega) with rfl | rfl
      · skip
        refine lv_aload_n hx hb dX12_frees_28 rfl (lv_at hl 1 rfl) ?_
        refine sk_get (v := .ref (g 31)) (C := RX12) (T := TX12) (N := 92) hx hb hts inlX12 hown hK hP 0 rfl rfl 31 (Nat.le_of_ble_eq_true rfl) w_5_186 rfl dX12_frees_29 ?_
        refine lv_iload_n hx hb dX12_frees_32 rfl (lv_at hl 0 rfl) ?_
        refine va_iald hx hb hK.1 hP 4 0 rfl rfl (vin (2 + (3 * kd_7) + 0) 120 (by omega) (Nat.le_of_ble_eq_true rfl)) dX12_frees_33 ?_
        refine sk_top (nI (Ba kd_7)) (by rw [nI_clamp (by omega)]; exact nwX_b hnw (by omega)) ?_
        refine lv_istore (lv' := [(4, .int (nI (Ba kd_7))), (3, .int (nI (2 + (3 * kd_7) + 0))), (0, .ref mm), (1, .int (nI kd_7)), (2, .int 0)]) hx hb dX12_frees_34 hl (by decide) rfl (fun ls hl => ?_)
        refine lv_iconst (v := (-1)) hx hb dX12_frees_36 (by decide) ?_
        refine lv_istore (lv' := [(5, .int (-1)), (4, .int (nI (Ba kd_7))), (3, .int (nI (2 + (3 * kd_7) + 0))), (0, .ref mm), (1, .int (nI kd_7)), (2, .int 0)]) hx hb dX12_frees_37 hl (by decide) rfl (fun ls hl => ?_)
        refine lv_lconst (v := 0) hx hb dX12_frees_39 (by decide) ?_
        refine lv_lstore (lv' := [(6, .long 0), (5, .int (-1)), (4, .int (nI (Ba kd_7))), (3, .int (nI (2 + (3 * kd_7) + 0))), (0, .ref mm), (1, .int (nI kd_7)), (2, .int 0)]) hx hb dX12_frees_40 hl (by decide) rfl (fun ls hl => ?_)
        refine lv_iconst (v := 0) hx hb dX12_frees_42 ic_0 ?_
        refine lv_istore (lv' := [(8, .int 0), (6, .long 0), (5, .int (-1)), (4, .int (nI (Ba kd_7))), (3, .int (nI (2 + (3 * kd_7) + 0))), (0, .ref mm), (1, .int (nI kd_7)), (2, .int 0)]) hx hb dX12_frees_43 hl (by decide) rfl (fun ls hl => ?_)
        have lp_13 : ∀ (n_14 : Nat) (i : Nat) (mo_ : Int64) (be_ : Int32) (zaml : Int32) (zat_l : Int32) (zaal : Int32) (ztkl : Int32) (zqpl : Nat) (zwyl : Int64) (zn : Nat → Int32) (y86l : Nat → Int64) (y38l : Nat → Int32) (y36l : Nat → Int32) (y37l : Nat → Int32) (y43l : Nat → Int64) (y44l : Nat → Int64) (BB : Nat → Nat) (H : Heap) (locs : List Loc) (ls : Array Slot), 10 - i < n_14 → (i ≤ 10) → (nwX wn mN BB We U ke lg zn) → (∀ j, BB j ≤ 9) → (∀ j, ¬ j = kd_7 → BB j = Ba j) → (frT (kFr L dm wn mN Ba We U kd_7 0) i be_ mo_) → va_P D vwCl [ro_ mm 12 (mo g (nI ta) (nI pa) (nI pe) pd (nI pb) pp pf pg pn rt rn (nI cd) sn (nI il) ztkl zaml zat_l zaal 0 0 (-1) wt zwyl 0 (nI rm) (nI ud) (nI nu) sd (nI qn) (nI qw) qo (nI qb) (nI zqpl) qa (nI qi) (nI oc)), ra_I (g 24) cI 6 (l6 u0 u1 u2 u3 u4 u5), ra_I (g 25) cI 6 (l6 v0 v1 v2 v3 v4 v5), ra_N (g 26) cI 3200 cs, ra_I (g 31) cI 120 zn, ra_N (g 46) cI 9 pt, ra_J (g 86) cJ 1700 y86l, ra_I (g 20) cI 4 (l4 (nI l0) (nI l1) (nI dm) (nI l3)), ra_I (g 38) cI 90 y38l, ra_I (g 36) cZ 900 y36l, ra_I (g 37) cZ 900 y37l, ra_J (g 43) cJ 90 y43l, ra_J (g 44) cJ 90 y44l] H → va_D A [ro_ mm 12 (mo g (nI ta) (nI pa) (nI pe) pd (nI pb) pp pf pg pn rt rn (nI cd) sn (nI il) ztkl zaml zat_l zaal 0 0 (-1) wt zwyl 0 (nI rm) (nI ud) (nI nu) sd (nI qn) (nI qw) qo (nI qb) (nI zqpl) qa (nI qi) (nI oc)), ra_I (g 24) cI 6 (l6 u0 u1 u2 u3 u4 u5), ra_I (g 25) cI 6 (l6 v0 v1 v2 v3 v4 v5), ra_N (g 26) cI 3200 cs, ra_I (g 31) cI 120 zn, ra_N (g 46) cI 9 pt, ra_J (g 86) cJ 1700 y86l, ra_I (g 20) cI 4 (l4 (nI l0) (nI l1) (nI dm) (nI l3)), ra_I (g 38) cI 90 y38l, ra_I (g 36) cZ 900 y36l, ra_I (g 37) cZ 900 y37l, ra_J (g 43) cJ 90 y43l, ra_J (g 44) cJ 90 y44l] → va_S A s.heap H locs → lv_has ls 9 [(8, .int (nI i)), (6, .long mo_), (5, .int be_), (4, .int (nI (Ba kd_7))), (3, .int (nI (2 + (3 * kd_7) + 0))), (0, .ref mm), (1, .int (nI kd_7)), (2, .int 0)] → W p l e { frames := 6, cells := 0, slots := 0, locals := 142 } s m ([.ref mm, .int (nI kd_7), .int (nI 0)] : List Value).toArray below meth c H locs 0 0 (MQ below (skI D (skT cI cJ cC cZ cS) (fun (r : Int32) (u : va_W) => ∃ (nw2 : Nat → Int32), ∃ (tk2 : Int32), ∃ (qp2 : Nat), ∃ (am2 : Int32), ∃ (at_2 : Int32), ∃ (aa2 : Int32), ∃ (wy2 : Int64), ∃ (ql2 : Nat → Int64), ∃ (ws_2 : Nat → Int32), ∃ (yw2 : Nat → Int32), ∃ (yo2 : Nat → Int32), ∃ (be2 : Nat → Int64), ∃ (bf2 : Nat → Int64), nwX wn mN Ba We U ke lg nw2 ∧ freesR L dm wn mN Ba We U (nI kd_7) (nI 0) r ∧ u = [ro_ mm 12 (mo g (nI ta) (nI pa) (nI pe) pd (nI pb) pp pf pg pn rt rn (nI cd) sn (nI il) tk2 am2 at_2 aa2 0 0 (-1) wt wy2 0 (nI rm) (nI ud) (nI nu) sd (nI qn) (nI qw) qo (nI qb) (nI qp2) qa (nI qi) (nI oc)), ra_I (g 24) cI 6 (l6 u0 u1 u2 u3 u4 u5), ra_I (g 25) cI 6 (l6 v0 v1 v2 v3 v4 v5), ra_N (g 26) cI 3200 cs, ra_I (g 31) cI 120 nw2, ra_N (g 46) cI 9 pt, ra_J (g 86) cJ 1700 ql2, ra_I (g 20) cI 4 (l4 (nI l0) (nI l1) (nI dm) (nI l3)), ra_I (g 38) cI 90 ws_2, ra_I (g 36) cZ 900 yw2, ra_I (g 37) cZ 900 yo2, ra_J (g 43) cJ 90 be2, ra_J (g 44) cJ 90 bf2]) A) ([.ref mm, .int (nI kd_7), .int (nI 0)] : List Value).toArray s 0 0 A) (F0 m 45 ls []) := by
          intro n_14
          induction n_14 with
          | zero => intro i mo_ be_ zaml zat_l zaal ztkl zqpl zwyl zn y86l y38l y36l y37l y43l y44l BB H locs ls hm; exact absurd hm (Nat.not_lt_zero _)
          | succ n_14 ih_lp_13 =>
            intro i mo_ be_ zaml zat_l zaal ztkl zqpl zwyl zn y86l y38l y36l y37l y43l y44l BB H locs ls hm hi hzn hBB hBe hft hP hD hS hl
            refine lv_iload hx hb dX12_frees_45 (lv_at hl 0 rfl) ?_
            refine lv_bipush (v := 10) hx hb dX12_frees_47 (by decide) ?_
            refine lv_icmp_ge (tgt := 99) hx hb dX12_frees_49 (by decide) (fun c_15 => ?_) (fun c_15 => ?_)
            · have c_15 : 10 ≤ i := (nle 10 i (Nat.le_of_ble_eq_true rfl) (by omega)).mp c_15
              refine lv_aload_n hx hb dX12_frees_99 rfl (lv_at hl 5 rfl) ?_
              refine sk_get (v := .ref (g 31)) (C := RX12) (T := TX12) (N := 92) hx hb hts inlX12 hown hK hP 0 rfl rfl 31 (Nat.le_of_ble_eq_true rfl) w_5_186 rfl dX12_frees_100 ?_
              refine lv_iload_n hx hb dX12_frees_103 rfl (lv_at hl 4 rfl) ?_
              refine lv_iload hx hb dX12_frees_104 (lv_at hl 3 rfl) ?_
              refine sk_iastE (k := (2 + (3 * kd_7) + 0)) (x := (nI (Ba kd_7))) (ws' := fun f_16 => [ro_ mm 12 (mo g (nI ta) (nI pa) (nI pe) pd (nI pb) pp pf pg pn rt rn (nI cd) sn (nI il) ztkl zaml zat_l zaal 0 0 (-1) wt zwyl 0 (nI rm) (nI ud) (nI nu) sd (nI qn) (nI qw) qo (nI qb) (nI zqpl) qa (nI qi) (nI oc)), ra_I (g 24) cI 6 (l6 u0 u1 u2 u3 u4 u5), ra_I (g 25) cI 6 (l6 v0 v1 v2 v3 v4 v5), ra_N (g 26) cI 3200 cs, ra_I (g 31) cI 120 f_16, ra_N (g 46) cI 9 pt, ra_J (g 86) cJ 1700 y86l, ra_I (g 20) cI 4 (l4 (nI l0) (nI l1) (nI dm) (nI l3)), ra_I (g 38) cI 90 y38l, ra_I (g 36) cZ 900 y36l, ra_I (g 37) cZ 900 y37l, ra_J (g 43) cJ 90 y43l, ra_J (g 44) cJ 90 y44l]) hx hb hK hP hD hS 4 0 rfl rfl (by omega) (by omega) (fun _ => rfl) dX12_frees_106 (fun f_16 H locs ef_17 hP hD hS => ?_)
              have hN_18 : nwX wn mN Ba We U ke lg f_16 := (by have h9 := nwX_upb hzn ef_17 (by omega); rw [upd_back hBe] at h9; exact h9)
              refine lv_iload hx hb dX12_frees_107 (lv_at hl 2 rfl) ?_
              exact sk_iret hx hb hr rfl hlocks hK hP hD hS (⟨f_16, ztkl, zqpl, zaml, zat_l, zaal, zwyl, y86l, y38l, y36l, y37l, y43l, y44l, hN_18, fre_T hkd_7 (by decide) hft (by omega), rfl⟩) (Nat.le_of_ble_eq_true rfl) (Nat.le_of_ble_eq_true rfl) dX12_frees_109
            · have c_15 : ¬ (10 ≤ i) := fun h => c_15 ((nle 10 i (Nat.le_of_ble_eq_true rfl) (by omega)).mpr h)
              refine lv_aload_n hx hb dX12_frees_52 rfl (lv_at hl 5 rfl) ?_
              refine sk_get (v := .ref (g 31)) (C := RX12) (T := TX12) (N := 92) hx hb hts inlX12 hown hK hP 0 rfl rfl 31 (Nat.le_of_ble_eq_true rfl) w_5_186 rfl dX12_frees_53 ?_
              refine lv_iload_n hx hb dX12_frees_56 rfl (lv_at hl 4 rfl) ?_
              refine lv_iload hx hb dX12_frees_57 (lv_at hl 0 rfl) ?_
              refine sk_iastE (k := (2 + (3 * kd_7) + 0)) (x := (nI i)) (ws' := fun f_19 => [ro_ mm 12 (mo g (nI ta) (nI pa) (nI pe) pd (nI pb) pp pf pg pn rt rn (nI cd) sn (nI il) ztkl zaml zat_l zaal 0 0 (-1) wt zwyl 0 (nI rm) (nI ud) (nI nu) sd (nI qn) (nI qw) qo (nI qb) (nI zqpl) qa (nI qi) (nI oc)), ra_I (g 24) cI 6 (l6 u0 u1 u2 u3 u4 u5), ra_I (g 25) cI 6 (l6 v0 v1 v2 v3 v4 v5), ra_N (g 26) cI 3200 cs, ra_I (g 31) cI 120 f_19, ra_N (g 46) cI 9 pt, ra_J (g 86) cJ 1700 y86l, ra_I (g 20) cI 4 (l4 (nI l0) (nI l1) (nI dm) (nI l3)), ra_I (g 38) cI 90 y38l, ra_I (g 36) cZ 900 y36l, ra_I (g 37) cZ 900 y37l, ra_J (g 43) cJ 90 y43l, ra_J (g 44) cJ 90 y44l]) hx hb hK hP hD hS 4 0 rfl rfl (by omega) (by omega) (fun _ => rfl) dX12_frees_59 (fun f_19 H locs ef_20 hP hD hS => ?_)
              have hN_21 : nwX wn mN (updG BB kd_7 i) We U ke lg f_19 := nwX_upb hzn ef_20 (by omega)
              refine lv_aload_n hx hb dX12_frees_60 rfl (lv_at hl 5 rfl) ?_
              refine sk_Vv (q0 := 0) (n := 0) (rest := []) (wr := fmR om_13_1fff _) ⟨hx, hb, hml, hown, hts⟩ hl.1 (c_nm_laysAll l D cI cJ cC cZ cS mm g ta pa pe pd pb pp pf pg pn rt rn cd sn il ztkl zaml zat_l zaal wt zwyl 0 rm ud nu sd qn qw qo qb zqpl qa qi oc u0 u1 u2 u3 u4 u5 v0 v1 v2 v3 v4 v5 cs f_19 pt y86l l0 l1 dm l3 y38l y36l y37l y43l y44l wn mN (updG BB kd_7 i) We U ke lg L hdm (by omega) hLk hkl hmw0 hmw1 (updG_le hBB (by omega)) hW9 hwk hcs hN_21 hpt) w_7_189 w_7_191 w_0_82 w_1_14 w_7_192 hd_X12_laysAll_0 ⟨⟨(Nat.le_of_ble_eq_true rfl), (Nat.le_of_ble_eq_true rfl)⟩, (Nat.le_of_ble_eq_true rfl), (Nat.le_of_ble_eq_true rfl)⟩ hK hP hD hS hA (fmT om_13_1fff 0) (fmF om_13_1fff 0) (fm_C1 rfl rfl) (fm_R rfl rfl) (fm_nT om_13_1fff 0) (fm_nF om_13_1fff 0) (fm_di om_13_1fff 0) rfl rfl rfl rfl (Nat.le_of_ble_eq_true rfl) dX12_frees_61 (fun u H locs hw hP hD hS => ?_)
              refine exE hw (fun tk2_22 hw1 => exE hw1 (fun qp2_23 hw2 => exE hw2 (fun am2_24 hw3 => exE hw3 (fun at_2_25 hw4 => exE hw4 (fun aa2_26 hw5 => exE hw5 (fun wy2_27 hw6 => exE hw6 (fun ql2_28 hw7 => exE hw7 (fun ws_2_29 hw8 => exE hw8 (fun yw2_30 hw9 => exE hw9 (fun yo2_31 hw10 => exE hw10 (fun be2_32 hw11 => exE hw11 (fun bf2_33 hw12 => anE hw12 (fun hbe_34 hw13 => anE hw13 (fun hcf_35 hw14 => anE hw14 (fun hwy_36 eu_37 => ?_)))))))))))))))
              clear hw hw1 hw2 hw3 hw4 hw5 hw6 hw7 hw8 hw9 hw10 hw11 hw12 hw13 hw14
              refine o_mgE (ws' := [ro_ mm 12 (mo g (nI ta) (nI pa) (nI pe) pd (nI pb) pp pf pg pn rt rn (nI cd) sn (nI il) tk2_22 am2_24 at_2_25 aa2_26 0 0 (-1) wt wy2_27 0 (nI rm) (nI ud) (nI nu) sd (nI qn) (nI qw) qo (nI qb) (nI qp2_23) qa (nI qi) (nI oc)), ra_I (g 24) cI 6 (l6 u0 u1 u2 u3 u4 u5), ra_I (g 25) cI 6 (l6 v0 v1 v2 v3 v4 v5), ra_N (g 26) cI 3200 cs, ra_I (g 31) cI 120 f_19, ra_N (g 46) cI 9 pt, ra_J (g 86) cJ 1700 ql2_28, ra_I (g 20) cI 4 (l4 (nI l0) (nI l1) (nI dm) (nI l3)), ra_I (g 38) cI 90 ws_2_29, ra_I (g 36) cZ 900 yw2_30, ra_I (g 37) cZ 900 yo2_31, ra_J (g 43) cJ 90 be2_32, ra_J (g 44) cJ 90 bf2_33]) eu_37 hP hD rfl (fun hP hD => ?_)
              have hwyF := hwy_36.trans (congrArg (fun B => Int64.ofNat (kcC (kcFo L wn B We U 0) dm 0 mN)) (updG_e hBe i))
              have hwyF : wy2_27 = Int64.ofNat (kFr L dm wn mN Ba We U kd_7 0 i) := hwyF
              subst hwyF
              refine lv_iload hx hb dX12_frees_64 (lv_at hl 2 rfl) ?_
              refine lv_iconst (v := (-1)) hx hb dX12_frees_66 (by decide) ?_
              refine lv_icmp_eq (tgt := 83) hx hb dX12_frees_67 (by decide) (fun c_38 => ?_) (fun c_38 => ?_)
              · skip
                refine lv_iload hx hb dX12_frees_83 (lv_at hl 0 rfl) ?_
                refine lv_istore (lv' := [(5, .int (nI i)), (8, .int (nI i)), (6, .long mo_), (4, .int (nI (Ba kd_7))), (3, .int (nI (2 + (3 * kd_7) + 0))), (0, .ref mm), (1, .int (nI kd_7)), (2, .int 0)]) hx hb dX12_frees_85 hl (by decide) rfl (fun ls hl => ?_)
                refine lv_aload_n hx hb dX12_frees_87 rfl (lv_at hl 5 rfl) ?_
                refine sk_get (v := .long (Int64.ofNat (kFr L dm wn mN Ba We U kd_7 0 i))) (C := RX12) (T := TX12) (N := 92) hx hb hts inlX12 hown hK hP 0 rfl rfl 45 (Nat.le_of_ble_eq_true rfl) w_5_200 rfl dX12_frees_88 ?_
                refine lv_lstore (lv' := [(6, .long (Int64.ofNat (kFr L dm wn mN Ba We U kd_7 0 i))), (5, .int (nI i)), (8, .int (nI i)), (4, .int (nI (Ba kd_7))), (3, .int (nI (2 + (3 * kd_7) + 0))), (0, .ref mm), (1, .int (nI kd_7)), (2, .int 0)]) hx hb dX12_frees_91 hl (by decide) rfl (fun ls hl => ?_)
                refine lv_iinc (v := nI (i + 1)) (lv' := [(8, .int (nI (i + 1))), (6, .long (Int64.ofNat (kFr L dm wn mN Ba We U kd_7 0 i))), (5, .int (nI i)), (4, .int (nI (Ba kd_7))), (3, .int (nI (2 + (3 * kd_7) + 0))), (0, .ref mm), (1, .int (nI kd_7)), (2, .int 0)]) hx hb dX12_frees_93 hl (k := 2) rfl (ninc i 1 (by decide)) (by decide) rfl (fun ls hl => ?_)
                refine lv_goto (tgt := 45) hx hb dX12_frees_96 (by decide) ?_
                exact ih_lp_13 (i + 1) (Int64.ofNat (kFr L dm wn mN Ba We U kd_7 0 i)) (nI i) am2_24 at_2_25 aa2_26 tk2_22 qp2_23 (Int64.ofNat (kFr L dm wn mN Ba We U kd_7 0 i)) f_19 ql2_28 ws_2_29 yw2_30 yo2_31 be2_32 bf2_33 (updG BB kd_7 i) _ _ _ (by omega) (by omega) hN_21 (updG_le hBB (by omega)) (fun j hj => by unfold updG; rw [if_neg hj]; exact hBe j hj) (frT_1 hft (by omega) c_38) hP hD hS (lv_sub hl [0, 1, 2, 3, 4, 5, 6, 7] rfl)
              · skip
                refine lv_aload_n hx hb dX12_frees_70 rfl (lv_at hl 5 rfl) ?_
                refine sk_get (v := .long (Int64.ofNat (kFr L dm wn mN Ba We U kd_7 0 i))) (C := RX12) (T := TX12) (N := 92) hx hb hts inlX12 hown hK hP 0 rfl rfl 45 (Nat.le_of_ble_eq_true rfl) w_5_200 rfl dX12_frees_71 ?_
                refine lv_lload hx hb dX12_frees_74 (lv_at hl 1 rfl) ?_
                refine W.lcmp hx hb dX12_frees_76 ?_
                refine lv_if_gt (tgt := 83) hx hb dX12_frees_77 (by decide) (fun c_39 => ?_) (fun c_39 => ?_)
                · skip
                  refine lv_iload hx hb dX12_frees_83 (lv_at hl 0 rfl) ?_
                  refine lv_istore (lv' := [(5, .int (nI i)), (8, .int (nI i)), (6, .long mo_), (4, .int (nI (Ba kd_7))), (3, .int (nI (2 + (3 * kd_7) + 0))), (0, .ref mm), (1, .int (nI kd_7)), (2, .int 0)]) hx hb dX12_frees_85 hl (by decide) rfl (fun ls hl => ?_)
                  refine lv_aload_n hx hb dX12_frees_87 rfl (lv_at hl 5 rfl) ?_
                  refine sk_get (v := .long (Int64.ofNat (kFr L dm wn mN Ba We U kd_7 0 i))) (C := RX12) (T := TX12) (N := 92) hx hb hts inlX12 hown hK hP 0 rfl rfl 45 (Nat.le_of_ble_eq_true rfl) w_5_200 rfl dX12_frees_88 ?_
                  refine lv_lstore (lv' := [(6, .long (Int64.ofNat (kFr L dm wn mN Ba We U kd_7 0 i))), (5, .int (nI i)), (8, .int (nI i)), (4, .int (nI (Ba kd_7))), (3, .int (nI (2 + (3 * kd_7) + 0))), (0, .ref mm), (1, .int (nI kd_7)), (2, .int 0)]) hx hb dX12_frees_91 hl (by decide) rfl (fun ls hl => ?_)
                  refine lv_iinc (v := nI (i + 1)) (lv' := [(8, .int (nI (i + 1))), (6, .long (Int64.ofNat (kFr L dm wn mN Ba We U kd_7 0 i))), (5, .int (nI i)), (4, .int (nI (Ba kd_7))), (3, .int (nI (2 + (3 * kd_7) + 0))), (0, .ref mm), (1, .int (nI kd_7)), (2, .int 0)]) hx hb dX12_frees_93 hl (k := 2) rfl (ninc i 1 (by decide)) (by decide) rfl (fun ls hl => ?_)
                  refine lv_goto (tgt := 45) hx hb dX12_frees_96 (by decide) ?_
                  exact ih_lp_13 (i + 1) (Int64.ofNat (kFr L dm wn mN Ba We U kd_7 0 i)) (nI i) am2_24 at_2_25 aa2_26 tk2_22 qp2_23 (Int64.ofNat (kFr L dm wn mN Ba We U kd_7 0 i)) f_19 ql2_28 ws_2_29 yw2_30 yo2_31 be2_32 bf2_33 (updG BB kd_7 i) _ _ _ (by omega) (by omega) hN_21 (updG_le hBB (by omega)) (fun j hj => by unfold updG; rw [if_neg hj]; exact hBe j hj) (frT_2 hft (kFr_9 (by omega) _) c_38 c_39) hP hD hS (lv_sub hl [0, 1, 2, 3, 4, 5, 6, 7] rfl)
                · skip
                  refine lv_goto (tgt := 93) hx hb dX12_frees_80 (by decide) ?_
                  refine lv_iinc (v := nI (i + 1)) (lv' := [(8, .int (nI (i + 1))), (6, .long mo_), (5, .int be_), (4, .int (nI (Ba kd_7))), (3, .int (nI (2 + (3 * kd_7) + 0))), (0, .ref mm), (1, .int (nI kd_7)), (2, .int 0)]) hx hb dX12_frees_93 hl (k := 0) rfl (ninc i 1 (by decide)) (by decide) rfl (fun ls hl => ?_)
                  refine lv_goto (tgt := 45) hx hb dX12_frees_96 (by decide) ?_
                  exact ih_lp_13 (i + 1) mo_ be_ am2_24 at_2_25 aa2_26 tk2_22 qp2_23 (Int64.ofNat (kFr L dm wn mN Ba We U kd_7 0 i)) f_19 ql2_28 ws_2_29 yw2_30 yo2_31 be2_32 bf2_33 (updG BB kd_7 i) _ _ _ (by omega) (by omega) hN_21 (updG_le hBB (by omega)) (fun j hj => by unfold updG; rw [if_neg hj]; exact hBe j hj) (frT_3 hft (kFr_9 (by omega) _) c_38 c_39) hP hD hS (lv_sub hl [0, 1, 2, 3, 4, 5, 6, 7] rfl)
        exact lp_13 (10 - 0 + 1) 0 0 (-1) am at_ aa tk qp wy nw ql ws_ yw yo be bf Ba _ _ _ (Nat.lt_succ_self _) (by omega) hnw hB9 (fun _ _ => rfl) (Or.inl ⟨rfl, rfl⟩) hP hD hS (lv_sub hl [0, 1, 2, 3, 4, 5, 6, 7] rfl)
      · skip
        refine lv_aload_n hx hb dX12_frees_28 rfl (lv_at hl 1 rfl) ?_
        refine sk_get (v := .ref (g 31)) (C := RX12) (T := TX12) (N := 92) hx hb hts inlX12 hown hK hP 0 rfl rfl 31 (Nat.le_of_ble_eq_true rfl) w_5_186 rfl dX12_frees_29 ?_
        refine lv_iload_n hx hb dX12_frees_32 rfl (lv_at hl 0 rfl) ?_
        refine va_iald hx hb hK.1 hP 4 0 rfl rfl (vin (2 + (3 * kd_7) + 1) 120 (by omega) (Nat.le_of_ble_eq_true rfl)) dX12_frees_33 ?_
        refine sk_top (nI (We kd_7)) (by rw [nI_clamp (by omega)]; exact nwX_w hnw (by omega)) ?_
        refine lv_istore (lv' := [(4, .int (nI (We kd_7))), (3, .int (nI (2 + (3 * kd_7) + 1))), (0, .ref mm), (1, .int (nI kd_7)), (2, .int 1)]) hx hb dX12_frees_34 hl (by decide) rfl (fun ls hl => ?_)
        refine lv_iconst (v := (-1)) hx hb dX12_frees_36 (by decide) ?_
        refine lv_istore (lv' := [(5, .int (-1)), (4, .int (nI (We kd_7))), (3, .int (nI (2 + (3 * kd_7) + 1))), (0, .ref mm), (1, .int (nI kd_7)), (2, .int 1)]) hx hb dX12_frees_37 hl (by decide) rfl (fun ls hl => ?_)
        refine lv_lconst (v := 0) hx hb dX12_frees_39 (by decide) ?_
        refine lv_lstore (lv' := [(6, .long 0), (5, .int (-1)), (4, .int (nI (We kd_7))), (3, .int (nI (2 + (3 * kd_7) + 1))), (0, .ref mm), (1, .int (nI kd_7)), (2, .int 1)]) hx hb dX12_frees_40 hl (by decide) rfl (fun ls hl => ?_)
        refine lv_iconst (v := 0) hx hb dX12_frees_42 ic_0 ?_
        refine lv_istore (lv' := [(8, .int 0), (6, .long 0), (5, .int (-1)), (4, .int (nI (We kd_7))), (3, .int (nI (2 + (3 * kd_7) + 1))), (0, .ref mm), (1, .int (nI kd_7)), (2, .int 1)]) hx hb dX12_frees_43 hl (by decide) rfl (fun ls hl => ?_)
        have lp_40 : ∀ (n_41 : Nat) (i : Nat) (mo_ : Int64) (be_ : Int32) (zaml : Int32) (zat_l : Int32) (zaal : Int32) (ztkl : Int32) (zqpl : Nat) (zwyl : Int64) (zn : Nat → Int32) (y86l : Nat → Int64) (y38l : Nat → Int32) (y36l : Nat → Int32) (y37l : Nat → Int32) (y43l : Nat → Int64) (y44l : Nat → Int64) (BB : Nat → Nat) (H : Heap) (locs : List Loc) (ls : Array Slot), 10 - i < n_41 → (i ≤ 10) → (nwX wn mN Ba BB U ke lg zn) → (∀ j, BB j ≤ 9) → (∀ j, ¬ j = kd_7 → BB j = We j) → (frT (kFr L dm wn mN Ba We U kd_7 1) i be_ mo_) → va_P D vwCl [ro_ mm 12 (mo g (nI ta) (nI pa) (nI pe) pd (nI pb) pp pf pg pn rt rn (nI cd) sn (nI il) ztkl zaml zat_l zaal 0 0 (-1) wt zwyl 0 (nI rm) (nI ud) (nI nu) sd (nI qn) (nI qw) qo (nI qb) (nI zqpl) qa (nI qi) (nI oc)), ra_I (g 24) cI 6 (l6 u0 u1 u2 u3 u4 u5), ra_I (g 25) cI 6 (l6 v0 v1 v2 v3 v4 v5), ra_N (g 26) cI 3200 cs, ra_I (g 31) cI 120 zn, ra_N (g 46) cI 9 pt, ra_J (g 86) cJ 1700 y86l, ra_I (g 20) cI 4 (l4 (nI l0) (nI l1) (nI dm) (nI l3)), ra_I (g 38) cI 90 y38l, ra_I (g 36) cZ 900 y36l, ra_I (g 37) cZ 900 y37l, ra_J (g 43) cJ 90 y43l, ra_J (g 44) cJ 90 y44l] H → va_D A [ro_ mm 12 (mo g (nI ta) (nI pa) (nI pe) pd (nI pb) pp pf pg pn rt rn (nI cd) sn (nI il) ztkl zaml zat_l zaal 0 0 (-1) wt zwyl 0 (nI rm) (nI ud) (nI nu) sd (nI qn) (nI qw) qo (nI qb) (nI zqpl) qa (nI qi) (nI oc)), ra_I (g 24) cI 6 (l6 u0 u1 u2 u3 u4 u5), ra_I (g 25) cI 6 (l6 v0 v1 v2 v3 v4 v5), ra_N (g 26) cI 3200 cs, ra_I (g 31) cI 120 zn, ra_N (g 46) cI 9 pt, ra_J (g 86) cJ 1700 y86l, ra_I (g 20) cI 4 (l4 (nI l0) (nI l1) (nI dm) (nI l3)), ra_I (g 38) cI 90 y38l, ra_I (g 36) cZ 900 y36l, ra_I (g 37) cZ 900 y37l, ra_J (g 43) cJ 90 y43l, ra_J (g 44) cJ 90 y44l] → va_S A s.heap H locs → lv_has ls 9 [(8, .int (nI i)), (6, .long mo_), (5, .int be_), (4, .int (nI (We kd_7))), (3, .int (nI (2 + (3 * kd_7) + 1))), (0, .ref mm), (1, .int (nI kd_7)), (2, .int 1)] → W p l e { frames := 6, cells := 0, slots := 0, locals := 142 } s m ([.ref mm, .int (nI kd_7), .int (nI 1)] : List Value).toArray below meth c H locs 0 0 (MQ below (skI D (skT cI cJ cC cZ cS) (fun (r : Int32) (u : va_W) => ∃ (nw2 : Nat → Int32), ∃ (tk2 : Int32), ∃ (qp2 : Nat), ∃ (am2 : Int32), ∃ (at_2 : Int32), ∃ (aa2 : Int32), ∃ (wy2 : Int64), ∃ (ql2 : Nat → Int64), ∃ (ws_2 : Nat → Int32), ∃ (yw2 : Nat → Int32), ∃ (yo2 : Nat → Int32), ∃ (be2 : Nat → Int64), ∃ (bf2 : Nat → Int64), nwX wn mN Ba We U ke lg nw2 ∧ freesR L dm wn mN Ba We U (nI kd_7) (nI 1) r ∧ u = [ro_ mm 12 (mo g (nI ta) (nI pa) (nI pe) pd (nI pb) pp pf pg pn rt rn (nI cd) sn (nI il) tk2 am2 at_2 aa2 0 0 (-1) wt wy2 0 (nI rm) (nI ud) (nI nu) sd (nI qn) (nI qw) qo (nI qb) (nI qp2) qa (nI qi) (nI oc)), ra_I (g 24) cI 6 (l6 u0 u1 u2 u3 u4 u5), ra_I (g 25) cI 6 (l6 v0 v1 v2 v3 v4 v5), ra_N (g 26) cI 3200 cs, ra_I (g 31) cI 120 nw2, ra_N (g 46) cI 9 pt, ra_J (g 86) cJ 1700 ql2, ra_I (g 20) cI 4 (l4 (nI l0) (nI l1) (nI dm) (nI l3)), ra_I (g 38) cI 90 ws_2, ra_I (g 36) cZ 900 yw2, ra_I (g 37) cZ 900 yo2, ra_J (g 43) cJ 90 be2, ra_J (g 44) cJ 90 bf2]) A) ([.ref mm, .int (nI kd_7), .int (nI 1)] : List Value).toArray s 0 0 A) (F0 m 45 ls []) := by
          intro n_41
          induction n_41 with
          | zero => intro i mo_ be_ zaml zat_l zaal ztkl zqpl zwyl zn y86l y38l y36l y37l y43l y44l BB H locs ls hm; exact absurd hm (Nat.not_lt_zero _)
          | succ n_41 ih_lp_40 =>
            intro i mo_ be_ zaml zat_l zaal ztkl zqpl zwyl zn y86l y38l y36l y37l y43l y44l BB H locs ls hm hi hzn hBB hBe hft hP hD hS hl
            refine lv_iload hx hb dX12_frees_45 (lv_at hl 0 rfl) ?_
            refine lv_bipush (v := 10) hx hb dX12_frees_47 (by decide) ?_
            refine lv_icmp_ge (tgt := 99) hx hb dX12_frees_49 (by decide) (fun c_42 => ?_) (fun c_42 => ?_)
            · have c_42 : 10 ≤ i := (nle 10 i (Nat.le_of_ble_eq_true rfl) (by omega)).mp c_42
              refine lv_aload_n hx hb dX12_frees_99 rfl (lv_at hl 5 rfl) ?_
              refine sk_get (v := .ref (g 31)) (C := RX12) (T := TX12) (N := 92) hx hb hts inlX12 hown hK hP 0 rfl rfl 31 (Nat.le_of_ble_eq_true rfl) w_5_186 rfl dX12_frees_100 ?_
              refine lv_iload_n hx hb dX12_frees_103 rfl (lv_at hl 4 rfl) ?_
              refine lv_iload hx hb dX12_frees_104 (lv_at hl 3 rfl) ?_
              refine sk_iastE (k := (2 + (3 * kd_7) + 1)) (x := (nI (We kd_7))) (ws' := fun f_43 => [ro_ mm 12 (mo g (nI ta) (nI pa) (nI pe) pd (nI pb) pp pf pg pn rt rn (nI cd) sn (nI il) ztkl zaml zat_l zaal 0 0 (-1) wt zwyl 0 (nI rm) (nI ud) (nI nu) sd (nI qn) (nI qw) qo (nI qb) (nI zqpl) qa (nI qi) (nI oc)), ra_I (g 24) cI 6 (l6 u0 u1 u2 u3 u4 u5), ra_I (g 25) cI 6 (l6 v0 v1 v2 v3 v4 v5), ra_N (g 26) cI 3200 cs, ra_I (g 31) cI 120 f_43, ra_N (g 46) cI 9 pt, ra_J (g 86) cJ 1700 y86l, ra_I (g 20) cI 4 (l4 (nI l0) (nI l1) (nI dm) (nI l3)), ra_I (g 38) cI 90 y38l, ra_I (g 36) cZ 900 y36l, ra_I (g 37) cZ 900 y37l, ra_J (g 43) cJ 90 y43l, ra_J (g 44) cJ 90 y44l]) hx hb hK hP hD hS 4 0 rfl rfl (by omega) (by omega) (fun _ => rfl) dX12_frees_106 (fun f_43 H locs ef_44 hP hD hS => ?_)
              have hN_45 : nwX wn mN Ba We U ke lg f_43 := (by have h9 := nwX_upw hzn ef_44 (by omega); rw [upd_back hBe] at h9; exact h9)
              refine lv_iload hx hb dX12_frees_107 (lv_at hl 2 rfl) ?_
              exact sk_iret hx hb hr rfl hlocks hK hP hD hS (⟨f_43, ztkl, zqpl, zaml, zat_l, zaal, zwyl, y86l, y38l, y36l, y37l, y43l, y44l, hN_45, fre_T hkd_7 (by decide) hft (by omega), rfl⟩) (Nat.le_of_ble_eq_true rfl) (Nat.le_of_ble_eq_true rfl) dX12_frees_109
            · have c_42 : ¬ (10 ≤ i) := fun h => c_42 ((nle 10 i (Nat.le_of_ble_eq_true rfl) (by omega)).mpr h)
              refine lv_aload_n hx hb dX12_frees_52 rfl (lv_at hl 5 rfl) ?_
              refine sk_get (v := .ref (g 31)) (C := RX12) (T := TX12) (N := 92) hx hb hts inlX12 hown hK hP 0 rfl rfl 31 (Nat.le_of_ble_eq_true rfl) w_5_186 rfl dX12_frees_53 ?_
              refine lv_iload_n hx hb dX12_frees_56 rfl (lv_at hl 4 rfl) ?_
              refine lv_iload hx hb dX12_frees_57 (lv_at hl 0 rfl) ?_
              refine sk_iastE (k := (2 + (3 * kd_7) + 1)) (x := (nI i)) (ws' := fun f_46 => [ro_ mm 12 (mo g (nI ta) (nI pa) (nI pe) pd (nI pb) pp pf pg pn rt rn (nI cd) sn (nI il) ztkl zaml zat_l zaal 0 0 (-1) wt zwyl 0 (nI rm) (nI ud) (nI nu) sd (nI qn) (nI qw) qo (nI qb) (nI zqpl) qa (nI qi) (nI oc)), ra_I (g 24) cI 6 (l6 u0 u1 u2 u3 u4 u5), ra_I (g 25) cI 6 (l6 v0 v1 v2 v3 v4 v5), ra_N (g 26) cI 3200 cs, ra_I (g 31) cI 120 f_46, ra_N (g 46) cI 9 pt, ra_J (g 86) cJ 1700 y86l, ra_I (g 20) cI 4 (l4 (nI l0) (nI l1) (nI dm) (nI l3)), ra_I (g 38) cI 90 y38l, ra_I (g 36) cZ 900 y36l, ra_I (g 37) cZ 900 y37l, ra_J (g 43) cJ 90 y43l, ra_J (g 44) cJ 90 y44l]) hx hb hK hP hD hS 4 0 rfl rfl (by omega) (by omega) (fun _ => rfl) dX12_frees_59 (fun f_46 H locs ef_47 hP hD hS => ?_)
              have hN_48 : nwX wn mN Ba (updG BB kd_7 i) U ke lg f_46 := nwX_upw hzn ef_47 (by omega)
              refine lv_aload_n hx hb dX12_frees_60 rfl (lv_at hl 5 rfl) ?_
              refine sk_Vv (q0 := 0) (n := 0) (rest := []) (wr := fmR om_13_1fff _) ⟨hx, hb, hml, hown, hts⟩ hl.1 (c_nm_laysAll l D cI cJ cC cZ cS mm g ta pa pe pd pb pp pf pg pn rt rn cd sn il ztkl zaml zat_l zaal wt zwyl 0 rm ud nu sd qn qw qo qb zqpl qa qi oc u0 u1 u2 u3 u4 u5 v0 v1 v2 v3 v4 v5 cs f_46 pt y86l l0 l1 dm l3 y38l y36l y37l y43l y44l wn mN Ba (updG BB kd_7 i) U ke lg L hdm (by omega) hLk hkl hmw0 hmw1 hB9 (updG_le hBB (by omega)) hwk hcs hN_48 hpt) w_7_189 w_7_191 w_0_82 w_1_14 w_7_192 hd_X12_laysAll_0 ⟨⟨(Nat.le_of_ble_eq_true rfl), (Nat.le_of_ble_eq_true rfl)⟩, (Nat.le_of_ble_eq_true rfl), (Nat.le_of_ble_eq_true rfl)⟩ hK hP hD hS hA (fmT om_13_1fff 0) (fmF om_13_1fff 0) (fm_C1 rfl rfl) (fm_R rfl rfl) (fm_nT om_13_1fff 0) (fm_nF om_13_1fff 0) (fm_di om_13_1fff 0) rfl rfl rfl rfl (Nat.le_of_ble_eq_true rfl) dX12_frees_61 (fun u H locs hw hP hD hS => ?_)
              refine exE hw (fun tk2_49 hw1 => exE hw1 (fun qp2_50 hw2 => exE hw2 (fun am2_51 hw3 => exE hw3 (fun at_2_52 hw4 => exE hw4 (fun aa2_53 hw5 => exE hw5 (fun wy2_54 hw6 => exE hw6 (fun ql2_55 hw7 => exE hw7 (fun ws_2_56 hw8 => exE hw8 (fun yw2_57 hw9 => exE hw9 (fun yo2_58 hw10 => exE hw10 (fun be2_59 hw11 => exE hw11 (fun bf2_60 hw12 => anE hw12 (fun hbe_61 hw13 => anE hw13 (fun hcf_62 hw14 => anE hw14 (fun hwy_63 eu_64 => ?_)))))))))))))))
              clear hw hw1 hw2 hw3 hw4 hw5 hw6 hw7 hw8 hw9 hw10 hw11 hw12 hw13 hw14
              refine o_mgE (ws' := [ro_ mm 12 (mo g (nI ta) (nI pa) (nI pe) pd (nI pb) pp pf pg pn rt rn (nI cd) sn (nI il) tk2_49 am2_51 at_2_52 aa2_53 0 0 (-1) wt wy2_54 0 (nI rm) (nI ud) (nI nu) sd (nI qn) (nI qw) qo (nI qb) (nI qp2_50) qa (nI qi) (nI oc)), ra_I (g 24) cI 6 (l6 u0 u1 u2 u3 u4 u5), ra_I (g 25) cI 6 (l6 v0 v1 v2 v3 v4 v5), ra_N (g 26) cI 3200 cs, ra_I (g 31) cI 120 f_46, ra_N (g 46) cI 9 pt, ra_J (g 86) cJ 1700 ql2_55, ra_I (g 20) cI 4 (l4 (nI l0) (nI l1) (nI dm) (nI l3)), ra_I (g 38) cI 90 ws_2_56, ra_I (g 36) cZ 900 yw2_57, ra_I (g 37) cZ 900 yo2_58, ra_J (g 43) cJ 90 be2_59, ra_J (g 44) cJ 90 bf2_60]) eu_64 hP hD rfl (fun hP hD => ?_)
              have hwyF := hwy_63.trans (congrArg (fun B => Int64.ofNat (kcC (kcFo L wn Ba B U 0) dm 0 mN)) (updG_e hBe i))
              have hwyF : wy2_54 = Int64.ofNat (kFr L dm wn mN Ba We U kd_7 1 i) := hwyF
              subst hwyF
              refine lv_iload hx hb dX12_frees_64 (lv_at hl 2 rfl) ?_
              refine lv_iconst (v := (-1)) hx hb dX12_frees_66 (by decide) ?_
              refine lv_icmp_eq (tgt := 83) hx hb dX12_frees_67 (by decide) (fun c_65 => ?_) (fun c_65 => ?_)
              · skip
                refine lv_iload hx hb dX12_frees_83 (lv_at hl 0 rfl) ?_
                refine lv_istore (lv' := [(5, .int (nI i)), (8, .int (nI i)), (6, .long mo_), (4, .int (nI (We kd_7))), (3, .int (nI (2 + (3 * kd_7) + 1))), (0, .ref mm), (1, .int (nI kd_7)), (2, .int 1)]) hx hb dX12_frees_85 hl (by decide) rfl (fun ls hl => ?_)
                refine lv_aload_n hx hb dX12_frees_87 rfl (lv_at hl 5 rfl) ?_
                refine sk_get (v := .long (Int64.ofNat (kFr L dm wn mN Ba We U kd_7 1 i))) (C := RX12) (T := TX12) (N := 92) hx hb hts inlX12 hown hK hP 0 rfl rfl 45 (Nat.le_of_ble_eq_true rfl) w_5_200 rfl dX12_frees_88 ?_
                refine lv_lstore (lv' := [(6, .long (Int64.ofNat (kFr L dm wn mN Ba We U kd_7 1 i))), (5, .int (nI i)), (8, .int (nI i)), (4, .int (nI (We kd_7))), (3, .int (nI (2 + (3 * kd_7) + 1))), (0, .ref mm), (1, .int (nI kd_7)), (2, .int 1)]) hx hb dX12_frees_91 hl (by decide) rfl (fun ls hl => ?_)
                refine lv_iinc (v := nI (i + 1)) (lv' := [(8, .int (nI (i + 1))), (6, .long (Int64.ofNat (kFr L dm wn mN Ba We U kd_7 1 i))), (5, .int (nI i)), (4, .int (nI (We kd_7))), (3, .int (nI (2 + (3 * kd_7) + 1))), (0, .ref mm), (1, .int (nI kd_7)), (2, .int 1)]) hx hb dX12_frees_93 hl (k := 2) rfl (ninc i 1 (by decide)) (by decide) rfl (fun ls hl => ?_)
                refine lv_goto (tgt := 45) hx hb dX12_frees_96 (by decide) ?_
                exact ih_lp_40 (i + 1) (Int64.ofNat (kFr L dm wn mN Ba We U kd_7 1 i)) (nI i) am2_51 at_2_52 aa2_53 tk2_49 qp2_50 (Int64.ofNat (kFr L dm wn mN Ba We U kd_7 1 i)) f_46 ql2_55 ws_2_56 yw2_57 yo2_58 be2_59 bf2_60 (updG BB kd_7 i) _ _ _ (by omega) (by omega) hN_48 (updG_le hBB (by omega)) (fun j hj => by unfold updG; rw [if_neg hj]; exact hBe j hj) (frT_1 hft (by omega) c_65) hP hD hS (lv_sub hl [0, 1, 2, 3, 4, 5, 6, 7] rfl)
              · skip
                refine lv_aload_n hx hb dX12_frees_70 rfl (lv_at hl 5 rfl) ?_
                refine sk_get (v := .long (Int64.ofNat (kFr L dm wn mN Ba We U kd_7 1 i))) (C := RX12) (T := TX12) (N := 92) hx hb hts inlX12 hown hK hP 0 rfl rfl 45 (Nat.le_of_ble_eq_true rfl) w_5_200 rfl dX12_frees_71 ?_
                refine lv_lload hx hb dX12_frees_74 (lv_at hl 1 rfl) ?_
                refine W.lcmp hx hb dX12_frees_76 ?_
                refine lv_if_gt (tgt := 83) hx hb dX12_frees_77 (by decide) (fun c_66 => ?_) (fun c_66 => ?_)
                · skip
                  refine lv_iload hx hb dX12_frees_83 (lv_at hl 0 rfl) ?_
                  refine lv_istore (lv' := [(5, .int (nI i)), (8, .int (nI i)), (6, .long mo_), (4, .int (nI (We kd_7))), (3, .int (nI (2 + (3 * kd_7) + 1))), (0, .ref mm), (1, .int (nI kd_7)), (2, .int 1)]) hx hb dX12_frees_85 hl (by decide) rfl (fun ls hl => ?_)
                  refine lv_aload_n hx hb dX12_frees_87 rfl (lv_at hl 5 rfl) ?_
                  refine sk_get (v := .long (Int64.ofNat (kFr L dm wn mN Ba We U kd_7 1 i))) (C := RX12) (T := TX12) (N := 92) hx hb hts inlX12 hown hK hP 0 rfl rfl 45 (Nat.le_of_ble_eq_true rfl) w_5_200 rfl dX12_frees_88 ?_
                  refine lv_lstore (lv' := [(6, .long (Int64.ofNat (kFr L dm wn mN Ba We U kd_7 1 i))), (5, .int (nI i)), (8, .int (nI i)), (4, .int (nI (We kd_7))), (3, .int (nI (2 + (3 * kd_7) + 1))), (0, .ref mm), (1, .int (nI kd_7)), (2, .int 1)]) hx hb dX12_frees_91 hl (by decide) rfl (fun ls hl => ?_)
                  refine lv_iinc (v := nI (i + 1)) (lv' := [(8, .int (nI (i + 1))), (6, .long (Int64.ofNat (kFr L dm wn mN Ba We U kd_7 1 i))), (5, .int (nI i)), (4, .int (nI (We kd_7))), (3, .int (nI (2 + (3 * kd_7) + 1))), (0, .ref mm), (1, .int (nI kd_7)), (2, .int 1)]) hx hb dX12_frees_93 hl (k := 2) rfl (ninc i 1 (by decide)) (by decide) rfl (fun ls hl => ?_)
                  refine lv_goto (tgt := 45) hx hb dX12_frees_96 (by decide) ?_
                  exact ih_lp_40 (i + 1) (Int64.ofNat (kFr L dm wn mN Ba We U kd_7 1 i)) (nI i) am2_51 at_2_52 aa2_53 tk2_49 qp2_50 (Int64.ofNat (kFr L dm wn mN Ba We U kd_7 1 i)) f_46 ql2_55 ws_2_56 yw2_57 yo2_58 be2_59 bf2_60 (updG BB kd_7 i) _ _ _ (by omega) (by omega) hN_48 (updG_le hBB (by omega)) (fun j hj => by unfold updG; rw [if_neg hj]; exact hBe j hj) (frT_2 hft (kFr_9 (by omega) _) c_65 c_66) hP hD hS (lv_sub hl [0, 1, 2, 3, 4, 5, 6, 7] rfl)
                · skip
                  refine lv_goto (tgt := 93) hx hb dX12_frees_80 (by decide) ?_
                  refine lv_iinc (v := nI (i + 1)) (lv' := [(8, .int (nI (i + 1))), (6, .long mo_), (5, .int be_), (4, .int (nI (We kd_7))), (3, .int (nI (2 + (3 * kd_7) + 1))), (0, .ref mm), (1, .int (nI kd_7)), (2, .int 1)]) hx hb dX12_frees_93 hl (k := 0) rfl (ninc i 1 (by decide)) (by decide) rfl (fun ls hl => ?_)
                  refine lv_goto (tgt := 45) hx hb dX12_frees_96 (by decide) ?_
                  exact ih_lp_40 (i + 1) mo_ be_ am2_51 at_2_52 aa2_53 tk2_49 qp2_50 (Int64.ofNat (kFr L dm wn mN Ba We U kd_7 1 i)) f_46 ql2_55 ws_2_56 yw2_57 yo2_58 be2_59 bf2_60 (updG BB kd_7 i) _ _ _ (by omega) (by omega) hN_48 (updG_le hBB (by omega)) (fun j hj => by unfold updG; rw [if_neg hj]; exact hBe j hj) (frT_3 hft (kFr_9 (by omega) _) c_65 c_66) hP hD hS (lv_sub hl [0, 1, 2, 3, 4, 5, 6, 7] rfl)
        exact lp_40 (10 - 0 + 1) 0 0 (-1) am at_ aa tk qp wy nw ql ws_ yw yo be bf We _ _ _ (Nat.lt_succ_self _) (by omega) hnw hW9 (fun _ _ => rfl) (Or.inl ⟨rfl, rfl⟩) hP hD hS (lv_sub hl [0, 1, 2, 3, 4, 5, 6, 7] rfl)
    · have c_11 : b_8 = 0 := (neq b_8 0 (by omega) (Nat.le_of_ble_eq_true rfl)).mp c_11
      refine lv_iconst (v := (-1)) hx hb dX12_frees_18 (by decide) ?_
      exact sk_iret hx hb hr rfl hlocks hK hP hD hS (⟨nw, tk, qp, am, at_, aa, wy, ql, ws_, yw, yo, be, bf, hnw, fre_1 (fun hq => rr_0 hb1_10 (by omega) ((kin0 (n := 2) (by decide) (by omega)).mpr hq)), rfl⟩) (Nat.le_of_ble_eq_true rfl) (Nat.le_of_ble_eq_true rfl) dX12_frees_19
/-! what may follow, and is left -/
def cfL (C : Nat → Nat → Nat → Bool) (lf : Nat → Nat → Bool) (d a m : Nat) : Bool := C d a m && lf d m
theorem cfl_t {C : Nat → Nat → Nat → Bool} {lf : Nat → Nat → Bool} {d a m : Nat} (h1 : C d a m = true) (h2 : lf d m = true) : cfL C lf d a m = true := by
  unfold cfL; rw [h1, h2]; rfl
theorem cfl_c {C : Nat → Nat → Nat → Bool} {lf : Nat → Nat → Bool} {d a m : Nat} (h1 : C d a m = false) : cfL C lf d a m = false := by
  unfold cfL; rw [h1]; rfl
theorem cfl_l {C : Nat → Nat → Nat → Bool} {lf : Nat → Nat → Bool} {d a m : Nat} (h2 : lf d m = false) : cfL C lf d a m = false := by
  unfold cfL; rw [h2]; exact Bool.and_false _
/-- by a word -/
def lfW (ws : Nat → Int32) (wd wt d m : Nat) : Bool := decide (wd = d → ws (10 * d + m) = nI wt)
theorem lfw_1 {ws : Nat → Int32} {wd wt d m : Nat} (h : ¬ wd = d) : lfW ws wd wt d m = true := decide_eq_true (fun q => absurd q h)
theorem lfw_2 {ws : Nat → Int32} {wd wt d m : Nat} (h : ws (10 * d + m) = nI wt) : lfW ws wd wt d m = true := decide_eq_true (fun _ => h)
theorem lfw_0 {ws : Nat → Int32} {wd wt d m : Nat} (h1 : wd = d) (h : ¬ ws (10 * d + m) = nI wt) : lfW ws wd wt d m = false := decide_eq_false (fun q => h (q h1))
/-- by rows heard -/
def lfH (nw ws : Nat → Int32) (hR : Nat → Nat) (n d m : Nat) : Bool := decide (∀ i, i < n → hR i / 10 = d → ¬ nw (nI (2 + 3 * d + 2)).toNatClampNeg = 1 ∧ ws (10 * d + m) = nI (hR i % 10))
theorem mlS_w {L : LkS} {wk : Nat} {B W : Nat → Nat} {d : Nat} {ws : Nat → Int32} (h : mlS L wk B W 0 d ws 10) {m : Nat} (hm : m < 10) : ws (10 * d + m) = nI (kSd L wk B W d m) ∧ kSd L wk B W d m < 10 := by
  have h1 : kcSaid L wk (B d) (W d) d m < 10 := kcTen_lt _
  refine ⟨?_, h1⟩
  rw [h m hm, Nat.add_zero, Nat.mod_eq_of_lt h1]
  rfl
theorem cfW {L : LkS} {wn mo ke dm kd kw : Nat} {Ba We : Nat → Nat} {U : Nat → Bool} {lg : KLg} {nw ws yw yo : Nat → Int32} (h : nwX wn mo Ba We U ke lg nw) (hm : mlD L wn Ba We 0 dm ws yw yo) (hd : dm ≤ 9) (hw : kw < 10) : ∀ d, d < dm → ∀ a m, a < 10 → m < 10 → cfL (cfN nw yw yo 0) (lfW ws kd kw) d a m = kcFw (kcFo L wn Ba We U 0) (kSd L wn Ba We) kd kw d a m := fun d h1 a m ha hm2 => by
  unfold cfL
  rw [cfX h hm hd d h1 a m ha hm2]
  have h2 := mlS_w (hm d h1).1 hm2
  by_cases q : d = kd
  · subst q
    rw [kfw_e]
    refine congrArg (fun x => kcFo L wn Ba We U 0 d a m && x) ?_
    unfold lfW
    by_cases c : kSd L wn Ba We d m = kw
    · rw [decide_eq_true (fun _ => by rw [h2.1, c]), c]
      exact (beq_self_eq_true kw).symm
    · rw [decide_eq_false (fun z => c ((neq _ _ (by omega) (by omega)).mp (h2.1.symm.trans (z rfl)))), beq_false_of_ne c]
  · rw [kfw_n q, lfw_1 (fun z => q z.symm), Bool.and_true]
theorem cfH {L : LkS} {wn mo ke dm n : Nat} {Ba We : Nat → Nat} {U : Nat → Bool} {lg : KLg} {hR : Nat → Nat} {nw ws yw yo : Nat → Int32} (h : nwX wn mo Ba We U ke lg nw) (hm : mlD L wn Ba We 0 dm ws yw yo) (hd : dm ≤ 9) : ∀ d, d < dm → ∀ a m, a < 10 → m < 10 → cfL (cfN nw yw yo 0) (lfH nw ws hR n) d a m = kcHd (kcFo L wn Ba We U 0) U (kSd L wn Ba We) hR n d a m := fun d h1 a m ha hm2 => by
  unfold cfL
  rw [cfX h hm hd d h1 a m ha hm2]
  have h2 := mlS_w (hm d h1).1 hm2
  have h3 := nwX_m1 h (show d < 9 by omega)
  have key : (∀ i, i < n → hR i / 10 = d → ¬ nw (nI (2 + 3 * d + 2)).toNatClampNeg = 1 ∧ ws (10 * d + m) = nI (hR i % 10)) ↔ (∀ i, i < n → hR i / 10 = d → U d = false ∧ kSd L wn Ba We d m = hR i % 10) := by
    constructor
    · intro q i hi e
      obtain ⟨q1, q2⟩ := q i hi e
      exact ⟨Bool.eq_false_iff.mpr (fun z => q1 (h3.mpr z)), (neq _ _ (by omega) (by omega)).mp (h2.1.symm.trans q2)⟩
    · intro q i hi e
      obtain ⟨q1, q2⟩ := q i hi e
      exact ⟨fun z => (by rw [h3.mp z] at q1; cases q1), by rw [h2.1, q2]⟩
  unfold kcHd lfH
  cases hb : kcFo L wn Ba We U 0 d a m with
  | false => first | exact (decide_eq_false (fun q => by cases q.1)).symm | exact decide_eq_false (fun q => by cases q.1)
  | true =>
    rw [Bool.true_and]
    by_cases c : ∀ i, i < n → hR i / 10 = d → U d = false ∧ kSd L wn Ba We d m = hR i % 10
    · rw [decide_eq_true (key.mpr c), decide_eq_true ⟨rfl, c⟩]
    · rw [decide_eq_false (fun q => c (key.mp q)), decide_eq_false (fun q => c q.2)]
theorem kbsT_d : ∀ x, x < 1024 → 1 ≤ x → nI x &&& nI (x - 1) = nI (x &&& (x - 1)) ∧ x &&& (x - 1) < x ∧ kpopT (x &&& (x - 1)) + 1 = kpopT x := by decide +kernel
theorem kpopT_0 : kpopT 0 = 0 := by decide
/-! tells -/
def tlI (f : Nat → Nat) (i : Nat) (be : Int32) (fe : Int64) : Prop := (i = 0 ∧ be = -1) ∨ (1 ≤ i ∧ be = nI (kAmin f i) ∧ fe = Int64.ofNat (f (kAmin f i)))
theorem tlI_1 {f : Nat → Nat} {i : Nat} {be : Int32} {fe : Int64} (h : tlI f i be fe) (hi : i < 9) (e : be = -1) : tlI f (i + 1) (nI i) (Int64.ofNat (f i)) := by
  rcases h with ⟨h1, _⟩ | ⟨h1, h2, _⟩
  · subst h1
    refine Or.inr ⟨Nat.le_refl _, ?_, ?_⟩
    · show nI 0 = nI (if f 0 < f (kAmin f 0) then 0 else kAmin f 0)
      split <;> rfl
    · show Int64.ofNat (f 0) = Int64.ofNat (f (if f 0 < f (kAmin f 0) then 0 else kAmin f 0))
      split <;> rfl
  · have := kAmin_lt f i h1
    exact absurd (h2.symm.trans e) (nI_ne1 (by omega))
theorem tlI_2 {f : Nat → Nat} {i n : Nat} {be : Int32} {fe : Int64} (h : tlI f i be fe) (hb : ∀ v, v < n → f v ≤ 1000000000) (hi : i < n) (e : ¬ be = -1) (hc : lg_cmp (Int64.ofNat (f i)) fe < 0) : tlI f (i + 1) (nI i) (Int64.ofNat (f i)) := by
  rcases h with ⟨_, h2⟩ | ⟨h1, h2, h3⟩
  · exact absurd h2 e
  · have b1 := hb i hi
    have b3 := kAmin_lt f i h1
    have b2 := hb (kAmin f i) (by omega)
    rw [h3] at hc
    have h4 := (nL_lt (by omega) (by omega)).mp hc
    have e1 : kAmin f (i + 1) = i := if_pos h4
    exact Or.inr ⟨by omega, by rw [e1], by rw [e1]⟩
theorem tlI_3 {f : Nat → Nat} {i n : Nat} {be : Int32} {fe : Int64} (h : tlI f i be fe) (hb : ∀ v, v < n → f v ≤ 1000000000) (hi : i < n) (e : ¬ be = -1) (hc : ¬ lg_cmp (Int64.ofNat (f i)) fe < 0) : tlI f (i + 1) be fe := by
  rcases h with ⟨_, h2⟩ | ⟨h1, h2, h3⟩
  · exact absurd h2 e
  · have b1 := hb i hi
    have b3 := kAmin_lt f i h1
    have b2 := hb (kAmin f i) (by omega)
    have h4 : ¬ f i < f (kAmin f i) := fun q => hc (by rw [h3]; exact (nL_lt (by omega) (by omega)).mpr q)
    have e1 : kAmin f (i + 1) = kAmin f i := if_neg h4
    exact Or.inr ⟨by omega, by rw [e1]; exact h2, by rw [e1]; exact h3⟩
theorem tel_5 {E : Nat → Nat → Nat → Bool} {dy mo j : Nat} {be : Int32} {fe : Int64} (h1 : 1 ≤ dy) (h9 : dy ≤ 9) (h2 : 0 < kcC E dy 0 mo) (hj : j = 0) (h : tlI (tlF E dy mo) dy be fe) : tellsR E dy mo (nI j) (Int32.toInt64 be) := by
  subst hj
  rcases h with ⟨h3, _⟩ | ⟨h3, h4, _⟩
  · omega
  · have h5 := kAmin_lt (tlF E dy mo) dy h3
    rw [h4, kx_i2l (by omega)]
    exact tel_3 h1 h2 rfl rfl
theorem tel_6 {E : Nat → Nat → Nat → Bool} {dy mo j : Nat} {be : Int32} {fe : Int64} (h1 : 1 ≤ dy) (h2 : 0 < kcC E dy 0 mo) (hj : j < 2) (h0 : ¬ j = 0) (h : tlI (tlF E dy mo) dy be fe) : tellsR E dy mo (nI j) fe := by
  rcases h with ⟨h3, _⟩ | ⟨h3, _, h5⟩
  · omega
  · exact tel_4 h1 h2 hj h0 rfl h5
theorem mx_y {f : Nat → Nat} {n : Nat} {x : Int64} (hx : x = Int64.ofNat (kcMx f n)) (h1 : kcMx f n < 9223372036854775808) (h2 : f n < 9223372036854775808) (hc : ¬ lg_cmp (Int64.ofNat (f n)) x ≤ 0) : Int64.ofNat (f n) = Int64.ofNat (kcMx f (n + 1)) := by
  rw [hx] at hc
  have h3 := (klt h1 h2).mp ((lg_cmp_gt _ _).mp (Int32.not_le.mp hc))
  show _ = Int64.ofNat (if kcMx f n < f n then f n else kcMx f n)
  rw [if_pos h3]
theorem mx_n {f : Nat → Nat} {n : Nat} {x : Int64} (hx : x = Int64.ofNat (kcMx f n)) (h1 : kcMx f n < 9223372036854775808) (h2 : f n < 9223372036854775808) (hc : lg_cmp (Int64.ofNat (f n)) x ≤ 0) : x = Int64.ofNat (kcMx f (n + 1)) := by
  rw [hx] at hc ⊢
  have h3 : ¬ kcMx f n < f n := fun q => Int32.not_le.mpr ((lg_cmp_gt _ _).mpr ((klt h1 h2).mpr q)) hc
  show Int64.ofNat (kcMx f n) = Int64.ofNat (if kcMx f n < f n then f n else kcMx f n)
  rw [if_neg h3]
theorem tel_A {f : Nat → Nat} {n : Nat} {be : Int32} {fe : Int64} (h1 : 1 ≤ n) (h9 : n ≤ 9) (h : tlI f n be fe) (e : be = -1) : False := by
  rcases h with ⟨h2, _⟩ | ⟨h2, h3, _⟩
  · omega
  · have h4 := kAmin_lt f n h2
    exact nI_ne1 (v := kAmin f n) (by omega) (h3.symm.trans e)
theorem tel_B {f : Nat → Nat} {i : Nat} {be : Int32} {fe : Int64} (h : tlI f i be fe) (e : i = 0) : be = -1 := by
  rcases h with ⟨_, h2⟩ | ⟨h2, _⟩
  · exact h2
  · omega
theorem dg_X12_isLeft_8_8 : bqL cX12_isLeft 8 [(0, [42]), (1, [180, 0, 76]), (4, [16, 10]), (6, [27]), (7, [104]), (8, [28]), (9, [96]), (10, [46]), (11, [42]), (12, [180, 1, 109]), (15, [159, 0, 5]), (18, [3]), (19, [172])] = true := by decide +kernel
theorem dX12_isLeft_8 : decode cX12_isLeft 8 = .ok (.aload_n 0, 1) := q_aload_n0 (bat_get dg_X12_isLeft_8_8 0 rfl rfl)
theorem dX12_isLeft_9 : decode cX12_isLeft 9 = .ok (.getfield 76, 3) := q_getfield (bat_get dg_X12_isLeft_8_8 1 rfl rfl) rfl
theorem dX12_isLeft_12 : decode cX12_isLeft 12 = .ok (.bipush 10, 2) := q_bipush (bat_get dg_X12_isLeft_8_8 2 rfl rfl) rfl
theorem dX12_isLeft_14 : decode cX12_isLeft 14 = .ok (.iload_n 1, 1) := q_iload_n1 (bat_get dg_X12_isLeft_8_8 3 rfl rfl)
theorem dX12_isLeft_15 : decode cX12_isLeft 15 = .ok (.imul, 1) := q_imul (bat_get dg_X12_isLeft_8_8 4 rfl rfl)
theorem dX12_isLeft_16 : decode cX12_isLeft 16 = .ok (.iload_n 2, 1) := q_iload_n2 (bat_get dg_X12_isLeft_8_8 5 rfl rfl)
theorem dX12_isLeft_17 : decode cX12_isLeft 17 = .ok (.iadd, 1) := q_iadd (bat_get dg_X12_isLeft_8_8 6 rfl rfl)
theorem dX12_isLeft_18 : decode cX12_isLeft 18 = .ok (.iaload, 1) := q_iaload (bat_get dg_X12_isLeft_8_8 7 rfl rfl)
theorem dX12_isLeft_19 : decode cX12_isLeft 19 = .ok (.aload_n 0, 1) := q_aload_n0 (bat_get dg_X12_isLeft_8_8 8 rfl rfl)
theorem dX12_isLeft_20 : decode cX12_isLeft 20 = .ok (.getfield 365, 3) := q_getfield (bat_get dg_X12_isLeft_8_8 9 rfl rfl) rfl
theorem dX12_isLeft_23 : decode cX12_isLeft 23 = .ok (.if_icmp .eq 5, 3) := q_if_icmp_eq (bat_get dg_X12_isLeft_8_8 10 rfl rfl) rfl
theorem dX12_isLeft_26 : decode cX12_isLeft 26 = .ok (.iconst 0, 1) := q_iconst0 (bat_get dg_X12_isLeft_8_8 11 rfl rfl)
theorem dX12_isLeft_27 : decode cX12_isLeft 27 = .ok (.ireturn, 1) := q_ireturn (bat_get dg_X12_isLeft_8_8 12 rfl rfl)
theorem w_5_197 : (Cond.fieldLink RX12 365 "SameKeeperModel" "wordTold" "I") ∈ wsL_law := sk_mem (ck_5 _ (List.mem_of_getElem? (i := 197) rfl)) rfl
set_option maxHeartbeats 4000000 in
set_option maxRecDepth 100000 in
theorem c_vm_isLeftW (l : Launch) (D : va_G) (cI cJ cC cZ cS : ClassId) (mm : Nat) (g : Nat → Nat) (ta : Nat) (pa : Nat) (pe : Nat) (pd : Int32) (pb : Nat) (pp : Int32) (pf : Int32) (pg : Int32) (pn : Int32) (rt : Int32) (rn : Int32) (cd : Nat) (sn : Int32) (il : Nat) (tk : Int32) (am : Int32) (at_ : Int32) (aa : Int32) (mt_ : Int32) (wy : Int64) (it_ : Nat) (rm : Nat) (ud : Nat) (nu : Nat) (sd : Int64) (qn : Nat) (qw : Nat) (qo : Int32) (qb : Nat) (qp : Nat) (qa : Int64) (qi : Nat) (oc : Nat) (d : Nat) (o : Nat) (ws_ : Nat → Int32) (wd_ : Nat) (wt_ : Nat) (hd : d < 9) (ho : o < 10) (hwd9 : wd_ ≤ 9) : skM l yX12_isLeft cX12_isLeft 4 (some .boolean) 0 0 0 0 D (skT cI cJ cC cZ cS) [.ref mm, .int (nI d), .int (nI o)] [ro_ mm 12 (mo g (nI ta) (nI pa) (nI pe) pd (nI pb) pp pf pg pn rt rn (nI cd) sn (nI il) tk am at_ aa mt_ 0 (nI wd_) (nI wt_) wy (nI it_) (nI rm) (nI ud) (nI nu) sd (nI qn) (nI qw) qo (nI qb) (nI qp) qa (nI qi) (nI oc)), ra_I (g 38) cI 90 ws_] (skI D (skT cI cJ cC cZ cS) (fun (r : Int32) (u : va_W) => ∃ (b : Nat), ((b = 0 ∧ lfW ws_ wd_ wt_ d o = false) ∨ (b = 1 ∧ lfW ws_ wd_ wt_ d o = true)) ∧ b ≤ 1 ∧ r = nI b ∧ u = [ro_ mm 12 (mo g (nI ta) (nI pa) (nI pe) pd (nI pb) pp pf pg pn rt rn (nI cd) sn (nI il) tk am at_ aa mt_ 0 (nI wd_) (nI wt_) wy (nI it_) (nI rm) (nI ud) (nI nu) sd (nI qn) (nI qw) qo (nI qb) (nI qp) qa (nI qi) (nI oc)), ra_I (g 38) cI 90 ws_])) := by
  refine skM_of pf_X12_isLeft (Nat.le_of_ble_eq_true rfl) ?_
  intro p e s m below meth c A ls E hP hD hl
  refine skE_el E (fun hx hb hr hml hlocks hin hown hts hK hA => ?_)
  have hown : s.vm.findClass RX12 = some m.cls := hown
  have hS : va_S A s.heap s.heap [] := va_S.rf
  have hl : lv_has ls 4 [(0, .ref mm), (1, .int (nI d)), (2, .int (nI o))] := hl
  refine lv_aload_n hx hb dX12_isLeft_0 rfl (lv_at hl 0 rfl) ?_
  refine sk_get (v := .int (nI wd_)) (C := RX12) (T := TX12) (N := 92) hx hb hts inlX12 hown hK hP 0 rfl rfl 41 (Nat.le_of_ble_eq_true rfl) w_5_196 rfl dX12_isLeft_1 ?_
  refine lv_iload_n hx hb dX12_isLeft_4 rfl (lv_at hl 1 rfl) ?_
  refine lv_icmp_ne (tgt := 28) hx hb dX12_isLeft_5 (by decide) (fun c_1 => ?_) (fun c_1 => ?_)
  · have c_1 : ¬ (wd_ = d) := fun h => c_1 ((neq wd_ d (by omega) (by omega)).mpr h)
    refine lv_aload_n hx hb dX12_isLeft_28 rfl (lv_at hl 0 rfl) ?_
    refine sk_get (v := .int 0) (C := RX12) (T := TX12) (N := 92) hx hb hts inlX12 hown hK hP 0 rfl rfl 40 (Nat.le_of_ble_eq_true rfl) w_5_195 rfl dX12_isLeft_29 ?_
    refine lv_if_ne (tgt := 37) hx hb dX12_isLeft_32 (by decide) (fun c => absurd c (by decide)) (fun c_2 => ?_)
    refine lv_iconst (v := 1) hx hb dX12_isLeft_35 ic_1 ?_
    exact sk_iret hx hb hr rfl hlocks hK hP hD hS (⟨1, Or.inr ⟨rfl, lfw_1 c_1⟩, by omega, rfl, rfl⟩) (Nat.le_of_ble_eq_true rfl) (Nat.le_of_ble_eq_true rfl) dX12_isLeft_36
  · have c_1 : wd_ = d := (neq wd_ d (by omega) (by omega)).mp c_1
    refine lv_aload_n hx hb dX12_isLeft_8 rfl (lv_at hl 0 rfl) ?_
    refine sk_get (v := .ref (g 38)) (C := RX12) (T := TX12) (N := 92) hx hb hts inlX12 hown hK hP 0 rfl rfl 38 (Nat.le_of_ble_eq_true rfl) w_5_193 rfl dX12_isLeft_9 ?_
    refine lv_bipush (v := 10) hx hb dX12_isLeft_12 (by decide) ?_
    refine lv_iload_n hx hb dX12_isLeft_14 rfl (lv_at hl 1 rfl) ?_
    refine lv_imul hx hb dX12_isLeft_15 ?_
    refine sk_top (nI (10 * d)) (nmul 10 d) ?_
    refine lv_iload_n hx hb dX12_isLeft_16 rfl (lv_at hl 2 rfl) ?_
    refine lv_iadd hx hb dX12_isLeft_17 ?_
    refine sk_top (nI (10 * d + o)) (nI_add (10 * d) o) ?_
    refine va_iald hx hb hK.1 hP 1 0 rfl rfl (vin (10 * d + o) 90 (by omega) (Nat.le_of_ble_eq_true rfl)) dX12_isLeft_18 ?_
    refine sk_top (ws_ (10 * d + o)) (by rw [nI_clamp (by omega)]) ?_
    refine lv_aload_n hx hb dX12_isLeft_19 rfl (lv_at hl 0 rfl) ?_
    refine sk_get (v := .int (nI wt_)) (C := RX12) (T := TX12) (N := 92) hx hb hts inlX12 hown hK hP 0 rfl rfl 42 (Nat.le_of_ble_eq_true rfl) w_5_197 rfl dX12_isLeft_20 ?_
    refine lv_icmp_eq (tgt := 28) hx hb dX12_isLeft_23 (by decide) (fun c_3 => ?_) (fun c_3 => ?_)
    · skip
      refine lv_aload_n hx hb dX12_isLeft_28 rfl (lv_at hl 0 rfl) ?_
      refine sk_get (v := .int 0) (C := RX12) (T := TX12) (N := 92) hx hb hts inlX12 hown hK hP 0 rfl rfl 40 (Nat.le_of_ble_eq_true rfl) w_5_195 rfl dX12_isLeft_29 ?_
      refine lv_if_ne (tgt := 37) hx hb dX12_isLeft_32 (by decide) (fun c => absurd c (by decide)) (fun c_4 => ?_)
      refine lv_iconst (v := 1) hx hb dX12_isLeft_35 ic_1 ?_
      exact sk_iret hx hb hr rfl hlocks hK hP hD hS (⟨1, Or.inr ⟨rfl, lfw_2 c_3⟩, by omega, rfl, rfl⟩) (Nat.le_of_ble_eq_true rfl) (Nat.le_of_ble_eq_true rfl) dX12_isLeft_36
    · skip
      refine lv_iconst (v := 0) hx hb dX12_isLeft_26 ic_0 ?_
      exact sk_iret hx hb hr rfl hlocks hK hP hD hS (⟨0, Or.inl ⟨rfl, lfw_0 (by omega) c_3⟩, by omega, rfl, rfl⟩) (Nat.le_of_ble_eq_true rfl) (Nat.le_of_ble_eq_true rfl) dX12_isLeft_27
def om_5_14 : List Bool := true :: false :: true :: false :: false :: []
set_option maxHeartbeats 4000000 in
set_option maxRecDepth 100000 in
theorem c_vm_canFollowW (l : Launch) (D : va_G) (cI cJ cC cZ cS : ClassId) (mm : Nat) (g : Nat → Nat) (ta : Nat) (pa : Nat) (pe : Nat) (pd : Int32) (pb : Nat) (pp : Int32) (pf : Int32) (pg : Int32) (pn : Int32) (rt : Int32) (rn : Int32) (cd : Nat) (sn : Int32) (il : Nat) (tk : Int32) (am : Int32) (at_ : Int32) (aa : Int32) (mt_ : Int32) (wy : Int64) (it_ : Nat) (rm : Nat) (ud : Nat) (nu : Nat) (sd : Int64) (qn : Nat) (qw : Nat) (qo : Int32) (qb : Nat) (qp : Nat) (qa : Int64) (qi : Nat) (oc : Nat) (d : Nat) (aa_ : Nat) (o : Nat) (nw : Nat → Int32) (ws_ : Nat → Int32) (yo : Nat → Int32) (yw : Nat → Int32) (wd_ : Nat) (wt_ : Nat) (hd : d < 9) (ho : o < 10) (ha_ : aa_ < 10) (hwd9 : wd_ ≤ 9) (hnw : nowOk nw) : skM l yX12_canFollow cX12_canFollow 5 (some .boolean) 2 42 0 0 D (skT cI cJ cC cZ cS) [.ref mm, .int (nI d), .int (nI aa_), .int (nI o)] [ro_ mm 12 (mo g (nI ta) (nI pa) (nI pe) pd (nI pb) pp pf pg pn rt rn (nI cd) sn (nI il) tk am at_ aa mt_ 0 (nI wd_) (nI wt_) wy (nI it_) (nI rm) (nI ud) (nI nu) sd (nI qn) (nI qw) qo (nI qb) (nI qp) qa (nI qi) (nI oc)), ra_I (g 31) cI 120 nw, ra_I (g 38) cI 90 ws_, ra_I (g 37) cZ 900 yo, ra_I (g 36) cZ 900 yw] (skI D (skT cI cJ cC cZ cS) (fun (r : Int32) (u : va_W) => ∃ (b : Nat), ((b = 0 ∧ cfL (cfN nw yw yo mt_) (lfW ws_ wd_ wt_) d aa_ o = false) ∨ (b = 1 ∧ cfL (cfN nw yw yo mt_) (lfW ws_ wd_ wt_) d aa_ o = true)) ∧ b ≤ 1 ∧ r = nI b ∧ u = [ro_ mm 12 (mo g (nI ta) (nI pa) (nI pe) pd (nI pb) pp pf pg pn rt rn (nI cd) sn (nI il) tk am at_ aa mt_ 0 (nI wd_) (nI wt_) wy (nI it_) (nI rm) (nI ud) (nI nu) sd (nI qn) (nI qw) qo (nI qb) (nI qp) qa (nI qi) (nI oc)), ra_I (g 31) cI 120 nw, ra_I (g 38) cI 90 ws_, ra_I (g 37) cZ 900 yo, ra_I (g 36) cZ 900 yw])) := by
  refine skM_of pf_X12_canFollow (Nat.le_of_ble_eq_true rfl) ?_
  intro p e s m below meth c A ls E hP hD hl
  refine skE_el E (fun hx hb hr hml hlocks hin hown hts hK hA => ?_)
  have hown : s.vm.findClass RX12 = some m.cls := hown
  have hS : va_S A s.heap s.heap [] := va_S.rf
  have hl : lv_has ls 5 [(0, .ref mm), (1, .int (nI d)), (2, .int (nI aa_)), (3, .int (nI o))] := hl
  refine lv_bipush (v := 100) hx hb dX12_canFollow_0 (by decide) ?_
  refine lv_iload_n hx hb dX12_canFollow_2 rfl (lv_at hl 1 rfl) ?_
  refine lv_imul hx hb dX12_canFollow_3 ?_
  refine sk_top (nI (100 * d)) (nmul 100 d) ?_
  refine lv_bipush (v := 10) hx hb dX12_canFollow_4 (by decide) ?_
  refine lv_iload_n hx hb dX12_canFollow_6 rfl (lv_at hl 2 rfl) ?_
  refine lv_imul hx hb dX12_canFollow_7 ?_
  refine sk_top (nI (10 * aa_)) (nmul 10 aa_) ?_
  refine lv_iadd hx hb dX12_canFollow_8 ?_
  refine sk_top (nI (100 * d + (10 * aa_))) (nI_add (100 * d) (10 * aa_)) ?_
  refine lv_iload_n hx hb dX12_canFollow_9 rfl (lv_at hl 3 rfl) ?_
  refine lv_iadd hx hb dX12_canFollow_10 ?_
  refine sk_top (nI (100 * d + (10 * aa_) + o)) (nI_add (100 * d + (10 * aa_)) o) ?_
  refine lv_istore (lv' := [(4, .int (nI (100 * d + (10 * aa_) + o))), (0, .ref mm), (1, .int (nI d)), (2, .int (nI aa_)), (3, .int (nI o))]) hx hb dX12_canFollow_11 hl (by decide) rfl (fun ls hl => ?_)
  refine lv_aload_n hx hb dX12_canFollow_13 rfl (lv_at hl 1 rfl) ?_
  refine lv_iload_n hx hb dX12_canFollow_14 rfl (lv_at hl 2 rfl) ?_
  refine sk_Vi (q0 := 0) (n := 1) (rest := []) (wr := fmR om_5_18 _) ⟨hx, hb, hml, hown, hts⟩ hl.1 (c_m_isMuteNow l D cI cJ cC cZ cS mm g ta pa pe pd pb pp pf pg pn rt rn cd sn il tk am at_ aa mt_ 0 (nI wd_) (nI wt_) wy it_ rm ud nu sd qn qw qo qb qp qa qi oc d nw hd hnw) w_7_205 w_7_207 w_0_86 w_1_14 w_7_208 hd_X12_isMuteNow_1 ⟨⟨(Nat.le_of_ble_eq_true rfl), (Nat.le_of_ble_eq_true rfl)⟩, (Nat.le_of_ble_eq_true rfl), (Nat.le_of_ble_eq_true rfl)⟩ hK hP hD hS hA (fmT om_5_18 0) (fmF om_5_18 0) (fm_C1 rfl rfl) (fm_R rfl rfl) (fm_nT om_5_18 0) (fm_nF om_5_18 0) (fm_di om_5_18 0) rfl rfl rfl rfl (Nat.le_of_ble_eq_true rfl) dX12_canFollow_15 (fun r_2 u H locs hw hP hD hS => ?_)
  refine exE hw (fun b_1 hw1 => anE hw1 (fun hb1_3 hw2 => anE hw2 (fun hb2_4 hw3 => anE hw3 (fun er_6 eu_5 => ?_))))
  clear hw hw1 hw2 hw3
  subst er_6
  refine o_mgE (ws' := [ro_ mm 12 (mo g (nI ta) (nI pa) (nI pe) pd (nI pb) pp pf pg pn rt rn (nI cd) sn (nI il) tk am at_ aa mt_ 0 (nI wd_) (nI wt_) wy (nI it_) (nI rm) (nI ud) (nI nu) sd (nI qn) (nI qw) qo (nI qb) (nI qp) qa (nI qi) (nI oc)), ra_I (g 31) cI 120 nw, ra_I (g 38) cI 90 ws_, ra_I (g 37) cZ 900 yo, ra_I (g 36) cZ 900 yw]) eu_5 hP hD rfl (fun hP hD => ?_)
  refine lv_if_eq (tgt := 34) hx hb dX12_canFollow_18 (by decide) (fun c_7 => ?_) (fun c_7 => ?_)
  · have c_7 : b_1 = 0 := (neq b_1 0 (by omega) (Nat.le_of_ble_eq_true rfl)).mp c_7
    refine lv_aload_n hx hb dX12_canFollow_34 rfl (lv_at hl 1 rfl) ?_
    refine sk_get (v := .ref (g 36)) (C := RX12) (T := TX12) (N := 92) hx hb hts inlX12 hown hK hP 0 rfl rfl 36 (Nat.le_of_ble_eq_true rfl) w_5_191 rfl dX12_canFollow_35 ?_
    refine lv_iload hx hb dX12_canFollow_38 (lv_at hl 0 rfl) ?_
    refine va_zald hx hb hK.1 hP 4 3 rfl rfl (vin (100 * d + (10 * aa_) + o) 900 (by omega) (Nat.le_of_ble_eq_true rfl)) dX12_canFollow_40 ?_
    refine lv_topi (fun v_8 ev_8 => ?_)
    refine lv_if_eq (tgt := 57) hx hb dX12_canFollow_41 (by decide) (fun c_9 => ?_) (fun c_9 => ?_)
    · skip
      refine lv_iconst (v := 0) hx hb dX12_canFollow_57 ic_0 ?_
      exact sk_iret hx hb hr rfl hlocks hK hP hD hS (⟨0, Or.inl ⟨rfl, cfl_c (cf_wf (or_0 hb1_3 (by omega)) ev_8 c_9)⟩, by omega, rfl, rfl⟩) (Nat.le_of_ble_eq_true rfl) (Nat.le_of_ble_eq_true rfl) dX12_canFollow_58
    · skip
      refine lv_aload_n hx hb dX12_canFollow_44 rfl (lv_at hl 1 rfl) ?_
      refine lv_iload_n hx hb dX12_canFollow_45 rfl (lv_at hl 2 rfl) ?_
      refine lv_iload_n hx hb dX12_canFollow_46 rfl (lv_at hl 4 rfl) ?_
      refine sk_Vi (q0 := 0) (n := 2) (rest := []) (wr := fmR om_5_14 _) ⟨hx, hb, hml, hown, hts⟩ hl.1 (c_vm_isLeftW l D cI cJ cC cZ cS mm g ta pa pe pd pb pp pf pg pn rt rn cd sn il tk am at_ aa mt_ wy it_ rm ud nu sd qn qw qo qb qp qa qi oc d o ws_ wd_ wt_ hd ho hwd9) w_7_209 w_7_211 w_0_87 w_1_14 w_7_212 hd_X12_isLeft_2 ⟨⟨(Nat.le_of_ble_eq_true rfl), (Nat.le_of_ble_eq_true rfl)⟩, (Nat.le_of_ble_eq_true rfl), (Nat.le_of_ble_eq_true rfl)⟩ hK hP hD hS hA (fmT om_5_14 0) (fmF om_5_14 0) (fm_C1 rfl rfl) (fm_R rfl rfl) (fm_nT om_5_14 0) (fm_nF om_5_14 0) (fm_di om_5_14 0) rfl rfl rfl rfl (Nat.le_of_ble_eq_true rfl) dX12_canFollow_47 (fun r_11 u H locs hw hP hD hS => ?_)
      refine exE hw (fun b_10 hw1 => anE hw1 (fun hb1_12 hw2 => anE hw2 (fun hb2_13 hw3 => anE hw3 (fun er_15 eu_14 => ?_))))
      clear hw hw1 hw2 hw3
      subst er_15
      refine o_mgE (ws' := [ro_ mm 12 (mo g (nI ta) (nI pa) (nI pe) pd (nI pb) pp pf pg pn rt rn (nI cd) sn (nI il) tk am at_ aa mt_ 0 (nI wd_) (nI wt_) wy (nI it_) (nI rm) (nI ud) (nI nu) sd (nI qn) (nI qw) qo (nI qb) (nI qp) qa (nI qi) (nI oc)), ra_I (g 31) cI 120 nw, ra_I (g 38) cI 90 ws_, ra_I (g 37) cZ 900 yo, ra_I (g 36) cZ 900 yw]) eu_14 hP hD rfl (fun hP hD => ?_)
      refine lv_if_eq (tgt := 57) hx hb dX12_canFollow_50 (by decide) (fun c_16 => ?_) (fun c_16 => ?_)
      · have c_16 : b_10 = 0 := (neq b_10 0 (by omega) (Nat.le_of_ble_eq_true rfl)).mp c_16
        refine lv_iconst (v := 0) hx hb dX12_canFollow_57 ic_0 ?_
        exact sk_iret hx hb hr rfl hlocks hK hP hD hS (⟨0, Or.inl ⟨rfl, cfl_l (or_0 hb1_12 (by omega))⟩, by omega, rfl, rfl⟩) (Nat.le_of_ble_eq_true rfl) (Nat.le_of_ble_eq_true rfl) dX12_canFollow_58
      · have c_16 : ¬ (b_10 = 0) := fun h => c_16 ((neq b_10 0 (by omega) (Nat.le_of_ble_eq_true rfl)).mpr h)
        refine lv_iconst (v := 1) hx hb dX12_canFollow_53 ic_1 ?_
        refine lv_goto (tgt := 58) hx hb dX12_canFollow_54 (by decide) ?_
        exact sk_iret hx hb hr rfl hlocks hK hP hD hS (⟨1, Or.inr ⟨rfl, cfl_t (cf_wt (or_0 hb1_3 (by omega)) ev_8 c_9) (or_1 hb1_12 (by omega))⟩, by omega, rfl, rfl⟩) (Nat.le_of_ble_eq_true rfl) (Nat.le_of_ble_eq_true rfl) dX12_canFollow_58
  · have c_7 : ¬ (b_1 = 0) := fun h => c_7 ((neq b_1 0 (by omega) (Nat.le_of_ble_eq_true rfl)).mpr h)
    refine lv_aload_n hx hb dX12_canFollow_21 rfl (lv_at hl 1 rfl) ?_
    refine sk_get (v := .ref (g 37)) (C := RX12) (T := TX12) (N := 92) hx hb hts inlX12 hown hK hP 0 rfl rfl 37 (Nat.le_of_ble_eq_true rfl) w_5_192 rfl dX12_canFollow_22 ?_
    refine lv_iload hx hb dX12_canFollow_25 (lv_at hl 0 rfl) ?_
    refine va_zald hx hb hK.1 hP 3 3 rfl rfl (vin (100 * d + (10 * aa_) + o) 900 (by omega) (Nat.le_of_ble_eq_true rfl)) dX12_canFollow_27 ?_
    refine lv_topi (fun v_17 ev_17 => ?_)
    refine lv_if_eq (tgt := 57) hx hb dX12_canFollow_28 (by decide) (fun c_18 => ?_) (fun c_18 => ?_)
    · skip
      refine lv_iconst (v := 0) hx hb dX12_canFollow_57 ic_0 ?_
      exact sk_iret hx hb hr rfl hlocks hK hP hD hS (⟨0, Or.inl ⟨rfl, cfl_c (cf_mf (or_1 hb1_3 (by omega)) ev_17 c_18)⟩, by omega, rfl, rfl⟩) (Nat.le_of_ble_eq_true rfl) (Nat.le_of_ble_eq_true rfl) dX12_canFollow_58
    · skip
      refine lv_goto (tgt := 44) hx hb dX12_canFollow_31 (by decide) ?_
      refine lv_aload_n hx hb dX12_canFollow_44 rfl (lv_at hl 1 rfl) ?_
      refine lv_iload_n hx hb dX12_canFollow_45 rfl (lv_at hl 2 rfl) ?_
      refine lv_iload_n hx hb dX12_canFollow_46 rfl (lv_at hl 4 rfl) ?_
      refine sk_Vi (q0 := 0) (n := 2) (rest := []) (wr := fmR om_5_14 _) ⟨hx, hb, hml, hown, hts⟩ hl.1 (c_vm_isLeftW l D cI cJ cC cZ cS mm g ta pa pe pd pb pp pf pg pn rt rn cd sn il tk am at_ aa mt_ wy it_ rm ud nu sd qn qw qo qb qp qa qi oc d o ws_ wd_ wt_ hd ho hwd9) w_7_209 w_7_211 w_0_87 w_1_14 w_7_212 hd_X12_isLeft_2 ⟨⟨(Nat.le_of_ble_eq_true rfl), (Nat.le_of_ble_eq_true rfl)⟩, (Nat.le_of_ble_eq_true rfl), (Nat.le_of_ble_eq_true rfl)⟩ hK hP hD hS hA (fmT om_5_14 0) (fmF om_5_14 0) (fm_C1 rfl rfl) (fm_R rfl rfl) (fm_nT om_5_14 0) (fm_nF om_5_14 0) (fm_di om_5_14 0) rfl rfl rfl rfl (Nat.le_of_ble_eq_true rfl) dX12_canFollow_47 (fun r_20 u H locs hw hP hD hS => ?_)
      refine exE hw (fun b_19 hw1 => anE hw1 (fun hb1_21 hw2 => anE hw2 (fun hb2_22 hw3 => anE hw3 (fun er_24 eu_23 => ?_))))
      clear hw hw1 hw2 hw3
      subst er_24
      refine o_mgE (ws' := [ro_ mm 12 (mo g (nI ta) (nI pa) (nI pe) pd (nI pb) pp pf pg pn rt rn (nI cd) sn (nI il) tk am at_ aa mt_ 0 (nI wd_) (nI wt_) wy (nI it_) (nI rm) (nI ud) (nI nu) sd (nI qn) (nI qw) qo (nI qb) (nI qp) qa (nI qi) (nI oc)), ra_I (g 31) cI 120 nw, ra_I (g 38) cI 90 ws_, ra_I (g 37) cZ 900 yo, ra_I (g 36) cZ 900 yw]) eu_23 hP hD rfl (fun hP hD => ?_)
      refine lv_if_eq (tgt := 57) hx hb dX12_canFollow_50 (by decide) (fun c_25 => ?_) (fun c_25 => ?_)
      · have c_25 : b_19 = 0 := (neq b_19 0 (by omega) (Nat.le_of_ble_eq_true rfl)).mp c_25
        refine lv_iconst (v := 0) hx hb dX12_canFollow_57 ic_0 ?_
        exact sk_iret hx hb hr rfl hlocks hK hP hD hS (⟨0, Or.inl ⟨rfl, cfl_l (or_0 hb1_21 (by omega))⟩, by omega, rfl, rfl⟩) (Nat.le_of_ble_eq_true rfl) (Nat.le_of_ble_eq_true rfl) dX12_canFollow_58
      · have c_25 : ¬ (b_19 = 0) := fun h => c_25 ((neq b_19 0 (by omega) (Nat.le_of_ble_eq_true rfl)).mpr h)
        refine lv_iconst (v := 1) hx hb dX12_canFollow_53 ic_1 ?_
        refine lv_goto (tgt := 58) hx hb dX12_canFollow_54 (by decide) ?_
        exact sk_iret hx hb hr rfl hlocks hK hP hD hS (⟨1, Or.inr ⟨rfl, cfl_t (cf_mt (or_1 hb1_3 (by omega)) ev_17 c_18) (or_1 hb1_21 (by omega))⟩, by omega, rfl, rfl⟩) (Nat.le_of_ble_eq_true rfl) (Nat.le_of_ble_eq_true rfl) dX12_canFollow_58
def om_8_c0 : List Bool := true :: true :: false :: false :: false :: false :: false :: false :: []
def om_8_b9 : List Bool := true :: false :: true :: true :: true :: false :: false :: true :: []
set_option maxHeartbeats 4000000 in
set_option maxRecDepth 100000 in
theorem c_vm_laysWaysW (l : Launch) (D : va_G) (cI cJ cC cZ cS : ClassId) (mm : Nat) (g : Nat → Nat) (ta : Nat) (pa : Nat) (pe : Nat) (pd : Int32) (pb : Nat) (pp : Int32) (pf : Int32) (pg : Int32) (pn : Int32) (rt : Int32) (rn : Int32) (cd : Nat) (sn : Int32) (il : Nat) (tk : Int32) (am : Int32) (at_ : Int32) (aa : Int32) (mt_ : Int32) (wy : Int64) (it_ : Nat) (rm : Nat) (ud : Nat) (nu : Nat) (sd : Int64) (qn : Nat) (qw : Nat) (qo : Int32) (qb : Nat) (qp : Nat) (qa : Int64) (qi : Nat) (oc : Nat) (l0 : Nat) (l1 : Nat) (dm : Nat) (l3 : Nat) (nw : Nat → Int32) (yo : Nat → Int32) (yw : Nat → Int32) (be : Nat → Int64) (bf : Nat → Int64) (ws_ : Nat → Int32) (wd_ : Nat) (wt_ : Nat) (hdm : dm ≤ 9) (hdm1 : 1 ≤ dm) (hwd9 : wd_ ≤ 9) (hnw : nowOk nw) : skM l yX12_laysWays cX12_laysWays 7 none 3 66 0 0 D (skT cI cJ cC cZ cS) [.ref mm] [ro_ mm 12 (mo g (nI ta) (nI pa) (nI pe) pd (nI pb) pp pf pg pn rt rn (nI cd) sn (nI il) tk am at_ aa mt_ 0 (nI wd_) (nI wt_) wy (nI it_) (nI rm) (nI ud) (nI nu) sd (nI qn) (nI qw) qo (nI qb) (nI qp) qa (nI qi) (nI oc)), ra_I (g 20) cI 4 (l4 (nI l0) (nI l1) (nI dm) (nI l3)), ra_I (g 31) cI 120 nw, ra_I (g 37) cZ 900 yo, ra_I (g 36) cZ 900 yw, ra_J (g 43) cJ 90 be, ra_J (g 44) cJ 90 bf, ra_I (g 38) cI 90 ws_] (skV D (skT cI cJ cC cZ cS) (fun (u : va_W) => ∃ (wy2 : Int64), ∃ (be2 : Nat → Int64), ∃ (bf2 : Nat → Int64), beOk (cfL (cfN nw yw yo mt_) (lfW ws_ wd_ wt_)) dm 0 be2 ∧ bfOk (cfL (cfN nw yw yo mt_) (lfW ws_ wd_ wt_)) (a0N nw) dm bf2 ∧ wy2 = nL (wys (cfL (cfN nw yw yo mt_) (lfW ws_ wd_ wt_)) (a0N nw) (dm - 1)) ∧ u = [ro_ mm 12 (mo g (nI ta) (nI pa) (nI pe) pd (nI pb) pp pf pg pn rt rn (nI cd) sn (nI il) tk am at_ aa mt_ 0 (nI wd_) (nI wt_) wy2 (nI it_) (nI rm) (nI ud) (nI nu) sd (nI qn) (nI qw) qo (nI qb) (nI qp) qa (nI qi) (nI oc)), ra_I (g 20) cI 4 (l4 (nI l0) (nI l1) (nI dm) (nI l3)), ra_I (g 31) cI 120 nw, ra_I (g 37) cZ 900 yo, ra_I (g 36) cZ 900 yw, ra_J (g 43) cJ 90 be2, ra_J (g 44) cJ 90 bf2, ra_I (g 38) cI 90 ws_])) := by
  refine skM_of pf_X12_laysWays (Nat.le_of_ble_eq_true rfl) ?_
  intro p e s m below meth c A ls E hP hD hl
  refine skE_el E (fun hx hb hr hml hlocks hin hown hts hK hA => ?_)
  have hown : s.vm.findClass RX12 = some m.cls := hown
  have hS : va_S A s.heap s.heap [] := va_S.rf
  have hl : lv_has ls 7 [(0, .ref mm)] := hl
  refine lv_aload_n hx hb dX12_laysWays_0 rfl (lv_at hl 0 rfl) ?_
  refine sk_Vi (q0 := 0) (n := 0) (rest := []) (wr := fmR om_8_c0 _) ⟨hx, hb, hml, hown, hts⟩ hl.1 (c_m_dayMany l D cI cJ cC cZ cS mm g ta pa pe pd pb pp pf pg pn rt rn cd sn il tk am at_ aa mt_ 0 (nI wd_) (nI wt_) wy it_ rm ud nu sd qn qw qo qb qp qa qi oc l0 l1 dm l3) w_7_98 w_7_100 w_0_69 w_1_14 w_7_101 hd_X12_dayMany_0 ⟨⟨(Nat.le_of_ble_eq_true rfl), (Nat.le_of_ble_eq_true rfl)⟩, (Nat.le_of_ble_eq_true rfl), (Nat.le_of_ble_eq_true rfl)⟩ hK hP hD hS hA (fmT om_8_c0 0) (fmF om_8_c0 0) (fm_C1 rfl rfl) (fm_R rfl rfl) (fm_nT om_8_c0 0) (fm_nF om_8_c0 0) (fm_di om_8_c0 0) rfl rfl rfl rfl (Nat.le_of_ble_eq_true rfl) dX12_laysWays_1 (fun r_1 u H locs hw hP hD hS => ?_)
  refine anE hw (fun er_3 eu_2 => ?_)
  clear hw
  subst er_3
  refine o_mgE (ws' := [ro_ mm 12 (mo g (nI ta) (nI pa) (nI pe) pd (nI pb) pp pf pg pn rt rn (nI cd) sn (nI il) tk am at_ aa mt_ 0 (nI wd_) (nI wt_) wy (nI it_) (nI rm) (nI ud) (nI nu) sd (nI qn) (nI qw) qo (nI qb) (nI qp) qa (nI qi) (nI oc)), ra_I (g 20) cI 4 (l4 (nI l0) (nI l1) (nI dm) (nI l3)), ra_I (g 31) cI 120 nw, ra_I (g 37) cZ 900 yo, ra_I (g 36) cZ 900 yw, ra_J (g 43) cJ 90 be, ra_J (g 44) cJ 90 bf, ra_I (g 38) cI 90 ws_]) eu_2 hP hD rfl (fun hP hD => ?_)
  refine lv_iconst (v := 1) hx hb dX12_laysWays_4 ic_1 ?_
  refine lv_isub hx hb dX12_laysWays_5 ?_
  refine lv_istore_n (lv' := [(1, .int (nI dm - 1)), (0, .ref mm)]) hx hb dX12_laysWays_6 rfl hl (by decide) rfl (fun ls hl => ?_)
  refine lv_iload_n hx hb dX12_laysWays_7 rfl (lv_at hl 0 rfl) ?_
  refine lv_istore_n (lv' := [(2, .int (nI dm - 1)), (1, .int (nI dm - 1)), (0, .ref mm)]) hx hb dX12_laysWays_8 rfl hl (by decide) rfl (fun ls hl => ?_)
  have lp_4 : ∀ (n_5 : Nat) (dd : Nat) (zb : Nat → Int64) (H : Heap) (locs : List Loc) (ls : Array Slot), dd < n_5 → (dd ≤ dm) → (beOk (cfL (cfN nw yw yo mt_) (lfW ws_ wd_ wt_)) dm dd zb) → va_P D vwCl [ro_ mm 12 (mo g (nI ta) (nI pa) (nI pe) pd (nI pb) pp pf pg pn rt rn (nI cd) sn (nI il) tk am at_ aa mt_ 0 (nI wd_) (nI wt_) wy (nI it_) (nI rm) (nI ud) (nI nu) sd (nI qn) (nI qw) qo (nI qb) (nI qp) qa (nI qi) (nI oc)), ra_I (g 20) cI 4 (l4 (nI l0) (nI l1) (nI dm) (nI l3)), ra_I (g 31) cI 120 nw, ra_I (g 37) cZ 900 yo, ra_I (g 36) cZ 900 yw, ra_J (g 43) cJ 90 zb, ra_J (g 44) cJ 90 bf, ra_I (g 38) cI 90 ws_] H → va_D A [ro_ mm 12 (mo g (nI ta) (nI pa) (nI pe) pd (nI pb) pp pf pg pn rt rn (nI cd) sn (nI il) tk am at_ aa mt_ 0 (nI wd_) (nI wt_) wy (nI it_) (nI rm) (nI ud) (nI nu) sd (nI qn) (nI qw) qo (nI qb) (nI qp) qa (nI qi) (nI oc)), ra_I (g 20) cI 4 (l4 (nI l0) (nI l1) (nI dm) (nI l3)), ra_I (g 31) cI 120 nw, ra_I (g 37) cZ 900 yo, ra_I (g 36) cZ 900 yw, ra_J (g 43) cJ 90 zb, ra_J (g 44) cJ 90 bf, ra_I (g 38) cI 90 ws_] → va_S A s.heap H locs → lv_has ls 7 [(2, .int (nI dd - 1)), (1, .int (nI dm - 1)), (0, .ref mm)] → W p l e { frames := 3, cells := 0, slots := 0, locals := 66 } s m ([.ref mm] : List Value).toArray below meth c H locs 0 0 (MQ below (skV D (skT cI cJ cC cZ cS) (fun (u : va_W) => ∃ (wy2 : Int64), ∃ (be2 : Nat → Int64), ∃ (bf2 : Nat → Int64), beOk (cfL (cfN nw yw yo mt_) (lfW ws_ wd_ wt_)) dm 0 be2 ∧ bfOk (cfL (cfN nw yw yo mt_) (lfW ws_ wd_ wt_)) (a0N nw) dm bf2 ∧ wy2 = nL (wys (cfL (cfN nw yw yo mt_) (lfW ws_ wd_ wt_)) (a0N nw) (dm - 1)) ∧ u = [ro_ mm 12 (mo g (nI ta) (nI pa) (nI pe) pd (nI pb) pp pf pg pn rt rn (nI cd) sn (nI il) tk am at_ aa mt_ 0 (nI wd_) (nI wt_) wy2 (nI it_) (nI rm) (nI ud) (nI nu) sd (nI qn) (nI qw) qo (nI qb) (nI qp) qa (nI qi) (nI oc)), ra_I (g 20) cI 4 (l4 (nI l0) (nI l1) (nI dm) (nI l3)), ra_I (g 31) cI 120 nw, ra_I (g 37) cZ 900 yo, ra_I (g 36) cZ 900 yw, ra_J (g 43) cJ 90 be2, ra_J (g 44) cJ 90 bf2, ra_I (g 38) cI 90 ws_]) A) ([.ref mm] : List Value).toArray s 0 0 A) (F0 m 9 ls []) := by
    intro n_5
    induction n_5 with
    | zero => intro dd zb H locs ls hm; exact absurd hm (Nat.not_lt_zero _)
    | succ n_5 ih_lp_4 =>
      intro dd zb H locs ls hm hdd hbe hP hD hS hl
      refine lv_iload_n hx hb dX12_laysWays_9 rfl (lv_at hl 0 rfl) ?_
      refine lv_if_lt (tgt := 111) hx hb dX12_laysWays_10 (by decide) (fun c_6 => ?_) (fun c_6 => ?_)
      · have c_6 : dd = 0 := npm0 dd (by omega) c_6
        refine lv_aload_n hx hb dX12_laysWays_111 rfl (lv_at hl 2 rfl) ?_
        refine lv_lconst (v := 0) hx hb dX12_laysWays_112 (by decide) ?_
        refine sk_put (ws' := [ro_ mm 12 (mo g (nI ta) (nI pa) (nI pe) pd (nI pb) pp pf pg pn rt rn (nI cd) sn (nI il) tk am at_ aa mt_ 0 (nI wd_) (nI wt_) 0 (nI it_) (nI rm) (nI ud) (nI nu) sd (nI qn) (nI qw) qo (nI qb) (nI qp) qa (nI qi) (nI oc)), ra_I (g 20) cI 4 (l4 (nI l0) (nI l1) (nI dm) (nI l3)), ra_I (g 31) cI 120 nw, ra_I (g 37) cZ 900 yo, ra_I (g 36) cZ 900 yw, ra_J (g 43) cJ 90 zb, ra_J (g 44) cJ 90 bf, ra_I (g 38) cI 90 ws_]) (C := RX12) (T := TX12) (N := 92) (v := .long 0) hx hb hts inlX12 tyX12 tyX12_ok nmX12 hown hK hP hD hS 0 rfl rfl 45 (Nat.le_of_ble_eq_true rfl) w_5_200 rfl rfl rfl (Nat.le_of_ble_eq_true rfl) rfl dX12_laysWays_113 (fun H locs hP hD hS => ?_)
        refine lv_iconst (v := 0) hx hb dX12_laysWays_116 ic_0 ?_
        refine lv_istore_n (lv' := [(2, .int 0), (1, .int (nI dm - 1)), (0, .ref mm)]) hx hb dX12_laysWays_117 rfl hl (by decide) rfl (fun ls hl => ?_)
        have lp_7 : ∀ (n_8 : Nat) (i : Nat) (zy : Int64) (zf : Nat → Int64) (H : Heap) (locs : List Loc) (ls : Array Slot), dm - i < n_8 → (i ≤ dm) → (bfOk (cfL (cfN nw yw yo mt_) (lfW ws_ wd_ wt_)) (a0N nw) i zf) → (wyAt (cfL (cfN nw yw yo mt_) (lfW ws_ wd_ wt_)) (a0N nw) dm i zy) → va_P D vwCl [ro_ mm 12 (mo g (nI ta) (nI pa) (nI pe) pd (nI pb) pp pf pg pn rt rn (nI cd) sn (nI il) tk am at_ aa mt_ 0 (nI wd_) (nI wt_) zy (nI it_) (nI rm) (nI ud) (nI nu) sd (nI qn) (nI qw) qo (nI qb) (nI qp) qa (nI qi) (nI oc)), ra_I (g 20) cI 4 (l4 (nI l0) (nI l1) (nI dm) (nI l3)), ra_I (g 31) cI 120 nw, ra_I (g 37) cZ 900 yo, ra_I (g 36) cZ 900 yw, ra_J (g 43) cJ 90 zb, ra_J (g 44) cJ 90 zf, ra_I (g 38) cI 90 ws_] H → va_D A [ro_ mm 12 (mo g (nI ta) (nI pa) (nI pe) pd (nI pb) pp pf pg pn rt rn (nI cd) sn (nI il) tk am at_ aa mt_ 0 (nI wd_) (nI wt_) zy (nI it_) (nI rm) (nI ud) (nI nu) sd (nI qn) (nI qw) qo (nI qb) (nI qp) qa (nI qi) (nI oc)), ra_I (g 20) cI 4 (l4 (nI l0) (nI l1) (nI dm) (nI l3)), ra_I (g 31) cI 120 nw, ra_I (g 37) cZ 900 yo, ra_I (g 36) cZ 900 yw, ra_J (g 43) cJ 90 zb, ra_J (g 44) cJ 90 zf, ra_I (g 38) cI 90 ws_] → va_S A s.heap H locs → lv_has ls 7 [(2, .int (nI i)), (1, .int (nI dm - 1)), (0, .ref mm)] → W p l e { frames := 3, cells := 0, slots := 0, locals := 66 } s m ([.ref mm] : List Value).toArray below meth c H locs 0 0 (MQ below (skV D (skT cI cJ cC cZ cS) (fun (u : va_W) => ∃ (wy2 : Int64), ∃ (be2 : Nat → Int64), ∃ (bf2 : Nat → Int64), beOk (cfL (cfN nw yw yo mt_) (lfW ws_ wd_ wt_)) dm 0 be2 ∧ bfOk (cfL (cfN nw yw yo mt_) (lfW ws_ wd_ wt_)) (a0N nw) dm bf2 ∧ wy2 = nL (wys (cfL (cfN nw yw yo mt_) (lfW ws_ wd_ wt_)) (a0N nw) (dm - 1)) ∧ u = [ro_ mm 12 (mo g (nI ta) (nI pa) (nI pe) pd (nI pb) pp pf pg pn rt rn (nI cd) sn (nI il) tk am at_ aa mt_ 0 (nI wd_) (nI wt_) wy2 (nI it_) (nI rm) (nI ud) (nI nu) sd (nI qn) (nI qw) qo (nI qb) (nI qp) qa (nI qi) (nI oc)), ra_I (g 20) cI 4 (l4 (nI l0) (nI l1) (nI dm) (nI l3)), ra_I (g 31) cI 120 nw, ra_I (g 37) cZ 900 yo, ra_I (g 36) cZ 900 yw, ra_J (g 43) cJ 90 be2, ra_J (g 44) cJ 90 bf2, ra_I (g 38) cI 90 ws_]) A) ([.ref mm] : List Value).toArray s 0 0 A) (F0 m 118 ls []) := by
          intro n_8
          induction n_8 with
          | zero => intro i zy zf H locs ls hm; exact absurd hm (Nat.not_lt_zero _)
          | succ n_8 ih_lp_7 =>
            intro i zy zf H locs ls hm hi hbf hzy hP hD hS hl
            refine lv_iload_n hx hb dX12_laysWays_118 rfl (lv_at hl 0 rfl) ?_
            refine lv_iload_n hx hb dX12_laysWays_119 rfl (lv_at hl 1 rfl) ?_
            refine lv_icmp_gt (tgt := 248) hx hb dX12_laysWays_120 (by decide) (fun c_9 => ?_) (fun c_9 => ?_)
            · have c_9 : ((dm : Nat) : Int) - 1 < ((i : Nat) : Int) := (ilt (ivp dm (by omega)) (ivn i (by omega))).mp c_9
              exact sk_vret hx hb hr hlocks hK hP hD hS (⟨zy, zb, zf, (be_z hbe (by omega)), (show bfOk (cfL (cfN nw yw yo mt_) (lfW ws_ wd_ wt_)) (a0N nw) dm zf by rw [show dm = i by omega]; exact hbf), wyAt_n hzy (by omega), rfl⟩) (Nat.le_of_ble_eq_true rfl) (Nat.le_of_ble_eq_true rfl) dX12_laysWays_248
            · have c_9 : ¬ (((dm : Nat) : Int) - 1 < ((i : Nat) : Int)) := fun h => c_9 ((ilt (ivp dm (by omega)) (ivn i (by omega))).mpr h)
              refine lv_iconst (v := 0) hx hb dX12_laysWays_123 ic_0 ?_
              refine lv_istore_n (lv' := [(3, .int 0), (2, .int (nI i)), (1, .int (nI dm - 1)), (0, .ref mm)]) hx hb dX12_laysWays_124 rfl hl (by decide) rfl (fun ls hl => ?_)
              have lp_10 : ∀ (n_11 : Nat) (jm : Nat) (zyb : Int64) (zg : Nat → Int64) (H : Heap) (locs : List Loc) (ls : Array Slot), 10 - jm < n_11 → (jm ≤ 10) → (bfOk2 (cfL (cfN nw yw yo mt_) (lfW ws_ wd_ wt_)) (a0N nw) i jm zg) → (wyOk (cfL (cfN nw yw yo mt_) (lfW ws_ wd_ wt_)) (a0N nw) dm i jm zyb) → va_P D vwCl [ro_ mm 12 (mo g (nI ta) (nI pa) (nI pe) pd (nI pb) pp pf pg pn rt rn (nI cd) sn (nI il) tk am at_ aa mt_ 0 (nI wd_) (nI wt_) zyb (nI it_) (nI rm) (nI ud) (nI nu) sd (nI qn) (nI qw) qo (nI qb) (nI qp) qa (nI qi) (nI oc)), ra_I (g 20) cI 4 (l4 (nI l0) (nI l1) (nI dm) (nI l3)), ra_I (g 31) cI 120 nw, ra_I (g 37) cZ 900 yo, ra_I (g 36) cZ 900 yw, ra_J (g 43) cJ 90 zb, ra_J (g 44) cJ 90 zg, ra_I (g 38) cI 90 ws_] H → va_D A [ro_ mm 12 (mo g (nI ta) (nI pa) (nI pe) pd (nI pb) pp pf pg pn rt rn (nI cd) sn (nI il) tk am at_ aa mt_ 0 (nI wd_) (nI wt_) zyb (nI it_) (nI rm) (nI ud) (nI nu) sd (nI qn) (nI qw) qo (nI qb) (nI qp) qa (nI qi) (nI oc)), ra_I (g 20) cI 4 (l4 (nI l0) (nI l1) (nI dm) (nI l3)), ra_I (g 31) cI 120 nw, ra_I (g 37) cZ 900 yo, ra_I (g 36) cZ 900 yw, ra_J (g 43) cJ 90 zb, ra_J (g 44) cJ 90 zg, ra_I (g 38) cI 90 ws_] → va_S A s.heap H locs → lv_has ls 7 [(3, .int (nI jm)), (2, .int (nI i)), (1, .int (nI dm - 1)), (0, .ref mm)] → W p l e { frames := 3, cells := 0, slots := 0, locals := 66 } s m ([.ref mm] : List Value).toArray below meth c H locs 0 0 (MQ below (skV D (skT cI cJ cC cZ cS) (fun (u : va_W) => ∃ (wy2 : Int64), ∃ (be2 : Nat → Int64), ∃ (bf2 : Nat → Int64), beOk (cfL (cfN nw yw yo mt_) (lfW ws_ wd_ wt_)) dm 0 be2 ∧ bfOk (cfL (cfN nw yw yo mt_) (lfW ws_ wd_ wt_)) (a0N nw) dm bf2 ∧ wy2 = nL (wys (cfL (cfN nw yw yo mt_) (lfW ws_ wd_ wt_)) (a0N nw) (dm - 1)) ∧ u = [ro_ mm 12 (mo g (nI ta) (nI pa) (nI pe) pd (nI pb) pp pf pg pn rt rn (nI cd) sn (nI il) tk am at_ aa mt_ 0 (nI wd_) (nI wt_) wy2 (nI it_) (nI rm) (nI ud) (nI nu) sd (nI qn) (nI qw) qo (nI qb) (nI qp) qa (nI qi) (nI oc)), ra_I (g 20) cI 4 (l4 (nI l0) (nI l1) (nI dm) (nI l3)), ra_I (g 31) cI 120 nw, ra_I (g 37) cZ 900 yo, ra_I (g 36) cZ 900 yw, ra_J (g 43) cJ 90 be2, ra_J (g 44) cJ 90 bf2, ra_I (g 38) cI 90 ws_]) A) ([.ref mm] : List Value).toArray s 0 0 A) (F0 m 125 ls []) := by
                intro n_11
                induction n_11 with
                | zero => intro jm zyb zg H locs ls hm; exact absurd hm (Nat.not_lt_zero _)
                | succ n_11 ih_lp_10 =>
                  intro jm zyb zg H locs ls hm hjm hbf2 hzyb hP hD hS hl
                  refine lv_iload_n hx hb dX12_laysWays_125 rfl (lv_at hl 0 rfl) ?_
                  refine lv_bipush (v := 10) hx hb dX12_laysWays_126 (by decide) ?_
                  refine lv_icmp_ge (tgt := 242) hx hb dX12_laysWays_128 (by decide) (fun c_12 => ?_) (fun c_12 => ?_)
                  · have c_12 : 10 ≤ jm := (nle 10 jm (Nat.le_of_ble_eq_true rfl) (by omega)).mp c_12
                    refine lv_iinc (v := nI (i + 1)) (lv' := [(2, .int (nI (i + 1))), (3, .int (nI jm)), (1, .int (nI dm - 1)), (0, .ref mm)]) hx hb dX12_laysWays_242 hl (k := 1) rfl (ninc i 1 (by decide)) (by decide) rfl (fun ls hl => ?_)
                    refine lv_goto (tgt := 118) hx hb dX12_laysWays_245 (by decide) ?_
                    exact ih_lp_7 (i + 1) zyb zg _ _ _ (by omega) (by omega) (bf_fin hbf2 (by omega)) (wy_fin hzyb (by omega)) hP hD hS (lv_sub hl [0, 2, 3] rfl)
                  · have c_12 : ¬ (10 ≤ jm) := fun h => c_12 ((nle 10 jm (Nat.le_of_ble_eq_true rfl) (by omega)).mpr h)
                    refine lv_iload_n hx hb dX12_laysWays_131 rfl (lv_at hl 1 rfl) ?_
                    refine lv_if_ne (tgt := 154) hx hb dX12_laysWays_132 (by decide) (fun c_13 => ?_) (fun c_13 => ?_)
                    · have c_13 : ¬ (i = 0) := fun h => c_13 ((neq i 0 (by omega) (Nat.le_of_ble_eq_true rfl)).mpr h)
                      refine lv_lconst (v := 0) hx hb dX12_laysWays_154 (by decide) ?_
                      refine lv_lstore (lv' := [(4, .long 0), (3, .int (nI jm)), (2, .int (nI i)), (1, .int (nI dm - 1)), (0, .ref mm)]) hx hb dX12_laysWays_155 hl (by decide) rfl (fun ls hl => ?_)
                      refine lv_iconst (v := 0) hx hb dX12_laysWays_157 ic_0 ?_
                      refine lv_istore (lv' := [(6, .int 0), (4, .long 0), (3, .int (nI jm)), (2, .int (nI i)), (1, .int (nI dm - 1)), (0, .ref mm)]) hx hb dX12_laysWays_158 hl (by decide) rfl (fun ls hl => ?_)
                      have lp_14 : ∀ (n_15 : Nat) (kk : Nat) (xn : Int64) (H : Heap) (locs : List Loc) (ls : Array Slot), 10 - kk < n_15 → (kk ≤ 10) → (fx (cfL (cfN nw yw yo mt_) (lfW ws_ wd_ wt_)) (a0N nw) i jm kk xn) → va_P D vwCl [ro_ mm 12 (mo g (nI ta) (nI pa) (nI pe) pd (nI pb) pp pf pg pn rt rn (nI cd) sn (nI il) tk am at_ aa mt_ 0 (nI wd_) (nI wt_) zyb (nI it_) (nI rm) (nI ud) (nI nu) sd (nI qn) (nI qw) qo (nI qb) (nI qp) qa (nI qi) (nI oc)), ra_I (g 20) cI 4 (l4 (nI l0) (nI l1) (nI dm) (nI l3)), ra_I (g 31) cI 120 nw, ra_I (g 37) cZ 900 yo, ra_I (g 36) cZ 900 yw, ra_J (g 43) cJ 90 zb, ra_J (g 44) cJ 90 zg, ra_I (g 38) cI 90 ws_] H → va_D A [ro_ mm 12 (mo g (nI ta) (nI pa) (nI pe) pd (nI pb) pp pf pg pn rt rn (nI cd) sn (nI il) tk am at_ aa mt_ 0 (nI wd_) (nI wt_) zyb (nI it_) (nI rm) (nI ud) (nI nu) sd (nI qn) (nI qw) qo (nI qb) (nI qp) qa (nI qi) (nI oc)), ra_I (g 20) cI 4 (l4 (nI l0) (nI l1) (nI dm) (nI l3)), ra_I (g 31) cI 120 nw, ra_I (g 37) cZ 900 yo, ra_I (g 36) cZ 900 yw, ra_J (g 43) cJ 90 zb, ra_J (g 44) cJ 90 zg, ra_I (g 38) cI 90 ws_] → va_S A s.heap H locs → lv_has ls 7 [(6, .int (nI kk)), (4, .long xn), (3, .int (nI jm)), (2, .int (nI i)), (1, .int (nI dm - 1)), (0, .ref mm)] → W p l e { frames := 3, cells := 0, slots := 0, locals := 66 } s m ([.ref mm] : List Value).toArray below meth c H locs 0 0 (MQ below (skV D (skT cI cJ cC cZ cS) (fun (u : va_W) => ∃ (wy2 : Int64), ∃ (be2 : Nat → Int64), ∃ (bf2 : Nat → Int64), beOk (cfL (cfN nw yw yo mt_) (lfW ws_ wd_ wt_)) dm 0 be2 ∧ bfOk (cfL (cfN nw yw yo mt_) (lfW ws_ wd_ wt_)) (a0N nw) dm bf2 ∧ wy2 = nL (wys (cfL (cfN nw yw yo mt_) (lfW ws_ wd_ wt_)) (a0N nw) (dm - 1)) ∧ u = [ro_ mm 12 (mo g (nI ta) (nI pa) (nI pe) pd (nI pb) pp pf pg pn rt rn (nI cd) sn (nI il) tk am at_ aa mt_ 0 (nI wd_) (nI wt_) wy2 (nI it_) (nI rm) (nI ud) (nI nu) sd (nI qn) (nI qw) qo (nI qb) (nI qp) qa (nI qi) (nI oc)), ra_I (g 20) cI 4 (l4 (nI l0) (nI l1) (nI dm) (nI l3)), ra_I (g 31) cI 120 nw, ra_I (g 37) cZ 900 yo, ra_I (g 36) cZ 900 yw, ra_J (g 43) cJ 90 be2, ra_J (g 44) cJ 90 bf2, ra_I (g 38) cI 90 ws_]) A) ([.ref mm] : List Value).toArray s 0 0 A) (F0 m 160 ls []) := by
                        intro n_15
                        induction n_15 with
                        | zero => intro kk xn H locs ls hm; exact absurd hm (Nat.not_lt_zero _)
                        | succ n_15 ih_lp_14 =>
                          intro kk xn H locs ls hm hkk hfx hP hD hS hl
                          refine lv_iload hx hb dX12_laysWays_160 (lv_at hl 0 rfl) ?_
                          refine lv_bipush (v := 10) hx hb dX12_laysWays_162 (by decide) ?_
                          refine lv_icmp_ge (tgt := 207) hx hb dX12_laysWays_164 (by decide) (fun c_16 => ?_) (fun c_16 => ?_)
                          · have c_16 : 10 ≤ kk := (nle 10 kk (Nat.le_of_ble_eq_true rfl) (by omega)).mp c_16
                            refine lv_aload_n hx hb dX12_laysWays_207 rfl (lv_at hl 5 rfl) ?_
                            refine sk_get (v := .ref (g 44)) (C := RX12) (T := TX12) (N := 92) hx hb hts inlX12 hown hK hP 0 rfl rfl 44 (Nat.le_of_ble_eq_true rfl) w_5_199 rfl dX12_laysWays_208 ?_
                            refine lv_bipush (v := 10) hx hb dX12_laysWays_211 (by decide) ?_
                            refine lv_iload_n hx hb dX12_laysWays_213 rfl (lv_at hl 3 rfl) ?_
                            refine lv_imul hx hb dX12_laysWays_214 ?_
                            refine sk_top (nI (10 * i)) (nmul 10 i) ?_
                            refine lv_iload_n hx hb dX12_laysWays_215 rfl (lv_at hl 2 rfl) ?_
                            refine lv_iadd hx hb dX12_laysWays_216 ?_
                            refine sk_top (nI (10 * i + jm)) (nI_add (10 * i) jm) ?_
                            refine lv_lload hx hb dX12_laysWays_217 (lv_at hl 1 rfl) ?_
                            refine sk_lastP (Pr := bfOk2 (cfL (cfN nw yw yo mt_) (lfW ws_ wd_ wt_)) (a0N nw) i (jm + 1)) (ws' := fun f_17 => [ro_ mm 12 (mo g (nI ta) (nI pa) (nI pe) pd (nI pb) pp pf pg pn rt rn (nI cd) sn (nI il) tk am at_ aa mt_ 0 (nI wd_) (nI wt_) zyb (nI it_) (nI rm) (nI ud) (nI nu) sd (nI qn) (nI qw) qo (nI qb) (nI qp) qa (nI qi) (nI oc)), ra_I (g 20) cI 4 (l4 (nI l0) (nI l1) (nI dm) (nI l3)), ra_I (g 31) cI 120 nw, ra_I (g 37) cZ 900 yo, ra_I (g 36) cZ 900 yw, ra_J (g 43) cJ 90 zb, ra_J (g 44) cJ 90 f_17, ra_I (g 38) cI 90 ws_]) hx hb hK hP hD hS 6 1 rfl rfl (vin (10 * i + jm) 90 (by omega) (Nat.le_of_ble_eq_true rfl)) (fun _ => rfl) (bf_store hbf2 (by omega) (by omega) (fx_fin hfx (by omega))) dX12_laysWays_219 (fun f_17 H locs hf_18 hP hD hS => ?_)
                            refine lv_iload_n hx hb dX12_laysWays_220 rfl (lv_at hl 3 rfl) ?_
                            refine lv_iload_n hx hb dX12_laysWays_221 rfl (lv_at hl 4 rfl) ?_
                            refine lv_icmp_ne (tgt := 236) hx hb dX12_laysWays_222 (by decide) (fun c_19 => ?_) (fun c_19 => ?_)
                            · have c_19 : ¬ (((i : Nat) : Int) = ((dm : Nat) : Int) - 1) := fun h => c_19 ((ieq (ivn i (by omega)) (ivp dm (by omega))).mpr h)
                              refine lv_iinc (v := nI (jm + 1)) (lv' := [(3, .int (nI (jm + 1))), (6, .int (nI kk)), (4, .long xn), (2, .int (nI i)), (1, .int (nI dm - 1)), (0, .ref mm)]) hx hb dX12_laysWays_236 hl (k := 2) rfl (ninc jm 1 (by decide)) (by decide) rfl (fun ls hl => ?_)
                              refine lv_goto (tgt := 125) hx hb dX12_laysWays_239 (by decide) ?_
                              exact ih_lp_10 (jm + 1) zyb f_17 _ _ _ (by omega) (by omega) hf_18 (wy_keep hzyb (by omega)) hP hD hS (lv_sub hl [0, 3, 4, 5] rfl)
                            · have c_19 : ((i : Nat) : Int) = ((dm : Nat) : Int) - 1 := (ieq (ivn i (by omega)) (ivp dm (by omega))).mp c_19
                              refine lv_aload_n hx hb dX12_laysWays_225 rfl (lv_at hl 5 rfl) ?_
                              refine lv_dup hx hb dX12_laysWays_226 rfl ?_
                              refine sk_get (v := .long zyb) (C := RX12) (T := TX12) (N := 92) hx hb hts inlX12 hown hK hP 0 rfl rfl 45 (Nat.le_of_ble_eq_true rfl) w_5_200 rfl dX12_laysWays_227 ?_
                              refine lv_lload hx hb dX12_laysWays_230 (lv_at hl 1 rfl) ?_
                              refine lv_ladd hx hb dX12_laysWays_232 ?_
                              refine lv_topl (fun v_20 ev_20 => ?_)
                              refine sk_put (ws' := [ro_ mm 12 (mo g (nI ta) (nI pa) (nI pe) pd (nI pb) pp pf pg pn rt rn (nI cd) sn (nI il) tk am at_ aa mt_ 0 (nI wd_) (nI wt_) v_20 (nI it_) (nI rm) (nI ud) (nI nu) sd (nI qn) (nI qw) qo (nI qb) (nI qp) qa (nI qi) (nI oc)), ra_I (g 20) cI 4 (l4 (nI l0) (nI l1) (nI dm) (nI l3)), ra_I (g 31) cI 120 nw, ra_I (g 37) cZ 900 yo, ra_I (g 36) cZ 900 yw, ra_J (g 43) cJ 90 zb, ra_J (g 44) cJ 90 f_17, ra_I (g 38) cI 90 ws_]) (C := RX12) (T := TX12) (N := 92) (v := .long v_20) hx hb hts inlX12 tyX12 tyX12_ok nmX12 hown hK hP hD hS 0 rfl rfl 45 (Nat.le_of_ble_eq_true rfl) w_5_200 rfl rfl rfl (Nat.le_of_ble_eq_true rfl) rfl dX12_laysWays_233 (fun H locs hP hD hS => ?_)
                              refine lv_iinc (v := nI (jm + 1)) (lv' := [(3, .int (nI (jm + 1))), (6, .int (nI kk)), (4, .long xn), (2, .int (nI i)), (1, .int (nI dm - 1)), (0, .ref mm)]) hx hb dX12_laysWays_236 hl (k := 2) rfl (ninc jm 1 (by decide)) (by decide) rfl (fun ls hl => ?_)
                              refine lv_goto (tgt := 125) hx hb dX12_laysWays_239 (by decide) ?_
                              exact ih_lp_10 (jm + 1) v_20 f_17 _ _ _ (by omega) (by omega) hf_18 (wy_add hzyb (fx_fin hfx (by omega)) (by omega) ev_20) hP hD hS (lv_sub hl [0, 3, 4, 5] rfl)
                          · have c_16 : ¬ (10 ≤ kk) := fun h => c_16 ((nle 10 kk (Nat.le_of_ble_eq_true rfl) (by omega)).mpr h)
                            refine lv_iload_n hx hb dX12_laysWays_167 rfl (lv_at hl 3 rfl) ?_
                            refine lv_if_le (tgt := 207) hx hb dX12_laysWays_168 (by decide) (fun c_21 => ?_) (fun c_21 => ?_)
                            · have c_21 : i ≤ 0 := (nle i 0 (by omega) (Nat.le_of_ble_eq_true rfl)).mp c_21
                              refine lv_aload_n hx hb dX12_laysWays_207 rfl (lv_at hl 5 rfl) ?_
                              refine sk_get (v := .ref (g 44)) (C := RX12) (T := TX12) (N := 92) hx hb hts inlX12 hown hK hP 0 rfl rfl 44 (Nat.le_of_ble_eq_true rfl) w_5_199 rfl dX12_laysWays_208 ?_
                              refine lv_bipush (v := 10) hx hb dX12_laysWays_211 (by decide) ?_
                              refine lv_iload_n hx hb dX12_laysWays_213 rfl (lv_at hl 3 rfl) ?_
                              refine lv_imul hx hb dX12_laysWays_214 ?_
                              refine sk_top (nI (10 * i)) (nmul 10 i) ?_
                              refine lv_iload_n hx hb dX12_laysWays_215 rfl (lv_at hl 2 rfl) ?_
                              refine lv_iadd hx hb dX12_laysWays_216 ?_
                              refine sk_top (nI (10 * i + jm)) (nI_add (10 * i) jm) ?_
                              refine lv_lload hx hb dX12_laysWays_217 (lv_at hl 1 rfl) ?_
                              refine sk_lastP (Pr := bfOk2 (cfL (cfN nw yw yo mt_) (lfW ws_ wd_ wt_)) (a0N nw) i (jm + 1)) (ws' := fun f_22 => [ro_ mm 12 (mo g (nI ta) (nI pa) (nI pe) pd (nI pb) pp pf pg pn rt rn (nI cd) sn (nI il) tk am at_ aa mt_ 0 (nI wd_) (nI wt_) zyb (nI it_) (nI rm) (nI ud) (nI nu) sd (nI qn) (nI qw) qo (nI qb) (nI qp) qa (nI qi) (nI oc)), ra_I (g 20) cI 4 (l4 (nI l0) (nI l1) (nI dm) (nI l3)), ra_I (g 31) cI 120 nw, ra_I (g 37) cZ 900 yo, ra_I (g 36) cZ 900 yw, ra_J (g 43) cJ 90 zb, ra_J (g 44) cJ 90 f_22, ra_I (g 38) cI 90 ws_]) hx hb hK hP hD hS 6 1 rfl rfl (vin (10 * i + jm) 90 (by omega) (Nat.le_of_ble_eq_true rfl)) (fun _ => rfl) (bf_store hbf2 (by omega) (by omega) (fx_fin hfx (by omega))) dX12_laysWays_219 (fun f_22 H locs hf_23 hP hD hS => ?_)
                              refine lv_iload_n hx hb dX12_laysWays_220 rfl (lv_at hl 3 rfl) ?_
                              refine lv_iload_n hx hb dX12_laysWays_221 rfl (lv_at hl 4 rfl) ?_
                              refine lv_icmp_ne (tgt := 236) hx hb dX12_laysWays_222 (by decide) (fun c_24 => ?_) (fun c_24 => ?_)
                              · have c_24 : ¬ (((i : Nat) : Int) = ((dm : Nat) : Int) - 1) := fun h => c_24 ((ieq (ivn i (by omega)) (ivp dm (by omega))).mpr h)
                                refine lv_iinc (v := nI (jm + 1)) (lv' := [(3, .int (nI (jm + 1))), (6, .int (nI kk)), (4, .long xn), (2, .int (nI i)), (1, .int (nI dm - 1)), (0, .ref mm)]) hx hb dX12_laysWays_236 hl (k := 2) rfl (ninc jm 1 (by decide)) (by decide) rfl (fun ls hl => ?_)
                                refine lv_goto (tgt := 125) hx hb dX12_laysWays_239 (by decide) ?_
                                exact ih_lp_10 (jm + 1) zyb f_22 _ _ _ (by omega) (by omega) hf_23 (wy_keep hzyb (by omega)) hP hD hS (lv_sub hl [0, 3, 4, 5] rfl)
                              · have c_24 : ((i : Nat) : Int) = ((dm : Nat) : Int) - 1 := (ieq (ivn i (by omega)) (ivp dm (by omega))).mp c_24
                                refine lv_aload_n hx hb dX12_laysWays_225 rfl (lv_at hl 5 rfl) ?_
                                refine lv_dup hx hb dX12_laysWays_226 rfl ?_
                                refine sk_get (v := .long zyb) (C := RX12) (T := TX12) (N := 92) hx hb hts inlX12 hown hK hP 0 rfl rfl 45 (Nat.le_of_ble_eq_true rfl) w_5_200 rfl dX12_laysWays_227 ?_
                                refine lv_lload hx hb dX12_laysWays_230 (lv_at hl 1 rfl) ?_
                                refine lv_ladd hx hb dX12_laysWays_232 ?_
                                refine lv_topl (fun v_25 ev_25 => ?_)
                                refine sk_put (ws' := [ro_ mm 12 (mo g (nI ta) (nI pa) (nI pe) pd (nI pb) pp pf pg pn rt rn (nI cd) sn (nI il) tk am at_ aa mt_ 0 (nI wd_) (nI wt_) v_25 (nI it_) (nI rm) (nI ud) (nI nu) sd (nI qn) (nI qw) qo (nI qb) (nI qp) qa (nI qi) (nI oc)), ra_I (g 20) cI 4 (l4 (nI l0) (nI l1) (nI dm) (nI l3)), ra_I (g 31) cI 120 nw, ra_I (g 37) cZ 900 yo, ra_I (g 36) cZ 900 yw, ra_J (g 43) cJ 90 zb, ra_J (g 44) cJ 90 f_22, ra_I (g 38) cI 90 ws_]) (C := RX12) (T := TX12) (N := 92) (v := .long v_25) hx hb hts inlX12 tyX12 tyX12_ok nmX12 hown hK hP hD hS 0 rfl rfl 45 (Nat.le_of_ble_eq_true rfl) w_5_200 rfl rfl rfl (Nat.le_of_ble_eq_true rfl) rfl dX12_laysWays_233 (fun H locs hP hD hS => ?_)
                                refine lv_iinc (v := nI (jm + 1)) (lv' := [(3, .int (nI (jm + 1))), (6, .int (nI kk)), (4, .long xn), (2, .int (nI i)), (1, .int (nI dm - 1)), (0, .ref mm)]) hx hb dX12_laysWays_236 hl (k := 2) rfl (ninc jm 1 (by decide)) (by decide) rfl (fun ls hl => ?_)
                                refine lv_goto (tgt := 125) hx hb dX12_laysWays_239 (by decide) ?_
                                exact ih_lp_10 (jm + 1) v_25 f_22 _ _ _ (by omega) (by omega) hf_23 (wy_add hzyb (fx_fin hfx (by omega)) (by omega) ev_25) hP hD hS (lv_sub hl [0, 3, 4, 5] rfl)
                            · have c_21 : ¬ (i ≤ 0) := fun h => c_21 ((nle i 0 (by omega) (Nat.le_of_ble_eq_true rfl)).mpr h)
                              refine lv_aload_n hx hb dX12_laysWays_171 rfl (lv_at hl 5 rfl) ?_
                              refine lv_iload_n hx hb dX12_laysWays_172 rfl (lv_at hl 3 rfl) ?_
                              refine lv_iload hx hb dX12_laysWays_173 (lv_at hl 0 rfl) ?_
                              refine lv_iload_n hx hb dX12_laysWays_175 rfl (lv_at hl 2 rfl) ?_
                              refine sk_Vi (q0 := 0) (n := 3) (rest := []) (wr := fmR om_8_b9 _) ⟨hx, hb, hml, hown, hts⟩ hl.1 (c_vm_canFollowW l D cI cJ cC cZ cS mm g ta pa pe pd pb pp pf pg pn rt rn cd sn il tk am at_ aa mt_ zyb it_ rm ud nu sd qn qw qo qb qp qa qi oc i kk jm nw ws_ yo yw wd_ wt_ (by omega) (by omega) (by omega) hwd9 hnw) w_7_201 w_7_203 w_0_85 w_1_14 w_7_204 hd_X12_canFollow_3 ⟨⟨(Nat.le_of_ble_eq_true rfl), (Nat.le_of_ble_eq_true rfl)⟩, (Nat.le_of_ble_eq_true rfl), (Nat.le_of_ble_eq_true rfl)⟩ hK hP hD hS hA [0, 2, 7, 3, 4] (fmF om_8_b9 0) rfl (fm_R rfl rfl) (by decide +kernel) (fm_nF om_8_b9 0) (by decide +kernel) rfl rfl rfl rfl (Nat.le_of_ble_eq_true rfl) dX12_laysWays_176 (fun r_27 u H locs hw hP hD hS => ?_)
                              refine exE hw (fun b_26 hw1 => anE hw1 (fun hb1_28 hw2 => anE hw2 (fun hb2_29 hw3 => anE hw3 (fun er_31 eu_30 => ?_))))
                              clear hw hw1 hw2 hw3
                              subst er_31
                              refine o_mgqE (ux := [ro_ mm 12 (mo g (nI ta) (nI pa) (nI pe) pd (nI pb) pp pf pg pn rt rn (nI cd) sn (nI il) tk am at_ aa mt_ 0 (nI wd_) (nI wt_) zyb (nI it_) (nI rm) (nI ud) (nI nu) sd (nI qn) (nI qw) qo (nI qb) (nI qp) qa (nI qi) (nI oc)), ra_I (g 31) cI 120 nw, ra_I (g 37) cZ 900 yo, ra_I (g 36) cZ 900 yw, ra_I (g 38) cI 90 ws_]) (ws' := [ro_ mm 12 (mo g (nI ta) (nI pa) (nI pe) pd (nI pb) pp pf pg pn rt rn (nI cd) sn (nI il) tk am at_ aa mt_ 0 (nI wd_) (nI wt_) zyb (nI it_) (nI rm) (nI ud) (nI nu) sd (nI qn) (nI qw) qo (nI qb) (nI qp) qa (nI qi) (nI oc)), ra_I (g 20) cI 4 (l4 (nI l0) (nI l1) (nI dm) (nI l3)), ra_I (g 31) cI 120 nw, ra_I (g 37) cZ 900 yo, ra_I (g 36) cZ 900 yw, ra_J (g 43) cJ 90 zb, ra_J (g 44) cJ 90 zg, ra_I (g 38) cI 90 ws_]) eu_30 [0, 1, 3, 4, 2] (by decide +kernel) rfl hP hD rfl (fun hP hD => ?_)
                              refine lv_if_eq (tgt := 201) hx hb dX12_laysWays_179 (by decide) (fun c_32 => ?_) (fun c_32 => ?_)
                              · have c_32 : b_26 = 0 := (neq b_26 0 (by omega) (Nat.le_of_ble_eq_true rfl)).mp c_32
                                refine lv_iinc (v := nI (kk + 1)) (lv' := [(6, .int (nI (kk + 1))), (4, .long xn), (3, .int (nI jm)), (2, .int (nI i)), (1, .int (nI dm - 1)), (0, .ref mm)]) hx hb dX12_laysWays_201 hl (k := 0) rfl (ninc kk 1 (by decide)) (by decide) rfl (fun ls hl => ?_)
                                refine lv_goto (tgt := 160) hx hb dX12_laysWays_204 (by decide) ?_
                                exact ih_lp_14 (kk + 1) xn _ _ _ (by omega) (by omega) (fx_no hfx (by omega) (or_0 hb1_28 (by omega))) hP hD hS (lv_sub hl [0, 1, 2, 3, 4, 5] rfl)
                              · have c_32 : ¬ (b_26 = 0) := fun h => c_32 ((neq b_26 0 (by omega) (Nat.le_of_ble_eq_true rfl)).mpr h)
                                refine lv_lload hx hb dX12_laysWays_182 (lv_at hl 1 rfl) ?_
                                refine lv_aload_n hx hb dX12_laysWays_184 rfl (lv_at hl 5 rfl) ?_
                                refine sk_get (v := .ref (g 44)) (C := RX12) (T := TX12) (N := 92) hx hb hts inlX12 hown hK hP 0 rfl rfl 44 (Nat.le_of_ble_eq_true rfl) w_5_199 rfl dX12_laysWays_185 ?_
                                refine lv_bipush (v := 10) hx hb dX12_laysWays_188 (by decide) ?_
                                refine lv_iload_n hx hb dX12_laysWays_190 rfl (lv_at hl 3 rfl) ?_
                                refine lv_iconst (v := 1) hx hb dX12_laysWays_191 ic_1 ?_
                                refine lv_isub hx hb dX12_laysWays_192 ?_
                                refine sk_top (nI (i - 1)) (nsub i 1 (by omega)) ?_
                                refine lv_imul hx hb dX12_laysWays_193 ?_
                                refine sk_top (nI (10 * (i - 1))) (nmul 10 (i - 1)) ?_
                                refine lv_iload hx hb dX12_laysWays_194 (lv_at hl 0 rfl) ?_
                                refine lv_iadd hx hb dX12_laysWays_196 ?_
                                refine sk_top (nI (10 * (i - 1) + kk)) (nI_add (10 * (i - 1)) kk) ?_
                                refine va_lald hx hb hK.1 hP 6 1 rfl rfl (vin (10 * (i - 1) + kk) 90 (by omega) (Nat.le_of_ble_eq_true rfl)) dX12_laysWays_197 ?_
                                refine lv_topl (fun v_33 ev_33 => ?_)
                                refine lv_ladd hx hb dX12_laysWays_198 ?_
                                refine lv_topl (fun v_34 ev_34 => ?_)
                                refine lv_lstore (lv' := [(4, .long v_34), (6, .int (nI kk)), (3, .int (nI jm)), (2, .int (nI i)), (1, .int (nI dm - 1)), (0, .ref mm)]) hx hb dX12_laysWays_199 hl (by decide) rfl (fun ls hl => ?_)
                                refine lv_iinc (v := nI (kk + 1)) (lv' := [(6, .int (nI (kk + 1))), (4, .long v_34), (3, .int (nI jm)), (2, .int (nI i)), (1, .int (nI dm - 1)), (0, .ref mm)]) hx hb dX12_laysWays_201 hl (k := 1) rfl (ninc kk 1 (by decide)) (by decide) rfl (fun ls hl => ?_)
                                refine lv_goto (tgt := 160) hx hb dX12_laysWays_204 (by decide) ?_
                                exact ih_lp_14 (kk + 1) v_34 _ _ _ (by omega) (by omega) (fx_yes hfx (by omega) (or_1 hb1_28 (by omega)) (bf_get hbf2.1 (by omega) (by omega) (by omega) ev_33) ev_34) hP hD hS (lv_sub hl [0, 1, 2, 3, 4, 5] rfl)
                      exact lp_14 (10 - 0 + 1) 0 0 _ _ _ (Nat.lt_succ_self _) (by omega) (fx_3 (by omega)) hP hD hS (lv_sub hl [0, 1, 2, 3, 4, 5] rfl)
                    · have c_13 : i = 0 := (neq i 0 (by omega) (Nat.le_of_ble_eq_true rfl)).mp c_13
                      refine lv_aload_n hx hb dX12_laysWays_135 rfl (lv_at hl 3 rfl) ?_
                      refine lv_iconst (v := 0) hx hb dX12_laysWays_136 ic_0 ?_
                      refine lv_aload_n hx hb dX12_laysWays_137 rfl (lv_at hl 3 rfl) ?_
                      refine sk_get (v := .ref (g 31)) (C := RX12) (T := TX12) (N := 92) hx hb hts inlX12 hown hK hP 0 rfl rfl 31 (Nat.le_of_ble_eq_true rfl) w_5_186 rfl dX12_laysWays_138 ?_
                      refine lv_iconst (v := 1) hx hb dX12_laysWays_141 ic_1 ?_
                      refine va_iald hx hb hK.1 hP 2 0 rfl rfl (by unfold vp_in; decide) dX12_laysWays_142 ?_
                      obtain ⟨k_35, hk_35, ek_35⟩ := nowOk_1 hnw
                      refine sk_top (nI k_35) ek_35 ?_
                      refine lv_iload_n hx hb dX12_laysWays_143 rfl (lv_at hl 0 rfl) ?_
                      refine sk_Vi (q0 := 0) (n := 3) (rest := []) (wr := fmR om_8_b9 _) ⟨hx, hb, hml, hown, hts⟩ hl.1 (c_vm_canFollowW l D cI cJ cC cZ cS mm g ta pa pe pd pb pp pf pg pn rt rn cd sn il tk am at_ aa mt_ zyb it_ rm ud nu sd qn qw qo qb qp qa qi oc 0 k_35 jm nw ws_ yo yw wd_ wt_ (by omega) (by omega) (by omega) hwd9 hnw) w_7_201 w_7_203 w_0_85 w_1_14 w_7_204 hd_X12_canFollow_3 ⟨⟨(Nat.le_of_ble_eq_true rfl), (Nat.le_of_ble_eq_true rfl)⟩, (Nat.le_of_ble_eq_true rfl), (Nat.le_of_ble_eq_true rfl)⟩ hK hP hD hS hA [0, 2, 7, 3, 4] (fmF om_8_b9 0) rfl (fm_R rfl rfl) (by decide +kernel) (fm_nF om_8_b9 0) (by decide +kernel) rfl rfl rfl rfl (Nat.le_of_ble_eq_true rfl) dX12_laysWays_144 (fun r_37 u H locs hw hP hD hS => ?_)
                      refine exE hw (fun b_36 hw1 => anE hw1 (fun hb1_38 hw2 => anE hw2 (fun hb2_39 hw3 => anE hw3 (fun er_41 eu_40 => ?_))))
                      clear hw hw1 hw2 hw3
                      subst er_41
                      refine o_mgqE (ux := [ro_ mm 12 (mo g (nI ta) (nI pa) (nI pe) pd (nI pb) pp pf pg pn rt rn (nI cd) sn (nI il) tk am at_ aa mt_ 0 (nI wd_) (nI wt_) zyb (nI it_) (nI rm) (nI ud) (nI nu) sd (nI qn) (nI qw) qo (nI qb) (nI qp) qa (nI qi) (nI oc)), ra_I (g 31) cI 120 nw, ra_I (g 37) cZ 900 yo, ra_I (g 36) cZ 900 yw, ra_I (g 38) cI 90 ws_]) (ws' := [ro_ mm 12 (mo g (nI ta) (nI pa) (nI pe) pd (nI pb) pp pf pg pn rt rn (nI cd) sn (nI il) tk am at_ aa mt_ 0 (nI wd_) (nI wt_) zyb (nI it_) (nI rm) (nI ud) (nI nu) sd (nI qn) (nI qw) qo (nI qb) (nI qp) qa (nI qi) (nI oc)), ra_I (g 20) cI 4 (l4 (nI l0) (nI l1) (nI dm) (nI l3)), ra_I (g 31) cI 120 nw, ra_I (g 37) cZ 900 yo, ra_I (g 36) cZ 900 yw, ra_J (g 43) cJ 90 zb, ra_J (g 44) cJ 90 zg, ra_I (g 38) cI 90 ws_]) eu_40 [0, 1, 3, 4, 2] (by decide +kernel) rfl hP hD rfl (fun hP hD => ?_)
                      have ha0 := a0_eq ek_35 hk_35
                      refine lv_if_eq (tgt := 154) hx hb dX12_laysWays_147 (by decide) (fun c_42 => ?_) (fun c_42 => ?_)
                      · have c_42 : b_36 = 0 := (neq b_36 0 (by omega) (Nat.le_of_ble_eq_true rfl)).mp c_42
                        refine lv_lconst (v := 0) hx hb dX12_laysWays_154 (by decide) ?_
                        refine lv_lstore (lv' := [(4, .long 0), (3, .int (nI jm)), (2, .int (nI i)), (1, .int (nI dm - 1)), (0, .ref mm)]) hx hb dX12_laysWays_155 hl (by decide) rfl (fun ls hl => ?_)
                        refine lv_iconst (v := 0) hx hb dX12_laysWays_157 ic_0 ?_
                        refine lv_istore (lv' := [(6, .int 0), (4, .long 0), (3, .int (nI jm)), (2, .int (nI i)), (1, .int (nI dm - 1)), (0, .ref mm)]) hx hb dX12_laysWays_158 hl (by decide) rfl (fun ls hl => ?_)
                        have lp_43 : ∀ (n_44 : Nat) (kk : Nat) (xn : Int64) (H : Heap) (locs : List Loc) (ls : Array Slot), 10 - kk < n_44 → (kk ≤ 10) → (fx (cfL (cfN nw yw yo mt_) (lfW ws_ wd_ wt_)) (a0N nw) i jm kk xn) → va_P D vwCl [ro_ mm 12 (mo g (nI ta) (nI pa) (nI pe) pd (nI pb) pp pf pg pn rt rn (nI cd) sn (nI il) tk am at_ aa mt_ 0 (nI wd_) (nI wt_) zyb (nI it_) (nI rm) (nI ud) (nI nu) sd (nI qn) (nI qw) qo (nI qb) (nI qp) qa (nI qi) (nI oc)), ra_I (g 20) cI 4 (l4 (nI l0) (nI l1) (nI dm) (nI l3)), ra_I (g 31) cI 120 nw, ra_I (g 37) cZ 900 yo, ra_I (g 36) cZ 900 yw, ra_J (g 43) cJ 90 zb, ra_J (g 44) cJ 90 zg, ra_I (g 38) cI 90 ws_] H → va_D A [ro_ mm 12 (mo g (nI ta) (nI pa) (nI pe) pd (nI pb) pp pf pg pn rt rn (nI cd) sn (nI il) tk am at_ aa mt_ 0 (nI wd_) (nI wt_) zyb (nI it_) (nI rm) (nI ud) (nI nu) sd (nI qn) (nI qw) qo (nI qb) (nI qp) qa (nI qi) (nI oc)), ra_I (g 20) cI 4 (l4 (nI l0) (nI l1) (nI dm) (nI l3)), ra_I (g 31) cI 120 nw, ra_I (g 37) cZ 900 yo, ra_I (g 36) cZ 900 yw, ra_J (g 43) cJ 90 zb, ra_J (g 44) cJ 90 zg, ra_I (g 38) cI 90 ws_] → va_S A s.heap H locs → lv_has ls 7 [(6, .int (nI kk)), (4, .long xn), (3, .int (nI jm)), (2, .int (nI i)), (1, .int (nI dm - 1)), (0, .ref mm)] → W p l e { frames := 3, cells := 0, slots := 0, locals := 66 } s m ([.ref mm] : List Value).toArray below meth c H locs 0 0 (MQ below (skV D (skT cI cJ cC cZ cS) (fun (u : va_W) => ∃ (wy2 : Int64), ∃ (be2 : Nat → Int64), ∃ (bf2 : Nat → Int64), beOk (cfL (cfN nw yw yo mt_) (lfW ws_ wd_ wt_)) dm 0 be2 ∧ bfOk (cfL (cfN nw yw yo mt_) (lfW ws_ wd_ wt_)) (a0N nw) dm bf2 ∧ wy2 = nL (wys (cfL (cfN nw yw yo mt_) (lfW ws_ wd_ wt_)) (a0N nw) (dm - 1)) ∧ u = [ro_ mm 12 (mo g (nI ta) (nI pa) (nI pe) pd (nI pb) pp pf pg pn rt rn (nI cd) sn (nI il) tk am at_ aa mt_ 0 (nI wd_) (nI wt_) wy2 (nI it_) (nI rm) (nI ud) (nI nu) sd (nI qn) (nI qw) qo (nI qb) (nI qp) qa (nI qi) (nI oc)), ra_I (g 20) cI 4 (l4 (nI l0) (nI l1) (nI dm) (nI l3)), ra_I (g 31) cI 120 nw, ra_I (g 37) cZ 900 yo, ra_I (g 36) cZ 900 yw, ra_J (g 43) cJ 90 be2, ra_J (g 44) cJ 90 bf2, ra_I (g 38) cI 90 ws_]) A) ([.ref mm] : List Value).toArray s 0 0 A) (F0 m 160 ls []) := by
                          intro n_44
                          induction n_44 with
                          | zero => intro kk xn H locs ls hm; exact absurd hm (Nat.not_lt_zero _)
                          | succ n_44 ih_lp_43 =>
                            intro kk xn H locs ls hm hkk hfx hP hD hS hl
                            refine lv_iload hx hb dX12_laysWays_160 (lv_at hl 0 rfl) ?_
                            refine lv_bipush (v := 10) hx hb dX12_laysWays_162 (by decide) ?_
                            refine lv_icmp_ge (tgt := 207) hx hb dX12_laysWays_164 (by decide) (fun c_45 => ?_) (fun c_45 => ?_)
                            · have c_45 : 10 ≤ kk := (nle 10 kk (Nat.le_of_ble_eq_true rfl) (by omega)).mp c_45
                              refine lv_aload_n hx hb dX12_laysWays_207 rfl (lv_at hl 5 rfl) ?_
                              refine sk_get (v := .ref (g 44)) (C := RX12) (T := TX12) (N := 92) hx hb hts inlX12 hown hK hP 0 rfl rfl 44 (Nat.le_of_ble_eq_true rfl) w_5_199 rfl dX12_laysWays_208 ?_
                              refine lv_bipush (v := 10) hx hb dX12_laysWays_211 (by decide) ?_
                              refine lv_iload_n hx hb dX12_laysWays_213 rfl (lv_at hl 3 rfl) ?_
                              refine lv_imul hx hb dX12_laysWays_214 ?_
                              refine sk_top (nI (10 * i)) (nmul 10 i) ?_
                              refine lv_iload_n hx hb dX12_laysWays_215 rfl (lv_at hl 2 rfl) ?_
                              refine lv_iadd hx hb dX12_laysWays_216 ?_
                              refine sk_top (nI (10 * i + jm)) (nI_add (10 * i) jm) ?_
                              refine lv_lload hx hb dX12_laysWays_217 (lv_at hl 1 rfl) ?_
                              refine sk_lastP (Pr := bfOk2 (cfL (cfN nw yw yo mt_) (lfW ws_ wd_ wt_)) (a0N nw) i (jm + 1)) (ws' := fun f_46 => [ro_ mm 12 (mo g (nI ta) (nI pa) (nI pe) pd (nI pb) pp pf pg pn rt rn (nI cd) sn (nI il) tk am at_ aa mt_ 0 (nI wd_) (nI wt_) zyb (nI it_) (nI rm) (nI ud) (nI nu) sd (nI qn) (nI qw) qo (nI qb) (nI qp) qa (nI qi) (nI oc)), ra_I (g 20) cI 4 (l4 (nI l0) (nI l1) (nI dm) (nI l3)), ra_I (g 31) cI 120 nw, ra_I (g 37) cZ 900 yo, ra_I (g 36) cZ 900 yw, ra_J (g 43) cJ 90 zb, ra_J (g 44) cJ 90 f_46, ra_I (g 38) cI 90 ws_]) hx hb hK hP hD hS 6 1 rfl rfl (vin (10 * i + jm) 90 (by omega) (Nat.le_of_ble_eq_true rfl)) (fun _ => rfl) (bf_store hbf2 (by omega) (by omega) (fx_fin hfx (by omega))) dX12_laysWays_219 (fun f_46 H locs hf_47 hP hD hS => ?_)
                              refine lv_iload_n hx hb dX12_laysWays_220 rfl (lv_at hl 3 rfl) ?_
                              refine lv_iload_n hx hb dX12_laysWays_221 rfl (lv_at hl 4 rfl) ?_
                              refine lv_icmp_ne (tgt := 236) hx hb dX12_laysWays_222 (by decide) (fun c_48 => ?_) (fun c_48 => ?_)
                              · have c_48 : ¬ (((i : Nat) : Int) = ((dm : Nat) : Int) - 1) := fun h => c_48 ((ieq (ivn i (by omega)) (ivp dm (by omega))).mpr h)
                                refine lv_iinc (v := nI (jm + 1)) (lv' := [(3, .int (nI (jm + 1))), (6, .int (nI kk)), (4, .long xn), (2, .int (nI i)), (1, .int (nI dm - 1)), (0, .ref mm)]) hx hb dX12_laysWays_236 hl (k := 2) rfl (ninc jm 1 (by decide)) (by decide) rfl (fun ls hl => ?_)
                                refine lv_goto (tgt := 125) hx hb dX12_laysWays_239 (by decide) ?_
                                exact ih_lp_10 (jm + 1) zyb f_46 _ _ _ (by omega) (by omega) hf_47 (wy_keep hzyb (by omega)) hP hD hS (lv_sub hl [0, 3, 4, 5] rfl)
                              · have c_48 : ((i : Nat) : Int) = ((dm : Nat) : Int) - 1 := (ieq (ivn i (by omega)) (ivp dm (by omega))).mp c_48
                                refine lv_aload_n hx hb dX12_laysWays_225 rfl (lv_at hl 5 rfl) ?_
                                refine lv_dup hx hb dX12_laysWays_226 rfl ?_
                                refine sk_get (v := .long zyb) (C := RX12) (T := TX12) (N := 92) hx hb hts inlX12 hown hK hP 0 rfl rfl 45 (Nat.le_of_ble_eq_true rfl) w_5_200 rfl dX12_laysWays_227 ?_
                                refine lv_lload hx hb dX12_laysWays_230 (lv_at hl 1 rfl) ?_
                                refine lv_ladd hx hb dX12_laysWays_232 ?_
                                refine lv_topl (fun v_49 ev_49 => ?_)
                                refine sk_put (ws' := [ro_ mm 12 (mo g (nI ta) (nI pa) (nI pe) pd (nI pb) pp pf pg pn rt rn (nI cd) sn (nI il) tk am at_ aa mt_ 0 (nI wd_) (nI wt_) v_49 (nI it_) (nI rm) (nI ud) (nI nu) sd (nI qn) (nI qw) qo (nI qb) (nI qp) qa (nI qi) (nI oc)), ra_I (g 20) cI 4 (l4 (nI l0) (nI l1) (nI dm) (nI l3)), ra_I (g 31) cI 120 nw, ra_I (g 37) cZ 900 yo, ra_I (g 36) cZ 900 yw, ra_J (g 43) cJ 90 zb, ra_J (g 44) cJ 90 f_46, ra_I (g 38) cI 90 ws_]) (C := RX12) (T := TX12) (N := 92) (v := .long v_49) hx hb hts inlX12 tyX12 tyX12_ok nmX12 hown hK hP hD hS 0 rfl rfl 45 (Nat.le_of_ble_eq_true rfl) w_5_200 rfl rfl rfl (Nat.le_of_ble_eq_true rfl) rfl dX12_laysWays_233 (fun H locs hP hD hS => ?_)
                                refine lv_iinc (v := nI (jm + 1)) (lv' := [(3, .int (nI (jm + 1))), (6, .int (nI kk)), (4, .long xn), (2, .int (nI i)), (1, .int (nI dm - 1)), (0, .ref mm)]) hx hb dX12_laysWays_236 hl (k := 2) rfl (ninc jm 1 (by decide)) (by decide) rfl (fun ls hl => ?_)
                                refine lv_goto (tgt := 125) hx hb dX12_laysWays_239 (by decide) ?_
                                exact ih_lp_10 (jm + 1) v_49 f_46 _ _ _ (by omega) (by omega) hf_47 (wy_add hzyb (fx_fin hfx (by omega)) (by omega) ev_49) hP hD hS (lv_sub hl [0, 3, 4, 5] rfl)
                            · have c_45 : ¬ (10 ≤ kk) := fun h => c_45 ((nle 10 kk (Nat.le_of_ble_eq_true rfl) (by omega)).mpr h)
                              refine lv_iload_n hx hb dX12_laysWays_167 rfl (lv_at hl 3 rfl) ?_
                              refine lv_if_le (tgt := 207) hx hb dX12_laysWays_168 (by decide) (fun c_50 => ?_) (fun c_50 => ?_)
                              · have c_50 : i ≤ 0 := (nle i 0 (by omega) (Nat.le_of_ble_eq_true rfl)).mp c_50
                                refine lv_aload_n hx hb dX12_laysWays_207 rfl (lv_at hl 5 rfl) ?_
                                refine sk_get (v := .ref (g 44)) (C := RX12) (T := TX12) (N := 92) hx hb hts inlX12 hown hK hP 0 rfl rfl 44 (Nat.le_of_ble_eq_true rfl) w_5_199 rfl dX12_laysWays_208 ?_
                                refine lv_bipush (v := 10) hx hb dX12_laysWays_211 (by decide) ?_
                                refine lv_iload_n hx hb dX12_laysWays_213 rfl (lv_at hl 3 rfl) ?_
                                refine lv_imul hx hb dX12_laysWays_214 ?_
                                refine sk_top (nI (10 * i)) (nmul 10 i) ?_
                                refine lv_iload_n hx hb dX12_laysWays_215 rfl (lv_at hl 2 rfl) ?_
                                refine lv_iadd hx hb dX12_laysWays_216 ?_
                                refine sk_top (nI (10 * i + jm)) (nI_add (10 * i) jm) ?_
                                refine lv_lload hx hb dX12_laysWays_217 (lv_at hl 1 rfl) ?_
                                refine sk_lastP (Pr := bfOk2 (cfL (cfN nw yw yo mt_) (lfW ws_ wd_ wt_)) (a0N nw) i (jm + 1)) (ws' := fun f_51 => [ro_ mm 12 (mo g (nI ta) (nI pa) (nI pe) pd (nI pb) pp pf pg pn rt rn (nI cd) sn (nI il) tk am at_ aa mt_ 0 (nI wd_) (nI wt_) zyb (nI it_) (nI rm) (nI ud) (nI nu) sd (nI qn) (nI qw) qo (nI qb) (nI qp) qa (nI qi) (nI oc)), ra_I (g 20) cI 4 (l4 (nI l0) (nI l1) (nI dm) (nI l3)), ra_I (g 31) cI 120 nw, ra_I (g 37) cZ 900 yo, ra_I (g 36) cZ 900 yw, ra_J (g 43) cJ 90 zb, ra_J (g 44) cJ 90 f_51, ra_I (g 38) cI 90 ws_]) hx hb hK hP hD hS 6 1 rfl rfl (vin (10 * i + jm) 90 (by omega) (Nat.le_of_ble_eq_true rfl)) (fun _ => rfl) (bf_store hbf2 (by omega) (by omega) (fx_fin hfx (by omega))) dX12_laysWays_219 (fun f_51 H locs hf_52 hP hD hS => ?_)
                                refine lv_iload_n hx hb dX12_laysWays_220 rfl (lv_at hl 3 rfl) ?_
                                refine lv_iload_n hx hb dX12_laysWays_221 rfl (lv_at hl 4 rfl) ?_
                                refine lv_icmp_ne (tgt := 236) hx hb dX12_laysWays_222 (by decide) (fun c_53 => ?_) (fun c_53 => ?_)
                                · have c_53 : ¬ (((i : Nat) : Int) = ((dm : Nat) : Int) - 1) := fun h => c_53 ((ieq (ivn i (by omega)) (ivp dm (by omega))).mpr h)
                                  refine lv_iinc (v := nI (jm + 1)) (lv' := [(3, .int (nI (jm + 1))), (6, .int (nI kk)), (4, .long xn), (2, .int (nI i)), (1, .int (nI dm - 1)), (0, .ref mm)]) hx hb dX12_laysWays_236 hl (k := 2) rfl (ninc jm 1 (by decide)) (by decide) rfl (fun ls hl => ?_)
                                  refine lv_goto (tgt := 125) hx hb dX12_laysWays_239 (by decide) ?_
                                  exact ih_lp_10 (jm + 1) zyb f_51 _ _ _ (by omega) (by omega) hf_52 (wy_keep hzyb (by omega)) hP hD hS (lv_sub hl [0, 3, 4, 5] rfl)
                                · have c_53 : ((i : Nat) : Int) = ((dm : Nat) : Int) - 1 := (ieq (ivn i (by omega)) (ivp dm (by omega))).mp c_53
                                  refine lv_aload_n hx hb dX12_laysWays_225 rfl (lv_at hl 5 rfl) ?_
                                  refine lv_dup hx hb dX12_laysWays_226 rfl ?_
                                  refine sk_get (v := .long zyb) (C := RX12) (T := TX12) (N := 92) hx hb hts inlX12 hown hK hP 0 rfl rfl 45 (Nat.le_of_ble_eq_true rfl) w_5_200 rfl dX12_laysWays_227 ?_
                                  refine lv_lload hx hb dX12_laysWays_230 (lv_at hl 1 rfl) ?_
                                  refine lv_ladd hx hb dX12_laysWays_232 ?_
                                  refine lv_topl (fun v_54 ev_54 => ?_)
                                  refine sk_put (ws' := [ro_ mm 12 (mo g (nI ta) (nI pa) (nI pe) pd (nI pb) pp pf pg pn rt rn (nI cd) sn (nI il) tk am at_ aa mt_ 0 (nI wd_) (nI wt_) v_54 (nI it_) (nI rm) (nI ud) (nI nu) sd (nI qn) (nI qw) qo (nI qb) (nI qp) qa (nI qi) (nI oc)), ra_I (g 20) cI 4 (l4 (nI l0) (nI l1) (nI dm) (nI l3)), ra_I (g 31) cI 120 nw, ra_I (g 37) cZ 900 yo, ra_I (g 36) cZ 900 yw, ra_J (g 43) cJ 90 zb, ra_J (g 44) cJ 90 f_51, ra_I (g 38) cI 90 ws_]) (C := RX12) (T := TX12) (N := 92) (v := .long v_54) hx hb hts inlX12 tyX12 tyX12_ok nmX12 hown hK hP hD hS 0 rfl rfl 45 (Nat.le_of_ble_eq_true rfl) w_5_200 rfl rfl rfl (Nat.le_of_ble_eq_true rfl) rfl dX12_laysWays_233 (fun H locs hP hD hS => ?_)
                                  refine lv_iinc (v := nI (jm + 1)) (lv' := [(3, .int (nI (jm + 1))), (6, .int (nI kk)), (4, .long xn), (2, .int (nI i)), (1, .int (nI dm - 1)), (0, .ref mm)]) hx hb dX12_laysWays_236 hl (k := 2) rfl (ninc jm 1 (by decide)) (by decide) rfl (fun ls hl => ?_)
                                  refine lv_goto (tgt := 125) hx hb dX12_laysWays_239 (by decide) ?_
                                  exact ih_lp_10 (jm + 1) v_54 f_51 _ _ _ (by omega) (by omega) hf_52 (wy_add hzyb (fx_fin hfx (by omega)) (by omega) ev_54) hP hD hS (lv_sub hl [0, 3, 4, 5] rfl)
                              · have c_50 : ¬ (i ≤ 0) := fun h => c_50 ((nle i 0 (by omega) (Nat.le_of_ble_eq_true rfl)).mpr h)
                                refine lv_aload_n hx hb dX12_laysWays_171 rfl (lv_at hl 5 rfl) ?_
                                refine lv_iload_n hx hb dX12_laysWays_172 rfl (lv_at hl 3 rfl) ?_
                                refine lv_iload hx hb dX12_laysWays_173 (lv_at hl 0 rfl) ?_
                                refine lv_iload_n hx hb dX12_laysWays_175 rfl (lv_at hl 2 rfl) ?_
                                refine sk_Vi (q0 := 0) (n := 3) (rest := []) (wr := fmR om_8_b9 _) ⟨hx, hb, hml, hown, hts⟩ hl.1 (c_vm_canFollowW l D cI cJ cC cZ cS mm g ta pa pe pd pb pp pf pg pn rt rn cd sn il tk am at_ aa mt_ zyb it_ rm ud nu sd qn qw qo qb qp qa qi oc i kk jm nw ws_ yo yw wd_ wt_ (by omega) (by omega) (by omega) hwd9 hnw) w_7_201 w_7_203 w_0_85 w_1_14 w_7_204 hd_X12_canFollow_3 ⟨⟨(Nat.le_of_ble_eq_true rfl), (Nat.le_of_ble_eq_true rfl)⟩, (Nat.le_of_ble_eq_true rfl), (Nat.le_of_ble_eq_true rfl)⟩ hK hP hD hS hA [0, 2, 7, 3, 4] (fmF om_8_b9 0) rfl (fm_R rfl rfl) (by decide +kernel) (fm_nF om_8_b9 0) (by decide +kernel) rfl rfl rfl rfl (Nat.le_of_ble_eq_true rfl) dX12_laysWays_176 (fun r_56 u H locs hw hP hD hS => ?_)
                                refine exE hw (fun b_55 hw1 => anE hw1 (fun hb1_57 hw2 => anE hw2 (fun hb2_58 hw3 => anE hw3 (fun er_60 eu_59 => ?_))))
                                clear hw hw1 hw2 hw3
                                subst er_60
                                refine o_mgqE (ux := [ro_ mm 12 (mo g (nI ta) (nI pa) (nI pe) pd (nI pb) pp pf pg pn rt rn (nI cd) sn (nI il) tk am at_ aa mt_ 0 (nI wd_) (nI wt_) zyb (nI it_) (nI rm) (nI ud) (nI nu) sd (nI qn) (nI qw) qo (nI qb) (nI qp) qa (nI qi) (nI oc)), ra_I (g 31) cI 120 nw, ra_I (g 37) cZ 900 yo, ra_I (g 36) cZ 900 yw, ra_I (g 38) cI 90 ws_]) (ws' := [ro_ mm 12 (mo g (nI ta) (nI pa) (nI pe) pd (nI pb) pp pf pg pn rt rn (nI cd) sn (nI il) tk am at_ aa mt_ 0 (nI wd_) (nI wt_) zyb (nI it_) (nI rm) (nI ud) (nI nu) sd (nI qn) (nI qw) qo (nI qb) (nI qp) qa (nI qi) (nI oc)), ra_I (g 20) cI 4 (l4 (nI l0) (nI l1) (nI dm) (nI l3)), ra_I (g 31) cI 120 nw, ra_I (g 37) cZ 900 yo, ra_I (g 36) cZ 900 yw, ra_J (g 43) cJ 90 zb, ra_J (g 44) cJ 90 zg, ra_I (g 38) cI 90 ws_]) eu_59 [0, 1, 3, 4, 2] (by decide +kernel) rfl hP hD rfl (fun hP hD => ?_)
                                refine lv_if_eq (tgt := 201) hx hb dX12_laysWays_179 (by decide) (fun c_61 => ?_) (fun c_61 => ?_)
                                · have c_61 : b_55 = 0 := (neq b_55 0 (by omega) (Nat.le_of_ble_eq_true rfl)).mp c_61
                                  refine lv_iinc (v := nI (kk + 1)) (lv' := [(6, .int (nI (kk + 1))), (4, .long xn), (3, .int (nI jm)), (2, .int (nI i)), (1, .int (nI dm - 1)), (0, .ref mm)]) hx hb dX12_laysWays_201 hl (k := 0) rfl (ninc kk 1 (by decide)) (by decide) rfl (fun ls hl => ?_)
                                  refine lv_goto (tgt := 160) hx hb dX12_laysWays_204 (by decide) ?_
                                  exact ih_lp_43 (kk + 1) xn _ _ _ (by omega) (by omega) (fx_no hfx (by omega) (or_0 hb1_57 (by omega))) hP hD hS (lv_sub hl [0, 1, 2, 3, 4, 5] rfl)
                                · have c_61 : ¬ (b_55 = 0) := fun h => c_61 ((neq b_55 0 (by omega) (Nat.le_of_ble_eq_true rfl)).mpr h)
                                  refine lv_lload hx hb dX12_laysWays_182 (lv_at hl 1 rfl) ?_
                                  refine lv_aload_n hx hb dX12_laysWays_184 rfl (lv_at hl 5 rfl) ?_
                                  refine sk_get (v := .ref (g 44)) (C := RX12) (T := TX12) (N := 92) hx hb hts inlX12 hown hK hP 0 rfl rfl 44 (Nat.le_of_ble_eq_true rfl) w_5_199 rfl dX12_laysWays_185 ?_
                                  refine lv_bipush (v := 10) hx hb dX12_laysWays_188 (by decide) ?_
                                  refine lv_iload_n hx hb dX12_laysWays_190 rfl (lv_at hl 3 rfl) ?_
                                  refine lv_iconst (v := 1) hx hb dX12_laysWays_191 ic_1 ?_
                                  refine lv_isub hx hb dX12_laysWays_192 ?_
                                  refine sk_top (nI (i - 1)) (nsub i 1 (by omega)) ?_
                                  refine lv_imul hx hb dX12_laysWays_193 ?_
                                  refine sk_top (nI (10 * (i - 1))) (nmul 10 (i - 1)) ?_
                                  refine lv_iload hx hb dX12_laysWays_194 (lv_at hl 0 rfl) ?_
                                  refine lv_iadd hx hb dX12_laysWays_196 ?_
                                  refine sk_top (nI (10 * (i - 1) + kk)) (nI_add (10 * (i - 1)) kk) ?_
                                  refine va_lald hx hb hK.1 hP 6 1 rfl rfl (vin (10 * (i - 1) + kk) 90 (by omega) (Nat.le_of_ble_eq_true rfl)) dX12_laysWays_197 ?_
                                  refine lv_topl (fun v_62 ev_62 => ?_)
                                  refine lv_ladd hx hb dX12_laysWays_198 ?_
                                  refine lv_topl (fun v_63 ev_63 => ?_)
                                  refine lv_lstore (lv' := [(4, .long v_63), (6, .int (nI kk)), (3, .int (nI jm)), (2, .int (nI i)), (1, .int (nI dm - 1)), (0, .ref mm)]) hx hb dX12_laysWays_199 hl (by decide) rfl (fun ls hl => ?_)
                                  refine lv_iinc (v := nI (kk + 1)) (lv' := [(6, .int (nI (kk + 1))), (4, .long v_63), (3, .int (nI jm)), (2, .int (nI i)), (1, .int (nI dm - 1)), (0, .ref mm)]) hx hb dX12_laysWays_201 hl (k := 1) rfl (ninc kk 1 (by decide)) (by decide) rfl (fun ls hl => ?_)
                                  refine lv_goto (tgt := 160) hx hb dX12_laysWays_204 (by decide) ?_
                                  exact ih_lp_43 (kk + 1) v_63 _ _ _ (by omega) (by omega) (fx_yes hfx (by omega) (or_1 hb1_57 (by omega)) (bf_get hbf2.1 (by omega) (by omega) (by omega) ev_62) ev_63) hP hD hS (lv_sub hl [0, 1, 2, 3, 4, 5] rfl)
                        exact lp_43 (10 - 0 + 1) 0 0 _ _ _ (Nat.lt_succ_self _) (by omega) (fx_2 (by omega) (by rw [← ha0]; exact or_0 hb1_38 (by omega))) hP hD hS (lv_sub hl [0, 1, 2, 3, 4, 5] rfl)
                      · have c_42 : ¬ (b_36 = 0) := fun h => c_42 ((neq b_36 0 (by omega) (Nat.le_of_ble_eq_true rfl)).mpr h)
                        refine lv_lconst (v := 1) hx hb dX12_laysWays_150 (by decide) ?_
                        refine lv_goto (tgt := 155) hx hb dX12_laysWays_151 (by decide) ?_
                        refine lv_lstore (lv' := [(4, .long 1), (3, .int (nI jm)), (2, .int (nI i)), (1, .int (nI dm - 1)), (0, .ref mm)]) hx hb dX12_laysWays_155 hl (by decide) rfl (fun ls hl => ?_)
                        refine lv_iconst (v := 0) hx hb dX12_laysWays_157 ic_0 ?_
                        refine lv_istore (lv' := [(6, .int 0), (4, .long 1), (3, .int (nI jm)), (2, .int (nI i)), (1, .int (nI dm - 1)), (0, .ref mm)]) hx hb dX12_laysWays_158 hl (by decide) rfl (fun ls hl => ?_)
                        have lp_64 : ∀ (n_65 : Nat) (kk : Nat) (xn : Int64) (H : Heap) (locs : List Loc) (ls : Array Slot), 10 - kk < n_65 → (kk ≤ 10) → (fx (cfL (cfN nw yw yo mt_) (lfW ws_ wd_ wt_)) (a0N nw) i jm kk xn) → va_P D vwCl [ro_ mm 12 (mo g (nI ta) (nI pa) (nI pe) pd (nI pb) pp pf pg pn rt rn (nI cd) sn (nI il) tk am at_ aa mt_ 0 (nI wd_) (nI wt_) zyb (nI it_) (nI rm) (nI ud) (nI nu) sd (nI qn) (nI qw) qo (nI qb) (nI qp) qa (nI qi) (nI oc)), ra_I (g 20) cI 4 (l4 (nI l0) (nI l1) (nI dm) (nI l3)), ra_I (g 31) cI 120 nw, ra_I (g 37) cZ 900 yo, ra_I (g 36) cZ 900 yw, ra_J (g 43) cJ 90 zb, ra_J (g 44) cJ 90 zg, ra_I (g 38) cI 90 ws_] H → va_D A [ro_ mm 12 (mo g (nI ta) (nI pa) (nI pe) pd (nI pb) pp pf pg pn rt rn (nI cd) sn (nI il) tk am at_ aa mt_ 0 (nI wd_) (nI wt_) zyb (nI it_) (nI rm) (nI ud) (nI nu) sd (nI qn) (nI qw) qo (nI qb) (nI qp) qa (nI qi) (nI oc)), ra_I (g 20) cI 4 (l4 (nI l0) (nI l1) (nI dm) (nI l3)), ra_I (g 31) cI 120 nw, ra_I (g 37) cZ 900 yo, ra_I (g 36) cZ 900 yw, ra_J (g 43) cJ 90 zb, ra_J (g 44) cJ 90 zg, ra_I (g 38) cI 90 ws_] → va_S A s.heap H locs → lv_has ls 7 [(6, .int (nI kk)), (4, .long xn), (3, .int (nI jm)), (2, .int (nI i)), (1, .int (nI dm - 1)), (0, .ref mm)] → W p l e { frames := 3, cells := 0, slots := 0, locals := 66 } s m ([.ref mm] : List Value).toArray below meth c H locs 0 0 (MQ below (skV D (skT cI cJ cC cZ cS) (fun (u : va_W) => ∃ (wy2 : Int64), ∃ (be2 : Nat → Int64), ∃ (bf2 : Nat → Int64), beOk (cfL (cfN nw yw yo mt_) (lfW ws_ wd_ wt_)) dm 0 be2 ∧ bfOk (cfL (cfN nw yw yo mt_) (lfW ws_ wd_ wt_)) (a0N nw) dm bf2 ∧ wy2 = nL (wys (cfL (cfN nw yw yo mt_) (lfW ws_ wd_ wt_)) (a0N nw) (dm - 1)) ∧ u = [ro_ mm 12 (mo g (nI ta) (nI pa) (nI pe) pd (nI pb) pp pf pg pn rt rn (nI cd) sn (nI il) tk am at_ aa mt_ 0 (nI wd_) (nI wt_) wy2 (nI it_) (nI rm) (nI ud) (nI nu) sd (nI qn) (nI qw) qo (nI qb) (nI qp) qa (nI qi) (nI oc)), ra_I (g 20) cI 4 (l4 (nI l0) (nI l1) (nI dm) (nI l3)), ra_I (g 31) cI 120 nw, ra_I (g 37) cZ 900 yo, ra_I (g 36) cZ 900 yw, ra_J (g 43) cJ 90 be2, ra_J (g 44) cJ 90 bf2, ra_I (g 38) cI 90 ws_]) A) ([.ref mm] : List Value).toArray s 0 0 A) (F0 m 160 ls []) := by
                          intro n_65
                          induction n_65 with
                          | zero => intro kk xn H locs ls hm; exact absurd hm (Nat.not_lt_zero _)
                          | succ n_65 ih_lp_64 =>
                            intro kk xn H locs ls hm hkk hfx hP hD hS hl
                            refine lv_iload hx hb dX12_laysWays_160 (lv_at hl 0 rfl) ?_
                            refine lv_bipush (v := 10) hx hb dX12_laysWays_162 (by decide) ?_
                            refine lv_icmp_ge (tgt := 207) hx hb dX12_laysWays_164 (by decide) (fun c_66 => ?_) (fun c_66 => ?_)
                            · have c_66 : 10 ≤ kk := (nle 10 kk (Nat.le_of_ble_eq_true rfl) (by omega)).mp c_66
                              refine lv_aload_n hx hb dX12_laysWays_207 rfl (lv_at hl 5 rfl) ?_
                              refine sk_get (v := .ref (g 44)) (C := RX12) (T := TX12) (N := 92) hx hb hts inlX12 hown hK hP 0 rfl rfl 44 (Nat.le_of_ble_eq_true rfl) w_5_199 rfl dX12_laysWays_208 ?_
                              refine lv_bipush (v := 10) hx hb dX12_laysWays_211 (by decide) ?_
                              refine lv_iload_n hx hb dX12_laysWays_213 rfl (lv_at hl 3 rfl) ?_
                              refine lv_imul hx hb dX12_laysWays_214 ?_
                              refine sk_top (nI (10 * i)) (nmul 10 i) ?_
                              refine lv_iload_n hx hb dX12_laysWays_215 rfl (lv_at hl 2 rfl) ?_
                              refine lv_iadd hx hb dX12_laysWays_216 ?_
                              refine sk_top (nI (10 * i + jm)) (nI_add (10 * i) jm) ?_
                              refine lv_lload hx hb dX12_laysWays_217 (lv_at hl 1 rfl) ?_
                              refine sk_lastP (Pr := bfOk2 (cfL (cfN nw yw yo mt_) (lfW ws_ wd_ wt_)) (a0N nw) i (jm + 1)) (ws' := fun f_67 => [ro_ mm 12 (mo g (nI ta) (nI pa) (nI pe) pd (nI pb) pp pf pg pn rt rn (nI cd) sn (nI il) tk am at_ aa mt_ 0 (nI wd_) (nI wt_) zyb (nI it_) (nI rm) (nI ud) (nI nu) sd (nI qn) (nI qw) qo (nI qb) (nI qp) qa (nI qi) (nI oc)), ra_I (g 20) cI 4 (l4 (nI l0) (nI l1) (nI dm) (nI l3)), ra_I (g 31) cI 120 nw, ra_I (g 37) cZ 900 yo, ra_I (g 36) cZ 900 yw, ra_J (g 43) cJ 90 zb, ra_J (g 44) cJ 90 f_67, ra_I (g 38) cI 90 ws_]) hx hb hK hP hD hS 6 1 rfl rfl (vin (10 * i + jm) 90 (by omega) (Nat.le_of_ble_eq_true rfl)) (fun _ => rfl) (bf_store hbf2 (by omega) (by omega) (fx_fin hfx (by omega))) dX12_laysWays_219 (fun f_67 H locs hf_68 hP hD hS => ?_)
                              refine lv_iload_n hx hb dX12_laysWays_220 rfl (lv_at hl 3 rfl) ?_
                              refine lv_iload_n hx hb dX12_laysWays_221 rfl (lv_at hl 4 rfl) ?_
                              refine lv_icmp_ne (tgt := 236) hx hb dX12_laysWays_222 (by decide) (fun c_69 => ?_) (fun c_69 => ?_)
                              · have c_69 : ¬ (((i : Nat) : Int) = ((dm : Nat) : Int) - 1) := fun h => c_69 ((ieq (ivn i (by omega)) (ivp dm (by omega))).mpr h)
                                refine lv_iinc (v := nI (jm + 1)) (lv' := [(3, .int (nI (jm + 1))), (6, .int (nI kk)), (4, .long xn), (2, .int (nI i)), (1, .int (nI dm - 1)), (0, .ref mm)]) hx hb dX12_laysWays_236 hl (k := 2) rfl (ninc jm 1 (by decide)) (by decide) rfl (fun ls hl => ?_)
                                refine lv_goto (tgt := 125) hx hb dX12_laysWays_239 (by decide) ?_
                                exact ih_lp_10 (jm + 1) zyb f_67 _ _ _ (by omega) (by omega) hf_68 (wy_keep hzyb (by omega)) hP hD hS (lv_sub hl [0, 3, 4, 5] rfl)
                              · have c_69 : ((i : Nat) : Int) = ((dm : Nat) : Int) - 1 := (ieq (ivn i (by omega)) (ivp dm (by omega))).mp c_69
                                refine lv_aload_n hx hb dX12_laysWays_225 rfl (lv_at hl 5 rfl) ?_
                                refine lv_dup hx hb dX12_laysWays_226 rfl ?_
                                refine sk_get (v := .long zyb) (C := RX12) (T := TX12) (N := 92) hx hb hts inlX12 hown hK hP 0 rfl rfl 45 (Nat.le_of_ble_eq_true rfl) w_5_200 rfl dX12_laysWays_227 ?_
                                refine lv_lload hx hb dX12_laysWays_230 (lv_at hl 1 rfl) ?_
                                refine lv_ladd hx hb dX12_laysWays_232 ?_
                                refine lv_topl (fun v_70 ev_70 => ?_)
                                refine sk_put (ws' := [ro_ mm 12 (mo g (nI ta) (nI pa) (nI pe) pd (nI pb) pp pf pg pn rt rn (nI cd) sn (nI il) tk am at_ aa mt_ 0 (nI wd_) (nI wt_) v_70 (nI it_) (nI rm) (nI ud) (nI nu) sd (nI qn) (nI qw) qo (nI qb) (nI qp) qa (nI qi) (nI oc)), ra_I (g 20) cI 4 (l4 (nI l0) (nI l1) (nI dm) (nI l3)), ra_I (g 31) cI 120 nw, ra_I (g 37) cZ 900 yo, ra_I (g 36) cZ 900 yw, ra_J (g 43) cJ 90 zb, ra_J (g 44) cJ 90 f_67, ra_I (g 38) cI 90 ws_]) (C := RX12) (T := TX12) (N := 92) (v := .long v_70) hx hb hts inlX12 tyX12 tyX12_ok nmX12 hown hK hP hD hS 0 rfl rfl 45 (Nat.le_of_ble_eq_true rfl) w_5_200 rfl rfl rfl (Nat.le_of_ble_eq_true rfl) rfl dX12_laysWays_233 (fun H locs hP hD hS => ?_)
                                refine lv_iinc (v := nI (jm + 1)) (lv' := [(3, .int (nI (jm + 1))), (6, .int (nI kk)), (4, .long xn), (2, .int (nI i)), (1, .int (nI dm - 1)), (0, .ref mm)]) hx hb dX12_laysWays_236 hl (k := 2) rfl (ninc jm 1 (by decide)) (by decide) rfl (fun ls hl => ?_)
                                refine lv_goto (tgt := 125) hx hb dX12_laysWays_239 (by decide) ?_
                                exact ih_lp_10 (jm + 1) v_70 f_67 _ _ _ (by omega) (by omega) hf_68 (wy_add hzyb (fx_fin hfx (by omega)) (by omega) ev_70) hP hD hS (lv_sub hl [0, 3, 4, 5] rfl)
                            · have c_66 : ¬ (10 ≤ kk) := fun h => c_66 ((nle 10 kk (Nat.le_of_ble_eq_true rfl) (by omega)).mpr h)
                              refine lv_iload_n hx hb dX12_laysWays_167 rfl (lv_at hl 3 rfl) ?_
                              refine lv_if_le (tgt := 207) hx hb dX12_laysWays_168 (by decide) (fun c_71 => ?_) (fun c_71 => ?_)
                              · have c_71 : i ≤ 0 := (nle i 0 (by omega) (Nat.le_of_ble_eq_true rfl)).mp c_71
                                refine lv_aload_n hx hb dX12_laysWays_207 rfl (lv_at hl 5 rfl) ?_
                                refine sk_get (v := .ref (g 44)) (C := RX12) (T := TX12) (N := 92) hx hb hts inlX12 hown hK hP 0 rfl rfl 44 (Nat.le_of_ble_eq_true rfl) w_5_199 rfl dX12_laysWays_208 ?_
                                refine lv_bipush (v := 10) hx hb dX12_laysWays_211 (by decide) ?_
                                refine lv_iload_n hx hb dX12_laysWays_213 rfl (lv_at hl 3 rfl) ?_
                                refine lv_imul hx hb dX12_laysWays_214 ?_
                                refine sk_top (nI (10 * i)) (nmul 10 i) ?_
                                refine lv_iload_n hx hb dX12_laysWays_215 rfl (lv_at hl 2 rfl) ?_
                                refine lv_iadd hx hb dX12_laysWays_216 ?_
                                refine sk_top (nI (10 * i + jm)) (nI_add (10 * i) jm) ?_
                                refine lv_lload hx hb dX12_laysWays_217 (lv_at hl 1 rfl) ?_
                                refine sk_lastP (Pr := bfOk2 (cfL (cfN nw yw yo mt_) (lfW ws_ wd_ wt_)) (a0N nw) i (jm + 1)) (ws' := fun f_72 => [ro_ mm 12 (mo g (nI ta) (nI pa) (nI pe) pd (nI pb) pp pf pg pn rt rn (nI cd) sn (nI il) tk am at_ aa mt_ 0 (nI wd_) (nI wt_) zyb (nI it_) (nI rm) (nI ud) (nI nu) sd (nI qn) (nI qw) qo (nI qb) (nI qp) qa (nI qi) (nI oc)), ra_I (g 20) cI 4 (l4 (nI l0) (nI l1) (nI dm) (nI l3)), ra_I (g 31) cI 120 nw, ra_I (g 37) cZ 900 yo, ra_I (g 36) cZ 900 yw, ra_J (g 43) cJ 90 zb, ra_J (g 44) cJ 90 f_72, ra_I (g 38) cI 90 ws_]) hx hb hK hP hD hS 6 1 rfl rfl (vin (10 * i + jm) 90 (by omega) (Nat.le_of_ble_eq_true rfl)) (fun _ => rfl) (bf_store hbf2 (by omega) (by omega) (fx_fin hfx (by omega))) dX12_laysWays_219 (fun f_72 H locs hf_73 hP hD hS => ?_)
                                refine lv_iload_n hx hb dX12_laysWays_220 rfl (lv_at hl 3 rfl) ?_
                                refine lv_iload_n hx hb dX12_laysWays_221 rfl (lv_at hl 4 rfl) ?_
                                refine lv_icmp_ne (tgt := 236) hx hb dX12_laysWays_222 (by decide) (fun c_74 => ?_) (fun c_74 => ?_)
                                · have c_74 : ¬ (((i : Nat) : Int) = ((dm : Nat) : Int) - 1) := fun h => c_74 ((ieq (ivn i (by omega)) (ivp dm (by omega))).mpr h)
                                  refine lv_iinc (v := nI (jm + 1)) (lv' := [(3, .int (nI (jm + 1))), (6, .int (nI kk)), (4, .long xn), (2, .int (nI i)), (1, .int (nI dm - 1)), (0, .ref mm)]) hx hb dX12_laysWays_236 hl (k := 2) rfl (ninc jm 1 (by decide)) (by decide) rfl (fun ls hl => ?_)
                                  refine lv_goto (tgt := 125) hx hb dX12_laysWays_239 (by decide) ?_
                                  exact ih_lp_10 (jm + 1) zyb f_72 _ _ _ (by omega) (by omega) hf_73 (wy_keep hzyb (by omega)) hP hD hS (lv_sub hl [0, 3, 4, 5] rfl)
                                · have c_74 : ((i : Nat) : Int) = ((dm : Nat) : Int) - 1 := (ieq (ivn i (by omega)) (ivp dm (by omega))).mp c_74
                                  refine lv_aload_n hx hb dX12_laysWays_225 rfl (lv_at hl 5 rfl) ?_
                                  refine lv_dup hx hb dX12_laysWays_226 rfl ?_
                                  refine sk_get (v := .long zyb) (C := RX12) (T := TX12) (N := 92) hx hb hts inlX12 hown hK hP 0 rfl rfl 45 (Nat.le_of_ble_eq_true rfl) w_5_200 rfl dX12_laysWays_227 ?_
                                  refine lv_lload hx hb dX12_laysWays_230 (lv_at hl 1 rfl) ?_
                                  refine lv_ladd hx hb dX12_laysWays_232 ?_
                                  refine lv_topl (fun v_75 ev_75 => ?_)
                                  refine sk_put (ws' := [ro_ mm 12 (mo g (nI ta) (nI pa) (nI pe) pd (nI pb) pp pf pg pn rt rn (nI cd) sn (nI il) tk am at_ aa mt_ 0 (nI wd_) (nI wt_) v_75 (nI it_) (nI rm) (nI ud) (nI nu) sd (nI qn) (nI qw) qo (nI qb) (nI qp) qa (nI qi) (nI oc)), ra_I (g 20) cI 4 (l4 (nI l0) (nI l1) (nI dm) (nI l3)), ra_I (g 31) cI 120 nw, ra_I (g 37) cZ 900 yo, ra_I (g 36) cZ 900 yw, ra_J (g 43) cJ 90 zb, ra_J (g 44) cJ 90 f_72, ra_I (g 38) cI 90 ws_]) (C := RX12) (T := TX12) (N := 92) (v := .long v_75) hx hb hts inlX12 tyX12 tyX12_ok nmX12 hown hK hP hD hS 0 rfl rfl 45 (Nat.le_of_ble_eq_true rfl) w_5_200 rfl rfl rfl (Nat.le_of_ble_eq_true rfl) rfl dX12_laysWays_233 (fun H locs hP hD hS => ?_)
                                  refine lv_iinc (v := nI (jm + 1)) (lv' := [(3, .int (nI (jm + 1))), (6, .int (nI kk)), (4, .long xn), (2, .int (nI i)), (1, .int (nI dm - 1)), (0, .ref mm)]) hx hb dX12_laysWays_236 hl (k := 2) rfl (ninc jm 1 (by decide)) (by decide) rfl (fun ls hl => ?_)
                                  refine lv_goto (tgt := 125) hx hb dX12_laysWays_239 (by decide) ?_
                                  exact ih_lp_10 (jm + 1) v_75 f_72 _ _ _ (by omega) (by omega) hf_73 (wy_add hzyb (fx_fin hfx (by omega)) (by omega) ev_75) hP hD hS (lv_sub hl [0, 3, 4, 5] rfl)
                              · have c_71 : ¬ (i ≤ 0) := fun h => c_71 ((nle i 0 (by omega) (Nat.le_of_ble_eq_true rfl)).mpr h)
                                refine lv_aload_n hx hb dX12_laysWays_171 rfl (lv_at hl 5 rfl) ?_
                                refine lv_iload_n hx hb dX12_laysWays_172 rfl (lv_at hl 3 rfl) ?_
                                refine lv_iload hx hb dX12_laysWays_173 (lv_at hl 0 rfl) ?_
                                refine lv_iload_n hx hb dX12_laysWays_175 rfl (lv_at hl 2 rfl) ?_
                                refine sk_Vi (q0 := 0) (n := 3) (rest := []) (wr := fmR om_8_b9 _) ⟨hx, hb, hml, hown, hts⟩ hl.1 (c_vm_canFollowW l D cI cJ cC cZ cS mm g ta pa pe pd pb pp pf pg pn rt rn cd sn il tk am at_ aa mt_ zyb it_ rm ud nu sd qn qw qo qb qp qa qi oc i kk jm nw ws_ yo yw wd_ wt_ (by omega) (by omega) (by omega) hwd9 hnw) w_7_201 w_7_203 w_0_85 w_1_14 w_7_204 hd_X12_canFollow_3 ⟨⟨(Nat.le_of_ble_eq_true rfl), (Nat.le_of_ble_eq_true rfl)⟩, (Nat.le_of_ble_eq_true rfl), (Nat.le_of_ble_eq_true rfl)⟩ hK hP hD hS hA [0, 2, 7, 3, 4] (fmF om_8_b9 0) rfl (fm_R rfl rfl) (by decide +kernel) (fm_nF om_8_b9 0) (by decide +kernel) rfl rfl rfl rfl (Nat.le_of_ble_eq_true rfl) dX12_laysWays_176 (fun r_77 u H locs hw hP hD hS => ?_)
                                refine exE hw (fun b_76 hw1 => anE hw1 (fun hb1_78 hw2 => anE hw2 (fun hb2_79 hw3 => anE hw3 (fun er_81 eu_80 => ?_))))
                                clear hw hw1 hw2 hw3
                                subst er_81
                                refine o_mgqE (ux := [ro_ mm 12 (mo g (nI ta) (nI pa) (nI pe) pd (nI pb) pp pf pg pn rt rn (nI cd) sn (nI il) tk am at_ aa mt_ 0 (nI wd_) (nI wt_) zyb (nI it_) (nI rm) (nI ud) (nI nu) sd (nI qn) (nI qw) qo (nI qb) (nI qp) qa (nI qi) (nI oc)), ra_I (g 31) cI 120 nw, ra_I (g 37) cZ 900 yo, ra_I (g 36) cZ 900 yw, ra_I (g 38) cI 90 ws_]) (ws' := [ro_ mm 12 (mo g (nI ta) (nI pa) (nI pe) pd (nI pb) pp pf pg pn rt rn (nI cd) sn (nI il) tk am at_ aa mt_ 0 (nI wd_) (nI wt_) zyb (nI it_) (nI rm) (nI ud) (nI nu) sd (nI qn) (nI qw) qo (nI qb) (nI qp) qa (nI qi) (nI oc)), ra_I (g 20) cI 4 (l4 (nI l0) (nI l1) (nI dm) (nI l3)), ra_I (g 31) cI 120 nw, ra_I (g 37) cZ 900 yo, ra_I (g 36) cZ 900 yw, ra_J (g 43) cJ 90 zb, ra_J (g 44) cJ 90 zg, ra_I (g 38) cI 90 ws_]) eu_80 [0, 1, 3, 4, 2] (by decide +kernel) rfl hP hD rfl (fun hP hD => ?_)
                                refine lv_if_eq (tgt := 201) hx hb dX12_laysWays_179 (by decide) (fun c_82 => ?_) (fun c_82 => ?_)
                                · have c_82 : b_76 = 0 := (neq b_76 0 (by omega) (Nat.le_of_ble_eq_true rfl)).mp c_82
                                  refine lv_iinc (v := nI (kk + 1)) (lv' := [(6, .int (nI (kk + 1))), (4, .long xn), (3, .int (nI jm)), (2, .int (nI i)), (1, .int (nI dm - 1)), (0, .ref mm)]) hx hb dX12_laysWays_201 hl (k := 0) rfl (ninc kk 1 (by decide)) (by decide) rfl (fun ls hl => ?_)
                                  refine lv_goto (tgt := 160) hx hb dX12_laysWays_204 (by decide) ?_
                                  exact ih_lp_64 (kk + 1) xn _ _ _ (by omega) (by omega) (fx_no hfx (by omega) (or_0 hb1_78 (by omega))) hP hD hS (lv_sub hl [0, 1, 2, 3, 4, 5] rfl)
                                · have c_82 : ¬ (b_76 = 0) := fun h => c_82 ((neq b_76 0 (by omega) (Nat.le_of_ble_eq_true rfl)).mpr h)
                                  refine lv_lload hx hb dX12_laysWays_182 (lv_at hl 1 rfl) ?_
                                  refine lv_aload_n hx hb dX12_laysWays_184 rfl (lv_at hl 5 rfl) ?_
                                  refine sk_get (v := .ref (g 44)) (C := RX12) (T := TX12) (N := 92) hx hb hts inlX12 hown hK hP 0 rfl rfl 44 (Nat.le_of_ble_eq_true rfl) w_5_199 rfl dX12_laysWays_185 ?_
                                  refine lv_bipush (v := 10) hx hb dX12_laysWays_188 (by decide) ?_
                                  refine lv_iload_n hx hb dX12_laysWays_190 rfl (lv_at hl 3 rfl) ?_
                                  refine lv_iconst (v := 1) hx hb dX12_laysWays_191 ic_1 ?_
                                  refine lv_isub hx hb dX12_laysWays_192 ?_
                                  refine sk_top (nI (i - 1)) (nsub i 1 (by omega)) ?_
                                  refine lv_imul hx hb dX12_laysWays_193 ?_
                                  refine sk_top (nI (10 * (i - 1))) (nmul 10 (i - 1)) ?_
                                  refine lv_iload hx hb dX12_laysWays_194 (lv_at hl 0 rfl) ?_
                                  refine lv_iadd hx hb dX12_laysWays_196 ?_
                                  refine sk_top (nI (10 * (i - 1) + kk)) (nI_add (10 * (i - 1)) kk) ?_
                                  refine va_lald hx hb hK.1 hP 6 1 rfl rfl (vin (10 * (i - 1) + kk) 90 (by omega) (Nat.le_of_ble_eq_true rfl)) dX12_laysWays_197 ?_
                                  refine lv_topl (fun v_83 ev_83 => ?_)
                                  refine lv_ladd hx hb dX12_laysWays_198 ?_
                                  refine lv_topl (fun v_84 ev_84 => ?_)
                                  refine lv_lstore (lv' := [(4, .long v_84), (6, .int (nI kk)), (3, .int (nI jm)), (2, .int (nI i)), (1, .int (nI dm - 1)), (0, .ref mm)]) hx hb dX12_laysWays_199 hl (by decide) rfl (fun ls hl => ?_)
                                  refine lv_iinc (v := nI (kk + 1)) (lv' := [(6, .int (nI (kk + 1))), (4, .long v_84), (3, .int (nI jm)), (2, .int (nI i)), (1, .int (nI dm - 1)), (0, .ref mm)]) hx hb dX12_laysWays_201 hl (k := 1) rfl (ninc kk 1 (by decide)) (by decide) rfl (fun ls hl => ?_)
                                  refine lv_goto (tgt := 160) hx hb dX12_laysWays_204 (by decide) ?_
                                  exact ih_lp_64 (kk + 1) v_84 _ _ _ (by omega) (by omega) (fx_yes hfx (by omega) (or_1 hb1_78 (by omega)) (bf_get hbf2.1 (by omega) (by omega) (by omega) ev_83) ev_84) hP hD hS (lv_sub hl [0, 1, 2, 3, 4, 5] rfl)
                        exact lp_64 (10 - 0 + 1) 0 1 _ _ _ (Nat.lt_succ_self _) (by omega) (fx_1 (by omega) (by rw [← ha0]; exact or_1 hb1_38 (by omega))) hP hD hS (lv_sub hl [0, 1, 2, 3, 4, 5] rfl)
              exact lp_10 (10 - 0 + 1) 0 zy zf _ _ _ (Nat.lt_succ_self _) (by omega) (bf_0 hbf) (wy_0 hzy (by omega)) hP hD hS (lv_sub hl [0, 1, 2, 3] rfl)
        exact lp_7 (dm - 0 + 1) 0 0 bf _ _ _ (Nat.lt_succ_self _) (by omega) (bf_init _ _ _) (wy_init _ _ (by omega)) hP hD hS (lv_sub hl [0, 1, 2] rfl)
      · have c_6 : 1 ≤ dd := npm1 dd c_6
        rw [npred dd (by omega)] at hl
        refine lv_iconst (v := 0) hx hb dX12_laysWays_13 ic_0 ?_
        refine lv_istore_n (lv' := [(3, .int 0), (2, .int (nI (dd - 1))), (1, .int (nI dm - 1)), (0, .ref mm)]) hx hb dX12_laysWays_14 rfl hl (by decide) rfl (fun ls hl => ?_)
        have lp_85 : ∀ (n_86 : Nat) (jm : Nat) (zc : Nat → Int64) (H : Heap) (locs : List Loc) (ls : Array Slot), 10 - jm < n_86 → (jm ≤ 10) → (beOk2 (cfL (cfN nw yw yo mt_) (lfW ws_ wd_ wt_)) dm (dd - 1) jm zc) → va_P D vwCl [ro_ mm 12 (mo g (nI ta) (nI pa) (nI pe) pd (nI pb) pp pf pg pn rt rn (nI cd) sn (nI il) tk am at_ aa mt_ 0 (nI wd_) (nI wt_) wy (nI it_) (nI rm) (nI ud) (nI nu) sd (nI qn) (nI qw) qo (nI qb) (nI qp) qa (nI qi) (nI oc)), ra_I (g 20) cI 4 (l4 (nI l0) (nI l1) (nI dm) (nI l3)), ra_I (g 31) cI 120 nw, ra_I (g 37) cZ 900 yo, ra_I (g 36) cZ 900 yw, ra_J (g 43) cJ 90 zc, ra_J (g 44) cJ 90 bf, ra_I (g 38) cI 90 ws_] H → va_D A [ro_ mm 12 (mo g (nI ta) (nI pa) (nI pe) pd (nI pb) pp pf pg pn rt rn (nI cd) sn (nI il) tk am at_ aa mt_ 0 (nI wd_) (nI wt_) wy (nI it_) (nI rm) (nI ud) (nI nu) sd (nI qn) (nI qw) qo (nI qb) (nI qp) qa (nI qi) (nI oc)), ra_I (g 20) cI 4 (l4 (nI l0) (nI l1) (nI dm) (nI l3)), ra_I (g 31) cI 120 nw, ra_I (g 37) cZ 900 yo, ra_I (g 36) cZ 900 yw, ra_J (g 43) cJ 90 zc, ra_J (g 44) cJ 90 bf, ra_I (g 38) cI 90 ws_] → va_S A s.heap H locs → lv_has ls 7 [(3, .int (nI jm)), (2, .int (nI (dd - 1))), (1, .int (nI dm - 1)), (0, .ref mm)] → W p l e { frames := 3, cells := 0, slots := 0, locals := 66 } s m ([.ref mm] : List Value).toArray below meth c H locs 0 0 (MQ below (skV D (skT cI cJ cC cZ cS) (fun (u : va_W) => ∃ (wy2 : Int64), ∃ (be2 : Nat → Int64), ∃ (bf2 : Nat → Int64), beOk (cfL (cfN nw yw yo mt_) (lfW ws_ wd_ wt_)) dm 0 be2 ∧ bfOk (cfL (cfN nw yw yo mt_) (lfW ws_ wd_ wt_)) (a0N nw) dm bf2 ∧ wy2 = nL (wys (cfL (cfN nw yw yo mt_) (lfW ws_ wd_ wt_)) (a0N nw) (dm - 1)) ∧ u = [ro_ mm 12 (mo g (nI ta) (nI pa) (nI pe) pd (nI pb) pp pf pg pn rt rn (nI cd) sn (nI il) tk am at_ aa mt_ 0 (nI wd_) (nI wt_) wy2 (nI it_) (nI rm) (nI ud) (nI nu) sd (nI qn) (nI qw) qo (nI qb) (nI qp) qa (nI qi) (nI oc)), ra_I (g 20) cI 4 (l4 (nI l0) (nI l1) (nI dm) (nI l3)), ra_I (g 31) cI 120 nw, ra_I (g 37) cZ 900 yo, ra_I (g 36) cZ 900 yw, ra_J (g 43) cJ 90 be2, ra_J (g 44) cJ 90 bf2, ra_I (g 38) cI 90 ws_]) A) ([.ref mm] : List Value).toArray s 0 0 A) (F0 m 15 ls []) := by
          intro n_86
          induction n_86 with
          | zero => intro jm zc H locs ls hm; exact absurd hm (Nat.not_lt_zero _)
          | succ n_86 ih_lp_85 =>
            intro jm zc H locs ls hm hjm hbe2 hP hD hS hl
            refine lv_iload_n hx hb dX12_laysWays_15 rfl (lv_at hl 0 rfl) ?_
            refine lv_bipush (v := 10) hx hb dX12_laysWays_16 (by decide) ?_
            refine lv_icmp_ge (tgt := 105) hx hb dX12_laysWays_18 (by decide) (fun c_87 => ?_) (fun c_87 => ?_)
            · have c_87 : 10 ≤ jm := (nle 10 jm (Nat.le_of_ble_eq_true rfl) (by omega)).mp c_87
              refine lv_iinc (v := nI (dd - 1) - 1) (lv' := [(2, .int (nI (dd - 1) - 1)), (3, .int (nI jm)), (1, .int (nI dm - 1)), (0, .ref mm)]) hx hb dX12_laysWays_105 hl (k := 1) rfl (ndn _) (by decide) rfl (fun ls hl => ?_)
              refine lv_goto (tgt := 9) hx hb dX12_laysWays_108 (by decide) ?_
              exact ih_lp_4 (dd - 1) zc _ _ _ (by omega) (by omega) (be_fin hbe2 (by omega)) hP hD hS (lv_sub hl [0, 2, 3] rfl)
            · have c_87 : ¬ (10 ≤ jm) := fun h => c_87 ((nle 10 jm (Nat.le_of_ble_eq_true rfl) (by omega)).mpr h)
              refine lv_iload_n hx hb dX12_laysWays_21 rfl (lv_at hl 1 rfl) ?_
              refine lv_iload_n hx hb dX12_laysWays_22 rfl (lv_at hl 2 rfl) ?_
              refine lv_icmp_ne (tgt := 30) hx hb dX12_laysWays_23 (by decide) (fun c_88 => ?_) (fun c_88 => ?_)
              · have c_88 : ¬ (((dd - 1 : Nat) : Int) = ((dm : Nat) : Int) - 1) := fun h => c_88 ((ieq (ivn (dd - 1) (by omega)) (ivp dm (by omega))).mpr h)
                refine lv_lconst (v := 0) hx hb dX12_laysWays_30 (by decide) ?_
                refine lv_lstore (lv' := [(4, .long 0), (3, .int (nI jm)), (2, .int (nI (dd - 1))), (1, .int (nI dm - 1)), (0, .ref mm)]) hx hb dX12_laysWays_31 hl (by decide) rfl (fun ls hl => ?_)
                refine lv_iconst (v := 0) hx hb dX12_laysWays_33 ic_0 ?_
                refine lv_istore (lv' := [(6, .int 0), (4, .long 0), (3, .int (nI jm)), (2, .int (nI (dd - 1))), (1, .int (nI dm - 1)), (0, .ref mm)]) hx hb dX12_laysWays_34 hl (by decide) rfl (fun ls hl => ?_)
                have lp_89 : ∀ (n_90 : Nat) (kk : Nat) (xn : Int64) (H : Heap) (locs : List Loc) (ls : Array Slot), 10 - kk < n_90 → (kk ≤ 10) → (bx (cfL (cfN nw yw yo mt_) (lfW ws_ wd_ wt_)) dm (dd - 1) jm kk xn) → va_P D vwCl [ro_ mm 12 (mo g (nI ta) (nI pa) (nI pe) pd (nI pb) pp pf pg pn rt rn (nI cd) sn (nI il) tk am at_ aa mt_ 0 (nI wd_) (nI wt_) wy (nI it_) (nI rm) (nI ud) (nI nu) sd (nI qn) (nI qw) qo (nI qb) (nI qp) qa (nI qi) (nI oc)), ra_I (g 20) cI 4 (l4 (nI l0) (nI l1) (nI dm) (nI l3)), ra_I (g 31) cI 120 nw, ra_I (g 37) cZ 900 yo, ra_I (g 36) cZ 900 yw, ra_J (g 43) cJ 90 zc, ra_J (g 44) cJ 90 bf, ra_I (g 38) cI 90 ws_] H → va_D A [ro_ mm 12 (mo g (nI ta) (nI pa) (nI pe) pd (nI pb) pp pf pg pn rt rn (nI cd) sn (nI il) tk am at_ aa mt_ 0 (nI wd_) (nI wt_) wy (nI it_) (nI rm) (nI ud) (nI nu) sd (nI qn) (nI qw) qo (nI qb) (nI qp) qa (nI qi) (nI oc)), ra_I (g 20) cI 4 (l4 (nI l0) (nI l1) (nI dm) (nI l3)), ra_I (g 31) cI 120 nw, ra_I (g 37) cZ 900 yo, ra_I (g 36) cZ 900 yw, ra_J (g 43) cJ 90 zc, ra_J (g 44) cJ 90 bf, ra_I (g 38) cI 90 ws_] → va_S A s.heap H locs → lv_has ls 7 [(6, .int (nI kk)), (4, .long xn), (3, .int (nI jm)), (2, .int (nI (dd - 1))), (1, .int (nI dm - 1)), (0, .ref mm)] → W p l e { frames := 3, cells := 0, slots := 0, locals := 66 } s m ([.ref mm] : List Value).toArray below meth c H locs 0 0 (MQ below (skV D (skT cI cJ cC cZ cS) (fun (u : va_W) => ∃ (wy2 : Int64), ∃ (be2 : Nat → Int64), ∃ (bf2 : Nat → Int64), beOk (cfL (cfN nw yw yo mt_) (lfW ws_ wd_ wt_)) dm 0 be2 ∧ bfOk (cfL (cfN nw yw yo mt_) (lfW ws_ wd_ wt_)) (a0N nw) dm bf2 ∧ wy2 = nL (wys (cfL (cfN nw yw yo mt_) (lfW ws_ wd_ wt_)) (a0N nw) (dm - 1)) ∧ u = [ro_ mm 12 (mo g (nI ta) (nI pa) (nI pe) pd (nI pb) pp pf pg pn rt rn (nI cd) sn (nI il) tk am at_ aa mt_ 0 (nI wd_) (nI wt_) wy2 (nI it_) (nI rm) (nI ud) (nI nu) sd (nI qn) (nI qw) qo (nI qb) (nI qp) qa (nI qi) (nI oc)), ra_I (g 20) cI 4 (l4 (nI l0) (nI l1) (nI dm) (nI l3)), ra_I (g 31) cI 120 nw, ra_I (g 37) cZ 900 yo, ra_I (g 36) cZ 900 yw, ra_J (g 43) cJ 90 be2, ra_J (g 44) cJ 90 bf2, ra_I (g 38) cI 90 ws_]) A) ([.ref mm] : List Value).toArray s 0 0 A) (F0 m 36 ls []) := by
                  intro n_90
                  induction n_90 with
                  | zero => intro kk xn H locs ls hm; exact absurd hm (Nat.not_lt_zero _)
                  | succ n_90 ih_lp_89 =>
                    intro kk xn H locs ls hm hkk hbx hP hD hS hl
                    refine lv_iload hx hb dX12_laysWays_36 (lv_at hl 0 rfl) ?_
                    refine lv_bipush (v := 10) hx hb dX12_laysWays_38 (by decide) ?_
                    refine lv_icmp_ge (tgt := 86) hx hb dX12_laysWays_40 (by decide) (fun c_91 => ?_) (fun c_91 => ?_)
                    · have c_91 : 10 ≤ kk := (nle 10 kk (Nat.le_of_ble_eq_true rfl) (by omega)).mp c_91
                      refine lv_aload_n hx hb dX12_laysWays_86 rfl (lv_at hl 5 rfl) ?_
                      refine sk_get (v := .ref (g 43)) (C := RX12) (T := TX12) (N := 92) hx hb hts inlX12 hown hK hP 0 rfl rfl 43 (Nat.le_of_ble_eq_true rfl) w_5_198 rfl dX12_laysWays_87 ?_
                      refine lv_bipush (v := 10) hx hb dX12_laysWays_90 (by decide) ?_
                      refine lv_iload_n hx hb dX12_laysWays_92 rfl (lv_at hl 3 rfl) ?_
                      refine lv_imul hx hb dX12_laysWays_93 ?_
                      refine sk_top (nI (10 * (dd - 1))) (nmul 10 (dd - 1)) ?_
                      refine lv_iload_n hx hb dX12_laysWays_94 rfl (lv_at hl 2 rfl) ?_
                      refine lv_iadd hx hb dX12_laysWays_95 ?_
                      refine sk_top (nI (10 * (dd - 1) + jm)) (nI_add (10 * (dd - 1)) jm) ?_
                      refine lv_lload hx hb dX12_laysWays_96 (lv_at hl 1 rfl) ?_
                      refine sk_lastP (Pr := beOk2 (cfL (cfN nw yw yo mt_) (lfW ws_ wd_ wt_)) dm (dd - 1) (jm + 1)) (ws' := fun f_92 => [ro_ mm 12 (mo g (nI ta) (nI pa) (nI pe) pd (nI pb) pp pf pg pn rt rn (nI cd) sn (nI il) tk am at_ aa mt_ 0 (nI wd_) (nI wt_) wy (nI it_) (nI rm) (nI ud) (nI nu) sd (nI qn) (nI qw) qo (nI qb) (nI qp) qa (nI qi) (nI oc)), ra_I (g 20) cI 4 (l4 (nI l0) (nI l1) (nI dm) (nI l3)), ra_I (g 31) cI 120 nw, ra_I (g 37) cZ 900 yo, ra_I (g 36) cZ 900 yw, ra_J (g 43) cJ 90 f_92, ra_J (g 44) cJ 90 bf, ra_I (g 38) cI 90 ws_]) hx hb hK hP hD hS 5 1 rfl rfl (vin (10 * (dd - 1) + jm) 90 (by omega) (Nat.le_of_ble_eq_true rfl)) (fun _ => rfl) (be_store hbe2 (by omega) (by omega) (bx_fin hbx (by omega))) dX12_laysWays_98 (fun f_92 H locs hf_93 hP hD hS => ?_)
                      refine lv_iinc (v := nI (jm + 1)) (lv' := [(3, .int (nI (jm + 1))), (6, .int (nI kk)), (4, .long xn), (2, .int (nI (dd - 1))), (1, .int (nI dm - 1)), (0, .ref mm)]) hx hb dX12_laysWays_99 hl (k := 2) rfl (ninc jm 1 (by decide)) (by decide) rfl (fun ls hl => ?_)
                      refine lv_goto (tgt := 15) hx hb dX12_laysWays_102 (by decide) ?_
                      exact ih_lp_85 (jm + 1) f_92 _ _ _ (by omega) (by omega) hf_93 hP hD hS (lv_sub hl [0, 3, 4, 5] rfl)
                    · have c_91 : ¬ (10 ≤ kk) := fun h => c_91 ((nle 10 kk (Nat.le_of_ble_eq_true rfl) (by omega)).mpr h)
                      refine lv_iload_n hx hb dX12_laysWays_43 rfl (lv_at hl 3 rfl) ?_
                      refine lv_iload_n hx hb dX12_laysWays_44 rfl (lv_at hl 4 rfl) ?_
                      refine lv_icmp_ge (tgt := 86) hx hb dX12_laysWays_45 (by decide) (fun c_94 => ?_) (fun c_94 => ?_)
                      · have c_94 : ((dm : Nat) : Int) - 1 ≤ ((dd - 1 : Nat) : Int) := (ile (ivp dm (by omega)) (ivn (dd - 1) (by omega))).mp c_94
                        refine lv_aload_n hx hb dX12_laysWays_86 rfl (lv_at hl 5 rfl) ?_
                        refine sk_get (v := .ref (g 43)) (C := RX12) (T := TX12) (N := 92) hx hb hts inlX12 hown hK hP 0 rfl rfl 43 (Nat.le_of_ble_eq_true rfl) w_5_198 rfl dX12_laysWays_87 ?_
                        refine lv_bipush (v := 10) hx hb dX12_laysWays_90 (by decide) ?_
                        refine lv_iload_n hx hb dX12_laysWays_92 rfl (lv_at hl 3 rfl) ?_
                        refine lv_imul hx hb dX12_laysWays_93 ?_
                        refine sk_top (nI (10 * (dd - 1))) (nmul 10 (dd - 1)) ?_
                        refine lv_iload_n hx hb dX12_laysWays_94 rfl (lv_at hl 2 rfl) ?_
                        refine lv_iadd hx hb dX12_laysWays_95 ?_
                        refine sk_top (nI (10 * (dd - 1) + jm)) (nI_add (10 * (dd - 1)) jm) ?_
                        refine lv_lload hx hb dX12_laysWays_96 (lv_at hl 1 rfl) ?_
                        refine sk_lastP (Pr := beOk2 (cfL (cfN nw yw yo mt_) (lfW ws_ wd_ wt_)) dm (dd - 1) (jm + 1)) (ws' := fun f_95 => [ro_ mm 12 (mo g (nI ta) (nI pa) (nI pe) pd (nI pb) pp pf pg pn rt rn (nI cd) sn (nI il) tk am at_ aa mt_ 0 (nI wd_) (nI wt_) wy (nI it_) (nI rm) (nI ud) (nI nu) sd (nI qn) (nI qw) qo (nI qb) (nI qp) qa (nI qi) (nI oc)), ra_I (g 20) cI 4 (l4 (nI l0) (nI l1) (nI dm) (nI l3)), ra_I (g 31) cI 120 nw, ra_I (g 37) cZ 900 yo, ra_I (g 36) cZ 900 yw, ra_J (g 43) cJ 90 f_95, ra_J (g 44) cJ 90 bf, ra_I (g 38) cI 90 ws_]) hx hb hK hP hD hS 5 1 rfl rfl (vin (10 * (dd - 1) + jm) 90 (by omega) (Nat.le_of_ble_eq_true rfl)) (fun _ => rfl) (be_store hbe2 (by omega) (by omega) (bx_fin hbx (by omega))) dX12_laysWays_98 (fun f_95 H locs hf_96 hP hD hS => ?_)
                        refine lv_iinc (v := nI (jm + 1)) (lv' := [(3, .int (nI (jm + 1))), (6, .int (nI kk)), (4, .long xn), (2, .int (nI (dd - 1))), (1, .int (nI dm - 1)), (0, .ref mm)]) hx hb dX12_laysWays_99 hl (k := 2) rfl (ninc jm 1 (by decide)) (by decide) rfl (fun ls hl => ?_)
                        refine lv_goto (tgt := 15) hx hb dX12_laysWays_102 (by decide) ?_
                        exact ih_lp_85 (jm + 1) f_95 _ _ _ (by omega) (by omega) hf_96 hP hD hS (lv_sub hl [0, 3, 4, 5] rfl)
                      · have c_94 : ¬ (((dm : Nat) : Int) - 1 ≤ ((dd - 1 : Nat) : Int)) := fun h => c_94 ((ile (ivp dm (by omega)) (ivn (dd - 1) (by omega))).mpr h)
                        refine lv_aload_n hx hb dX12_laysWays_48 rfl (lv_at hl 5 rfl) ?_
                        refine lv_iload_n hx hb dX12_laysWays_49 rfl (lv_at hl 3 rfl) ?_
                        refine lv_iconst (v := 1) hx hb dX12_laysWays_50 ic_1 ?_
                        refine lv_iadd hx hb dX12_laysWays_51 ?_
                        refine sk_top (nI (dd - 1 + 1)) (nI_add (dd - 1) 1) ?_
                        refine lv_iload_n hx hb dX12_laysWays_52 rfl (lv_at hl 2 rfl) ?_
                        refine lv_iload hx hb dX12_laysWays_53 (lv_at hl 0 rfl) ?_
                        refine sk_Vi (q0 := 0) (n := 3) (rest := []) (wr := fmR om_8_b9 _) ⟨hx, hb, hml, hown, hts⟩ hl.1 (c_vm_canFollowW l D cI cJ cC cZ cS mm g ta pa pe pd pb pp pf pg pn rt rn cd sn il tk am at_ aa mt_ wy it_ rm ud nu sd qn qw qo qb qp qa qi oc (dd - 1 + 1) jm kk nw ws_ yo yw wd_ wt_ (by omega) (by omega) (by omega) hwd9 hnw) w_7_201 w_7_203 w_0_85 w_1_14 w_7_204 hd_X12_canFollow_3 ⟨⟨(Nat.le_of_ble_eq_true rfl), (Nat.le_of_ble_eq_true rfl)⟩, (Nat.le_of_ble_eq_true rfl), (Nat.le_of_ble_eq_true rfl)⟩ hK hP hD hS hA [0, 2, 7, 3, 4] (fmF om_8_b9 0) rfl (fm_R rfl rfl) (by decide +kernel) (fm_nF om_8_b9 0) (by decide +kernel) rfl rfl rfl rfl (Nat.le_of_ble_eq_true rfl) dX12_laysWays_55 (fun r_98 u H locs hw hP hD hS => ?_)
                        refine exE hw (fun b_97 hw1 => anE hw1 (fun hb1_99 hw2 => anE hw2 (fun hb2_100 hw3 => anE hw3 (fun er_102 eu_101 => ?_))))
                        clear hw hw1 hw2 hw3
                        subst er_102
                        refine o_mgqE (ux := [ro_ mm 12 (mo g (nI ta) (nI pa) (nI pe) pd (nI pb) pp pf pg pn rt rn (nI cd) sn (nI il) tk am at_ aa mt_ 0 (nI wd_) (nI wt_) wy (nI it_) (nI rm) (nI ud) (nI nu) sd (nI qn) (nI qw) qo (nI qb) (nI qp) qa (nI qi) (nI oc)), ra_I (g 31) cI 120 nw, ra_I (g 37) cZ 900 yo, ra_I (g 36) cZ 900 yw, ra_I (g 38) cI 90 ws_]) (ws' := [ro_ mm 12 (mo g (nI ta) (nI pa) (nI pe) pd (nI pb) pp pf pg pn rt rn (nI cd) sn (nI il) tk am at_ aa mt_ 0 (nI wd_) (nI wt_) wy (nI it_) (nI rm) (nI ud) (nI nu) sd (nI qn) (nI qw) qo (nI qb) (nI qp) qa (nI qi) (nI oc)), ra_I (g 20) cI 4 (l4 (nI l0) (nI l1) (nI dm) (nI l3)), ra_I (g 31) cI 120 nw, ra_I (g 37) cZ 900 yo, ra_I (g 36) cZ 900 yw, ra_J (g 43) cJ 90 zc, ra_J (g 44) cJ 90 bf, ra_I (g 38) cI 90 ws_]) eu_101 [0, 1, 3, 4, 2] (by decide +kernel) rfl hP hD rfl (fun hP hD => ?_)
                        refine lv_if_eq (tgt := 80) hx hb dX12_laysWays_58 (by decide) (fun c_103 => ?_) (fun c_103 => ?_)
                        · have c_103 : b_97 = 0 := (neq b_97 0 (by omega) (Nat.le_of_ble_eq_true rfl)).mp c_103
                          refine lv_iinc (v := nI (kk + 1)) (lv' := [(6, .int (nI (kk + 1))), (4, .long xn), (3, .int (nI jm)), (2, .int (nI (dd - 1))), (1, .int (nI dm - 1)), (0, .ref mm)]) hx hb dX12_laysWays_80 hl (k := 0) rfl (ninc kk 1 (by decide)) (by decide) rfl (fun ls hl => ?_)
                          refine lv_goto (tgt := 36) hx hb dX12_laysWays_83 (by decide) ?_
                          exact ih_lp_89 (kk + 1) xn _ _ _ (by omega) (by omega) (bx_no hbx (by omega) (or_0 hb1_99 (by omega))) hP hD hS (lv_sub hl [0, 1, 2, 3, 4, 5] rfl)
                        · have c_103 : ¬ (b_97 = 0) := fun h => c_103 ((neq b_97 0 (by omega) (Nat.le_of_ble_eq_true rfl)).mpr h)
                          refine lv_lload hx hb dX12_laysWays_61 (lv_at hl 1 rfl) ?_
                          refine lv_aload_n hx hb dX12_laysWays_63 rfl (lv_at hl 5 rfl) ?_
                          refine sk_get (v := .ref (g 43)) (C := RX12) (T := TX12) (N := 92) hx hb hts inlX12 hown hK hP 0 rfl rfl 43 (Nat.le_of_ble_eq_true rfl) w_5_198 rfl dX12_laysWays_64 ?_
                          refine lv_bipush (v := 10) hx hb dX12_laysWays_67 (by decide) ?_
                          refine lv_iload_n hx hb dX12_laysWays_69 rfl (lv_at hl 3 rfl) ?_
                          refine lv_iconst (v := 1) hx hb dX12_laysWays_70 ic_1 ?_
                          refine lv_iadd hx hb dX12_laysWays_71 ?_
                          refine sk_top (nI (dd - 1 + 1)) (nI_add (dd - 1) 1) ?_
                          refine lv_imul hx hb dX12_laysWays_72 ?_
                          refine sk_top (nI (10 * (dd - 1 + 1))) (nmul 10 (dd - 1 + 1)) ?_
                          refine lv_iload hx hb dX12_laysWays_73 (lv_at hl 0 rfl) ?_
                          refine lv_iadd hx hb dX12_laysWays_75 ?_
                          refine sk_top (nI (10 * (dd - 1 + 1) + kk)) (nI_add (10 * (dd - 1 + 1)) kk) ?_
                          refine va_lald hx hb hK.1 hP 5 1 rfl rfl (vin (10 * (dd - 1 + 1) + kk) 90 (by omega) (Nat.le_of_ble_eq_true rfl)) dX12_laysWays_76 ?_
                          refine lv_topl (fun v_104 ev_104 => ?_)
                          refine lv_ladd hx hb dX12_laysWays_77 ?_
                          refine lv_topl (fun v_105 ev_105 => ?_)
                          refine lv_lstore (lv' := [(4, .long v_105), (6, .int (nI kk)), (3, .int (nI jm)), (2, .int (nI (dd - 1))), (1, .int (nI dm - 1)), (0, .ref mm)]) hx hb dX12_laysWays_78 hl (by decide) rfl (fun ls hl => ?_)
                          refine lv_iinc (v := nI (kk + 1)) (lv' := [(6, .int (nI (kk + 1))), (4, .long v_105), (3, .int (nI jm)), (2, .int (nI (dd - 1))), (1, .int (nI dm - 1)), (0, .ref mm)]) hx hb dX12_laysWays_80 hl (k := 1) rfl (ninc kk 1 (by decide)) (by decide) rfl (fun ls hl => ?_)
                          refine lv_goto (tgt := 36) hx hb dX12_laysWays_83 (by decide) ?_
                          exact ih_lp_89 (kk + 1) v_105 _ _ _ (by omega) (by omega) (bx_yes hbx (by omega) (or_1 hb1_99 (by omega)) (be_get hbe2.1 (by omega) (by omega) (by omega) (by omega) ev_104) ev_105) hP hD hS (lv_sub hl [0, 1, 2, 3, 4, 5] rfl)
                exact lp_89 (10 - 0 + 1) 0 0 _ _ _ (Nat.lt_succ_self _) (by omega) (Or.inr ⟨by omega, rfl⟩) hP hD hS (lv_sub hl [0, 1, 2, 3, 4, 5] rfl)
              · have c_88 : ((dd - 1 : Nat) : Int) = ((dm : Nat) : Int) - 1 := (ieq (ivn (dd - 1) (by omega)) (ivp dm (by omega))).mp c_88
                refine lv_lconst (v := 1) hx hb dX12_laysWays_26 (by decide) ?_
                refine lv_goto (tgt := 31) hx hb dX12_laysWays_27 (by decide) ?_
                refine lv_lstore (lv' := [(4, .long 1), (3, .int (nI jm)), (2, .int (nI (dd - 1))), (1, .int (nI dm - 1)), (0, .ref mm)]) hx hb dX12_laysWays_31 hl (by decide) rfl (fun ls hl => ?_)
                refine lv_iconst (v := 0) hx hb dX12_laysWays_33 ic_0 ?_
                refine lv_istore (lv' := [(6, .int 0), (4, .long 1), (3, .int (nI jm)), (2, .int (nI (dd - 1))), (1, .int (nI dm - 1)), (0, .ref mm)]) hx hb dX12_laysWays_34 hl (by decide) rfl (fun ls hl => ?_)
                have lp_106 : ∀ (n_107 : Nat) (kk : Nat) (xn : Int64) (H : Heap) (locs : List Loc) (ls : Array Slot), 10 - kk < n_107 → (kk ≤ 10) → (bx (cfL (cfN nw yw yo mt_) (lfW ws_ wd_ wt_)) dm (dd - 1) jm kk xn) → va_P D vwCl [ro_ mm 12 (mo g (nI ta) (nI pa) (nI pe) pd (nI pb) pp pf pg pn rt rn (nI cd) sn (nI il) tk am at_ aa mt_ 0 (nI wd_) (nI wt_) wy (nI it_) (nI rm) (nI ud) (nI nu) sd (nI qn) (nI qw) qo (nI qb) (nI qp) qa (nI qi) (nI oc)), ra_I (g 20) cI 4 (l4 (nI l0) (nI l1) (nI dm) (nI l3)), ra_I (g 31) cI 120 nw, ra_I (g 37) cZ 900 yo, ra_I (g 36) cZ 900 yw, ra_J (g 43) cJ 90 zc, ra_J (g 44) cJ 90 bf, ra_I (g 38) cI 90 ws_] H → va_D A [ro_ mm 12 (mo g (nI ta) (nI pa) (nI pe) pd (nI pb) pp pf pg pn rt rn (nI cd) sn (nI il) tk am at_ aa mt_ 0 (nI wd_) (nI wt_) wy (nI it_) (nI rm) (nI ud) (nI nu) sd (nI qn) (nI qw) qo (nI qb) (nI qp) qa (nI qi) (nI oc)), ra_I (g 20) cI 4 (l4 (nI l0) (nI l1) (nI dm) (nI l3)), ra_I (g 31) cI 120 nw, ra_I (g 37) cZ 900 yo, ra_I (g 36) cZ 900 yw, ra_J (g 43) cJ 90 zc, ra_J (g 44) cJ 90 bf, ra_I (g 38) cI 90 ws_] → va_S A s.heap H locs → lv_has ls 7 [(6, .int (nI kk)), (4, .long xn), (3, .int (nI jm)), (2, .int (nI (dd - 1))), (1, .int (nI dm - 1)), (0, .ref mm)] → W p l e { frames := 3, cells := 0, slots := 0, locals := 66 } s m ([.ref mm] : List Value).toArray below meth c H locs 0 0 (MQ below (skV D (skT cI cJ cC cZ cS) (fun (u : va_W) => ∃ (wy2 : Int64), ∃ (be2 : Nat → Int64), ∃ (bf2 : Nat → Int64), beOk (cfL (cfN nw yw yo mt_) (lfW ws_ wd_ wt_)) dm 0 be2 ∧ bfOk (cfL (cfN nw yw yo mt_) (lfW ws_ wd_ wt_)) (a0N nw) dm bf2 ∧ wy2 = nL (wys (cfL (cfN nw yw yo mt_) (lfW ws_ wd_ wt_)) (a0N nw) (dm - 1)) ∧ u = [ro_ mm 12 (mo g (nI ta) (nI pa) (nI pe) pd (nI pb) pp pf pg pn rt rn (nI cd) sn (nI il) tk am at_ aa mt_ 0 (nI wd_) (nI wt_) wy2 (nI it_) (nI rm) (nI ud) (nI nu) sd (nI qn) (nI qw) qo (nI qb) (nI qp) qa (nI qi) (nI oc)), ra_I (g 20) cI 4 (l4 (nI l0) (nI l1) (nI dm) (nI l3)), ra_I (g 31) cI 120 nw, ra_I (g 37) cZ 900 yo, ra_I (g 36) cZ 900 yw, ra_J (g 43) cJ 90 be2, ra_J (g 44) cJ 90 bf2, ra_I (g 38) cI 90 ws_]) A) ([.ref mm] : List Value).toArray s 0 0 A) (F0 m 36 ls []) := by
                  intro n_107
                  induction n_107 with
                  | zero => intro kk xn H locs ls hm; exact absurd hm (Nat.not_lt_zero _)
                  | succ n_107 ih_lp_106 =>
                    intro kk xn H locs ls hm hkk hbx hP hD hS hl
                    refine lv_iload hx hb dX12_laysWays_36 (lv_at hl 0 rfl) ?_
                    refine lv_bipush (v := 10) hx hb dX12_laysWays_38 (by decide) ?_
                    refine lv_icmp_ge (tgt := 86) hx hb dX12_laysWays_40 (by decide) (fun c_108 => ?_) (fun c_108 => ?_)
                    · have c_108 : 10 ≤ kk := (nle 10 kk (Nat.le_of_ble_eq_true rfl) (by omega)).mp c_108
                      refine lv_aload_n hx hb dX12_laysWays_86 rfl (lv_at hl 5 rfl) ?_
                      refine sk_get (v := .ref (g 43)) (C := RX12) (T := TX12) (N := 92) hx hb hts inlX12 hown hK hP 0 rfl rfl 43 (Nat.le_of_ble_eq_true rfl) w_5_198 rfl dX12_laysWays_87 ?_
                      refine lv_bipush (v := 10) hx hb dX12_laysWays_90 (by decide) ?_
                      refine lv_iload_n hx hb dX12_laysWays_92 rfl (lv_at hl 3 rfl) ?_
                      refine lv_imul hx hb dX12_laysWays_93 ?_
                      refine sk_top (nI (10 * (dd - 1))) (nmul 10 (dd - 1)) ?_
                      refine lv_iload_n hx hb dX12_laysWays_94 rfl (lv_at hl 2 rfl) ?_
                      refine lv_iadd hx hb dX12_laysWays_95 ?_
                      refine sk_top (nI (10 * (dd - 1) + jm)) (nI_add (10 * (dd - 1)) jm) ?_
                      refine lv_lload hx hb dX12_laysWays_96 (lv_at hl 1 rfl) ?_
                      refine sk_lastP (Pr := beOk2 (cfL (cfN nw yw yo mt_) (lfW ws_ wd_ wt_)) dm (dd - 1) (jm + 1)) (ws' := fun f_109 => [ro_ mm 12 (mo g (nI ta) (nI pa) (nI pe) pd (nI pb) pp pf pg pn rt rn (nI cd) sn (nI il) tk am at_ aa mt_ 0 (nI wd_) (nI wt_) wy (nI it_) (nI rm) (nI ud) (nI nu) sd (nI qn) (nI qw) qo (nI qb) (nI qp) qa (nI qi) (nI oc)), ra_I (g 20) cI 4 (l4 (nI l0) (nI l1) (nI dm) (nI l3)), ra_I (g 31) cI 120 nw, ra_I (g 37) cZ 900 yo, ra_I (g 36) cZ 900 yw, ra_J (g 43) cJ 90 f_109, ra_J (g 44) cJ 90 bf, ra_I (g 38) cI 90 ws_]) hx hb hK hP hD hS 5 1 rfl rfl (vin (10 * (dd - 1) + jm) 90 (by omega) (Nat.le_of_ble_eq_true rfl)) (fun _ => rfl) (be_store hbe2 (by omega) (by omega) (bx_fin hbx (by omega))) dX12_laysWays_98 (fun f_109 H locs hf_110 hP hD hS => ?_)
                      refine lv_iinc (v := nI (jm + 1)) (lv' := [(3, .int (nI (jm + 1))), (6, .int (nI kk)), (4, .long xn), (2, .int (nI (dd - 1))), (1, .int (nI dm - 1)), (0, .ref mm)]) hx hb dX12_laysWays_99 hl (k := 2) rfl (ninc jm 1 (by decide)) (by decide) rfl (fun ls hl => ?_)
                      refine lv_goto (tgt := 15) hx hb dX12_laysWays_102 (by decide) ?_
                      exact ih_lp_85 (jm + 1) f_109 _ _ _ (by omega) (by omega) hf_110 hP hD hS (lv_sub hl [0, 3, 4, 5] rfl)
                    · have c_108 : ¬ (10 ≤ kk) := fun h => c_108 ((nle 10 kk (Nat.le_of_ble_eq_true rfl) (by omega)).mpr h)
                      refine lv_iload_n hx hb dX12_laysWays_43 rfl (lv_at hl 3 rfl) ?_
                      refine lv_iload_n hx hb dX12_laysWays_44 rfl (lv_at hl 4 rfl) ?_
                      refine lv_icmp_ge (tgt := 86) hx hb dX12_laysWays_45 (by decide) (fun c_111 => ?_) (fun c_111 => ?_)
                      · have c_111 : ((dm : Nat) : Int) - 1 ≤ ((dd - 1 : Nat) : Int) := (ile (ivp dm (by omega)) (ivn (dd - 1) (by omega))).mp c_111
                        refine lv_aload_n hx hb dX12_laysWays_86 rfl (lv_at hl 5 rfl) ?_
                        refine sk_get (v := .ref (g 43)) (C := RX12) (T := TX12) (N := 92) hx hb hts inlX12 hown hK hP 0 rfl rfl 43 (Nat.le_of_ble_eq_true rfl) w_5_198 rfl dX12_laysWays_87 ?_
                        refine lv_bipush (v := 10) hx hb dX12_laysWays_90 (by decide) ?_
                        refine lv_iload_n hx hb dX12_laysWays_92 rfl (lv_at hl 3 rfl) ?_
                        refine lv_imul hx hb dX12_laysWays_93 ?_
                        refine sk_top (nI (10 * (dd - 1))) (nmul 10 (dd - 1)) ?_
                        refine lv_iload_n hx hb dX12_laysWays_94 rfl (lv_at hl 2 rfl) ?_
                        refine lv_iadd hx hb dX12_laysWays_95 ?_
                        refine sk_top (nI (10 * (dd - 1) + jm)) (nI_add (10 * (dd - 1)) jm) ?_
                        refine lv_lload hx hb dX12_laysWays_96 (lv_at hl 1 rfl) ?_
                        refine sk_lastP (Pr := beOk2 (cfL (cfN nw yw yo mt_) (lfW ws_ wd_ wt_)) dm (dd - 1) (jm + 1)) (ws' := fun f_112 => [ro_ mm 12 (mo g (nI ta) (nI pa) (nI pe) pd (nI pb) pp pf pg pn rt rn (nI cd) sn (nI il) tk am at_ aa mt_ 0 (nI wd_) (nI wt_) wy (nI it_) (nI rm) (nI ud) (nI nu) sd (nI qn) (nI qw) qo (nI qb) (nI qp) qa (nI qi) (nI oc)), ra_I (g 20) cI 4 (l4 (nI l0) (nI l1) (nI dm) (nI l3)), ra_I (g 31) cI 120 nw, ra_I (g 37) cZ 900 yo, ra_I (g 36) cZ 900 yw, ra_J (g 43) cJ 90 f_112, ra_J (g 44) cJ 90 bf, ra_I (g 38) cI 90 ws_]) hx hb hK hP hD hS 5 1 rfl rfl (vin (10 * (dd - 1) + jm) 90 (by omega) (Nat.le_of_ble_eq_true rfl)) (fun _ => rfl) (be_store hbe2 (by omega) (by omega) (bx_fin hbx (by omega))) dX12_laysWays_98 (fun f_112 H locs hf_113 hP hD hS => ?_)
                        refine lv_iinc (v := nI (jm + 1)) (lv' := [(3, .int (nI (jm + 1))), (6, .int (nI kk)), (4, .long xn), (2, .int (nI (dd - 1))), (1, .int (nI dm - 1)), (0, .ref mm)]) hx hb dX12_laysWays_99 hl (k := 2) rfl (ninc jm 1 (by decide)) (by decide) rfl (fun ls hl => ?_)
                        refine lv_goto (tgt := 15) hx hb dX12_laysWays_102 (by decide) ?_
                        exact ih_lp_85 (jm + 1) f_112 _ _ _ (by omega) (by omega) hf_113 hP hD hS (lv_sub hl [0, 3, 4, 5] rfl)
                      · have c_111 : ¬ (((dm : Nat) : Int) - 1 ≤ ((dd - 1 : Nat) : Int)) := fun h => c_111 ((ile (ivp dm (by omega)) (ivn (dd - 1) (by omega))).mpr h)
                        refine lv_aload_n hx hb dX12_laysWays_48 rfl (lv_at hl 5 rfl) ?_
                        refine lv_iload_n hx hb dX12_laysWays_49 rfl (lv_at hl 3 rfl) ?_
                        refine lv_iconst (v := 1) hx hb dX12_laysWays_50 ic_1 ?_
                        refine lv_iadd hx hb dX12_laysWays_51 ?_
                        refine sk_top (nI (dd - 1 + 1)) (nI_add (dd - 1) 1) ?_
                        refine lv_iload_n hx hb dX12_laysWays_52 rfl (lv_at hl 2 rfl) ?_
                        refine lv_iload hx hb dX12_laysWays_53 (lv_at hl 0 rfl) ?_
                        refine sk_Vi (q0 := 0) (n := 3) (rest := []) (wr := fmR om_8_b9 _) ⟨hx, hb, hml, hown, hts⟩ hl.1 (c_vm_canFollowW l D cI cJ cC cZ cS mm g ta pa pe pd pb pp pf pg pn rt rn cd sn il tk am at_ aa mt_ wy it_ rm ud nu sd qn qw qo qb qp qa qi oc (dd - 1 + 1) jm kk nw ws_ yo yw wd_ wt_ (by omega) (by omega) (by omega) hwd9 hnw) w_7_201 w_7_203 w_0_85 w_1_14 w_7_204 hd_X12_canFollow_3 ⟨⟨(Nat.le_of_ble_eq_true rfl), (Nat.le_of_ble_eq_true rfl)⟩, (Nat.le_of_ble_eq_true rfl), (Nat.le_of_ble_eq_true rfl)⟩ hK hP hD hS hA [0, 2, 7, 3, 4] (fmF om_8_b9 0) rfl (fm_R rfl rfl) (by decide +kernel) (fm_nF om_8_b9 0) (by decide +kernel) rfl rfl rfl rfl (Nat.le_of_ble_eq_true rfl) dX12_laysWays_55 (fun r_115 u H locs hw hP hD hS => ?_)
                        refine exE hw (fun b_114 hw1 => anE hw1 (fun hb1_116 hw2 => anE hw2 (fun hb2_117 hw3 => anE hw3 (fun er_119 eu_118 => ?_))))
                        clear hw hw1 hw2 hw3
                        subst er_119
                        refine o_mgqE (ux := [ro_ mm 12 (mo g (nI ta) (nI pa) (nI pe) pd (nI pb) pp pf pg pn rt rn (nI cd) sn (nI il) tk am at_ aa mt_ 0 (nI wd_) (nI wt_) wy (nI it_) (nI rm) (nI ud) (nI nu) sd (nI qn) (nI qw) qo (nI qb) (nI qp) qa (nI qi) (nI oc)), ra_I (g 31) cI 120 nw, ra_I (g 37) cZ 900 yo, ra_I (g 36) cZ 900 yw, ra_I (g 38) cI 90 ws_]) (ws' := [ro_ mm 12 (mo g (nI ta) (nI pa) (nI pe) pd (nI pb) pp pf pg pn rt rn (nI cd) sn (nI il) tk am at_ aa mt_ 0 (nI wd_) (nI wt_) wy (nI it_) (nI rm) (nI ud) (nI nu) sd (nI qn) (nI qw) qo (nI qb) (nI qp) qa (nI qi) (nI oc)), ra_I (g 20) cI 4 (l4 (nI l0) (nI l1) (nI dm) (nI l3)), ra_I (g 31) cI 120 nw, ra_I (g 37) cZ 900 yo, ra_I (g 36) cZ 900 yw, ra_J (g 43) cJ 90 zc, ra_J (g 44) cJ 90 bf, ra_I (g 38) cI 90 ws_]) eu_118 [0, 1, 3, 4, 2] (by decide +kernel) rfl hP hD rfl (fun hP hD => ?_)
                        refine lv_if_eq (tgt := 80) hx hb dX12_laysWays_58 (by decide) (fun c_120 => ?_) (fun c_120 => ?_)
                        · have c_120 : b_114 = 0 := (neq b_114 0 (by omega) (Nat.le_of_ble_eq_true rfl)).mp c_120
                          refine lv_iinc (v := nI (kk + 1)) (lv' := [(6, .int (nI (kk + 1))), (4, .long xn), (3, .int (nI jm)), (2, .int (nI (dd - 1))), (1, .int (nI dm - 1)), (0, .ref mm)]) hx hb dX12_laysWays_80 hl (k := 0) rfl (ninc kk 1 (by decide)) (by decide) rfl (fun ls hl => ?_)
                          refine lv_goto (tgt := 36) hx hb dX12_laysWays_83 (by decide) ?_
                          exact ih_lp_106 (kk + 1) xn _ _ _ (by omega) (by omega) (bx_no hbx (by omega) (or_0 hb1_116 (by omega))) hP hD hS (lv_sub hl [0, 1, 2, 3, 4, 5] rfl)
                        · have c_120 : ¬ (b_114 = 0) := fun h => c_120 ((neq b_114 0 (by omega) (Nat.le_of_ble_eq_true rfl)).mpr h)
                          refine lv_lload hx hb dX12_laysWays_61 (lv_at hl 1 rfl) ?_
                          refine lv_aload_n hx hb dX12_laysWays_63 rfl (lv_at hl 5 rfl) ?_
                          refine sk_get (v := .ref (g 43)) (C := RX12) (T := TX12) (N := 92) hx hb hts inlX12 hown hK hP 0 rfl rfl 43 (Nat.le_of_ble_eq_true rfl) w_5_198 rfl dX12_laysWays_64 ?_
                          refine lv_bipush (v := 10) hx hb dX12_laysWays_67 (by decide) ?_
                          refine lv_iload_n hx hb dX12_laysWays_69 rfl (lv_at hl 3 rfl) ?_
                          refine lv_iconst (v := 1) hx hb dX12_laysWays_70 ic_1 ?_
                          refine lv_iadd hx hb dX12_laysWays_71 ?_
                          refine sk_top (nI (dd - 1 + 1)) (nI_add (dd - 1) 1) ?_
                          refine lv_imul hx hb dX12_laysWays_72 ?_
                          refine sk_top (nI (10 * (dd - 1 + 1))) (nmul 10 (dd - 1 + 1)) ?_
                          refine lv_iload hx hb dX12_laysWays_73 (lv_at hl 0 rfl) ?_
                          refine lv_iadd hx hb dX12_laysWays_75 ?_
                          refine sk_top (nI (10 * (dd - 1 + 1) + kk)) (nI_add (10 * (dd - 1 + 1)) kk) ?_
                          refine va_lald hx hb hK.1 hP 5 1 rfl rfl (vin (10 * (dd - 1 + 1) + kk) 90 (by omega) (Nat.le_of_ble_eq_true rfl)) dX12_laysWays_76 ?_
                          refine lv_topl (fun v_121 ev_121 => ?_)
                          refine lv_ladd hx hb dX12_laysWays_77 ?_
                          refine lv_topl (fun v_122 ev_122 => ?_)
                          refine lv_lstore (lv' := [(4, .long v_122), (6, .int (nI kk)), (3, .int (nI jm)), (2, .int (nI (dd - 1))), (1, .int (nI dm - 1)), (0, .ref mm)]) hx hb dX12_laysWays_78 hl (by decide) rfl (fun ls hl => ?_)
                          refine lv_iinc (v := nI (kk + 1)) (lv' := [(6, .int (nI (kk + 1))), (4, .long v_122), (3, .int (nI jm)), (2, .int (nI (dd - 1))), (1, .int (nI dm - 1)), (0, .ref mm)]) hx hb dX12_laysWays_80 hl (k := 1) rfl (ninc kk 1 (by decide)) (by decide) rfl (fun ls hl => ?_)
                          refine lv_goto (tgt := 36) hx hb dX12_laysWays_83 (by decide) ?_
                          exact ih_lp_106 (kk + 1) v_122 _ _ _ (by omega) (by omega) (bx_yes hbx (by omega) (or_1 hb1_116 (by omega)) (be_get hbe2.1 (by omega) (by omega) (by omega) (by omega) ev_121) ev_122) hP hD hS (lv_sub hl [0, 1, 2, 3, 4, 5] rfl)
                exact lp_106 (10 - 0 + 1) 0 1 _ _ _ (Nat.lt_succ_self _) (by omega) (Or.inl ⟨by omega, rfl⟩) hP hD hS (lv_sub hl [0, 1, 2, 3, 4, 5] rfl)
        exact lp_85 (10 - 0 + 1) 0 zb _ _ _ (Nat.lt_succ_self _) (by omega) (be_0 hbe (by omega)) hP hD hS (lv_sub hl [0, 1, 2, 3] rfl)
  exact lp_4 (dm + 1) dm be _ _ _ (Nat.lt_succ_self _) (by omega) (be_init _ _ _) hP hD hS (lv_sub hl [0, 1, 2] rfl)
theorem lfh_s {nw ws : Nat → Int32} {hR : Nat → Nat} {i d m : Nat} (h : ∀ j, j < i → hR j / 10 = d → ¬ nw (nI (2 + 3 * d + 2)).toNatClampNeg = 1 ∧ ws (10 * d + m) = nI (hR j % 10)) (h2 : hR i / 10 = d → ¬ nw (nI (2 + 3 * d + 2)).toNatClampNeg = 1 ∧ ws (10 * d + m) = nI (hR i % 10)) : ∀ j, j < i + 1 → hR j / 10 = d → ¬ nw (nI (2 + 3 * d + 2)).toNatClampNeg = 1 ∧ ws (10 * d + m) = nI (hR j % 10) := fun j hj => by
  by_cases e : j = i
  · subst e; exact h2
  · exact h j (by omega)
theorem dg_X12_isLeft_37_37 : bqL cX12_isLeft 37 [(0, [3]), (1, [62]), (2, [29]), (3, [42]), (4, [180, 1, 56]), (7, [162, 0, 55]), (62, [4]), (63, [172]), (10, [42]), (11, [180, 0, 104]), (14, [5]), (15, [29]), (16, [104]), (17, [46]), (18, [27]), (19, [160, 0, 37]), (56, [132, 3, 1]), (59, [167, 255, 199]), (22, [42]), (23, [27]), (24, [182, 1, 103]), (27, [154, 0, 27]), (54, [3]), (55, [172]), (30, [42]), (31, [180, 0, 76]), (34, [16, 10]), (36, [27]), (37, [104]), (38, [28]), (39, [96]), (40, [46]), (41, [42]), (42, [180, 0, 104]), (45, [5]), (46, [29]), (47, [104]), (48, [4]), (49, [96]), (50, [46])] = true := by decide +kernel
theorem dX12_isLeft_37 : decode cX12_isLeft 37 = .ok (.iconst 0, 1) := q_iconst0 (bat_get dg_X12_isLeft_37_37 0 rfl rfl)
theorem dX12_isLeft_38 : decode cX12_isLeft 38 = .ok (.istore_n 3, 1) := q_istore_n3 (bat_get dg_X12_isLeft_37_37 1 rfl rfl)
theorem dX12_isLeft_39 : decode cX12_isLeft 39 = .ok (.iload_n 3, 1) := q_iload_n3 (bat_get dg_X12_isLeft_37_37 2 rfl rfl)
theorem dX12_isLeft_40 : decode cX12_isLeft 40 = .ok (.aload_n 0, 1) := q_aload_n0 (bat_get dg_X12_isLeft_37_37 3 rfl rfl)
theorem dX12_isLeft_41 : decode cX12_isLeft 41 = .ok (.getfield 312, 3) := q_getfield (bat_get dg_X12_isLeft_37_37 4 rfl rfl) rfl
theorem dX12_isLeft_44 : decode cX12_isLeft 44 = .ok (.if_icmp .ge 55, 3) := q_if_icmp_ge (bat_get dg_X12_isLeft_37_37 5 rfl rfl) rfl
theorem dX12_isLeft_99 : decode cX12_isLeft 99 = .ok (.iconst 1, 1) := q_iconst1 (bat_get dg_X12_isLeft_37_37 6 rfl rfl)
theorem dX12_isLeft_100 : decode cX12_isLeft 100 = .ok (.ireturn, 1) := q_ireturn (bat_get dg_X12_isLeft_37_37 7 rfl rfl)
theorem dX12_isLeft_47 : decode cX12_isLeft 47 = .ok (.aload_n 0, 1) := q_aload_n0 (bat_get dg_X12_isLeft_37_37 8 rfl rfl)
theorem dX12_isLeft_48 : decode cX12_isLeft 48 = .ok (.getfield 104, 3) := q_getfield (bat_get dg_X12_isLeft_37_37 9 rfl rfl) rfl
theorem dX12_isLeft_51 : decode cX12_isLeft 51 = .ok (.iconst 2, 1) := q_iconst2 (bat_get dg_X12_isLeft_37_37 10 rfl rfl)
theorem dX12_isLeft_52 : decode cX12_isLeft 52 = .ok (.iload_n 3, 1) := q_iload_n3 (bat_get dg_X12_isLeft_37_37 11 rfl rfl)
theorem dX12_isLeft_53 : decode cX12_isLeft 53 = .ok (.imul, 1) := q_imul (bat_get dg_X12_isLeft_37_37 12 rfl rfl)
theorem dX12_isLeft_54 : decode cX12_isLeft 54 = .ok (.iaload, 1) := q_iaload (bat_get dg_X12_isLeft_37_37 13 rfl rfl)
theorem dX12_isLeft_55 : decode cX12_isLeft 55 = .ok (.iload_n 1, 1) := q_iload_n1 (bat_get dg_X12_isLeft_37_37 14 rfl rfl)
theorem dX12_isLeft_56 : decode cX12_isLeft 56 = .ok (.if_icmp .ne 37, 3) := q_if_icmp_ne (bat_get dg_X12_isLeft_37_37 15 rfl rfl) rfl
theorem dX12_isLeft_93 : decode cX12_isLeft 93 = .ok (.iinc 3 1, 3) := q_iinc (bat_get dg_X12_isLeft_37_37 16 rfl rfl) rfl
theorem dX12_isLeft_96 : decode cX12_isLeft 96 = .ok (.goto (-57), 3) := q_goto (bat_get dg_X12_isLeft_37_37 17 rfl rfl) rfl
theorem dX12_isLeft_59 : decode cX12_isLeft 59 = .ok (.aload_n 0, 1) := q_aload_n0 (bat_get dg_X12_isLeft_37_37 18 rfl rfl)
theorem dX12_isLeft_60 : decode cX12_isLeft 60 = .ok (.iload_n 1, 1) := q_iload_n1 (bat_get dg_X12_isLeft_37_37 19 rfl rfl)
theorem dX12_isLeft_61 : decode cX12_isLeft 61 = .ok (.invokevirtual 359, 3) := q_invokevirtual (bat_get dg_X12_isLeft_37_37 20 rfl rfl) rfl
theorem dX12_isLeft_64 : decode cX12_isLeft 64 = .ok (.ifCond .ne 27, 3) := q_ifCond_ne (bat_get dg_X12_isLeft_37_37 21 rfl rfl) rfl
theorem dX12_isLeft_91 : decode cX12_isLeft 91 = .ok (.iconst 0, 1) := q_iconst0 (bat_get dg_X12_isLeft_37_37 22 rfl rfl)
theorem dX12_isLeft_92 : decode cX12_isLeft 92 = .ok (.ireturn, 1) := q_ireturn (bat_get dg_X12_isLeft_37_37 23 rfl rfl)
theorem dX12_isLeft_67 : decode cX12_isLeft 67 = .ok (.aload_n 0, 1) := q_aload_n0 (bat_get dg_X12_isLeft_37_37 24 rfl rfl)
theorem dX12_isLeft_68 : decode cX12_isLeft 68 = .ok (.getfield 76, 3) := q_getfield (bat_get dg_X12_isLeft_37_37 25 rfl rfl) rfl
theorem dX12_isLeft_71 : decode cX12_isLeft 71 = .ok (.bipush 10, 2) := q_bipush (bat_get dg_X12_isLeft_37_37 26 rfl rfl) rfl
theorem dX12_isLeft_73 : decode cX12_isLeft 73 = .ok (.iload_n 1, 1) := q_iload_n1 (bat_get dg_X12_isLeft_37_37 27 rfl rfl)
theorem dX12_isLeft_74 : decode cX12_isLeft 74 = .ok (.imul, 1) := q_imul (bat_get dg_X12_isLeft_37_37 28 rfl rfl)
theorem dX12_isLeft_75 : decode cX12_isLeft 75 = .ok (.iload_n 2, 1) := q_iload_n2 (bat_get dg_X12_isLeft_37_37 29 rfl rfl)
theorem dX12_isLeft_76 : decode cX12_isLeft 76 = .ok (.iadd, 1) := q_iadd (bat_get dg_X12_isLeft_37_37 30 rfl rfl)
theorem dX12_isLeft_77 : decode cX12_isLeft 77 = .ok (.iaload, 1) := q_iaload (bat_get dg_X12_isLeft_37_37 31 rfl rfl)
theorem dX12_isLeft_78 : decode cX12_isLeft 78 = .ok (.aload_n 0, 1) := q_aload_n0 (bat_get dg_X12_isLeft_37_37 32 rfl rfl)
theorem dX12_isLeft_79 : decode cX12_isLeft 79 = .ok (.getfield 104, 3) := q_getfield (bat_get dg_X12_isLeft_37_37 33 rfl rfl) rfl
theorem dX12_isLeft_82 : decode cX12_isLeft 82 = .ok (.iconst 2, 1) := q_iconst2 (bat_get dg_X12_isLeft_37_37 34 rfl rfl)
theorem dX12_isLeft_83 : decode cX12_isLeft 83 = .ok (.iload_n 3, 1) := q_iload_n3 (bat_get dg_X12_isLeft_37_37 35 rfl rfl)
theorem dX12_isLeft_84 : decode cX12_isLeft 84 = .ok (.imul, 1) := q_imul (bat_get dg_X12_isLeft_37_37 36 rfl rfl)
theorem dX12_isLeft_85 : decode cX12_isLeft 85 = .ok (.iconst 1, 1) := q_iconst1 (bat_get dg_X12_isLeft_37_37 37 rfl rfl)
theorem dX12_isLeft_86 : decode cX12_isLeft 86 = .ok (.iadd, 1) := q_iadd (bat_get dg_X12_isLeft_37_37 38 rfl rfl)
theorem dX12_isLeft_87 : decode cX12_isLeft 87 = .ok (.iaload, 1) := q_iaload (bat_get dg_X12_isLeft_37_37 39 rfl rfl)
theorem dg_X12_isLeft_88_88 : bqL cX12_isLeft 88 [(0, [159, 0, 5])] = true := by decide +kernel
theorem dX12_isLeft_88 : decode cX12_isLeft 88 = .ok (.if_icmp .eq 5, 3) := q_if_icmp_eq (bat_get dg_X12_isLeft_88_88 0 rfl rfl) rfl
set_option maxHeartbeats 4000000 in
set_option maxRecDepth 100000 in
theorem c_vm_isLeftH (l : Launch) (D : va_G) (cI cJ cC cZ cS : ClassId) (mm : Nat) (g : Nat → Nat) (ta : Nat) (pa : Nat) (pe : Nat) (pd : Int32) (pb : Nat) (pp : Int32) (pf : Int32) (pg : Int32) (pn : Int32) (rt : Int32) (rn : Int32) (cd : Nat) (sn : Int32) (il : Nat) (tk : Int32) (am : Int32) (at_ : Int32) (aa : Int32) (mt_ : Int32) (wt : Int32) (wy : Int64) (it_ : Nat) (rm : Nat) (ud : Nat) (nu : Nat) (sd : Int64) (qn : Nat) (qw : Nat) (qo : Int32) (qb : Nat) (qp : Nat) (qa : Int64) (qi : Nat) (oc : Nat) (d : Nat) (o : Nat) (nw : Nat → Int32) (ws_ : Nat → Int32) (rw_ : Nat → Int32) (hR : Nat → Nat) (hd : d < 9) (ho : o < 10) (hrw : ∀ j, j < rm → rw_ (2 * j) = nI (hR j / 10) ∧ rw_ (2 * j + 1) = nI (hR j % 10)) (hR90 : ∀ j, j < rm → hR j < 90) (hrm : rm ≤ 16) (hnw : nowOk nw) : skM l yX12_isLeft cX12_isLeft 4 (some .boolean) 1 21 0 0 D (skT cI cJ cC cZ cS) [.ref mm, .int (nI d), .int (nI o)] [ro_ mm 12 (mo g (nI ta) (nI pa) (nI pe) pd (nI pb) pp pf pg pn rt rn (nI cd) sn (nI il) tk am at_ aa mt_ 1 (-1) wt wy (nI it_) (nI rm) (nI ud) (nI nu) sd (nI qn) (nI qw) qo (nI qb) (nI qp) qa (nI qi) (nI oc)), ra_I (g 31) cI 120 nw, ra_I (g 38) cI 90 ws_, ra_I (g 53) cI 32 rw_] (skI D (skT cI cJ cC cZ cS) (fun (r : Int32) (u : va_W) => ∃ (b : Nat), ((b = 0 ∧ lfH nw ws_ hR rm d o = false) ∨ (b = 1 ∧ lfH nw ws_ hR rm d o = true)) ∧ b ≤ 1 ∧ r = nI b ∧ u = [ro_ mm 12 (mo g (nI ta) (nI pa) (nI pe) pd (nI pb) pp pf pg pn rt rn (nI cd) sn (nI il) tk am at_ aa mt_ 1 (-1) wt wy (nI it_) (nI rm) (nI ud) (nI nu) sd (nI qn) (nI qw) qo (nI qb) (nI qp) qa (nI qi) (nI oc)), ra_I (g 31) cI 120 nw, ra_I (g 38) cI 90 ws_, ra_I (g 53) cI 32 rw_])) := by
  refine skM_of pf_X12_isLeft (Nat.le_of_ble_eq_true rfl) ?_
  intro p e s m below meth c A ls E hP hD hl
  refine skE_el E (fun hx hb hr hml hlocks hin hown hts hK hA => ?_)
  have hown : s.vm.findClass RX12 = some m.cls := hown
  have hS : va_S A s.heap s.heap [] := va_S.rf
  have hl : lv_has ls 4 [(0, .ref mm), (1, .int (nI d)), (2, .int (nI o))] := hl
  refine lv_aload_n hx hb dX12_isLeft_0 rfl (lv_at hl 0 rfl) ?_
  refine sk_get (v := .int (-1)) (C := RX12) (T := TX12) (N := 92) hx hb hts inlX12 hown hK hP 0 rfl rfl 41 (Nat.le_of_ble_eq_true rfl) w_5_196 rfl dX12_isLeft_1 ?_
  refine lv_iload_n hx hb dX12_isLeft_4 rfl (lv_at hl 1 rfl) ?_
  refine lv_icmp_ne (tgt := 28) hx hb dX12_isLeft_5 (by decide) (fun c_1 => ?_) (fun c => absurd ((ieq (show (-1 : Int32).toInt = -1 by decide) (ivn d (by omega))).mp c) (by omega))
  refine lv_aload_n hx hb dX12_isLeft_28 rfl (lv_at hl 0 rfl) ?_
  refine sk_get (v := .int 1) (C := RX12) (T := TX12) (N := 92) hx hb hts inlX12 hown hK hP 0 rfl rfl 40 (Nat.le_of_ble_eq_true rfl) w_5_195 rfl dX12_isLeft_29 ?_
  refine lv_if_ne (tgt := 37) hx hb dX12_isLeft_32 (by decide) (fun c_2 => ?_) (fun c => absurd c (by decide))
  refine lv_iconst (v := 0) hx hb dX12_isLeft_37 ic_0 ?_
  refine lv_istore_n (lv' := [(3, .int 0), (0, .ref mm), (1, .int (nI d)), (2, .int (nI o))]) hx hb dX12_isLeft_38 rfl hl (by decide) rfl (fun ls hl => ?_)
  have lp_3 : ∀ (n_4 : Nat) (i : Nat) (H : Heap) (locs : List Loc) (ls : Array Slot), 17 - i < n_4 → (i ≤ 16) → (∀ j, j < i → hR j / 10 = d → ¬ nw (nI (2 + 3 * d + 2)).toNatClampNeg = 1 ∧ ws_ (10 * d + o) = nI (hR j % 10)) → va_P D vwCl [ro_ mm 12 (mo g (nI ta) (nI pa) (nI pe) pd (nI pb) pp pf pg pn rt rn (nI cd) sn (nI il) tk am at_ aa mt_ 1 (-1) wt wy (nI it_) (nI rm) (nI ud) (nI nu) sd (nI qn) (nI qw) qo (nI qb) (nI qp) qa (nI qi) (nI oc)), ra_I (g 31) cI 120 nw, ra_I (g 38) cI 90 ws_, ra_I (g 53) cI 32 rw_] H → va_D A [ro_ mm 12 (mo g (nI ta) (nI pa) (nI pe) pd (nI pb) pp pf pg pn rt rn (nI cd) sn (nI il) tk am at_ aa mt_ 1 (-1) wt wy (nI it_) (nI rm) (nI ud) (nI nu) sd (nI qn) (nI qw) qo (nI qb) (nI qp) qa (nI qi) (nI oc)), ra_I (g 31) cI 120 nw, ra_I (g 38) cI 90 ws_, ra_I (g 53) cI 32 rw_] → va_S A s.heap H locs → lv_has ls 4 [(3, .int (nI i)), (0, .ref mm), (1, .int (nI d)), (2, .int (nI o))] → W p l e { frames := 1, cells := 0, slots := 0, locals := 21 } s m ([.ref mm, .int (nI d), .int (nI o)] : List Value).toArray below meth c H locs 0 0 (MQ below (skI D (skT cI cJ cC cZ cS) (fun (r : Int32) (u : va_W) => ∃ (b : Nat), ((b = 0 ∧ lfH nw ws_ hR rm d o = false) ∨ (b = 1 ∧ lfH nw ws_ hR rm d o = true)) ∧ b ≤ 1 ∧ r = nI b ∧ u = [ro_ mm 12 (mo g (nI ta) (nI pa) (nI pe) pd (nI pb) pp pf pg pn rt rn (nI cd) sn (nI il) tk am at_ aa mt_ 1 (-1) wt wy (nI it_) (nI rm) (nI ud) (nI nu) sd (nI qn) (nI qw) qo (nI qb) (nI qp) qa (nI qi) (nI oc)), ra_I (g 31) cI 120 nw, ra_I (g 38) cI 90 ws_, ra_I (g 53) cI 32 rw_]) A) ([.ref mm, .int (nI d), .int (nI o)] : List Value).toArray s 0 0 A) (F0 m 39 ls []) := by
    intro n_4
    induction n_4 with
    | zero => intro i H locs ls hm; exact absurd hm (Nat.not_lt_zero _)
    | succ n_4 ih_lp_3 =>
      intro i H locs ls hm hi hlf hP hD hS hl
      refine lv_iload_n hx hb dX12_isLeft_39 rfl (lv_at hl 0 rfl) ?_
      refine lv_aload_n hx hb dX12_isLeft_40 rfl (lv_at hl 1 rfl) ?_
      refine sk_get (v := .int (nI rm)) (C := RX12) (T := TX12) (N := 92) hx hb hts inlX12 hown hK hP 0 rfl rfl 52 (Nat.le_of_ble_eq_true rfl) w_5_207 rfl dX12_isLeft_41 ?_
      refine lv_icmp_ge (tgt := 99) hx hb dX12_isLeft_44 (by decide) (fun c_5 => ?_) (fun c_5 => ?_)
      · have c_5 : rm ≤ i := (nle rm i (by omega) (by omega)).mp c_5
        refine lv_iconst (v := 1) hx hb dX12_isLeft_99 ic_1 ?_
        exact sk_iret hx hb hr rfl hlocks hK hP hD hS (⟨1, Or.inr ⟨rfl, decide_eq_true (fun j hj => hlf j (by omega))⟩, by omega, rfl, rfl⟩) (Nat.le_of_ble_eq_true rfl) (Nat.le_of_ble_eq_true rfl) dX12_isLeft_100
      · have c_5 : ¬ (rm ≤ i) := fun h => c_5 ((nle rm i (by omega) (by omega)).mpr h)
        refine lv_aload_n hx hb dX12_isLeft_47 rfl (lv_at hl 1 rfl) ?_
        refine sk_get (v := .ref (g 53)) (C := RX12) (T := TX12) (N := 92) hx hb hts inlX12 hown hK hP 0 rfl rfl 53 (Nat.le_of_ble_eq_true rfl) w_5_208 rfl dX12_isLeft_48 ?_
        refine lv_iconst (v := 2) hx hb dX12_isLeft_51 ic_2 ?_
        refine lv_iload_n hx hb dX12_isLeft_52 rfl (lv_at hl 0 rfl) ?_
        refine lv_imul hx hb dX12_isLeft_53 ?_
        refine sk_top (nI (2 * i)) (nmul 2 i) ?_
        refine va_iald hx hb hK.1 hP 3 0 rfl rfl (vin (2 * i) 32 (by omega) (Nat.le_of_ble_eq_true rfl)) dX12_isLeft_54 ?_
        have hRi := hR90 i (by omega)
        refine sk_top (nI (hR i / 10)) (by rw [nI_clamp (by omega)]; exact (hrw i (by omega)).1) ?_
        refine lv_iload_n hx hb dX12_isLeft_55 rfl (lv_at hl 2 rfl) ?_
        refine lv_icmp_ne (tgt := 93) hx hb dX12_isLeft_56 (by decide) (fun c_6 => ?_) (fun c_6 => ?_)
        · have c_6 : ¬ (hR i / 10 = d) := fun h => c_6 ((neq (hR i / 10) d (by omega) (by omega)).mpr h)
          refine lv_iinc (v := nI (i + 1)) (lv' := [(3, .int (nI (i + 1))), (0, .ref mm), (1, .int (nI d)), (2, .int (nI o))]) hx hb dX12_isLeft_93 hl (k := 0) rfl (ninc i 1 (by decide)) (by decide) rfl (fun ls hl => ?_)
          refine lv_goto (tgt := 39) hx hb dX12_isLeft_96 (by decide) ?_
          exact ih_lp_3 (i + 1) _ _ _ (by omega) (by omega) (lfh_s hlf (fun q => absurd q c_6)) hP hD hS (lv_sub hl [0, 1, 2, 3] rfl)
        · have c_6 : hR i / 10 = d := (neq (hR i / 10) d (by omega) (by omega)).mp c_6
          refine lv_aload_n hx hb dX12_isLeft_59 rfl (lv_at hl 1 rfl) ?_
          refine lv_iload_n hx hb dX12_isLeft_60 rfl (lv_at hl 2 rfl) ?_
          refine sk_Vi (q0 := 0) (n := 1) (rest := []) (wr := fmR om_4_c _) ⟨hx, hb, hml, hown, hts⟩ hl.1 (c_m_isMute l D cI cJ cC cZ cS mm g ta pa pe pd pb pp pf pg pn rt rn cd sn il tk am at_ aa mt_ 1 (-1) wt wy it_ rm ud nu sd qn qw qo qb qp qa qi oc d nw hd hnw) w_7_106 w_7_108 w_0_71 w_1_14 w_7_109 hd_X12_isMute_1 ⟨⟨(Nat.le_of_ble_eq_true rfl), (Nat.le_of_ble_eq_true rfl)⟩, (Nat.le_of_ble_eq_true rfl), (Nat.le_of_ble_eq_true rfl)⟩ hK hP hD hS hA (fmT om_4_c 0) (fmF om_4_c 0) (fm_C1 rfl rfl) (fm_R rfl rfl) (fm_nT om_4_c 0) (fm_nF om_4_c 0) (fm_di om_4_c 0) rfl rfl rfl rfl (Nat.le_of_ble_eq_true rfl) dX12_isLeft_61 (fun r_8 u H locs hw hP hD hS => ?_)
          refine exE hw (fun b_7 hw1 => anE hw1 (fun hb1_9 hw2 => anE hw2 (fun hb2_10 hw3 => anE hw3 (fun er_12 eu_11 => ?_))))
          clear hw hw1 hw2 hw3
          subst er_12
          refine o_mgE (ws' := [ro_ mm 12 (mo g (nI ta) (nI pa) (nI pe) pd (nI pb) pp pf pg pn rt rn (nI cd) sn (nI il) tk am at_ aa mt_ 1 (-1) wt wy (nI it_) (nI rm) (nI ud) (nI nu) sd (nI qn) (nI qw) qo (nI qb) (nI qp) qa (nI qi) (nI oc)), ra_I (g 31) cI 120 nw, ra_I (g 38) cI 90 ws_, ra_I (g 53) cI 32 rw_]) eu_11 hP hD rfl (fun hP hD => ?_)
          refine lv_if_ne (tgt := 91) hx hb dX12_isLeft_64 (by decide) (fun c_13 => ?_) (fun c_13 => ?_)
          · have c_13 : ¬ (b_7 = 0) := fun h => c_13 ((neq b_7 0 (by omega) (Nat.le_of_ble_eq_true rfl)).mpr h)
            refine lv_iconst (v := 0) hx hb dX12_isLeft_91 ic_0 ?_
            exact sk_iret hx hb hr rfl hlocks hK hP hD hS (⟨0, Or.inl ⟨rfl, decide_eq_false (fun q => (q i (by omega) c_6).1 (or_1 hb1_9 (by omega)))⟩, by omega, rfl, rfl⟩) (Nat.le_of_ble_eq_true rfl) (Nat.le_of_ble_eq_true rfl) dX12_isLeft_92
          · have c_13 : b_7 = 0 := (neq b_7 0 (by omega) (Nat.le_of_ble_eq_true rfl)).mp c_13
            refine lv_aload_n hx hb dX12_isLeft_67 rfl (lv_at hl 1 rfl) ?_
            refine sk_get (v := .ref (g 38)) (C := RX12) (T := TX12) (N := 92) hx hb hts inlX12 hown hK hP 0 rfl rfl 38 (Nat.le_of_ble_eq_true rfl) w_5_193 rfl dX12_isLeft_68 ?_
            refine lv_bipush (v := 10) hx hb dX12_isLeft_71 (by decide) ?_
            refine lv_iload_n hx hb dX12_isLeft_73 rfl (lv_at hl 2 rfl) ?_
            refine lv_imul hx hb dX12_isLeft_74 ?_
            refine sk_top (nI (10 * d)) (nmul 10 d) ?_
            refine lv_iload_n hx hb dX12_isLeft_75 rfl (lv_at hl 3 rfl) ?_
            refine lv_iadd hx hb dX12_isLeft_76 ?_
            refine sk_top (nI (10 * d + o)) (nI_add (10 * d) o) ?_
            refine va_iald hx hb hK.1 hP 2 0 rfl rfl (vin (10 * d + o) 90 (by omega) (Nat.le_of_ble_eq_true rfl)) dX12_isLeft_77 ?_
            refine sk_top (ws_ (10 * d + o)) (by rw [nI_clamp (by omega)]) ?_
            refine lv_aload_n hx hb dX12_isLeft_78 rfl (lv_at hl 1 rfl) ?_
            refine sk_get (v := .ref (g 53)) (C := RX12) (T := TX12) (N := 92) hx hb hts inlX12 hown hK hP 0 rfl rfl 53 (Nat.le_of_ble_eq_true rfl) w_5_208 rfl dX12_isLeft_79 ?_
            refine lv_iconst (v := 2) hx hb dX12_isLeft_82 ic_2 ?_
            refine lv_iload_n hx hb dX12_isLeft_83 rfl (lv_at hl 0 rfl) ?_
            refine lv_imul hx hb dX12_isLeft_84 ?_
            refine sk_top (nI (2 * i)) (nmul 2 i) ?_
            refine lv_iconst (v := 1) hx hb dX12_isLeft_85 ic_1 ?_
            refine lv_iadd hx hb dX12_isLeft_86 ?_
            refine sk_top (nI (2 * i + 1)) (nI_add (2 * i) 1) ?_
            refine va_iald hx hb hK.1 hP 3 0 rfl rfl (vin (2 * i + 1) 32 (by omega) (Nat.le_of_ble_eq_true rfl)) dX12_isLeft_87 ?_
            refine sk_top (nI (hR i % 10)) (by rw [nI_clamp (by omega)]; exact (hrw i (by omega)).2) ?_
            refine lv_icmp_eq (tgt := 93) hx hb dX12_isLeft_88 (by decide) (fun c_14 => ?_) (fun c_14 => ?_)
            · skip
              refine lv_iinc (v := nI (i + 1)) (lv' := [(3, .int (nI (i + 1))), (0, .ref mm), (1, .int (nI d)), (2, .int (nI o))]) hx hb dX12_isLeft_93 hl (k := 0) rfl (ninc i 1 (by decide)) (by decide) rfl (fun ls hl => ?_)
              refine lv_goto (tgt := 39) hx hb dX12_isLeft_96 (by decide) ?_
              exact ih_lp_3 (i + 1) _ _ _ (by omega) (by omega) (lfh_s hlf (fun _ => ⟨or_0 hb1_9 (by omega), c_14⟩)) hP hD hS (lv_sub hl [0, 1, 2, 3] rfl)
            · skip
              refine lv_iconst (v := 0) hx hb dX12_isLeft_91 ic_0 ?_
              exact sk_iret hx hb hr rfl hlocks hK hP hD hS (⟨0, Or.inl ⟨rfl, decide_eq_false (fun q => c_14 (q i (by omega) c_6).2)⟩, by omega, rfl, rfl⟩) (Nat.le_of_ble_eq_true rfl) (Nat.le_of_ble_eq_true rfl) dX12_isLeft_92
  exact lp_3 (17 - 0 + 1) 0 _ _ _ (Nat.lt_succ_self _) (by omega) (fun j hj => absurd hj (Nat.not_lt_zero j)) hP hD hS (lv_sub hl [0, 1, 2, 3] rfl)
set_option maxHeartbeats 4000000 in
set_option maxRecDepth 100000 in
theorem c_vm_canFollowH (l : Launch) (D : va_G) (cI cJ cC cZ cS : ClassId) (mm : Nat) (g : Nat → Nat) (ta : Nat) (pa : Nat) (pe : Nat) (pd : Int32) (pb : Nat) (pp : Int32) (pf : Int32) (pg : Int32) (pn : Int32) (rt : Int32) (rn : Int32) (cd : Nat) (sn : Int32) (il : Nat) (tk : Int32) (am : Int32) (at_ : Int32) (aa : Int32) (mt_ : Int32) (wt : Int32) (wy : Int64) (it_ : Nat) (rm : Nat) (ud : Nat) (nu : Nat) (sd : Int64) (qn : Nat) (qw : Nat) (qo : Int32) (qb : Nat) (qp : Nat) (qa : Int64) (qi : Nat) (oc : Nat) (d : Nat) (aa_ : Nat) (o : Nat) (nw : Nat → Int32) (ws_ : Nat → Int32) (rw_ : Nat → Int32) (yo : Nat → Int32) (yw : Nat → Int32) (hR : Nat → Nat) (hd : d < 9) (ho : o < 10) (ha_ : aa_ < 10) (hrw : ∀ j, j < rm → rw_ (2 * j) = nI (hR j / 10) ∧ rw_ (2 * j + 1) = nI (hR j % 10)) (hR90 : ∀ j, j < rm → hR j < 90) (hrm : rm ≤ 16) (hnw : nowOk nw) : skM l yX12_canFollow cX12_canFollow 5 (some .boolean) 2 44 0 0 D (skT cI cJ cC cZ cS) [.ref mm, .int (nI d), .int (nI aa_), .int (nI o)] [ro_ mm 12 (mo g (nI ta) (nI pa) (nI pe) pd (nI pb) pp pf pg pn rt rn (nI cd) sn (nI il) tk am at_ aa mt_ 1 (-1) wt wy (nI it_) (nI rm) (nI ud) (nI nu) sd (nI qn) (nI qw) qo (nI qb) (nI qp) qa (nI qi) (nI oc)), ra_I (g 31) cI 120 nw, ra_I (g 38) cI 90 ws_, ra_I (g 53) cI 32 rw_, ra_I (g 37) cZ 900 yo, ra_I (g 36) cZ 900 yw] (skI D (skT cI cJ cC cZ cS) (fun (r : Int32) (u : va_W) => ∃ (b : Nat), ((b = 0 ∧ cfL (cfN nw yw yo mt_) (lfH nw ws_ hR rm) d aa_ o = false) ∨ (b = 1 ∧ cfL (cfN nw yw yo mt_) (lfH nw ws_ hR rm) d aa_ o = true)) ∧ b ≤ 1 ∧ r = nI b ∧ u = [ro_ mm 12 (mo g (nI ta) (nI pa) (nI pe) pd (nI pb) pp pf pg pn rt rn (nI cd) sn (nI il) tk am at_ aa mt_ 1 (-1) wt wy (nI it_) (nI rm) (nI ud) (nI nu) sd (nI qn) (nI qw) qo (nI qb) (nI qp) qa (nI qi) (nI oc)), ra_I (g 31) cI 120 nw, ra_I (g 38) cI 90 ws_, ra_I (g 53) cI 32 rw_, ra_I (g 37) cZ 900 yo, ra_I (g 36) cZ 900 yw])) := by
  refine skM_of pf_X12_canFollow (Nat.le_of_ble_eq_true rfl) ?_
  intro p e s m below meth c A ls E hP hD hl
  refine skE_el E (fun hx hb hr hml hlocks hin hown hts hK hA => ?_)
  have hown : s.vm.findClass RX12 = some m.cls := hown
  have hS : va_S A s.heap s.heap [] := va_S.rf
  have hl : lv_has ls 5 [(0, .ref mm), (1, .int (nI d)), (2, .int (nI aa_)), (3, .int (nI o))] := hl
  refine lv_bipush (v := 100) hx hb dX12_canFollow_0 (by decide) ?_
  refine lv_iload_n hx hb dX12_canFollow_2 rfl (lv_at hl 1 rfl) ?_
  refine lv_imul hx hb dX12_canFollow_3 ?_
  refine sk_top (nI (100 * d)) (nmul 100 d) ?_
  refine lv_bipush (v := 10) hx hb dX12_canFollow_4 (by decide) ?_
  refine lv_iload_n hx hb dX12_canFollow_6 rfl (lv_at hl 2 rfl) ?_
  refine lv_imul hx hb dX12_canFollow_7 ?_
  refine sk_top (nI (10 * aa_)) (nmul 10 aa_) ?_
  refine lv_iadd hx hb dX12_canFollow_8 ?_
  refine sk_top (nI (100 * d + (10 * aa_))) (nI_add (100 * d) (10 * aa_)) ?_
  refine lv_iload_n hx hb dX12_canFollow_9 rfl (lv_at hl 3 rfl) ?_
  refine lv_iadd hx hb dX12_canFollow_10 ?_
  refine sk_top (nI (100 * d + (10 * aa_) + o)) (nI_add (100 * d + (10 * aa_)) o) ?_
  refine lv_istore (lv' := [(4, .int (nI (100 * d + (10 * aa_) + o))), (0, .ref mm), (1, .int (nI d)), (2, .int (nI aa_)), (3, .int (nI o))]) hx hb dX12_canFollow_11 hl (by decide) rfl (fun ls hl => ?_)
  refine lv_aload_n hx hb dX12_canFollow_13 rfl (lv_at hl 1 rfl) ?_
  refine lv_iload_n hx hb dX12_canFollow_14 rfl (lv_at hl 2 rfl) ?_
  refine sk_Vi (q0 := 0) (n := 1) (rest := []) (wr := fmR om_6_30 _) ⟨hx, hb, hml, hown, hts⟩ hl.1 (c_m_isMuteNow l D cI cJ cC cZ cS mm g ta pa pe pd pb pp pf pg pn rt rn cd sn il tk am at_ aa mt_ 1 (-1) wt wy it_ rm ud nu sd qn qw qo qb qp qa qi oc d nw hd hnw) w_7_205 w_7_207 w_0_86 w_1_14 w_7_208 hd_X12_isMuteNow_1 ⟨⟨(Nat.le_of_ble_eq_true rfl), (Nat.le_of_ble_eq_true rfl)⟩, (Nat.le_of_ble_eq_true rfl), (Nat.le_of_ble_eq_true rfl)⟩ hK hP hD hS hA (fmT om_6_30 0) (fmF om_6_30 0) (fm_C1 rfl rfl) (fm_R rfl rfl) (fm_nT om_6_30 0) (fm_nF om_6_30 0) (fm_di om_6_30 0) rfl rfl rfl rfl (Nat.le_of_ble_eq_true rfl) dX12_canFollow_15 (fun r_2 u H locs hw hP hD hS => ?_)
  refine exE hw (fun b_1 hw1 => anE hw1 (fun hb1_3 hw2 => anE hw2 (fun hb2_4 hw3 => anE hw3 (fun er_6 eu_5 => ?_))))
  clear hw hw1 hw2 hw3
  subst er_6
  refine o_mgE (ws' := [ro_ mm 12 (mo g (nI ta) (nI pa) (nI pe) pd (nI pb) pp pf pg pn rt rn (nI cd) sn (nI il) tk am at_ aa mt_ 1 (-1) wt wy (nI it_) (nI rm) (nI ud) (nI nu) sd (nI qn) (nI qw) qo (nI qb) (nI qp) qa (nI qi) (nI oc)), ra_I (g 31) cI 120 nw, ra_I (g 38) cI 90 ws_, ra_I (g 53) cI 32 rw_, ra_I (g 37) cZ 900 yo, ra_I (g 36) cZ 900 yw]) eu_5 hP hD rfl (fun hP hD => ?_)
  refine lv_if_eq (tgt := 34) hx hb dX12_canFollow_18 (by decide) (fun c_7 => ?_) (fun c_7 => ?_)
  · have c_7 : b_1 = 0 := (neq b_1 0 (by omega) (Nat.le_of_ble_eq_true rfl)).mp c_7
    refine lv_aload_n hx hb dX12_canFollow_34 rfl (lv_at hl 1 rfl) ?_
    refine sk_get (v := .ref (g 36)) (C := RX12) (T := TX12) (N := 92) hx hb hts inlX12 hown hK hP 0 rfl rfl 36 (Nat.le_of_ble_eq_true rfl) w_5_191 rfl dX12_canFollow_35 ?_
    refine lv_iload hx hb dX12_canFollow_38 (lv_at hl 0 rfl) ?_
    refine va_zald hx hb hK.1 hP 5 3 rfl rfl (vin (100 * d + (10 * aa_) + o) 900 (by omega) (Nat.le_of_ble_eq_true rfl)) dX12_canFollow_40 ?_
    refine lv_topi (fun v_8 ev_8 => ?_)
    refine lv_if_eq (tgt := 57) hx hb dX12_canFollow_41 (by decide) (fun c_9 => ?_) (fun c_9 => ?_)
    · skip
      refine lv_iconst (v := 0) hx hb dX12_canFollow_57 ic_0 ?_
      exact sk_iret hx hb hr rfl hlocks hK hP hD hS (⟨0, Or.inl ⟨rfl, cfl_c (cf_wf (or_0 hb1_3 (by omega)) ev_8 c_9)⟩, by omega, rfl, rfl⟩) (Nat.le_of_ble_eq_true rfl) (Nat.le_of_ble_eq_true rfl) dX12_canFollow_58
    · skip
      refine lv_aload_n hx hb dX12_canFollow_44 rfl (lv_at hl 1 rfl) ?_
      refine lv_iload_n hx hb dX12_canFollow_45 rfl (lv_at hl 2 rfl) ?_
      refine lv_iload_n hx hb dX12_canFollow_46 rfl (lv_at hl 4 rfl) ?_
      refine sk_Vi (q0 := 0) (n := 2) (rest := []) (wr := fmR om_6_3c _) ⟨hx, hb, hml, hown, hts⟩ hl.1 (c_vm_isLeftH l D cI cJ cC cZ cS mm g ta pa pe pd pb pp pf pg pn rt rn cd sn il tk am at_ aa mt_ wt wy it_ rm ud nu sd qn qw qo qb qp qa qi oc d o nw ws_ rw_ hR hd ho hrw hR90 hrm hnw) w_7_209 w_7_211 w_0_87 w_1_14 w_7_212 hd_X12_isLeft_2 ⟨⟨(Nat.le_of_ble_eq_true rfl), (Nat.le_of_ble_eq_true rfl)⟩, (Nat.le_of_ble_eq_true rfl), (Nat.le_of_ble_eq_true rfl)⟩ hK hP hD hS hA (fmT om_6_3c 0) (fmF om_6_3c 0) (fm_C1 rfl rfl) (fm_R rfl rfl) (fm_nT om_6_3c 0) (fm_nF om_6_3c 0) (fm_di om_6_3c 0) rfl rfl rfl rfl (Nat.le_of_ble_eq_true rfl) dX12_canFollow_47 (fun r_11 u H locs hw hP hD hS => ?_)
      refine exE hw (fun b_10 hw1 => anE hw1 (fun hb1_12 hw2 => anE hw2 (fun hb2_13 hw3 => anE hw3 (fun er_15 eu_14 => ?_))))
      clear hw hw1 hw2 hw3
      subst er_15
      refine o_mgE (ws' := [ro_ mm 12 (mo g (nI ta) (nI pa) (nI pe) pd (nI pb) pp pf pg pn rt rn (nI cd) sn (nI il) tk am at_ aa mt_ 1 (-1) wt wy (nI it_) (nI rm) (nI ud) (nI nu) sd (nI qn) (nI qw) qo (nI qb) (nI qp) qa (nI qi) (nI oc)), ra_I (g 31) cI 120 nw, ra_I (g 38) cI 90 ws_, ra_I (g 53) cI 32 rw_, ra_I (g 37) cZ 900 yo, ra_I (g 36) cZ 900 yw]) eu_14 hP hD rfl (fun hP hD => ?_)
      refine lv_if_eq (tgt := 57) hx hb dX12_canFollow_50 (by decide) (fun c_16 => ?_) (fun c_16 => ?_)
      · have c_16 : b_10 = 0 := (neq b_10 0 (by omega) (Nat.le_of_ble_eq_true rfl)).mp c_16
        refine lv_iconst (v := 0) hx hb dX12_canFollow_57 ic_0 ?_
        exact sk_iret hx hb hr rfl hlocks hK hP hD hS (⟨0, Or.inl ⟨rfl, cfl_l (or_0 hb1_12 (by omega))⟩, by omega, rfl, rfl⟩) (Nat.le_of_ble_eq_true rfl) (Nat.le_of_ble_eq_true rfl) dX12_canFollow_58
      · have c_16 : ¬ (b_10 = 0) := fun h => c_16 ((neq b_10 0 (by omega) (Nat.le_of_ble_eq_true rfl)).mpr h)
        refine lv_iconst (v := 1) hx hb dX12_canFollow_53 ic_1 ?_
        refine lv_goto (tgt := 58) hx hb dX12_canFollow_54 (by decide) ?_
        exact sk_iret hx hb hr rfl hlocks hK hP hD hS (⟨1, Or.inr ⟨rfl, cfl_t (cf_wt (or_0 hb1_3 (by omega)) ev_8 c_9) (or_1 hb1_12 (by omega))⟩, by omega, rfl, rfl⟩) (Nat.le_of_ble_eq_true rfl) (Nat.le_of_ble_eq_true rfl) dX12_canFollow_58
  · have c_7 : ¬ (b_1 = 0) := fun h => c_7 ((neq b_1 0 (by omega) (Nat.le_of_ble_eq_true rfl)).mpr h)
    refine lv_aload_n hx hb dX12_canFollow_21 rfl (lv_at hl 1 rfl) ?_
    refine sk_get (v := .ref (g 37)) (C := RX12) (T := TX12) (N := 92) hx hb hts inlX12 hown hK hP 0 rfl rfl 37 (Nat.le_of_ble_eq_true rfl) w_5_192 rfl dX12_canFollow_22 ?_
    refine lv_iload hx hb dX12_canFollow_25 (lv_at hl 0 rfl) ?_
    refine va_zald hx hb hK.1 hP 4 3 rfl rfl (vin (100 * d + (10 * aa_) + o) 900 (by omega) (Nat.le_of_ble_eq_true rfl)) dX12_canFollow_27 ?_
    refine lv_topi (fun v_17 ev_17 => ?_)
    refine lv_if_eq (tgt := 57) hx hb dX12_canFollow_28 (by decide) (fun c_18 => ?_) (fun c_18 => ?_)
    · skip
      refine lv_iconst (v := 0) hx hb dX12_canFollow_57 ic_0 ?_
      exact sk_iret hx hb hr rfl hlocks hK hP hD hS (⟨0, Or.inl ⟨rfl, cfl_c (cf_mf (or_1 hb1_3 (by omega)) ev_17 c_18)⟩, by omega, rfl, rfl⟩) (Nat.le_of_ble_eq_true rfl) (Nat.le_of_ble_eq_true rfl) dX12_canFollow_58
    · skip
      refine lv_goto (tgt := 44) hx hb dX12_canFollow_31 (by decide) ?_
      refine lv_aload_n hx hb dX12_canFollow_44 rfl (lv_at hl 1 rfl) ?_
      refine lv_iload_n hx hb dX12_canFollow_45 rfl (lv_at hl 2 rfl) ?_
      refine lv_iload_n hx hb dX12_canFollow_46 rfl (lv_at hl 4 rfl) ?_
      refine sk_Vi (q0 := 0) (n := 2) (rest := []) (wr := fmR om_6_3c _) ⟨hx, hb, hml, hown, hts⟩ hl.1 (c_vm_isLeftH l D cI cJ cC cZ cS mm g ta pa pe pd pb pp pf pg pn rt rn cd sn il tk am at_ aa mt_ wt wy it_ rm ud nu sd qn qw qo qb qp qa qi oc d o nw ws_ rw_ hR hd ho hrw hR90 hrm hnw) w_7_209 w_7_211 w_0_87 w_1_14 w_7_212 hd_X12_isLeft_2 ⟨⟨(Nat.le_of_ble_eq_true rfl), (Nat.le_of_ble_eq_true rfl)⟩, (Nat.le_of_ble_eq_true rfl), (Nat.le_of_ble_eq_true rfl)⟩ hK hP hD hS hA (fmT om_6_3c 0) (fmF om_6_3c 0) (fm_C1 rfl rfl) (fm_R rfl rfl) (fm_nT om_6_3c 0) (fm_nF om_6_3c 0) (fm_di om_6_3c 0) rfl rfl rfl rfl (Nat.le_of_ble_eq_true rfl) dX12_canFollow_47 (fun r_20 u H locs hw hP hD hS => ?_)
      refine exE hw (fun b_19 hw1 => anE hw1 (fun hb1_21 hw2 => anE hw2 (fun hb2_22 hw3 => anE hw3 (fun er_24 eu_23 => ?_))))
      clear hw hw1 hw2 hw3
      subst er_24
      refine o_mgE (ws' := [ro_ mm 12 (mo g (nI ta) (nI pa) (nI pe) pd (nI pb) pp pf pg pn rt rn (nI cd) sn (nI il) tk am at_ aa mt_ 1 (-1) wt wy (nI it_) (nI rm) (nI ud) (nI nu) sd (nI qn) (nI qw) qo (nI qb) (nI qp) qa (nI qi) (nI oc)), ra_I (g 31) cI 120 nw, ra_I (g 38) cI 90 ws_, ra_I (g 53) cI 32 rw_, ra_I (g 37) cZ 900 yo, ra_I (g 36) cZ 900 yw]) eu_23 hP hD rfl (fun hP hD => ?_)
      refine lv_if_eq (tgt := 57) hx hb dX12_canFollow_50 (by decide) (fun c_25 => ?_) (fun c_25 => ?_)
      · have c_25 : b_19 = 0 := (neq b_19 0 (by omega) (Nat.le_of_ble_eq_true rfl)).mp c_25
        refine lv_iconst (v := 0) hx hb dX12_canFollow_57 ic_0 ?_
        exact sk_iret hx hb hr rfl hlocks hK hP hD hS (⟨0, Or.inl ⟨rfl, cfl_l (or_0 hb1_21 (by omega))⟩, by omega, rfl, rfl⟩) (Nat.le_of_ble_eq_true rfl) (Nat.le_of_ble_eq_true rfl) dX12_canFollow_58
      · have c_25 : ¬ (b_19 = 0) := fun h => c_25 ((neq b_19 0 (by omega) (Nat.le_of_ble_eq_true rfl)).mpr h)
        refine lv_iconst (v := 1) hx hb dX12_canFollow_53 ic_1 ?_
        refine lv_goto (tgt := 58) hx hb dX12_canFollow_54 (by decide) ?_
        exact sk_iret hx hb hr rfl hlocks hK hP hD hS (⟨1, Or.inr ⟨rfl, cfl_t (cf_mt (or_1 hb1_3 (by omega)) ev_17 c_18) (or_1 hb1_21 (by omega))⟩, by omega, rfl, rfl⟩) (Nat.le_of_ble_eq_true rfl) (Nat.le_of_ble_eq_true rfl) dX12_canFollow_58
def om_9_180 : List Bool := true :: true :: false :: false :: false :: false :: false :: false :: false :: []
def om_9_173 : List Bool := true :: false :: true :: true :: true :: false :: false :: true :: true :: []
set_option maxHeartbeats 4000000 in
set_option maxRecDepth 100000 in
theorem c_vm_laysWaysH (l : Launch) (D : va_G) (cI cJ cC cZ cS : ClassId) (mm : Nat) (g : Nat → Nat) (ta : Nat) (pa : Nat) (pe : Nat) (pd : Int32) (pb : Nat) (pp : Int32) (pf : Int32) (pg : Int32) (pn : Int32) (rt : Int32) (rn : Int32) (cd : Nat) (sn : Int32) (il : Nat) (tk : Int32) (am : Int32) (at_ : Int32) (aa : Int32) (mt_ : Int32) (wt : Int32) (wy : Int64) (it_ : Nat) (rm : Nat) (ud : Nat) (nu : Nat) (sd : Int64) (qn : Nat) (qw : Nat) (qo : Int32) (qb : Nat) (qp : Nat) (qa : Int64) (qi : Nat) (oc : Nat) (l0 : Nat) (l1 : Nat) (dm : Nat) (l3 : Nat) (nw : Nat → Int32) (yo : Nat → Int32) (yw : Nat → Int32) (be : Nat → Int64) (bf : Nat → Int64) (ws_ : Nat → Int32) (rw_ : Nat → Int32) (hR : Nat → Nat) (hdm : dm ≤ 9) (hdm1 : 1 ≤ dm) (hrw : ∀ j, j < rm → rw_ (2 * j) = nI (hR j / 10) ∧ rw_ (2 * j + 1) = nI (hR j % 10)) (hR90 : ∀ j, j < rm → hR j < 90) (hrm : rm ≤ 16) (hnw : nowOk nw) : skM l yX12_laysWays cX12_laysWays 7 none 3 68 0 0 D (skT cI cJ cC cZ cS) [.ref mm] [ro_ mm 12 (mo g (nI ta) (nI pa) (nI pe) pd (nI pb) pp pf pg pn rt rn (nI cd) sn (nI il) tk am at_ aa mt_ 1 (-1) wt wy (nI it_) (nI rm) (nI ud) (nI nu) sd (nI qn) (nI qw) qo (nI qb) (nI qp) qa (nI qi) (nI oc)), ra_I (g 20) cI 4 (l4 (nI l0) (nI l1) (nI dm) (nI l3)), ra_I (g 31) cI 120 nw, ra_I (g 37) cZ 900 yo, ra_I (g 36) cZ 900 yw, ra_J (g 43) cJ 90 be, ra_J (g 44) cJ 90 bf, ra_I (g 38) cI 90 ws_, ra_I (g 53) cI 32 rw_] (skV D (skT cI cJ cC cZ cS) (fun (u : va_W) => ∃ (wy2 : Int64), ∃ (be2 : Nat → Int64), ∃ (bf2 : Nat → Int64), beOk (cfL (cfN nw yw yo mt_) (lfH nw ws_ hR rm)) dm 0 be2 ∧ bfOk (cfL (cfN nw yw yo mt_) (lfH nw ws_ hR rm)) (a0N nw) dm bf2 ∧ wy2 = nL (wys (cfL (cfN nw yw yo mt_) (lfH nw ws_ hR rm)) (a0N nw) (dm - 1)) ∧ u = [ro_ mm 12 (mo g (nI ta) (nI pa) (nI pe) pd (nI pb) pp pf pg pn rt rn (nI cd) sn (nI il) tk am at_ aa mt_ 1 (-1) wt wy2 (nI it_) (nI rm) (nI ud) (nI nu) sd (nI qn) (nI qw) qo (nI qb) (nI qp) qa (nI qi) (nI oc)), ra_I (g 20) cI 4 (l4 (nI l0) (nI l1) (nI dm) (nI l3)), ra_I (g 31) cI 120 nw, ra_I (g 37) cZ 900 yo, ra_I (g 36) cZ 900 yw, ra_J (g 43) cJ 90 be2, ra_J (g 44) cJ 90 bf2, ra_I (g 38) cI 90 ws_, ra_I (g 53) cI 32 rw_])) := by
  refine skM_of pf_X12_laysWays (Nat.le_of_ble_eq_true rfl) ?_
  intro p e s m below meth c A ls E hP hD hl
  refine skE_el E (fun hx hb hr hml hlocks hin hown hts hK hA => ?_)
  have hown : s.vm.findClass RX12 = some m.cls := hown
  have hS : va_S A s.heap s.heap [] := va_S.rf
  have hl : lv_has ls 7 [(0, .ref mm)] := hl
  refine lv_aload_n hx hb dX12_laysWays_0 rfl (lv_at hl 0 rfl) ?_
  refine sk_Vi (q0 := 0) (n := 0) (rest := []) (wr := fmR om_9_180 _) ⟨hx, hb, hml, hown, hts⟩ hl.1 (c_m_dayMany l D cI cJ cC cZ cS mm g ta pa pe pd pb pp pf pg pn rt rn cd sn il tk am at_ aa mt_ 1 (-1) wt wy it_ rm ud nu sd qn qw qo qb qp qa qi oc l0 l1 dm l3) w_7_98 w_7_100 w_0_69 w_1_14 w_7_101 hd_X12_dayMany_0 ⟨⟨(Nat.le_of_ble_eq_true rfl), (Nat.le_of_ble_eq_true rfl)⟩, (Nat.le_of_ble_eq_true rfl), (Nat.le_of_ble_eq_true rfl)⟩ hK hP hD hS hA (fmT om_9_180 0) (fmF om_9_180 0) (fm_C1 rfl rfl) (fm_R rfl rfl) (fm_nT om_9_180 0) (fm_nF om_9_180 0) (fm_di om_9_180 0) rfl rfl rfl rfl (Nat.le_of_ble_eq_true rfl) dX12_laysWays_1 (fun r_1 u H locs hw hP hD hS => ?_)
  refine anE hw (fun er_3 eu_2 => ?_)
  clear hw
  subst er_3
  refine o_mgE (ws' := [ro_ mm 12 (mo g (nI ta) (nI pa) (nI pe) pd (nI pb) pp pf pg pn rt rn (nI cd) sn (nI il) tk am at_ aa mt_ 1 (-1) wt wy (nI it_) (nI rm) (nI ud) (nI nu) sd (nI qn) (nI qw) qo (nI qb) (nI qp) qa (nI qi) (nI oc)), ra_I (g 20) cI 4 (l4 (nI l0) (nI l1) (nI dm) (nI l3)), ra_I (g 31) cI 120 nw, ra_I (g 37) cZ 900 yo, ra_I (g 36) cZ 900 yw, ra_J (g 43) cJ 90 be, ra_J (g 44) cJ 90 bf, ra_I (g 38) cI 90 ws_, ra_I (g 53) cI 32 rw_]) eu_2 hP hD rfl (fun hP hD => ?_)
  refine lv_iconst (v := 1) hx hb dX12_laysWays_4 ic_1 ?_
  refine lv_isub hx hb dX12_laysWays_5 ?_
  refine lv_istore_n (lv' := [(1, .int (nI dm - 1)), (0, .ref mm)]) hx hb dX12_laysWays_6 rfl hl (by decide) rfl (fun ls hl => ?_)
  refine lv_iload_n hx hb dX12_laysWays_7 rfl (lv_at hl 0 rfl) ?_
  refine lv_istore_n (lv' := [(2, .int (nI dm - 1)), (1, .int (nI dm - 1)), (0, .ref mm)]) hx hb dX12_laysWays_8 rfl hl (by decide) rfl (fun ls hl => ?_)
  have lp_4 : ∀ (n_5 : Nat) (dd : Nat) (zb : Nat → Int64) (H : Heap) (locs : List Loc) (ls : Array Slot), dd < n_5 → (dd ≤ dm) → (beOk (cfL (cfN nw yw yo mt_) (lfH nw ws_ hR rm)) dm dd zb) → va_P D vwCl [ro_ mm 12 (mo g (nI ta) (nI pa) (nI pe) pd (nI pb) pp pf pg pn rt rn (nI cd) sn (nI il) tk am at_ aa mt_ 1 (-1) wt wy (nI it_) (nI rm) (nI ud) (nI nu) sd (nI qn) (nI qw) qo (nI qb) (nI qp) qa (nI qi) (nI oc)), ra_I (g 20) cI 4 (l4 (nI l0) (nI l1) (nI dm) (nI l3)), ra_I (g 31) cI 120 nw, ra_I (g 37) cZ 900 yo, ra_I (g 36) cZ 900 yw, ra_J (g 43) cJ 90 zb, ra_J (g 44) cJ 90 bf, ra_I (g 38) cI 90 ws_, ra_I (g 53) cI 32 rw_] H → va_D A [ro_ mm 12 (mo g (nI ta) (nI pa) (nI pe) pd (nI pb) pp pf pg pn rt rn (nI cd) sn (nI il) tk am at_ aa mt_ 1 (-1) wt wy (nI it_) (nI rm) (nI ud) (nI nu) sd (nI qn) (nI qw) qo (nI qb) (nI qp) qa (nI qi) (nI oc)), ra_I (g 20) cI 4 (l4 (nI l0) (nI l1) (nI dm) (nI l3)), ra_I (g 31) cI 120 nw, ra_I (g 37) cZ 900 yo, ra_I (g 36) cZ 900 yw, ra_J (g 43) cJ 90 zb, ra_J (g 44) cJ 90 bf, ra_I (g 38) cI 90 ws_, ra_I (g 53) cI 32 rw_] → va_S A s.heap H locs → lv_has ls 7 [(2, .int (nI dd - 1)), (1, .int (nI dm - 1)), (0, .ref mm)] → W p l e { frames := 3, cells := 0, slots := 0, locals := 68 } s m ([.ref mm] : List Value).toArray below meth c H locs 0 0 (MQ below (skV D (skT cI cJ cC cZ cS) (fun (u : va_W) => ∃ (wy2 : Int64), ∃ (be2 : Nat → Int64), ∃ (bf2 : Nat → Int64), beOk (cfL (cfN nw yw yo mt_) (lfH nw ws_ hR rm)) dm 0 be2 ∧ bfOk (cfL (cfN nw yw yo mt_) (lfH nw ws_ hR rm)) (a0N nw) dm bf2 ∧ wy2 = nL (wys (cfL (cfN nw yw yo mt_) (lfH nw ws_ hR rm)) (a0N nw) (dm - 1)) ∧ u = [ro_ mm 12 (mo g (nI ta) (nI pa) (nI pe) pd (nI pb) pp pf pg pn rt rn (nI cd) sn (nI il) tk am at_ aa mt_ 1 (-1) wt wy2 (nI it_) (nI rm) (nI ud) (nI nu) sd (nI qn) (nI qw) qo (nI qb) (nI qp) qa (nI qi) (nI oc)), ra_I (g 20) cI 4 (l4 (nI l0) (nI l1) (nI dm) (nI l3)), ra_I (g 31) cI 120 nw, ra_I (g 37) cZ 900 yo, ra_I (g 36) cZ 900 yw, ra_J (g 43) cJ 90 be2, ra_J (g 44) cJ 90 bf2, ra_I (g 38) cI 90 ws_, ra_I (g 53) cI 32 rw_]) A) ([.ref mm] : List Value).toArray s 0 0 A) (F0 m 9 ls []) := by
    intro n_5
    induction n_5 with
    | zero => intro dd zb H locs ls hm; exact absurd hm (Nat.not_lt_zero _)
    | succ n_5 ih_lp_4 =>
      intro dd zb H locs ls hm hdd hbe hP hD hS hl
      refine lv_iload_n hx hb dX12_laysWays_9 rfl (lv_at hl 0 rfl) ?_
      refine lv_if_lt (tgt := 111) hx hb dX12_laysWays_10 (by decide) (fun c_6 => ?_) (fun c_6 => ?_)
      · have c_6 : dd = 0 := npm0 dd (by omega) c_6
        refine lv_aload_n hx hb dX12_laysWays_111 rfl (lv_at hl 2 rfl) ?_
        refine lv_lconst (v := 0) hx hb dX12_laysWays_112 (by decide) ?_
        refine sk_put (ws' := [ro_ mm 12 (mo g (nI ta) (nI pa) (nI pe) pd (nI pb) pp pf pg pn rt rn (nI cd) sn (nI il) tk am at_ aa mt_ 1 (-1) wt 0 (nI it_) (nI rm) (nI ud) (nI nu) sd (nI qn) (nI qw) qo (nI qb) (nI qp) qa (nI qi) (nI oc)), ra_I (g 20) cI 4 (l4 (nI l0) (nI l1) (nI dm) (nI l3)), ra_I (g 31) cI 120 nw, ra_I (g 37) cZ 900 yo, ra_I (g 36) cZ 900 yw, ra_J (g 43) cJ 90 zb, ra_J (g 44) cJ 90 bf, ra_I (g 38) cI 90 ws_, ra_I (g 53) cI 32 rw_]) (C := RX12) (T := TX12) (N := 92) (v := .long 0) hx hb hts inlX12 tyX12 tyX12_ok nmX12 hown hK hP hD hS 0 rfl rfl 45 (Nat.le_of_ble_eq_true rfl) w_5_200 rfl rfl rfl (Nat.le_of_ble_eq_true rfl) rfl dX12_laysWays_113 (fun H locs hP hD hS => ?_)
        refine lv_iconst (v := 0) hx hb dX12_laysWays_116 ic_0 ?_
        refine lv_istore_n (lv' := [(2, .int 0), (1, .int (nI dm - 1)), (0, .ref mm)]) hx hb dX12_laysWays_117 rfl hl (by decide) rfl (fun ls hl => ?_)
        have lp_7 : ∀ (n_8 : Nat) (i : Nat) (zy : Int64) (zf : Nat → Int64) (H : Heap) (locs : List Loc) (ls : Array Slot), dm - i < n_8 → (i ≤ dm) → (bfOk (cfL (cfN nw yw yo mt_) (lfH nw ws_ hR rm)) (a0N nw) i zf) → (wyAt (cfL (cfN nw yw yo mt_) (lfH nw ws_ hR rm)) (a0N nw) dm i zy) → va_P D vwCl [ro_ mm 12 (mo g (nI ta) (nI pa) (nI pe) pd (nI pb) pp pf pg pn rt rn (nI cd) sn (nI il) tk am at_ aa mt_ 1 (-1) wt zy (nI it_) (nI rm) (nI ud) (nI nu) sd (nI qn) (nI qw) qo (nI qb) (nI qp) qa (nI qi) (nI oc)), ra_I (g 20) cI 4 (l4 (nI l0) (nI l1) (nI dm) (nI l3)), ra_I (g 31) cI 120 nw, ra_I (g 37) cZ 900 yo, ra_I (g 36) cZ 900 yw, ra_J (g 43) cJ 90 zb, ra_J (g 44) cJ 90 zf, ra_I (g 38) cI 90 ws_, ra_I (g 53) cI 32 rw_] H → va_D A [ro_ mm 12 (mo g (nI ta) (nI pa) (nI pe) pd (nI pb) pp pf pg pn rt rn (nI cd) sn (nI il) tk am at_ aa mt_ 1 (-1) wt zy (nI it_) (nI rm) (nI ud) (nI nu) sd (nI qn) (nI qw) qo (nI qb) (nI qp) qa (nI qi) (nI oc)), ra_I (g 20) cI 4 (l4 (nI l0) (nI l1) (nI dm) (nI l3)), ra_I (g 31) cI 120 nw, ra_I (g 37) cZ 900 yo, ra_I (g 36) cZ 900 yw, ra_J (g 43) cJ 90 zb, ra_J (g 44) cJ 90 zf, ra_I (g 38) cI 90 ws_, ra_I (g 53) cI 32 rw_] → va_S A s.heap H locs → lv_has ls 7 [(2, .int (nI i)), (1, .int (nI dm - 1)), (0, .ref mm)] → W p l e { frames := 3, cells := 0, slots := 0, locals := 68 } s m ([.ref mm] : List Value).toArray below meth c H locs 0 0 (MQ below (skV D (skT cI cJ cC cZ cS) (fun (u : va_W) => ∃ (wy2 : Int64), ∃ (be2 : Nat → Int64), ∃ (bf2 : Nat → Int64), beOk (cfL (cfN nw yw yo mt_) (lfH nw ws_ hR rm)) dm 0 be2 ∧ bfOk (cfL (cfN nw yw yo mt_) (lfH nw ws_ hR rm)) (a0N nw) dm bf2 ∧ wy2 = nL (wys (cfL (cfN nw yw yo mt_) (lfH nw ws_ hR rm)) (a0N nw) (dm - 1)) ∧ u = [ro_ mm 12 (mo g (nI ta) (nI pa) (nI pe) pd (nI pb) pp pf pg pn rt rn (nI cd) sn (nI il) tk am at_ aa mt_ 1 (-1) wt wy2 (nI it_) (nI rm) (nI ud) (nI nu) sd (nI qn) (nI qw) qo (nI qb) (nI qp) qa (nI qi) (nI oc)), ra_I (g 20) cI 4 (l4 (nI l0) (nI l1) (nI dm) (nI l3)), ra_I (g 31) cI 120 nw, ra_I (g 37) cZ 900 yo, ra_I (g 36) cZ 900 yw, ra_J (g 43) cJ 90 be2, ra_J (g 44) cJ 90 bf2, ra_I (g 38) cI 90 ws_, ra_I (g 53) cI 32 rw_]) A) ([.ref mm] : List Value).toArray s 0 0 A) (F0 m 118 ls []) := by
          intro n_8
          induction n_8 with
          | zero => intro i zy zf H locs ls hm; exact absurd hm (Nat.not_lt_zero _)
          | succ n_8 ih_lp_7 =>
            intro i zy zf H locs ls hm hi hbf hzy hP hD hS hl
            refine lv_iload_n hx hb dX12_laysWays_118 rfl (lv_at hl 0 rfl) ?_
            refine lv_iload_n hx hb dX12_laysWays_119 rfl (lv_at hl 1 rfl) ?_
            refine lv_icmp_gt (tgt := 248) hx hb dX12_laysWays_120 (by decide) (fun c_9 => ?_) (fun c_9 => ?_)
            · have c_9 : ((dm : Nat) : Int) - 1 < ((i : Nat) : Int) := (ilt (ivp dm (by omega)) (ivn i (by omega))).mp c_9
              exact sk_vret hx hb hr hlocks hK hP hD hS (⟨zy, zb, zf, (be_z hbe (by omega)), (show bfOk (cfL (cfN nw yw yo mt_) (lfH nw ws_ hR rm)) (a0N nw) dm zf by rw [show dm = i by omega]; exact hbf), wyAt_n hzy (by omega), rfl⟩) (Nat.le_of_ble_eq_true rfl) (Nat.le_of_ble_eq_true rfl) dX12_laysWays_248
            · have c_9 : ¬ (((dm : Nat) : Int) - 1 < ((i : Nat) : Int)) := fun h => c_9 ((ilt (ivp dm (by omega)) (ivn i (by omega))).mpr h)
              refine lv_iconst (v := 0) hx hb dX12_laysWays_123 ic_0 ?_
              refine lv_istore_n (lv' := [(3, .int 0), (2, .int (nI i)), (1, .int (nI dm - 1)), (0, .ref mm)]) hx hb dX12_laysWays_124 rfl hl (by decide) rfl (fun ls hl => ?_)
              have lp_10 : ∀ (n_11 : Nat) (jm : Nat) (zyb : Int64) (zg : Nat → Int64) (H : Heap) (locs : List Loc) (ls : Array Slot), 10 - jm < n_11 → (jm ≤ 10) → (bfOk2 (cfL (cfN nw yw yo mt_) (lfH nw ws_ hR rm)) (a0N nw) i jm zg) → (wyOk (cfL (cfN nw yw yo mt_) (lfH nw ws_ hR rm)) (a0N nw) dm i jm zyb) → va_P D vwCl [ro_ mm 12 (mo g (nI ta) (nI pa) (nI pe) pd (nI pb) pp pf pg pn rt rn (nI cd) sn (nI il) tk am at_ aa mt_ 1 (-1) wt zyb (nI it_) (nI rm) (nI ud) (nI nu) sd (nI qn) (nI qw) qo (nI qb) (nI qp) qa (nI qi) (nI oc)), ra_I (g 20) cI 4 (l4 (nI l0) (nI l1) (nI dm) (nI l3)), ra_I (g 31) cI 120 nw, ra_I (g 37) cZ 900 yo, ra_I (g 36) cZ 900 yw, ra_J (g 43) cJ 90 zb, ra_J (g 44) cJ 90 zg, ra_I (g 38) cI 90 ws_, ra_I (g 53) cI 32 rw_] H → va_D A [ro_ mm 12 (mo g (nI ta) (nI pa) (nI pe) pd (nI pb) pp pf pg pn rt rn (nI cd) sn (nI il) tk am at_ aa mt_ 1 (-1) wt zyb (nI it_) (nI rm) (nI ud) (nI nu) sd (nI qn) (nI qw) qo (nI qb) (nI qp) qa (nI qi) (nI oc)), ra_I (g 20) cI 4 (l4 (nI l0) (nI l1) (nI dm) (nI l3)), ra_I (g 31) cI 120 nw, ra_I (g 37) cZ 900 yo, ra_I (g 36) cZ 900 yw, ra_J (g 43) cJ 90 zb, ra_J (g 44) cJ 90 zg, ra_I (g 38) cI 90 ws_, ra_I (g 53) cI 32 rw_] → va_S A s.heap H locs → lv_has ls 7 [(3, .int (nI jm)), (2, .int (nI i)), (1, .int (nI dm - 1)), (0, .ref mm)] → W p l e { frames := 3, cells := 0, slots := 0, locals := 68 } s m ([.ref mm] : List Value).toArray below meth c H locs 0 0 (MQ below (skV D (skT cI cJ cC cZ cS) (fun (u : va_W) => ∃ (wy2 : Int64), ∃ (be2 : Nat → Int64), ∃ (bf2 : Nat → Int64), beOk (cfL (cfN nw yw yo mt_) (lfH nw ws_ hR rm)) dm 0 be2 ∧ bfOk (cfL (cfN nw yw yo mt_) (lfH nw ws_ hR rm)) (a0N nw) dm bf2 ∧ wy2 = nL (wys (cfL (cfN nw yw yo mt_) (lfH nw ws_ hR rm)) (a0N nw) (dm - 1)) ∧ u = [ro_ mm 12 (mo g (nI ta) (nI pa) (nI pe) pd (nI pb) pp pf pg pn rt rn (nI cd) sn (nI il) tk am at_ aa mt_ 1 (-1) wt wy2 (nI it_) (nI rm) (nI ud) (nI nu) sd (nI qn) (nI qw) qo (nI qb) (nI qp) qa (nI qi) (nI oc)), ra_I (g 20) cI 4 (l4 (nI l0) (nI l1) (nI dm) (nI l3)), ra_I (g 31) cI 120 nw, ra_I (g 37) cZ 900 yo, ra_I (g 36) cZ 900 yw, ra_J (g 43) cJ 90 be2, ra_J (g 44) cJ 90 bf2, ra_I (g 38) cI 90 ws_, ra_I (g 53) cI 32 rw_]) A) ([.ref mm] : List Value).toArray s 0 0 A) (F0 m 125 ls []) := by
                intro n_11
                induction n_11 with
                | zero => intro jm zyb zg H locs ls hm; exact absurd hm (Nat.not_lt_zero _)
                | succ n_11 ih_lp_10 =>
                  intro jm zyb zg H locs ls hm hjm hbf2 hzyb hP hD hS hl
                  refine lv_iload_n hx hb dX12_laysWays_125 rfl (lv_at hl 0 rfl) ?_
                  refine lv_bipush (v := 10) hx hb dX12_laysWays_126 (by decide) ?_
                  refine lv_icmp_ge (tgt := 242) hx hb dX12_laysWays_128 (by decide) (fun c_12 => ?_) (fun c_12 => ?_)
                  · have c_12 : 10 ≤ jm := (nle 10 jm (Nat.le_of_ble_eq_true rfl) (by omega)).mp c_12
                    refine lv_iinc (v := nI (i + 1)) (lv' := [(2, .int (nI (i + 1))), (3, .int (nI jm)), (1, .int (nI dm - 1)), (0, .ref mm)]) hx hb dX12_laysWays_242 hl (k := 1) rfl (ninc i 1 (by decide)) (by decide) rfl (fun ls hl => ?_)
                    refine lv_goto (tgt := 118) hx hb dX12_laysWays_245 (by decide) ?_
                    exact ih_lp_7 (i + 1) zyb zg _ _ _ (by omega) (by omega) (bf_fin hbf2 (by omega)) (wy_fin hzyb (by omega)) hP hD hS (lv_sub hl [0, 2, 3] rfl)
                  · have c_12 : ¬ (10 ≤ jm) := fun h => c_12 ((nle 10 jm (Nat.le_of_ble_eq_true rfl) (by omega)).mpr h)
                    refine lv_iload_n hx hb dX12_laysWays_131 rfl (lv_at hl 1 rfl) ?_
                    refine lv_if_ne (tgt := 154) hx hb dX12_laysWays_132 (by decide) (fun c_13 => ?_) (fun c_13 => ?_)
                    · have c_13 : ¬ (i = 0) := fun h => c_13 ((neq i 0 (by omega) (Nat.le_of_ble_eq_true rfl)).mpr h)
                      refine lv_lconst (v := 0) hx hb dX12_laysWays_154 (by decide) ?_
                      refine lv_lstore (lv' := [(4, .long 0), (3, .int (nI jm)), (2, .int (nI i)), (1, .int (nI dm - 1)), (0, .ref mm)]) hx hb dX12_laysWays_155 hl (by decide) rfl (fun ls hl => ?_)
                      refine lv_iconst (v := 0) hx hb dX12_laysWays_157 ic_0 ?_
                      refine lv_istore (lv' := [(6, .int 0), (4, .long 0), (3, .int (nI jm)), (2, .int (nI i)), (1, .int (nI dm - 1)), (0, .ref mm)]) hx hb dX12_laysWays_158 hl (by decide) rfl (fun ls hl => ?_)
                      have lp_14 : ∀ (n_15 : Nat) (kk : Nat) (xn : Int64) (H : Heap) (locs : List Loc) (ls : Array Slot), 10 - kk < n_15 → (kk ≤ 10) → (fx (cfL (cfN nw yw yo mt_) (lfH nw ws_ hR rm)) (a0N nw) i jm kk xn) → va_P D vwCl [ro_ mm 12 (mo g (nI ta) (nI pa) (nI pe) pd (nI pb) pp pf pg pn rt rn (nI cd) sn (nI il) tk am at_ aa mt_ 1 (-1) wt zyb (nI it_) (nI rm) (nI ud) (nI nu) sd (nI qn) (nI qw) qo (nI qb) (nI qp) qa (nI qi) (nI oc)), ra_I (g 20) cI 4 (l4 (nI l0) (nI l1) (nI dm) (nI l3)), ra_I (g 31) cI 120 nw, ra_I (g 37) cZ 900 yo, ra_I (g 36) cZ 900 yw, ra_J (g 43) cJ 90 zb, ra_J (g 44) cJ 90 zg, ra_I (g 38) cI 90 ws_, ra_I (g 53) cI 32 rw_] H → va_D A [ro_ mm 12 (mo g (nI ta) (nI pa) (nI pe) pd (nI pb) pp pf pg pn rt rn (nI cd) sn (nI il) tk am at_ aa mt_ 1 (-1) wt zyb (nI it_) (nI rm) (nI ud) (nI nu) sd (nI qn) (nI qw) qo (nI qb) (nI qp) qa (nI qi) (nI oc)), ra_I (g 20) cI 4 (l4 (nI l0) (nI l1) (nI dm) (nI l3)), ra_I (g 31) cI 120 nw, ra_I (g 37) cZ 900 yo, ra_I (g 36) cZ 900 yw, ra_J (g 43) cJ 90 zb, ra_J (g 44) cJ 90 zg, ra_I (g 38) cI 90 ws_, ra_I (g 53) cI 32 rw_] → va_S A s.heap H locs → lv_has ls 7 [(6, .int (nI kk)), (4, .long xn), (3, .int (nI jm)), (2, .int (nI i)), (1, .int (nI dm - 1)), (0, .ref mm)] → W p l e { frames := 3, cells := 0, slots := 0, locals := 68 } s m ([.ref mm] : List Value).toArray below meth c H locs 0 0 (MQ below (skV D (skT cI cJ cC cZ cS) (fun (u : va_W) => ∃ (wy2 : Int64), ∃ (be2 : Nat → Int64), ∃ (bf2 : Nat → Int64), beOk (cfL (cfN nw yw yo mt_) (lfH nw ws_ hR rm)) dm 0 be2 ∧ bfOk (cfL (cfN nw yw yo mt_) (lfH nw ws_ hR rm)) (a0N nw) dm bf2 ∧ wy2 = nL (wys (cfL (cfN nw yw yo mt_) (lfH nw ws_ hR rm)) (a0N nw) (dm - 1)) ∧ u = [ro_ mm 12 (mo g (nI ta) (nI pa) (nI pe) pd (nI pb) pp pf pg pn rt rn (nI cd) sn (nI il) tk am at_ aa mt_ 1 (-1) wt wy2 (nI it_) (nI rm) (nI ud) (nI nu) sd (nI qn) (nI qw) qo (nI qb) (nI qp) qa (nI qi) (nI oc)), ra_I (g 20) cI 4 (l4 (nI l0) (nI l1) (nI dm) (nI l3)), ra_I (g 31) cI 120 nw, ra_I (g 37) cZ 900 yo, ra_I (g 36) cZ 900 yw, ra_J (g 43) cJ 90 be2, ra_J (g 44) cJ 90 bf2, ra_I (g 38) cI 90 ws_, ra_I (g 53) cI 32 rw_]) A) ([.ref mm] : List Value).toArray s 0 0 A) (F0 m 160 ls []) := by
                        intro n_15
                        induction n_15 with
                        | zero => intro kk xn H locs ls hm; exact absurd hm (Nat.not_lt_zero _)
                        | succ n_15 ih_lp_14 =>
                          intro kk xn H locs ls hm hkk hfx hP hD hS hl
                          refine lv_iload hx hb dX12_laysWays_160 (lv_at hl 0 rfl) ?_
                          refine lv_bipush (v := 10) hx hb dX12_laysWays_162 (by decide) ?_
                          refine lv_icmp_ge (tgt := 207) hx hb dX12_laysWays_164 (by decide) (fun c_16 => ?_) (fun c_16 => ?_)
                          · have c_16 : 10 ≤ kk := (nle 10 kk (Nat.le_of_ble_eq_true rfl) (by omega)).mp c_16
                            refine lv_aload_n hx hb dX12_laysWays_207 rfl (lv_at hl 5 rfl) ?_
                            refine sk_get (v := .ref (g 44)) (C := RX12) (T := TX12) (N := 92) hx hb hts inlX12 hown hK hP 0 rfl rfl 44 (Nat.le_of_ble_eq_true rfl) w_5_199 rfl dX12_laysWays_208 ?_
                            refine lv_bipush (v := 10) hx hb dX12_laysWays_211 (by decide) ?_
                            refine lv_iload_n hx hb dX12_laysWays_213 rfl (lv_at hl 3 rfl) ?_
                            refine lv_imul hx hb dX12_laysWays_214 ?_
                            refine sk_top (nI (10 * i)) (nmul 10 i) ?_
                            refine lv_iload_n hx hb dX12_laysWays_215 rfl (lv_at hl 2 rfl) ?_
                            refine lv_iadd hx hb dX12_laysWays_216 ?_
                            refine sk_top (nI (10 * i + jm)) (nI_add (10 * i) jm) ?_
                            refine lv_lload hx hb dX12_laysWays_217 (lv_at hl 1 rfl) ?_
                            refine sk_lastP (Pr := bfOk2 (cfL (cfN nw yw yo mt_) (lfH nw ws_ hR rm)) (a0N nw) i (jm + 1)) (ws' := fun f_17 => [ro_ mm 12 (mo g (nI ta) (nI pa) (nI pe) pd (nI pb) pp pf pg pn rt rn (nI cd) sn (nI il) tk am at_ aa mt_ 1 (-1) wt zyb (nI it_) (nI rm) (nI ud) (nI nu) sd (nI qn) (nI qw) qo (nI qb) (nI qp) qa (nI qi) (nI oc)), ra_I (g 20) cI 4 (l4 (nI l0) (nI l1) (nI dm) (nI l3)), ra_I (g 31) cI 120 nw, ra_I (g 37) cZ 900 yo, ra_I (g 36) cZ 900 yw, ra_J (g 43) cJ 90 zb, ra_J (g 44) cJ 90 f_17, ra_I (g 38) cI 90 ws_, ra_I (g 53) cI 32 rw_]) hx hb hK hP hD hS 6 1 rfl rfl (vin (10 * i + jm) 90 (by omega) (Nat.le_of_ble_eq_true rfl)) (fun _ => rfl) (bf_store hbf2 (by omega) (by omega) (fx_fin hfx (by omega))) dX12_laysWays_219 (fun f_17 H locs hf_18 hP hD hS => ?_)
                            refine lv_iload_n hx hb dX12_laysWays_220 rfl (lv_at hl 3 rfl) ?_
                            refine lv_iload_n hx hb dX12_laysWays_221 rfl (lv_at hl 4 rfl) ?_
                            refine lv_icmp_ne (tgt := 236) hx hb dX12_laysWays_222 (by decide) (fun c_19 => ?_) (fun c_19 => ?_)
                            · have c_19 : ¬ (((i : Nat) : Int) = ((dm : Nat) : Int) - 1) := fun h => c_19 ((ieq (ivn i (by omega)) (ivp dm (by omega))).mpr h)
                              refine lv_iinc (v := nI (jm + 1)) (lv' := [(3, .int (nI (jm + 1))), (6, .int (nI kk)), (4, .long xn), (2, .int (nI i)), (1, .int (nI dm - 1)), (0, .ref mm)]) hx hb dX12_laysWays_236 hl (k := 2) rfl (ninc jm 1 (by decide)) (by decide) rfl (fun ls hl => ?_)
                              refine lv_goto (tgt := 125) hx hb dX12_laysWays_239 (by decide) ?_
                              exact ih_lp_10 (jm + 1) zyb f_17 _ _ _ (by omega) (by omega) hf_18 (wy_keep hzyb (by omega)) hP hD hS (lv_sub hl [0, 3, 4, 5] rfl)
                            · have c_19 : ((i : Nat) : Int) = ((dm : Nat) : Int) - 1 := (ieq (ivn i (by omega)) (ivp dm (by omega))).mp c_19
                              refine lv_aload_n hx hb dX12_laysWays_225 rfl (lv_at hl 5 rfl) ?_
                              refine lv_dup hx hb dX12_laysWays_226 rfl ?_
                              refine sk_get (v := .long zyb) (C := RX12) (T := TX12) (N := 92) hx hb hts inlX12 hown hK hP 0 rfl rfl 45 (Nat.le_of_ble_eq_true rfl) w_5_200 rfl dX12_laysWays_227 ?_
                              refine lv_lload hx hb dX12_laysWays_230 (lv_at hl 1 rfl) ?_
                              refine lv_ladd hx hb dX12_laysWays_232 ?_
                              refine lv_topl (fun v_20 ev_20 => ?_)
                              refine sk_put (ws' := [ro_ mm 12 (mo g (nI ta) (nI pa) (nI pe) pd (nI pb) pp pf pg pn rt rn (nI cd) sn (nI il) tk am at_ aa mt_ 1 (-1) wt v_20 (nI it_) (nI rm) (nI ud) (nI nu) sd (nI qn) (nI qw) qo (nI qb) (nI qp) qa (nI qi) (nI oc)), ra_I (g 20) cI 4 (l4 (nI l0) (nI l1) (nI dm) (nI l3)), ra_I (g 31) cI 120 nw, ra_I (g 37) cZ 900 yo, ra_I (g 36) cZ 900 yw, ra_J (g 43) cJ 90 zb, ra_J (g 44) cJ 90 f_17, ra_I (g 38) cI 90 ws_, ra_I (g 53) cI 32 rw_]) (C := RX12) (T := TX12) (N := 92) (v := .long v_20) hx hb hts inlX12 tyX12 tyX12_ok nmX12 hown hK hP hD hS 0 rfl rfl 45 (Nat.le_of_ble_eq_true rfl) w_5_200 rfl rfl rfl (Nat.le_of_ble_eq_true rfl) rfl dX12_laysWays_233 (fun H locs hP hD hS => ?_)
                              refine lv_iinc (v := nI (jm + 1)) (lv' := [(3, .int (nI (jm + 1))), (6, .int (nI kk)), (4, .long xn), (2, .int (nI i)), (1, .int (nI dm - 1)), (0, .ref mm)]) hx hb dX12_laysWays_236 hl (k := 2) rfl (ninc jm 1 (by decide)) (by decide) rfl (fun ls hl => ?_)
                              refine lv_goto (tgt := 125) hx hb dX12_laysWays_239 (by decide) ?_
                              exact ih_lp_10 (jm + 1) v_20 f_17 _ _ _ (by omega) (by omega) hf_18 (wy_add hzyb (fx_fin hfx (by omega)) (by omega) ev_20) hP hD hS (lv_sub hl [0, 3, 4, 5] rfl)
                          · have c_16 : ¬ (10 ≤ kk) := fun h => c_16 ((nle 10 kk (Nat.le_of_ble_eq_true rfl) (by omega)).mpr h)
                            refine lv_iload_n hx hb dX12_laysWays_167 rfl (lv_at hl 3 rfl) ?_
                            refine lv_if_le (tgt := 207) hx hb dX12_laysWays_168 (by decide) (fun c_21 => ?_) (fun c_21 => ?_)
                            · have c_21 : i ≤ 0 := (nle i 0 (by omega) (Nat.le_of_ble_eq_true rfl)).mp c_21
                              refine lv_aload_n hx hb dX12_laysWays_207 rfl (lv_at hl 5 rfl) ?_
                              refine sk_get (v := .ref (g 44)) (C := RX12) (T := TX12) (N := 92) hx hb hts inlX12 hown hK hP 0 rfl rfl 44 (Nat.le_of_ble_eq_true rfl) w_5_199 rfl dX12_laysWays_208 ?_
                              refine lv_bipush (v := 10) hx hb dX12_laysWays_211 (by decide) ?_
                              refine lv_iload_n hx hb dX12_laysWays_213 rfl (lv_at hl 3 rfl) ?_
                              refine lv_imul hx hb dX12_laysWays_214 ?_
                              refine sk_top (nI (10 * i)) (nmul 10 i) ?_
                              refine lv_iload_n hx hb dX12_laysWays_215 rfl (lv_at hl 2 rfl) ?_
                              refine lv_iadd hx hb dX12_laysWays_216 ?_
                              refine sk_top (nI (10 * i + jm)) (nI_add (10 * i) jm) ?_
                              refine lv_lload hx hb dX12_laysWays_217 (lv_at hl 1 rfl) ?_
                              refine sk_lastP (Pr := bfOk2 (cfL (cfN nw yw yo mt_) (lfH nw ws_ hR rm)) (a0N nw) i (jm + 1)) (ws' := fun f_22 => [ro_ mm 12 (mo g (nI ta) (nI pa) (nI pe) pd (nI pb) pp pf pg pn rt rn (nI cd) sn (nI il) tk am at_ aa mt_ 1 (-1) wt zyb (nI it_) (nI rm) (nI ud) (nI nu) sd (nI qn) (nI qw) qo (nI qb) (nI qp) qa (nI qi) (nI oc)), ra_I (g 20) cI 4 (l4 (nI l0) (nI l1) (nI dm) (nI l3)), ra_I (g 31) cI 120 nw, ra_I (g 37) cZ 900 yo, ra_I (g 36) cZ 900 yw, ra_J (g 43) cJ 90 zb, ra_J (g 44) cJ 90 f_22, ra_I (g 38) cI 90 ws_, ra_I (g 53) cI 32 rw_]) hx hb hK hP hD hS 6 1 rfl rfl (vin (10 * i + jm) 90 (by omega) (Nat.le_of_ble_eq_true rfl)) (fun _ => rfl) (bf_store hbf2 (by omega) (by omega) (fx_fin hfx (by omega))) dX12_laysWays_219 (fun f_22 H locs hf_23 hP hD hS => ?_)
                              refine lv_iload_n hx hb dX12_laysWays_220 rfl (lv_at hl 3 rfl) ?_
                              refine lv_iload_n hx hb dX12_laysWays_221 rfl (lv_at hl 4 rfl) ?_
                              refine lv_icmp_ne (tgt := 236) hx hb dX12_laysWays_222 (by decide) (fun c_24 => ?_) (fun c_24 => ?_)
                              · have c_24 : ¬ (((i : Nat) : Int) = ((dm : Nat) : Int) - 1) := fun h => c_24 ((ieq (ivn i (by omega)) (ivp dm (by omega))).mpr h)
                                refine lv_iinc (v := nI (jm + 1)) (lv' := [(3, .int (nI (jm + 1))), (6, .int (nI kk)), (4, .long xn), (2, .int (nI i)), (1, .int (nI dm - 1)), (0, .ref mm)]) hx hb dX12_laysWays_236 hl (k := 2) rfl (ninc jm 1 (by decide)) (by decide) rfl (fun ls hl => ?_)
                                refine lv_goto (tgt := 125) hx hb dX12_laysWays_239 (by decide) ?_
                                exact ih_lp_10 (jm + 1) zyb f_22 _ _ _ (by omega) (by omega) hf_23 (wy_keep hzyb (by omega)) hP hD hS (lv_sub hl [0, 3, 4, 5] rfl)
                              · have c_24 : ((i : Nat) : Int) = ((dm : Nat) : Int) - 1 := (ieq (ivn i (by omega)) (ivp dm (by omega))).mp c_24
                                refine lv_aload_n hx hb dX12_laysWays_225 rfl (lv_at hl 5 rfl) ?_
                                refine lv_dup hx hb dX12_laysWays_226 rfl ?_
                                refine sk_get (v := .long zyb) (C := RX12) (T := TX12) (N := 92) hx hb hts inlX12 hown hK hP 0 rfl rfl 45 (Nat.le_of_ble_eq_true rfl) w_5_200 rfl dX12_laysWays_227 ?_
                                refine lv_lload hx hb dX12_laysWays_230 (lv_at hl 1 rfl) ?_
                                refine lv_ladd hx hb dX12_laysWays_232 ?_
                                refine lv_topl (fun v_25 ev_25 => ?_)
                                refine sk_put (ws' := [ro_ mm 12 (mo g (nI ta) (nI pa) (nI pe) pd (nI pb) pp pf pg pn rt rn (nI cd) sn (nI il) tk am at_ aa mt_ 1 (-1) wt v_25 (nI it_) (nI rm) (nI ud) (nI nu) sd (nI qn) (nI qw) qo (nI qb) (nI qp) qa (nI qi) (nI oc)), ra_I (g 20) cI 4 (l4 (nI l0) (nI l1) (nI dm) (nI l3)), ra_I (g 31) cI 120 nw, ra_I (g 37) cZ 900 yo, ra_I (g 36) cZ 900 yw, ra_J (g 43) cJ 90 zb, ra_J (g 44) cJ 90 f_22, ra_I (g 38) cI 90 ws_, ra_I (g 53) cI 32 rw_]) (C := RX12) (T := TX12) (N := 92) (v := .long v_25) hx hb hts inlX12 tyX12 tyX12_ok nmX12 hown hK hP hD hS 0 rfl rfl 45 (Nat.le_of_ble_eq_true rfl) w_5_200 rfl rfl rfl (Nat.le_of_ble_eq_true rfl) rfl dX12_laysWays_233 (fun H locs hP hD hS => ?_)
                                refine lv_iinc (v := nI (jm + 1)) (lv' := [(3, .int (nI (jm + 1))), (6, .int (nI kk)), (4, .long xn), (2, .int (nI i)), (1, .int (nI dm - 1)), (0, .ref mm)]) hx hb dX12_laysWays_236 hl (k := 2) rfl (ninc jm 1 (by decide)) (by decide) rfl (fun ls hl => ?_)
                                refine lv_goto (tgt := 125) hx hb dX12_laysWays_239 (by decide) ?_
                                exact ih_lp_10 (jm + 1) v_25 f_22 _ _ _ (by omega) (by omega) hf_23 (wy_add hzyb (fx_fin hfx (by omega)) (by omega) ev_25) hP hD hS (lv_sub hl [0, 3, 4, 5] rfl)
                            · have c_21 : ¬ (i ≤ 0) := fun h => c_21 ((nle i 0 (by omega) (Nat.le_of_ble_eq_true rfl)).mpr h)
                              refine lv_aload_n hx hb dX12_laysWays_171 rfl (lv_at hl 5 rfl) ?_
                              refine lv_iload_n hx hb dX12_laysWays_172 rfl (lv_at hl 3 rfl) ?_
                              refine lv_iload hx hb dX12_laysWays_173 (lv_at hl 0 rfl) ?_
                              refine lv_iload_n hx hb dX12_laysWays_175 rfl (lv_at hl 2 rfl) ?_
                              refine sk_Vi (q0 := 0) (n := 3) (rest := []) (wr := fmR om_9_173 _) ⟨hx, hb, hml, hown, hts⟩ hl.1 (c_vm_canFollowH l D cI cJ cC cZ cS mm g ta pa pe pd pb pp pf pg pn rt rn cd sn il tk am at_ aa mt_ wt zyb it_ rm ud nu sd qn qw qo qb qp qa qi oc i kk jm nw ws_ rw_ yo yw hR (by omega) (by omega) (by omega) hrw hR90 hrm hnw) w_7_201 w_7_203 w_0_85 w_1_14 w_7_204 hd_X12_canFollow_3 ⟨⟨(Nat.le_of_ble_eq_true rfl), (Nat.le_of_ble_eq_true rfl)⟩, (Nat.le_of_ble_eq_true rfl), (Nat.le_of_ble_eq_true rfl)⟩ hK hP hD hS hA [0, 2, 7, 8, 3, 4] (fmF om_9_173 0) rfl (fm_R rfl rfl) (by decide +kernel) (fm_nF om_9_173 0) (by decide +kernel) rfl rfl rfl rfl (Nat.le_of_ble_eq_true rfl) dX12_laysWays_176 (fun r_27 u H locs hw hP hD hS => ?_)
                              refine exE hw (fun b_26 hw1 => anE hw1 (fun hb1_28 hw2 => anE hw2 (fun hb2_29 hw3 => anE hw3 (fun er_31 eu_30 => ?_))))
                              clear hw hw1 hw2 hw3
                              subst er_31
                              refine o_mgqE (ux := [ro_ mm 12 (mo g (nI ta) (nI pa) (nI pe) pd (nI pb) pp pf pg pn rt rn (nI cd) sn (nI il) tk am at_ aa mt_ 1 (-1) wt zyb (nI it_) (nI rm) (nI ud) (nI nu) sd (nI qn) (nI qw) qo (nI qb) (nI qp) qa (nI qi) (nI oc)), ra_I (g 31) cI 120 nw, ra_I (g 37) cZ 900 yo, ra_I (g 36) cZ 900 yw, ra_I (g 38) cI 90 ws_, ra_I (g 53) cI 32 rw_]) (ws' := [ro_ mm 12 (mo g (nI ta) (nI pa) (nI pe) pd (nI pb) pp pf pg pn rt rn (nI cd) sn (nI il) tk am at_ aa mt_ 1 (-1) wt zyb (nI it_) (nI rm) (nI ud) (nI nu) sd (nI qn) (nI qw) qo (nI qb) (nI qp) qa (nI qi) (nI oc)), ra_I (g 20) cI 4 (l4 (nI l0) (nI l1) (nI dm) (nI l3)), ra_I (g 31) cI 120 nw, ra_I (g 37) cZ 900 yo, ra_I (g 36) cZ 900 yw, ra_J (g 43) cJ 90 zb, ra_J (g 44) cJ 90 zg, ra_I (g 38) cI 90 ws_, ra_I (g 53) cI 32 rw_]) eu_30 [0, 1, 4, 5, 2, 3] (by decide +kernel) rfl hP hD rfl (fun hP hD => ?_)
                              refine lv_if_eq (tgt := 201) hx hb dX12_laysWays_179 (by decide) (fun c_32 => ?_) (fun c_32 => ?_)
                              · have c_32 : b_26 = 0 := (neq b_26 0 (by omega) (Nat.le_of_ble_eq_true rfl)).mp c_32
                                refine lv_iinc (v := nI (kk + 1)) (lv' := [(6, .int (nI (kk + 1))), (4, .long xn), (3, .int (nI jm)), (2, .int (nI i)), (1, .int (nI dm - 1)), (0, .ref mm)]) hx hb dX12_laysWays_201 hl (k := 0) rfl (ninc kk 1 (by decide)) (by decide) rfl (fun ls hl => ?_)
                                refine lv_goto (tgt := 160) hx hb dX12_laysWays_204 (by decide) ?_
                                exact ih_lp_14 (kk + 1) xn _ _ _ (by omega) (by omega) (fx_no hfx (by omega) (or_0 hb1_28 (by omega))) hP hD hS (lv_sub hl [0, 1, 2, 3, 4, 5] rfl)
                              · have c_32 : ¬ (b_26 = 0) := fun h => c_32 ((neq b_26 0 (by omega) (Nat.le_of_ble_eq_true rfl)).mpr h)
                                refine lv_lload hx hb dX12_laysWays_182 (lv_at hl 1 rfl) ?_
                                refine lv_aload_n hx hb dX12_laysWays_184 rfl (lv_at hl 5 rfl) ?_
                                refine sk_get (v := .ref (g 44)) (C := RX12) (T := TX12) (N := 92) hx hb hts inlX12 hown hK hP 0 rfl rfl 44 (Nat.le_of_ble_eq_true rfl) w_5_199 rfl dX12_laysWays_185 ?_
                                refine lv_bipush (v := 10) hx hb dX12_laysWays_188 (by decide) ?_
                                refine lv_iload_n hx hb dX12_laysWays_190 rfl (lv_at hl 3 rfl) ?_
                                refine lv_iconst (v := 1) hx hb dX12_laysWays_191 ic_1 ?_
                                refine lv_isub hx hb dX12_laysWays_192 ?_
                                refine sk_top (nI (i - 1)) (nsub i 1 (by omega)) ?_
                                refine lv_imul hx hb dX12_laysWays_193 ?_
                                refine sk_top (nI (10 * (i - 1))) (nmul 10 (i - 1)) ?_
                                refine lv_iload hx hb dX12_laysWays_194 (lv_at hl 0 rfl) ?_
                                refine lv_iadd hx hb dX12_laysWays_196 ?_
                                refine sk_top (nI (10 * (i - 1) + kk)) (nI_add (10 * (i - 1)) kk) ?_
                                refine va_lald hx hb hK.1 hP 6 1 rfl rfl (vin (10 * (i - 1) + kk) 90 (by omega) (Nat.le_of_ble_eq_true rfl)) dX12_laysWays_197 ?_
                                refine lv_topl (fun v_33 ev_33 => ?_)
                                refine lv_ladd hx hb dX12_laysWays_198 ?_
                                refine lv_topl (fun v_34 ev_34 => ?_)
                                refine lv_lstore (lv' := [(4, .long v_34), (6, .int (nI kk)), (3, .int (nI jm)), (2, .int (nI i)), (1, .int (nI dm - 1)), (0, .ref mm)]) hx hb dX12_laysWays_199 hl (by decide) rfl (fun ls hl => ?_)
                                refine lv_iinc (v := nI (kk + 1)) (lv' := [(6, .int (nI (kk + 1))), (4, .long v_34), (3, .int (nI jm)), (2, .int (nI i)), (1, .int (nI dm - 1)), (0, .ref mm)]) hx hb dX12_laysWays_201 hl (k := 1) rfl (ninc kk 1 (by decide)) (by decide) rfl (fun ls hl => ?_)
                                refine lv_goto (tgt := 160) hx hb dX12_laysWays_204 (by decide) ?_
                                exact ih_lp_14 (kk + 1) v_34 _ _ _ (by omega) (by omega) (fx_yes hfx (by omega) (or_1 hb1_28 (by omega)) (bf_get hbf2.1 (by omega) (by omega) (by omega) ev_33) ev_34) hP hD hS (lv_sub hl [0, 1, 2, 3, 4, 5] rfl)
                      exact lp_14 (10 - 0 + 1) 0 0 _ _ _ (Nat.lt_succ_self _) (by omega) (fx_3 (by omega)) hP hD hS (lv_sub hl [0, 1, 2, 3, 4, 5] rfl)
                    · have c_13 : i = 0 := (neq i 0 (by omega) (Nat.le_of_ble_eq_true rfl)).mp c_13
                      refine lv_aload_n hx hb dX12_laysWays_135 rfl (lv_at hl 3 rfl) ?_
                      refine lv_iconst (v := 0) hx hb dX12_laysWays_136 ic_0 ?_
                      refine lv_aload_n hx hb dX12_laysWays_137 rfl (lv_at hl 3 rfl) ?_
                      refine sk_get (v := .ref (g 31)) (C := RX12) (T := TX12) (N := 92) hx hb hts inlX12 hown hK hP 0 rfl rfl 31 (Nat.le_of_ble_eq_true rfl) w_5_186 rfl dX12_laysWays_138 ?_
                      refine lv_iconst (v := 1) hx hb dX12_laysWays_141 ic_1 ?_
                      refine va_iald hx hb hK.1 hP 2 0 rfl rfl (by unfold vp_in; decide) dX12_laysWays_142 ?_
                      obtain ⟨k_35, hk_35, ek_35⟩ := nowOk_1 hnw
                      refine sk_top (nI k_35) ek_35 ?_
                      refine lv_iload_n hx hb dX12_laysWays_143 rfl (lv_at hl 0 rfl) ?_
                      refine sk_Vi (q0 := 0) (n := 3) (rest := []) (wr := fmR om_9_173 _) ⟨hx, hb, hml, hown, hts⟩ hl.1 (c_vm_canFollowH l D cI cJ cC cZ cS mm g ta pa pe pd pb pp pf pg pn rt rn cd sn il tk am at_ aa mt_ wt zyb it_ rm ud nu sd qn qw qo qb qp qa qi oc 0 k_35 jm nw ws_ rw_ yo yw hR (by omega) (by omega) (by omega) hrw hR90 hrm hnw) w_7_201 w_7_203 w_0_85 w_1_14 w_7_204 hd_X12_canFollow_3 ⟨⟨(Nat.le_of_ble_eq_true rfl), (Nat.le_of_ble_eq_true rfl)⟩, (Nat.le_of_ble_eq_true rfl), (Nat.le_of_ble_eq_true rfl)⟩ hK hP hD hS hA [0, 2, 7, 8, 3, 4] (fmF om_9_173 0) rfl (fm_R rfl rfl) (by decide +kernel) (fm_nF om_9_173 0) (by decide +kernel) rfl rfl rfl rfl (Nat.le_of_ble_eq_true rfl) dX12_laysWays_144 (fun r_37 u H locs hw hP hD hS => ?_)
                      refine exE hw (fun b_36 hw1 => anE hw1 (fun hb1_38 hw2 => anE hw2 (fun hb2_39 hw3 => anE hw3 (fun er_41 eu_40 => ?_))))
                      clear hw hw1 hw2 hw3
                      subst er_41
                      refine o_mgqE (ux := [ro_ mm 12 (mo g (nI ta) (nI pa) (nI pe) pd (nI pb) pp pf pg pn rt rn (nI cd) sn (nI il) tk am at_ aa mt_ 1 (-1) wt zyb (nI it_) (nI rm) (nI ud) (nI nu) sd (nI qn) (nI qw) qo (nI qb) (nI qp) qa (nI qi) (nI oc)), ra_I (g 31) cI 120 nw, ra_I (g 37) cZ 900 yo, ra_I (g 36) cZ 900 yw, ra_I (g 38) cI 90 ws_, ra_I (g 53) cI 32 rw_]) (ws' := [ro_ mm 12 (mo g (nI ta) (nI pa) (nI pe) pd (nI pb) pp pf pg pn rt rn (nI cd) sn (nI il) tk am at_ aa mt_ 1 (-1) wt zyb (nI it_) (nI rm) (nI ud) (nI nu) sd (nI qn) (nI qw) qo (nI qb) (nI qp) qa (nI qi) (nI oc)), ra_I (g 20) cI 4 (l4 (nI l0) (nI l1) (nI dm) (nI l3)), ra_I (g 31) cI 120 nw, ra_I (g 37) cZ 900 yo, ra_I (g 36) cZ 900 yw, ra_J (g 43) cJ 90 zb, ra_J (g 44) cJ 90 zg, ra_I (g 38) cI 90 ws_, ra_I (g 53) cI 32 rw_]) eu_40 [0, 1, 4, 5, 2, 3] (by decide +kernel) rfl hP hD rfl (fun hP hD => ?_)
                      have ha0 := a0_eq ek_35 hk_35
                      refine lv_if_eq (tgt := 154) hx hb dX12_laysWays_147 (by decide) (fun c_42 => ?_) (fun c_42 => ?_)
                      · have c_42 : b_36 = 0 := (neq b_36 0 (by omega) (Nat.le_of_ble_eq_true rfl)).mp c_42
                        refine lv_lconst (v := 0) hx hb dX12_laysWays_154 (by decide) ?_
                        refine lv_lstore (lv' := [(4, .long 0), (3, .int (nI jm)), (2, .int (nI i)), (1, .int (nI dm - 1)), (0, .ref mm)]) hx hb dX12_laysWays_155 hl (by decide) rfl (fun ls hl => ?_)
                        refine lv_iconst (v := 0) hx hb dX12_laysWays_157 ic_0 ?_
                        refine lv_istore (lv' := [(6, .int 0), (4, .long 0), (3, .int (nI jm)), (2, .int (nI i)), (1, .int (nI dm - 1)), (0, .ref mm)]) hx hb dX12_laysWays_158 hl (by decide) rfl (fun ls hl => ?_)
                        have lp_43 : ∀ (n_44 : Nat) (kk : Nat) (xn : Int64) (H : Heap) (locs : List Loc) (ls : Array Slot), 10 - kk < n_44 → (kk ≤ 10) → (fx (cfL (cfN nw yw yo mt_) (lfH nw ws_ hR rm)) (a0N nw) i jm kk xn) → va_P D vwCl [ro_ mm 12 (mo g (nI ta) (nI pa) (nI pe) pd (nI pb) pp pf pg pn rt rn (nI cd) sn (nI il) tk am at_ aa mt_ 1 (-1) wt zyb (nI it_) (nI rm) (nI ud) (nI nu) sd (nI qn) (nI qw) qo (nI qb) (nI qp) qa (nI qi) (nI oc)), ra_I (g 20) cI 4 (l4 (nI l0) (nI l1) (nI dm) (nI l3)), ra_I (g 31) cI 120 nw, ra_I (g 37) cZ 900 yo, ra_I (g 36) cZ 900 yw, ra_J (g 43) cJ 90 zb, ra_J (g 44) cJ 90 zg, ra_I (g 38) cI 90 ws_, ra_I (g 53) cI 32 rw_] H → va_D A [ro_ mm 12 (mo g (nI ta) (nI pa) (nI pe) pd (nI pb) pp pf pg pn rt rn (nI cd) sn (nI il) tk am at_ aa mt_ 1 (-1) wt zyb (nI it_) (nI rm) (nI ud) (nI nu) sd (nI qn) (nI qw) qo (nI qb) (nI qp) qa (nI qi) (nI oc)), ra_I (g 20) cI 4 (l4 (nI l0) (nI l1) (nI dm) (nI l3)), ra_I (g 31) cI 120 nw, ra_I (g 37) cZ 900 yo, ra_I (g 36) cZ 900 yw, ra_J (g 43) cJ 90 zb, ra_J (g 44) cJ 90 zg, ra_I (g 38) cI 90 ws_, ra_I (g 53) cI 32 rw_] → va_S A s.heap H locs → lv_has ls 7 [(6, .int (nI kk)), (4, .long xn), (3, .int (nI jm)), (2, .int (nI i)), (1, .int (nI dm - 1)), (0, .ref mm)] → W p l e { frames := 3, cells := 0, slots := 0, locals := 68 } s m ([.ref mm] : List Value).toArray below meth c H locs 0 0 (MQ below (skV D (skT cI cJ cC cZ cS) (fun (u : va_W) => ∃ (wy2 : Int64), ∃ (be2 : Nat → Int64), ∃ (bf2 : Nat → Int64), beOk (cfL (cfN nw yw yo mt_) (lfH nw ws_ hR rm)) dm 0 be2 ∧ bfOk (cfL (cfN nw yw yo mt_) (lfH nw ws_ hR rm)) (a0N nw) dm bf2 ∧ wy2 = nL (wys (cfL (cfN nw yw yo mt_) (lfH nw ws_ hR rm)) (a0N nw) (dm - 1)) ∧ u = [ro_ mm 12 (mo g (nI ta) (nI pa) (nI pe) pd (nI pb) pp pf pg pn rt rn (nI cd) sn (nI il) tk am at_ aa mt_ 1 (-1) wt wy2 (nI it_) (nI rm) (nI ud) (nI nu) sd (nI qn) (nI qw) qo (nI qb) (nI qp) qa (nI qi) (nI oc)), ra_I (g 20) cI 4 (l4 (nI l0) (nI l1) (nI dm) (nI l3)), ra_I (g 31) cI 120 nw, ra_I (g 37) cZ 900 yo, ra_I (g 36) cZ 900 yw, ra_J (g 43) cJ 90 be2, ra_J (g 44) cJ 90 bf2, ra_I (g 38) cI 90 ws_, ra_I (g 53) cI 32 rw_]) A) ([.ref mm] : List Value).toArray s 0 0 A) (F0 m 160 ls []) := by
                          intro n_44
                          induction n_44 with
                          | zero => intro kk xn H locs ls hm; exact absurd hm (Nat.not_lt_zero _)
                          | succ n_44 ih_lp_43 =>
                            intro kk xn H locs ls hm hkk hfx hP hD hS hl
                            refine lv_iload hx hb dX12_laysWays_160 (lv_at hl 0 rfl) ?_
                            refine lv_bipush (v := 10) hx hb dX12_laysWays_162 (by decide) ?_
                            refine lv_icmp_ge (tgt := 207) hx hb dX12_laysWays_164 (by decide) (fun c_45 => ?_) (fun c_45 => ?_)
                            · have c_45 : 10 ≤ kk := (nle 10 kk (Nat.le_of_ble_eq_true rfl) (by omega)).mp c_45
                              refine lv_aload_n hx hb dX12_laysWays_207 rfl (lv_at hl 5 rfl) ?_
                              refine sk_get (v := .ref (g 44)) (C := RX12) (T := TX12) (N := 92) hx hb hts inlX12 hown hK hP 0 rfl rfl 44 (Nat.le_of_ble_eq_true rfl) w_5_199 rfl dX12_laysWays_208 ?_
                              refine lv_bipush (v := 10) hx hb dX12_laysWays_211 (by decide) ?_
                              refine lv_iload_n hx hb dX12_laysWays_213 rfl (lv_at hl 3 rfl) ?_
                              refine lv_imul hx hb dX12_laysWays_214 ?_
                              refine sk_top (nI (10 * i)) (nmul 10 i) ?_
                              refine lv_iload_n hx hb dX12_laysWays_215 rfl (lv_at hl 2 rfl) ?_
                              refine lv_iadd hx hb dX12_laysWays_216 ?_
                              refine sk_top (nI (10 * i + jm)) (nI_add (10 * i) jm) ?_
                              refine lv_lload hx hb dX12_laysWays_217 (lv_at hl 1 rfl) ?_
                              refine sk_lastP (Pr := bfOk2 (cfL (cfN nw yw yo mt_) (lfH nw ws_ hR rm)) (a0N nw) i (jm + 1)) (ws' := fun f_46 => [ro_ mm 12 (mo g (nI ta) (nI pa) (nI pe) pd (nI pb) pp pf pg pn rt rn (nI cd) sn (nI il) tk am at_ aa mt_ 1 (-1) wt zyb (nI it_) (nI rm) (nI ud) (nI nu) sd (nI qn) (nI qw) qo (nI qb) (nI qp) qa (nI qi) (nI oc)), ra_I (g 20) cI 4 (l4 (nI l0) (nI l1) (nI dm) (nI l3)), ra_I (g 31) cI 120 nw, ra_I (g 37) cZ 900 yo, ra_I (g 36) cZ 900 yw, ra_J (g 43) cJ 90 zb, ra_J (g 44) cJ 90 f_46, ra_I (g 38) cI 90 ws_, ra_I (g 53) cI 32 rw_]) hx hb hK hP hD hS 6 1 rfl rfl (vin (10 * i + jm) 90 (by omega) (Nat.le_of_ble_eq_true rfl)) (fun _ => rfl) (bf_store hbf2 (by omega) (by omega) (fx_fin hfx (by omega))) dX12_laysWays_219 (fun f_46 H locs hf_47 hP hD hS => ?_)
                              refine lv_iload_n hx hb dX12_laysWays_220 rfl (lv_at hl 3 rfl) ?_
                              refine lv_iload_n hx hb dX12_laysWays_221 rfl (lv_at hl 4 rfl) ?_
                              refine lv_icmp_ne (tgt := 236) hx hb dX12_laysWays_222 (by decide) (fun c_48 => ?_) (fun c_48 => ?_)
                              · have c_48 : ¬ (((i : Nat) : Int) = ((dm : Nat) : Int) - 1) := fun h => c_48 ((ieq (ivn i (by omega)) (ivp dm (by omega))).mpr h)
                                refine lv_iinc (v := nI (jm + 1)) (lv' := [(3, .int (nI (jm + 1))), (6, .int (nI kk)), (4, .long xn), (2, .int (nI i)), (1, .int (nI dm - 1)), (0, .ref mm)]) hx hb dX12_laysWays_236 hl (k := 2) rfl (ninc jm 1 (by decide)) (by decide) rfl (fun ls hl => ?_)
                                refine lv_goto (tgt := 125) hx hb dX12_laysWays_239 (by decide) ?_
                                exact ih_lp_10 (jm + 1) zyb f_46 _ _ _ (by omega) (by omega) hf_47 (wy_keep hzyb (by omega)) hP hD hS (lv_sub hl [0, 3, 4, 5] rfl)
                              · have c_48 : ((i : Nat) : Int) = ((dm : Nat) : Int) - 1 := (ieq (ivn i (by omega)) (ivp dm (by omega))).mp c_48
                                refine lv_aload_n hx hb dX12_laysWays_225 rfl (lv_at hl 5 rfl) ?_
                                refine lv_dup hx hb dX12_laysWays_226 rfl ?_
                                refine sk_get (v := .long zyb) (C := RX12) (T := TX12) (N := 92) hx hb hts inlX12 hown hK hP 0 rfl rfl 45 (Nat.le_of_ble_eq_true rfl) w_5_200 rfl dX12_laysWays_227 ?_
                                refine lv_lload hx hb dX12_laysWays_230 (lv_at hl 1 rfl) ?_
                                refine lv_ladd hx hb dX12_laysWays_232 ?_
                                refine lv_topl (fun v_49 ev_49 => ?_)
                                refine sk_put (ws' := [ro_ mm 12 (mo g (nI ta) (nI pa) (nI pe) pd (nI pb) pp pf pg pn rt rn (nI cd) sn (nI il) tk am at_ aa mt_ 1 (-1) wt v_49 (nI it_) (nI rm) (nI ud) (nI nu) sd (nI qn) (nI qw) qo (nI qb) (nI qp) qa (nI qi) (nI oc)), ra_I (g 20) cI 4 (l4 (nI l0) (nI l1) (nI dm) (nI l3)), ra_I (g 31) cI 120 nw, ra_I (g 37) cZ 900 yo, ra_I (g 36) cZ 900 yw, ra_J (g 43) cJ 90 zb, ra_J (g 44) cJ 90 f_46, ra_I (g 38) cI 90 ws_, ra_I (g 53) cI 32 rw_]) (C := RX12) (T := TX12) (N := 92) (v := .long v_49) hx hb hts inlX12 tyX12 tyX12_ok nmX12 hown hK hP hD hS 0 rfl rfl 45 (Nat.le_of_ble_eq_true rfl) w_5_200 rfl rfl rfl (Nat.le_of_ble_eq_true rfl) rfl dX12_laysWays_233 (fun H locs hP hD hS => ?_)
                                refine lv_iinc (v := nI (jm + 1)) (lv' := [(3, .int (nI (jm + 1))), (6, .int (nI kk)), (4, .long xn), (2, .int (nI i)), (1, .int (nI dm - 1)), (0, .ref mm)]) hx hb dX12_laysWays_236 hl (k := 2) rfl (ninc jm 1 (by decide)) (by decide) rfl (fun ls hl => ?_)
                                refine lv_goto (tgt := 125) hx hb dX12_laysWays_239 (by decide) ?_
                                exact ih_lp_10 (jm + 1) v_49 f_46 _ _ _ (by omega) (by omega) hf_47 (wy_add hzyb (fx_fin hfx (by omega)) (by omega) ev_49) hP hD hS (lv_sub hl [0, 3, 4, 5] rfl)
                            · have c_45 : ¬ (10 ≤ kk) := fun h => c_45 ((nle 10 kk (Nat.le_of_ble_eq_true rfl) (by omega)).mpr h)
                              refine lv_iload_n hx hb dX12_laysWays_167 rfl (lv_at hl 3 rfl) ?_
                              refine lv_if_le (tgt := 207) hx hb dX12_laysWays_168 (by decide) (fun c_50 => ?_) (fun c_50 => ?_)
                              · have c_50 : i ≤ 0 := (nle i 0 (by omega) (Nat.le_of_ble_eq_true rfl)).mp c_50
                                refine lv_aload_n hx hb dX12_laysWays_207 rfl (lv_at hl 5 rfl) ?_
                                refine sk_get (v := .ref (g 44)) (C := RX12) (T := TX12) (N := 92) hx hb hts inlX12 hown hK hP 0 rfl rfl 44 (Nat.le_of_ble_eq_true rfl) w_5_199 rfl dX12_laysWays_208 ?_
                                refine lv_bipush (v := 10) hx hb dX12_laysWays_211 (by decide) ?_
                                refine lv_iload_n hx hb dX12_laysWays_213 rfl (lv_at hl 3 rfl) ?_
                                refine lv_imul hx hb dX12_laysWays_214 ?_
                                refine sk_top (nI (10 * i)) (nmul 10 i) ?_
                                refine lv_iload_n hx hb dX12_laysWays_215 rfl (lv_at hl 2 rfl) ?_
                                refine lv_iadd hx hb dX12_laysWays_216 ?_
                                refine sk_top (nI (10 * i + jm)) (nI_add (10 * i) jm) ?_
                                refine lv_lload hx hb dX12_laysWays_217 (lv_at hl 1 rfl) ?_
                                refine sk_lastP (Pr := bfOk2 (cfL (cfN nw yw yo mt_) (lfH nw ws_ hR rm)) (a0N nw) i (jm + 1)) (ws' := fun f_51 => [ro_ mm 12 (mo g (nI ta) (nI pa) (nI pe) pd (nI pb) pp pf pg pn rt rn (nI cd) sn (nI il) tk am at_ aa mt_ 1 (-1) wt zyb (nI it_) (nI rm) (nI ud) (nI nu) sd (nI qn) (nI qw) qo (nI qb) (nI qp) qa (nI qi) (nI oc)), ra_I (g 20) cI 4 (l4 (nI l0) (nI l1) (nI dm) (nI l3)), ra_I (g 31) cI 120 nw, ra_I (g 37) cZ 900 yo, ra_I (g 36) cZ 900 yw, ra_J (g 43) cJ 90 zb, ra_J (g 44) cJ 90 f_51, ra_I (g 38) cI 90 ws_, ra_I (g 53) cI 32 rw_]) hx hb hK hP hD hS 6 1 rfl rfl (vin (10 * i + jm) 90 (by omega) (Nat.le_of_ble_eq_true rfl)) (fun _ => rfl) (bf_store hbf2 (by omega) (by omega) (fx_fin hfx (by omega))) dX12_laysWays_219 (fun f_51 H locs hf_52 hP hD hS => ?_)
                                refine lv_iload_n hx hb dX12_laysWays_220 rfl (lv_at hl 3 rfl) ?_
                                refine lv_iload_n hx hb dX12_laysWays_221 rfl (lv_at hl 4 rfl) ?_
                                refine lv_icmp_ne (tgt := 236) hx hb dX12_laysWays_222 (by decide) (fun c_53 => ?_) (fun c_53 => ?_)
                                · have c_53 : ¬ (((i : Nat) : Int) = ((dm : Nat) : Int) - 1) := fun h => c_53 ((ieq (ivn i (by omega)) (ivp dm (by omega))).mpr h)
                                  refine lv_iinc (v := nI (jm + 1)) (lv' := [(3, .int (nI (jm + 1))), (6, .int (nI kk)), (4, .long xn), (2, .int (nI i)), (1, .int (nI dm - 1)), (0, .ref mm)]) hx hb dX12_laysWays_236 hl (k := 2) rfl (ninc jm 1 (by decide)) (by decide) rfl (fun ls hl => ?_)
                                  refine lv_goto (tgt := 125) hx hb dX12_laysWays_239 (by decide) ?_
                                  exact ih_lp_10 (jm + 1) zyb f_51 _ _ _ (by omega) (by omega) hf_52 (wy_keep hzyb (by omega)) hP hD hS (lv_sub hl [0, 3, 4, 5] rfl)
                                · have c_53 : ((i : Nat) : Int) = ((dm : Nat) : Int) - 1 := (ieq (ivn i (by omega)) (ivp dm (by omega))).mp c_53
                                  refine lv_aload_n hx hb dX12_laysWays_225 rfl (lv_at hl 5 rfl) ?_
                                  refine lv_dup hx hb dX12_laysWays_226 rfl ?_
                                  refine sk_get (v := .long zyb) (C := RX12) (T := TX12) (N := 92) hx hb hts inlX12 hown hK hP 0 rfl rfl 45 (Nat.le_of_ble_eq_true rfl) w_5_200 rfl dX12_laysWays_227 ?_
                                  refine lv_lload hx hb dX12_laysWays_230 (lv_at hl 1 rfl) ?_
                                  refine lv_ladd hx hb dX12_laysWays_232 ?_
                                  refine lv_topl (fun v_54 ev_54 => ?_)
                                  refine sk_put (ws' := [ro_ mm 12 (mo g (nI ta) (nI pa) (nI pe) pd (nI pb) pp pf pg pn rt rn (nI cd) sn (nI il) tk am at_ aa mt_ 1 (-1) wt v_54 (nI it_) (nI rm) (nI ud) (nI nu) sd (nI qn) (nI qw) qo (nI qb) (nI qp) qa (nI qi) (nI oc)), ra_I (g 20) cI 4 (l4 (nI l0) (nI l1) (nI dm) (nI l3)), ra_I (g 31) cI 120 nw, ra_I (g 37) cZ 900 yo, ra_I (g 36) cZ 900 yw, ra_J (g 43) cJ 90 zb, ra_J (g 44) cJ 90 f_51, ra_I (g 38) cI 90 ws_, ra_I (g 53) cI 32 rw_]) (C := RX12) (T := TX12) (N := 92) (v := .long v_54) hx hb hts inlX12 tyX12 tyX12_ok nmX12 hown hK hP hD hS 0 rfl rfl 45 (Nat.le_of_ble_eq_true rfl) w_5_200 rfl rfl rfl (Nat.le_of_ble_eq_true rfl) rfl dX12_laysWays_233 (fun H locs hP hD hS => ?_)
                                  refine lv_iinc (v := nI (jm + 1)) (lv' := [(3, .int (nI (jm + 1))), (6, .int (nI kk)), (4, .long xn), (2, .int (nI i)), (1, .int (nI dm - 1)), (0, .ref mm)]) hx hb dX12_laysWays_236 hl (k := 2) rfl (ninc jm 1 (by decide)) (by decide) rfl (fun ls hl => ?_)
                                  refine lv_goto (tgt := 125) hx hb dX12_laysWays_239 (by decide) ?_
                                  exact ih_lp_10 (jm + 1) v_54 f_51 _ _ _ (by omega) (by omega) hf_52 (wy_add hzyb (fx_fin hfx (by omega)) (by omega) ev_54) hP hD hS (lv_sub hl [0, 3, 4, 5] rfl)
                              · have c_50 : ¬ (i ≤ 0) := fun h => c_50 ((nle i 0 (by omega) (Nat.le_of_ble_eq_true rfl)).mpr h)
                                refine lv_aload_n hx hb dX12_laysWays_171 rfl (lv_at hl 5 rfl) ?_
                                refine lv_iload_n hx hb dX12_laysWays_172 rfl (lv_at hl 3 rfl) ?_
                                refine lv_iload hx hb dX12_laysWays_173 (lv_at hl 0 rfl) ?_
                                refine lv_iload_n hx hb dX12_laysWays_175 rfl (lv_at hl 2 rfl) ?_
                                refine sk_Vi (q0 := 0) (n := 3) (rest := []) (wr := fmR om_9_173 _) ⟨hx, hb, hml, hown, hts⟩ hl.1 (c_vm_canFollowH l D cI cJ cC cZ cS mm g ta pa pe pd pb pp pf pg pn rt rn cd sn il tk am at_ aa mt_ wt zyb it_ rm ud nu sd qn qw qo qb qp qa qi oc i kk jm nw ws_ rw_ yo yw hR (by omega) (by omega) (by omega) hrw hR90 hrm hnw) w_7_201 w_7_203 w_0_85 w_1_14 w_7_204 hd_X12_canFollow_3 ⟨⟨(Nat.le_of_ble_eq_true rfl), (Nat.le_of_ble_eq_true rfl)⟩, (Nat.le_of_ble_eq_true rfl), (Nat.le_of_ble_eq_true rfl)⟩ hK hP hD hS hA [0, 2, 7, 8, 3, 4] (fmF om_9_173 0) rfl (fm_R rfl rfl) (by decide +kernel) (fm_nF om_9_173 0) (by decide +kernel) rfl rfl rfl rfl (Nat.le_of_ble_eq_true rfl) dX12_laysWays_176 (fun r_56 u H locs hw hP hD hS => ?_)
                                refine exE hw (fun b_55 hw1 => anE hw1 (fun hb1_57 hw2 => anE hw2 (fun hb2_58 hw3 => anE hw3 (fun er_60 eu_59 => ?_))))
                                clear hw hw1 hw2 hw3
                                subst er_60
                                refine o_mgqE (ux := [ro_ mm 12 (mo g (nI ta) (nI pa) (nI pe) pd (nI pb) pp pf pg pn rt rn (nI cd) sn (nI il) tk am at_ aa mt_ 1 (-1) wt zyb (nI it_) (nI rm) (nI ud) (nI nu) sd (nI qn) (nI qw) qo (nI qb) (nI qp) qa (nI qi) (nI oc)), ra_I (g 31) cI 120 nw, ra_I (g 37) cZ 900 yo, ra_I (g 36) cZ 900 yw, ra_I (g 38) cI 90 ws_, ra_I (g 53) cI 32 rw_]) (ws' := [ro_ mm 12 (mo g (nI ta) (nI pa) (nI pe) pd (nI pb) pp pf pg pn rt rn (nI cd) sn (nI il) tk am at_ aa mt_ 1 (-1) wt zyb (nI it_) (nI rm) (nI ud) (nI nu) sd (nI qn) (nI qw) qo (nI qb) (nI qp) qa (nI qi) (nI oc)), ra_I (g 20) cI 4 (l4 (nI l0) (nI l1) (nI dm) (nI l3)), ra_I (g 31) cI 120 nw, ra_I (g 37) cZ 900 yo, ra_I (g 36) cZ 900 yw, ra_J (g 43) cJ 90 zb, ra_J (g 44) cJ 90 zg, ra_I (g 38) cI 90 ws_, ra_I (g 53) cI 32 rw_]) eu_59 [0, 1, 4, 5, 2, 3] (by decide +kernel) rfl hP hD rfl (fun hP hD => ?_)
                                refine lv_if_eq (tgt := 201) hx hb dX12_laysWays_179 (by decide) (fun c_61 => ?_) (fun c_61 => ?_)
                                · have c_61 : b_55 = 0 := (neq b_55 0 (by omega) (Nat.le_of_ble_eq_true rfl)).mp c_61
                                  refine lv_iinc (v := nI (kk + 1)) (lv' := [(6, .int (nI (kk + 1))), (4, .long xn), (3, .int (nI jm)), (2, .int (nI i)), (1, .int (nI dm - 1)), (0, .ref mm)]) hx hb dX12_laysWays_201 hl (k := 0) rfl (ninc kk 1 (by decide)) (by decide) rfl (fun ls hl => ?_)
                                  refine lv_goto (tgt := 160) hx hb dX12_laysWays_204 (by decide) ?_
                                  exact ih_lp_43 (kk + 1) xn _ _ _ (by omega) (by omega) (fx_no hfx (by omega) (or_0 hb1_57 (by omega))) hP hD hS (lv_sub hl [0, 1, 2, 3, 4, 5] rfl)
                                · have c_61 : ¬ (b_55 = 0) := fun h => c_61 ((neq b_55 0 (by omega) (Nat.le_of_ble_eq_true rfl)).mpr h)
                                  refine lv_lload hx hb dX12_laysWays_182 (lv_at hl 1 rfl) ?_
                                  refine lv_aload_n hx hb dX12_laysWays_184 rfl (lv_at hl 5 rfl) ?_
                                  refine sk_get (v := .ref (g 44)) (C := RX12) (T := TX12) (N := 92) hx hb hts inlX12 hown hK hP 0 rfl rfl 44 (Nat.le_of_ble_eq_true rfl) w_5_199 rfl dX12_laysWays_185 ?_
                                  refine lv_bipush (v := 10) hx hb dX12_laysWays_188 (by decide) ?_
                                  refine lv_iload_n hx hb dX12_laysWays_190 rfl (lv_at hl 3 rfl) ?_
                                  refine lv_iconst (v := 1) hx hb dX12_laysWays_191 ic_1 ?_
                                  refine lv_isub hx hb dX12_laysWays_192 ?_
                                  refine sk_top (nI (i - 1)) (nsub i 1 (by omega)) ?_
                                  refine lv_imul hx hb dX12_laysWays_193 ?_
                                  refine sk_top (nI (10 * (i - 1))) (nmul 10 (i - 1)) ?_
                                  refine lv_iload hx hb dX12_laysWays_194 (lv_at hl 0 rfl) ?_
                                  refine lv_iadd hx hb dX12_laysWays_196 ?_
                                  refine sk_top (nI (10 * (i - 1) + kk)) (nI_add (10 * (i - 1)) kk) ?_
                                  refine va_lald hx hb hK.1 hP 6 1 rfl rfl (vin (10 * (i - 1) + kk) 90 (by omega) (Nat.le_of_ble_eq_true rfl)) dX12_laysWays_197 ?_
                                  refine lv_topl (fun v_62 ev_62 => ?_)
                                  refine lv_ladd hx hb dX12_laysWays_198 ?_
                                  refine lv_topl (fun v_63 ev_63 => ?_)
                                  refine lv_lstore (lv' := [(4, .long v_63), (6, .int (nI kk)), (3, .int (nI jm)), (2, .int (nI i)), (1, .int (nI dm - 1)), (0, .ref mm)]) hx hb dX12_laysWays_199 hl (by decide) rfl (fun ls hl => ?_)
                                  refine lv_iinc (v := nI (kk + 1)) (lv' := [(6, .int (nI (kk + 1))), (4, .long v_63), (3, .int (nI jm)), (2, .int (nI i)), (1, .int (nI dm - 1)), (0, .ref mm)]) hx hb dX12_laysWays_201 hl (k := 1) rfl (ninc kk 1 (by decide)) (by decide) rfl (fun ls hl => ?_)
                                  refine lv_goto (tgt := 160) hx hb dX12_laysWays_204 (by decide) ?_
                                  exact ih_lp_43 (kk + 1) v_63 _ _ _ (by omega) (by omega) (fx_yes hfx (by omega) (or_1 hb1_57 (by omega)) (bf_get hbf2.1 (by omega) (by omega) (by omega) ev_62) ev_63) hP hD hS (lv_sub hl [0, 1, 2, 3, 4, 5] rfl)
                        exact lp_43 (10 - 0 + 1) 0 0 _ _ _ (Nat.lt_succ_self _) (by omega) (fx_2 (by omega) (by rw [← ha0]; exact or_0 hb1_38 (by omega))) hP hD hS (lv_sub hl [0, 1, 2, 3, 4, 5] rfl)
                      · have c_42 : ¬ (b_36 = 0) := fun h => c_42 ((neq b_36 0 (by omega) (Nat.le_of_ble_eq_true rfl)).mpr h)
                        refine lv_lconst (v := 1) hx hb dX12_laysWays_150 (by decide) ?_
                        refine lv_goto (tgt := 155) hx hb dX12_laysWays_151 (by decide) ?_
                        refine lv_lstore (lv' := [(4, .long 1), (3, .int (nI jm)), (2, .int (nI i)), (1, .int (nI dm - 1)), (0, .ref mm)]) hx hb dX12_laysWays_155 hl (by decide) rfl (fun ls hl => ?_)
                        refine lv_iconst (v := 0) hx hb dX12_laysWays_157 ic_0 ?_
                        refine lv_istore (lv' := [(6, .int 0), (4, .long 1), (3, .int (nI jm)), (2, .int (nI i)), (1, .int (nI dm - 1)), (0, .ref mm)]) hx hb dX12_laysWays_158 hl (by decide) rfl (fun ls hl => ?_)
                        have lp_64 : ∀ (n_65 : Nat) (kk : Nat) (xn : Int64) (H : Heap) (locs : List Loc) (ls : Array Slot), 10 - kk < n_65 → (kk ≤ 10) → (fx (cfL (cfN nw yw yo mt_) (lfH nw ws_ hR rm)) (a0N nw) i jm kk xn) → va_P D vwCl [ro_ mm 12 (mo g (nI ta) (nI pa) (nI pe) pd (nI pb) pp pf pg pn rt rn (nI cd) sn (nI il) tk am at_ aa mt_ 1 (-1) wt zyb (nI it_) (nI rm) (nI ud) (nI nu) sd (nI qn) (nI qw) qo (nI qb) (nI qp) qa (nI qi) (nI oc)), ra_I (g 20) cI 4 (l4 (nI l0) (nI l1) (nI dm) (nI l3)), ra_I (g 31) cI 120 nw, ra_I (g 37) cZ 900 yo, ra_I (g 36) cZ 900 yw, ra_J (g 43) cJ 90 zb, ra_J (g 44) cJ 90 zg, ra_I (g 38) cI 90 ws_, ra_I (g 53) cI 32 rw_] H → va_D A [ro_ mm 12 (mo g (nI ta) (nI pa) (nI pe) pd (nI pb) pp pf pg pn rt rn (nI cd) sn (nI il) tk am at_ aa mt_ 1 (-1) wt zyb (nI it_) (nI rm) (nI ud) (nI nu) sd (nI qn) (nI qw) qo (nI qb) (nI qp) qa (nI qi) (nI oc)), ra_I (g 20) cI 4 (l4 (nI l0) (nI l1) (nI dm) (nI l3)), ra_I (g 31) cI 120 nw, ra_I (g 37) cZ 900 yo, ra_I (g 36) cZ 900 yw, ra_J (g 43) cJ 90 zb, ra_J (g 44) cJ 90 zg, ra_I (g 38) cI 90 ws_, ra_I (g 53) cI 32 rw_] → va_S A s.heap H locs → lv_has ls 7 [(6, .int (nI kk)), (4, .long xn), (3, .int (nI jm)), (2, .int (nI i)), (1, .int (nI dm - 1)), (0, .ref mm)] → W p l e { frames := 3, cells := 0, slots := 0, locals := 68 } s m ([.ref mm] : List Value).toArray below meth c H locs 0 0 (MQ below (skV D (skT cI cJ cC cZ cS) (fun (u : va_W) => ∃ (wy2 : Int64), ∃ (be2 : Nat → Int64), ∃ (bf2 : Nat → Int64), beOk (cfL (cfN nw yw yo mt_) (lfH nw ws_ hR rm)) dm 0 be2 ∧ bfOk (cfL (cfN nw yw yo mt_) (lfH nw ws_ hR rm)) (a0N nw) dm bf2 ∧ wy2 = nL (wys (cfL (cfN nw yw yo mt_) (lfH nw ws_ hR rm)) (a0N nw) (dm - 1)) ∧ u = [ro_ mm 12 (mo g (nI ta) (nI pa) (nI pe) pd (nI pb) pp pf pg pn rt rn (nI cd) sn (nI il) tk am at_ aa mt_ 1 (-1) wt wy2 (nI it_) (nI rm) (nI ud) (nI nu) sd (nI qn) (nI qw) qo (nI qb) (nI qp) qa (nI qi) (nI oc)), ra_I (g 20) cI 4 (l4 (nI l0) (nI l1) (nI dm) (nI l3)), ra_I (g 31) cI 120 nw, ra_I (g 37) cZ 900 yo, ra_I (g 36) cZ 900 yw, ra_J (g 43) cJ 90 be2, ra_J (g 44) cJ 90 bf2, ra_I (g 38) cI 90 ws_, ra_I (g 53) cI 32 rw_]) A) ([.ref mm] : List Value).toArray s 0 0 A) (F0 m 160 ls []) := by
                          intro n_65
                          induction n_65 with
                          | zero => intro kk xn H locs ls hm; exact absurd hm (Nat.not_lt_zero _)
                          | succ n_65 ih_lp_64 =>
                            intro kk xn H locs ls hm hkk hfx hP hD hS hl
                            refine lv_iload hx hb dX12_laysWays_160 (lv_at hl 0 rfl) ?_
                            refine lv_bipush (v := 10) hx hb dX12_laysWays_162 (by decide) ?_
                            refine lv_icmp_ge (tgt := 207) hx hb dX12_laysWays_164 (by decide) (fun c_66 => ?_) (fun c_66 => ?_)
                            · have c_66 : 10 ≤ kk := (nle 10 kk (Nat.le_of_ble_eq_true rfl) (by omega)).mp c_66
                              refine lv_aload_n hx hb dX12_laysWays_207 rfl (lv_at hl 5 rfl) ?_
                              refine sk_get (v := .ref (g 44)) (C := RX12) (T := TX12) (N := 92) hx hb hts inlX12 hown hK hP 0 rfl rfl 44 (Nat.le_of_ble_eq_true rfl) w_5_199 rfl dX12_laysWays_208 ?_
                              refine lv_bipush (v := 10) hx hb dX12_laysWays_211 (by decide) ?_
                              refine lv_iload_n hx hb dX12_laysWays_213 rfl (lv_at hl 3 rfl) ?_
                              refine lv_imul hx hb dX12_laysWays_214 ?_
                              refine sk_top (nI (10 * i)) (nmul 10 i) ?_
                              refine lv_iload_n hx hb dX12_laysWays_215 rfl (lv_at hl 2 rfl) ?_
                              refine lv_iadd hx hb dX12_laysWays_216 ?_
                              refine sk_top (nI (10 * i + jm)) (nI_add (10 * i) jm) ?_
                              refine lv_lload hx hb dX12_laysWays_217 (lv_at hl 1 rfl) ?_
                              refine sk_lastP (Pr := bfOk2 (cfL (cfN nw yw yo mt_) (lfH nw ws_ hR rm)) (a0N nw) i (jm + 1)) (ws' := fun f_67 => [ro_ mm 12 (mo g (nI ta) (nI pa) (nI pe) pd (nI pb) pp pf pg pn rt rn (nI cd) sn (nI il) tk am at_ aa mt_ 1 (-1) wt zyb (nI it_) (nI rm) (nI ud) (nI nu) sd (nI qn) (nI qw) qo (nI qb) (nI qp) qa (nI qi) (nI oc)), ra_I (g 20) cI 4 (l4 (nI l0) (nI l1) (nI dm) (nI l3)), ra_I (g 31) cI 120 nw, ra_I (g 37) cZ 900 yo, ra_I (g 36) cZ 900 yw, ra_J (g 43) cJ 90 zb, ra_J (g 44) cJ 90 f_67, ra_I (g 38) cI 90 ws_, ra_I (g 53) cI 32 rw_]) hx hb hK hP hD hS 6 1 rfl rfl (vin (10 * i + jm) 90 (by omega) (Nat.le_of_ble_eq_true rfl)) (fun _ => rfl) (bf_store hbf2 (by omega) (by omega) (fx_fin hfx (by omega))) dX12_laysWays_219 (fun f_67 H locs hf_68 hP hD hS => ?_)
                              refine lv_iload_n hx hb dX12_laysWays_220 rfl (lv_at hl 3 rfl) ?_
                              refine lv_iload_n hx hb dX12_laysWays_221 rfl (lv_at hl 4 rfl) ?_
                              refine lv_icmp_ne (tgt := 236) hx hb dX12_laysWays_222 (by decide) (fun c_69 => ?_) (fun c_69 => ?_)
                              · have c_69 : ¬ (((i : Nat) : Int) = ((dm : Nat) : Int) - 1) := fun h => c_69 ((ieq (ivn i (by omega)) (ivp dm (by omega))).mpr h)
                                refine lv_iinc (v := nI (jm + 1)) (lv' := [(3, .int (nI (jm + 1))), (6, .int (nI kk)), (4, .long xn), (2, .int (nI i)), (1, .int (nI dm - 1)), (0, .ref mm)]) hx hb dX12_laysWays_236 hl (k := 2) rfl (ninc jm 1 (by decide)) (by decide) rfl (fun ls hl => ?_)
                                refine lv_goto (tgt := 125) hx hb dX12_laysWays_239 (by decide) ?_
                                exact ih_lp_10 (jm + 1) zyb f_67 _ _ _ (by omega) (by omega) hf_68 (wy_keep hzyb (by omega)) hP hD hS (lv_sub hl [0, 3, 4, 5] rfl)
                              · have c_69 : ((i : Nat) : Int) = ((dm : Nat) : Int) - 1 := (ieq (ivn i (by omega)) (ivp dm (by omega))).mp c_69
                                refine lv_aload_n hx hb dX12_laysWays_225 rfl (lv_at hl 5 rfl) ?_
                                refine lv_dup hx hb dX12_laysWays_226 rfl ?_
                                refine sk_get (v := .long zyb) (C := RX12) (T := TX12) (N := 92) hx hb hts inlX12 hown hK hP 0 rfl rfl 45 (Nat.le_of_ble_eq_true rfl) w_5_200 rfl dX12_laysWays_227 ?_
                                refine lv_lload hx hb dX12_laysWays_230 (lv_at hl 1 rfl) ?_
                                refine lv_ladd hx hb dX12_laysWays_232 ?_
                                refine lv_topl (fun v_70 ev_70 => ?_)
                                refine sk_put (ws' := [ro_ mm 12 (mo g (nI ta) (nI pa) (nI pe) pd (nI pb) pp pf pg pn rt rn (nI cd) sn (nI il) tk am at_ aa mt_ 1 (-1) wt v_70 (nI it_) (nI rm) (nI ud) (nI nu) sd (nI qn) (nI qw) qo (nI qb) (nI qp) qa (nI qi) (nI oc)), ra_I (g 20) cI 4 (l4 (nI l0) (nI l1) (nI dm) (nI l3)), ra_I (g 31) cI 120 nw, ra_I (g 37) cZ 900 yo, ra_I (g 36) cZ 900 yw, ra_J (g 43) cJ 90 zb, ra_J (g 44) cJ 90 f_67, ra_I (g 38) cI 90 ws_, ra_I (g 53) cI 32 rw_]) (C := RX12) (T := TX12) (N := 92) (v := .long v_70) hx hb hts inlX12 tyX12 tyX12_ok nmX12 hown hK hP hD hS 0 rfl rfl 45 (Nat.le_of_ble_eq_true rfl) w_5_200 rfl rfl rfl (Nat.le_of_ble_eq_true rfl) rfl dX12_laysWays_233 (fun H locs hP hD hS => ?_)
                                refine lv_iinc (v := nI (jm + 1)) (lv' := [(3, .int (nI (jm + 1))), (6, .int (nI kk)), (4, .long xn), (2, .int (nI i)), (1, .int (nI dm - 1)), (0, .ref mm)]) hx hb dX12_laysWays_236 hl (k := 2) rfl (ninc jm 1 (by decide)) (by decide) rfl (fun ls hl => ?_)
                                refine lv_goto (tgt := 125) hx hb dX12_laysWays_239 (by decide) ?_
                                exact ih_lp_10 (jm + 1) v_70 f_67 _ _ _ (by omega) (by omega) hf_68 (wy_add hzyb (fx_fin hfx (by omega)) (by omega) ev_70) hP hD hS (lv_sub hl [0, 3, 4, 5] rfl)
                            · have c_66 : ¬ (10 ≤ kk) := fun h => c_66 ((nle 10 kk (Nat.le_of_ble_eq_true rfl) (by omega)).mpr h)
                              refine lv_iload_n hx hb dX12_laysWays_167 rfl (lv_at hl 3 rfl) ?_
                              refine lv_if_le (tgt := 207) hx hb dX12_laysWays_168 (by decide) (fun c_71 => ?_) (fun c_71 => ?_)
                              · have c_71 : i ≤ 0 := (nle i 0 (by omega) (Nat.le_of_ble_eq_true rfl)).mp c_71
                                refine lv_aload_n hx hb dX12_laysWays_207 rfl (lv_at hl 5 rfl) ?_
                                refine sk_get (v := .ref (g 44)) (C := RX12) (T := TX12) (N := 92) hx hb hts inlX12 hown hK hP 0 rfl rfl 44 (Nat.le_of_ble_eq_true rfl) w_5_199 rfl dX12_laysWays_208 ?_
                                refine lv_bipush (v := 10) hx hb dX12_laysWays_211 (by decide) ?_
                                refine lv_iload_n hx hb dX12_laysWays_213 rfl (lv_at hl 3 rfl) ?_
                                refine lv_imul hx hb dX12_laysWays_214 ?_
                                refine sk_top (nI (10 * i)) (nmul 10 i) ?_
                                refine lv_iload_n hx hb dX12_laysWays_215 rfl (lv_at hl 2 rfl) ?_
                                refine lv_iadd hx hb dX12_laysWays_216 ?_
                                refine sk_top (nI (10 * i + jm)) (nI_add (10 * i) jm) ?_
                                refine lv_lload hx hb dX12_laysWays_217 (lv_at hl 1 rfl) ?_
                                refine sk_lastP (Pr := bfOk2 (cfL (cfN nw yw yo mt_) (lfH nw ws_ hR rm)) (a0N nw) i (jm + 1)) (ws' := fun f_72 => [ro_ mm 12 (mo g (nI ta) (nI pa) (nI pe) pd (nI pb) pp pf pg pn rt rn (nI cd) sn (nI il) tk am at_ aa mt_ 1 (-1) wt zyb (nI it_) (nI rm) (nI ud) (nI nu) sd (nI qn) (nI qw) qo (nI qb) (nI qp) qa (nI qi) (nI oc)), ra_I (g 20) cI 4 (l4 (nI l0) (nI l1) (nI dm) (nI l3)), ra_I (g 31) cI 120 nw, ra_I (g 37) cZ 900 yo, ra_I (g 36) cZ 900 yw, ra_J (g 43) cJ 90 zb, ra_J (g 44) cJ 90 f_72, ra_I (g 38) cI 90 ws_, ra_I (g 53) cI 32 rw_]) hx hb hK hP hD hS 6 1 rfl rfl (vin (10 * i + jm) 90 (by omega) (Nat.le_of_ble_eq_true rfl)) (fun _ => rfl) (bf_store hbf2 (by omega) (by omega) (fx_fin hfx (by omega))) dX12_laysWays_219 (fun f_72 H locs hf_73 hP hD hS => ?_)
                                refine lv_iload_n hx hb dX12_laysWays_220 rfl (lv_at hl 3 rfl) ?_
                                refine lv_iload_n hx hb dX12_laysWays_221 rfl (lv_at hl 4 rfl) ?_
                                refine lv_icmp_ne (tgt := 236) hx hb dX12_laysWays_222 (by decide) (fun c_74 => ?_) (fun c_74 => ?_)
                                · have c_74 : ¬ (((i : Nat) : Int) = ((dm : Nat) : Int) - 1) := fun h => c_74 ((ieq (ivn i (by omega)) (ivp dm (by omega))).mpr h)
                                  refine lv_iinc (v := nI (jm + 1)) (lv' := [(3, .int (nI (jm + 1))), (6, .int (nI kk)), (4, .long xn), (2, .int (nI i)), (1, .int (nI dm - 1)), (0, .ref mm)]) hx hb dX12_laysWays_236 hl (k := 2) rfl (ninc jm 1 (by decide)) (by decide) rfl (fun ls hl => ?_)
                                  refine lv_goto (tgt := 125) hx hb dX12_laysWays_239 (by decide) ?_
                                  exact ih_lp_10 (jm + 1) zyb f_72 _ _ _ (by omega) (by omega) hf_73 (wy_keep hzyb (by omega)) hP hD hS (lv_sub hl [0, 3, 4, 5] rfl)
                                · have c_74 : ((i : Nat) : Int) = ((dm : Nat) : Int) - 1 := (ieq (ivn i (by omega)) (ivp dm (by omega))).mp c_74
                                  refine lv_aload_n hx hb dX12_laysWays_225 rfl (lv_at hl 5 rfl) ?_
                                  refine lv_dup hx hb dX12_laysWays_226 rfl ?_
                                  refine sk_get (v := .long zyb) (C := RX12) (T := TX12) (N := 92) hx hb hts inlX12 hown hK hP 0 rfl rfl 45 (Nat.le_of_ble_eq_true rfl) w_5_200 rfl dX12_laysWays_227 ?_
                                  refine lv_lload hx hb dX12_laysWays_230 (lv_at hl 1 rfl) ?_
                                  refine lv_ladd hx hb dX12_laysWays_232 ?_
                                  refine lv_topl (fun v_75 ev_75 => ?_)
                                  refine sk_put (ws' := [ro_ mm 12 (mo g (nI ta) (nI pa) (nI pe) pd (nI pb) pp pf pg pn rt rn (nI cd) sn (nI il) tk am at_ aa mt_ 1 (-1) wt v_75 (nI it_) (nI rm) (nI ud) (nI nu) sd (nI qn) (nI qw) qo (nI qb) (nI qp) qa (nI qi) (nI oc)), ra_I (g 20) cI 4 (l4 (nI l0) (nI l1) (nI dm) (nI l3)), ra_I (g 31) cI 120 nw, ra_I (g 37) cZ 900 yo, ra_I (g 36) cZ 900 yw, ra_J (g 43) cJ 90 zb, ra_J (g 44) cJ 90 f_72, ra_I (g 38) cI 90 ws_, ra_I (g 53) cI 32 rw_]) (C := RX12) (T := TX12) (N := 92) (v := .long v_75) hx hb hts inlX12 tyX12 tyX12_ok nmX12 hown hK hP hD hS 0 rfl rfl 45 (Nat.le_of_ble_eq_true rfl) w_5_200 rfl rfl rfl (Nat.le_of_ble_eq_true rfl) rfl dX12_laysWays_233 (fun H locs hP hD hS => ?_)
                                  refine lv_iinc (v := nI (jm + 1)) (lv' := [(3, .int (nI (jm + 1))), (6, .int (nI kk)), (4, .long xn), (2, .int (nI i)), (1, .int (nI dm - 1)), (0, .ref mm)]) hx hb dX12_laysWays_236 hl (k := 2) rfl (ninc jm 1 (by decide)) (by decide) rfl (fun ls hl => ?_)
                                  refine lv_goto (tgt := 125) hx hb dX12_laysWays_239 (by decide) ?_
                                  exact ih_lp_10 (jm + 1) v_75 f_72 _ _ _ (by omega) (by omega) hf_73 (wy_add hzyb (fx_fin hfx (by omega)) (by omega) ev_75) hP hD hS (lv_sub hl [0, 3, 4, 5] rfl)
                              · have c_71 : ¬ (i ≤ 0) := fun h => c_71 ((nle i 0 (by omega) (Nat.le_of_ble_eq_true rfl)).mpr h)
                                refine lv_aload_n hx hb dX12_laysWays_171 rfl (lv_at hl 5 rfl) ?_
                                refine lv_iload_n hx hb dX12_laysWays_172 rfl (lv_at hl 3 rfl) ?_
                                refine lv_iload hx hb dX12_laysWays_173 (lv_at hl 0 rfl) ?_
                                refine lv_iload_n hx hb dX12_laysWays_175 rfl (lv_at hl 2 rfl) ?_
                                refine sk_Vi (q0 := 0) (n := 3) (rest := []) (wr := fmR om_9_173 _) ⟨hx, hb, hml, hown, hts⟩ hl.1 (c_vm_canFollowH l D cI cJ cC cZ cS mm g ta pa pe pd pb pp pf pg pn rt rn cd sn il tk am at_ aa mt_ wt zyb it_ rm ud nu sd qn qw qo qb qp qa qi oc i kk jm nw ws_ rw_ yo yw hR (by omega) (by omega) (by omega) hrw hR90 hrm hnw) w_7_201 w_7_203 w_0_85 w_1_14 w_7_204 hd_X12_canFollow_3 ⟨⟨(Nat.le_of_ble_eq_true rfl), (Nat.le_of_ble_eq_true rfl)⟩, (Nat.le_of_ble_eq_true rfl), (Nat.le_of_ble_eq_true rfl)⟩ hK hP hD hS hA [0, 2, 7, 8, 3, 4] (fmF om_9_173 0) rfl (fm_R rfl rfl) (by decide +kernel) (fm_nF om_9_173 0) (by decide +kernel) rfl rfl rfl rfl (Nat.le_of_ble_eq_true rfl) dX12_laysWays_176 (fun r_77 u H locs hw hP hD hS => ?_)
                                refine exE hw (fun b_76 hw1 => anE hw1 (fun hb1_78 hw2 => anE hw2 (fun hb2_79 hw3 => anE hw3 (fun er_81 eu_80 => ?_))))
                                clear hw hw1 hw2 hw3
                                subst er_81
                                refine o_mgqE (ux := [ro_ mm 12 (mo g (nI ta) (nI pa) (nI pe) pd (nI pb) pp pf pg pn rt rn (nI cd) sn (nI il) tk am at_ aa mt_ 1 (-1) wt zyb (nI it_) (nI rm) (nI ud) (nI nu) sd (nI qn) (nI qw) qo (nI qb) (nI qp) qa (nI qi) (nI oc)), ra_I (g 31) cI 120 nw, ra_I (g 37) cZ 900 yo, ra_I (g 36) cZ 900 yw, ra_I (g 38) cI 90 ws_, ra_I (g 53) cI 32 rw_]) (ws' := [ro_ mm 12 (mo g (nI ta) (nI pa) (nI pe) pd (nI pb) pp pf pg pn rt rn (nI cd) sn (nI il) tk am at_ aa mt_ 1 (-1) wt zyb (nI it_) (nI rm) (nI ud) (nI nu) sd (nI qn) (nI qw) qo (nI qb) (nI qp) qa (nI qi) (nI oc)), ra_I (g 20) cI 4 (l4 (nI l0) (nI l1) (nI dm) (nI l3)), ra_I (g 31) cI 120 nw, ra_I (g 37) cZ 900 yo, ra_I (g 36) cZ 900 yw, ra_J (g 43) cJ 90 zb, ra_J (g 44) cJ 90 zg, ra_I (g 38) cI 90 ws_, ra_I (g 53) cI 32 rw_]) eu_80 [0, 1, 4, 5, 2, 3] (by decide +kernel) rfl hP hD rfl (fun hP hD => ?_)
                                refine lv_if_eq (tgt := 201) hx hb dX12_laysWays_179 (by decide) (fun c_82 => ?_) (fun c_82 => ?_)
                                · have c_82 : b_76 = 0 := (neq b_76 0 (by omega) (Nat.le_of_ble_eq_true rfl)).mp c_82
                                  refine lv_iinc (v := nI (kk + 1)) (lv' := [(6, .int (nI (kk + 1))), (4, .long xn), (3, .int (nI jm)), (2, .int (nI i)), (1, .int (nI dm - 1)), (0, .ref mm)]) hx hb dX12_laysWays_201 hl (k := 0) rfl (ninc kk 1 (by decide)) (by decide) rfl (fun ls hl => ?_)
                                  refine lv_goto (tgt := 160) hx hb dX12_laysWays_204 (by decide) ?_
                                  exact ih_lp_64 (kk + 1) xn _ _ _ (by omega) (by omega) (fx_no hfx (by omega) (or_0 hb1_78 (by omega))) hP hD hS (lv_sub hl [0, 1, 2, 3, 4, 5] rfl)
                                · have c_82 : ¬ (b_76 = 0) := fun h => c_82 ((neq b_76 0 (by omega) (Nat.le_of_ble_eq_true rfl)).mpr h)
                                  refine lv_lload hx hb dX12_laysWays_182 (lv_at hl 1 rfl) ?_
                                  refine lv_aload_n hx hb dX12_laysWays_184 rfl (lv_at hl 5 rfl) ?_
                                  refine sk_get (v := .ref (g 44)) (C := RX12) (T := TX12) (N := 92) hx hb hts inlX12 hown hK hP 0 rfl rfl 44 (Nat.le_of_ble_eq_true rfl) w_5_199 rfl dX12_laysWays_185 ?_
                                  refine lv_bipush (v := 10) hx hb dX12_laysWays_188 (by decide) ?_
                                  refine lv_iload_n hx hb dX12_laysWays_190 rfl (lv_at hl 3 rfl) ?_
                                  refine lv_iconst (v := 1) hx hb dX12_laysWays_191 ic_1 ?_
                                  refine lv_isub hx hb dX12_laysWays_192 ?_
                                  refine sk_top (nI (i - 1)) (nsub i 1 (by omega)) ?_
                                  refine lv_imul hx hb dX12_laysWays_193 ?_
                                  refine sk_top (nI (10 * (i - 1))) (nmul 10 (i - 1)) ?_
                                  refine lv_iload hx hb dX12_laysWays_194 (lv_at hl 0 rfl) ?_
                                  refine lv_iadd hx hb dX12_laysWays_196 ?_
                                  refine sk_top (nI (10 * (i - 1) + kk)) (nI_add (10 * (i - 1)) kk) ?_
                                  refine va_lald hx hb hK.1 hP 6 1 rfl rfl (vin (10 * (i - 1) + kk) 90 (by omega) (Nat.le_of_ble_eq_true rfl)) dX12_laysWays_197 ?_
                                  refine lv_topl (fun v_83 ev_83 => ?_)
                                  refine lv_ladd hx hb dX12_laysWays_198 ?_
                                  refine lv_topl (fun v_84 ev_84 => ?_)
                                  refine lv_lstore (lv' := [(4, .long v_84), (6, .int (nI kk)), (3, .int (nI jm)), (2, .int (nI i)), (1, .int (nI dm - 1)), (0, .ref mm)]) hx hb dX12_laysWays_199 hl (by decide) rfl (fun ls hl => ?_)
                                  refine lv_iinc (v := nI (kk + 1)) (lv' := [(6, .int (nI (kk + 1))), (4, .long v_84), (3, .int (nI jm)), (2, .int (nI i)), (1, .int (nI dm - 1)), (0, .ref mm)]) hx hb dX12_laysWays_201 hl (k := 1) rfl (ninc kk 1 (by decide)) (by decide) rfl (fun ls hl => ?_)
                                  refine lv_goto (tgt := 160) hx hb dX12_laysWays_204 (by decide) ?_
                                  exact ih_lp_64 (kk + 1) v_84 _ _ _ (by omega) (by omega) (fx_yes hfx (by omega) (or_1 hb1_78 (by omega)) (bf_get hbf2.1 (by omega) (by omega) (by omega) ev_83) ev_84) hP hD hS (lv_sub hl [0, 1, 2, 3, 4, 5] rfl)
                        exact lp_64 (10 - 0 + 1) 0 1 _ _ _ (Nat.lt_succ_self _) (by omega) (fx_1 (by omega) (by rw [← ha0]; exact or_1 hb1_38 (by omega))) hP hD hS (lv_sub hl [0, 1, 2, 3, 4, 5] rfl)
              exact lp_10 (10 - 0 + 1) 0 zy zf _ _ _ (Nat.lt_succ_self _) (by omega) (bf_0 hbf) (wy_0 hzy (by omega)) hP hD hS (lv_sub hl [0, 1, 2, 3] rfl)
        exact lp_7 (dm - 0 + 1) 0 0 bf _ _ _ (Nat.lt_succ_self _) (by omega) (bf_init _ _ _) (wy_init _ _ (by omega)) hP hD hS (lv_sub hl [0, 1, 2] rfl)
      · have c_6 : 1 ≤ dd := npm1 dd c_6
        rw [npred dd (by omega)] at hl
        refine lv_iconst (v := 0) hx hb dX12_laysWays_13 ic_0 ?_
        refine lv_istore_n (lv' := [(3, .int 0), (2, .int (nI (dd - 1))), (1, .int (nI dm - 1)), (0, .ref mm)]) hx hb dX12_laysWays_14 rfl hl (by decide) rfl (fun ls hl => ?_)
        have lp_85 : ∀ (n_86 : Nat) (jm : Nat) (zc : Nat → Int64) (H : Heap) (locs : List Loc) (ls : Array Slot), 10 - jm < n_86 → (jm ≤ 10) → (beOk2 (cfL (cfN nw yw yo mt_) (lfH nw ws_ hR rm)) dm (dd - 1) jm zc) → va_P D vwCl [ro_ mm 12 (mo g (nI ta) (nI pa) (nI pe) pd (nI pb) pp pf pg pn rt rn (nI cd) sn (nI il) tk am at_ aa mt_ 1 (-1) wt wy (nI it_) (nI rm) (nI ud) (nI nu) sd (nI qn) (nI qw) qo (nI qb) (nI qp) qa (nI qi) (nI oc)), ra_I (g 20) cI 4 (l4 (nI l0) (nI l1) (nI dm) (nI l3)), ra_I (g 31) cI 120 nw, ra_I (g 37) cZ 900 yo, ra_I (g 36) cZ 900 yw, ra_J (g 43) cJ 90 zc, ra_J (g 44) cJ 90 bf, ra_I (g 38) cI 90 ws_, ra_I (g 53) cI 32 rw_] H → va_D A [ro_ mm 12 (mo g (nI ta) (nI pa) (nI pe) pd (nI pb) pp pf pg pn rt rn (nI cd) sn (nI il) tk am at_ aa mt_ 1 (-1) wt wy (nI it_) (nI rm) (nI ud) (nI nu) sd (nI qn) (nI qw) qo (nI qb) (nI qp) qa (nI qi) (nI oc)), ra_I (g 20) cI 4 (l4 (nI l0) (nI l1) (nI dm) (nI l3)), ra_I (g 31) cI 120 nw, ra_I (g 37) cZ 900 yo, ra_I (g 36) cZ 900 yw, ra_J (g 43) cJ 90 zc, ra_J (g 44) cJ 90 bf, ra_I (g 38) cI 90 ws_, ra_I (g 53) cI 32 rw_] → va_S A s.heap H locs → lv_has ls 7 [(3, .int (nI jm)), (2, .int (nI (dd - 1))), (1, .int (nI dm - 1)), (0, .ref mm)] → W p l e { frames := 3, cells := 0, slots := 0, locals := 68 } s m ([.ref mm] : List Value).toArray below meth c H locs 0 0 (MQ below (skV D (skT cI cJ cC cZ cS) (fun (u : va_W) => ∃ (wy2 : Int64), ∃ (be2 : Nat → Int64), ∃ (bf2 : Nat → Int64), beOk (cfL (cfN nw yw yo mt_) (lfH nw ws_ hR rm)) dm 0 be2 ∧ bfOk (cfL (cfN nw yw yo mt_) (lfH nw ws_ hR rm)) (a0N nw) dm bf2 ∧ wy2 = nL (wys (cfL (cfN nw yw yo mt_) (lfH nw ws_ hR rm)) (a0N nw) (dm - 1)) ∧ u = [ro_ mm 12 (mo g (nI ta) (nI pa) (nI pe) pd (nI pb) pp pf pg pn rt rn (nI cd) sn (nI il) tk am at_ aa mt_ 1 (-1) wt wy2 (nI it_) (nI rm) (nI ud) (nI nu) sd (nI qn) (nI qw) qo (nI qb) (nI qp) qa (nI qi) (nI oc)), ra_I (g 20) cI 4 (l4 (nI l0) (nI l1) (nI dm) (nI l3)), ra_I (g 31) cI 120 nw, ra_I (g 37) cZ 900 yo, ra_I (g 36) cZ 900 yw, ra_J (g 43) cJ 90 be2, ra_J (g 44) cJ 90 bf2, ra_I (g 38) cI 90 ws_, ra_I (g 53) cI 32 rw_]) A) ([.ref mm] : List Value).toArray s 0 0 A) (F0 m 15 ls []) := by
          intro n_86
          induction n_86 with
          | zero => intro jm zc H locs ls hm; exact absurd hm (Nat.not_lt_zero _)
          | succ n_86 ih_lp_85 =>
            intro jm zc H locs ls hm hjm hbe2 hP hD hS hl
            refine lv_iload_n hx hb dX12_laysWays_15 rfl (lv_at hl 0 rfl) ?_
            refine lv_bipush (v := 10) hx hb dX12_laysWays_16 (by decide) ?_
            refine lv_icmp_ge (tgt := 105) hx hb dX12_laysWays_18 (by decide) (fun c_87 => ?_) (fun c_87 => ?_)
            · have c_87 : 10 ≤ jm := (nle 10 jm (Nat.le_of_ble_eq_true rfl) (by omega)).mp c_87
              refine lv_iinc (v := nI (dd - 1) - 1) (lv' := [(2, .int (nI (dd - 1) - 1)), (3, .int (nI jm)), (1, .int (nI dm - 1)), (0, .ref mm)]) hx hb dX12_laysWays_105 hl (k := 1) rfl (ndn _) (by decide) rfl (fun ls hl => ?_)
              refine lv_goto (tgt := 9) hx hb dX12_laysWays_108 (by decide) ?_
              exact ih_lp_4 (dd - 1) zc _ _ _ (by omega) (by omega) (be_fin hbe2 (by omega)) hP hD hS (lv_sub hl [0, 2, 3] rfl)
            · have c_87 : ¬ (10 ≤ jm) := fun h => c_87 ((nle 10 jm (Nat.le_of_ble_eq_true rfl) (by omega)).mpr h)
              refine lv_iload_n hx hb dX12_laysWays_21 rfl (lv_at hl 1 rfl) ?_
              refine lv_iload_n hx hb dX12_laysWays_22 rfl (lv_at hl 2 rfl) ?_
              refine lv_icmp_ne (tgt := 30) hx hb dX12_laysWays_23 (by decide) (fun c_88 => ?_) (fun c_88 => ?_)
              · have c_88 : ¬ (((dd - 1 : Nat) : Int) = ((dm : Nat) : Int) - 1) := fun h => c_88 ((ieq (ivn (dd - 1) (by omega)) (ivp dm (by omega))).mpr h)
                refine lv_lconst (v := 0) hx hb dX12_laysWays_30 (by decide) ?_
                refine lv_lstore (lv' := [(4, .long 0), (3, .int (nI jm)), (2, .int (nI (dd - 1))), (1, .int (nI dm - 1)), (0, .ref mm)]) hx hb dX12_laysWays_31 hl (by decide) rfl (fun ls hl => ?_)
                refine lv_iconst (v := 0) hx hb dX12_laysWays_33 ic_0 ?_
                refine lv_istore (lv' := [(6, .int 0), (4, .long 0), (3, .int (nI jm)), (2, .int (nI (dd - 1))), (1, .int (nI dm - 1)), (0, .ref mm)]) hx hb dX12_laysWays_34 hl (by decide) rfl (fun ls hl => ?_)
                have lp_89 : ∀ (n_90 : Nat) (kk : Nat) (xn : Int64) (H : Heap) (locs : List Loc) (ls : Array Slot), 10 - kk < n_90 → (kk ≤ 10) → (bx (cfL (cfN nw yw yo mt_) (lfH nw ws_ hR rm)) dm (dd - 1) jm kk xn) → va_P D vwCl [ro_ mm 12 (mo g (nI ta) (nI pa) (nI pe) pd (nI pb) pp pf pg pn rt rn (nI cd) sn (nI il) tk am at_ aa mt_ 1 (-1) wt wy (nI it_) (nI rm) (nI ud) (nI nu) sd (nI qn) (nI qw) qo (nI qb) (nI qp) qa (nI qi) (nI oc)), ra_I (g 20) cI 4 (l4 (nI l0) (nI l1) (nI dm) (nI l3)), ra_I (g 31) cI 120 nw, ra_I (g 37) cZ 900 yo, ra_I (g 36) cZ 900 yw, ra_J (g 43) cJ 90 zc, ra_J (g 44) cJ 90 bf, ra_I (g 38) cI 90 ws_, ra_I (g 53) cI 32 rw_] H → va_D A [ro_ mm 12 (mo g (nI ta) (nI pa) (nI pe) pd (nI pb) pp pf pg pn rt rn (nI cd) sn (nI il) tk am at_ aa mt_ 1 (-1) wt wy (nI it_) (nI rm) (nI ud) (nI nu) sd (nI qn) (nI qw) qo (nI qb) (nI qp) qa (nI qi) (nI oc)), ra_I (g 20) cI 4 (l4 (nI l0) (nI l1) (nI dm) (nI l3)), ra_I (g 31) cI 120 nw, ra_I (g 37) cZ 900 yo, ra_I (g 36) cZ 900 yw, ra_J (g 43) cJ 90 zc, ra_J (g 44) cJ 90 bf, ra_I (g 38) cI 90 ws_, ra_I (g 53) cI 32 rw_] → va_S A s.heap H locs → lv_has ls 7 [(6, .int (nI kk)), (4, .long xn), (3, .int (nI jm)), (2, .int (nI (dd - 1))), (1, .int (nI dm - 1)), (0, .ref mm)] → W p l e { frames := 3, cells := 0, slots := 0, locals := 68 } s m ([.ref mm] : List Value).toArray below meth c H locs 0 0 (MQ below (skV D (skT cI cJ cC cZ cS) (fun (u : va_W) => ∃ (wy2 : Int64), ∃ (be2 : Nat → Int64), ∃ (bf2 : Nat → Int64), beOk (cfL (cfN nw yw yo mt_) (lfH nw ws_ hR rm)) dm 0 be2 ∧ bfOk (cfL (cfN nw yw yo mt_) (lfH nw ws_ hR rm)) (a0N nw) dm bf2 ∧ wy2 = nL (wys (cfL (cfN nw yw yo mt_) (lfH nw ws_ hR rm)) (a0N nw) (dm - 1)) ∧ u = [ro_ mm 12 (mo g (nI ta) (nI pa) (nI pe) pd (nI pb) pp pf pg pn rt rn (nI cd) sn (nI il) tk am at_ aa mt_ 1 (-1) wt wy2 (nI it_) (nI rm) (nI ud) (nI nu) sd (nI qn) (nI qw) qo (nI qb) (nI qp) qa (nI qi) (nI oc)), ra_I (g 20) cI 4 (l4 (nI l0) (nI l1) (nI dm) (nI l3)), ra_I (g 31) cI 120 nw, ra_I (g 37) cZ 900 yo, ra_I (g 36) cZ 900 yw, ra_J (g 43) cJ 90 be2, ra_J (g 44) cJ 90 bf2, ra_I (g 38) cI 90 ws_, ra_I (g 53) cI 32 rw_]) A) ([.ref mm] : List Value).toArray s 0 0 A) (F0 m 36 ls []) := by
                  intro n_90
                  induction n_90 with
                  | zero => intro kk xn H locs ls hm; exact absurd hm (Nat.not_lt_zero _)
                  | succ n_90 ih_lp_89 =>
                    intro kk xn H locs ls hm hkk hbx hP hD hS hl
                    refine lv_iload hx hb dX12_laysWays_36 (lv_at hl 0 rfl) ?_
                    refine lv_bipush (v := 10) hx hb dX12_laysWays_38 (by decide) ?_
                    refine lv_icmp_ge (tgt := 86) hx hb dX12_laysWays_40 (by decide) (fun c_91 => ?_) (fun c_91 => ?_)
                    · have c_91 : 10 ≤ kk := (nle 10 kk (Nat.le_of_ble_eq_true rfl) (by omega)).mp c_91
                      refine lv_aload_n hx hb dX12_laysWays_86 rfl (lv_at hl 5 rfl) ?_
                      refine sk_get (v := .ref (g 43)) (C := RX12) (T := TX12) (N := 92) hx hb hts inlX12 hown hK hP 0 rfl rfl 43 (Nat.le_of_ble_eq_true rfl) w_5_198 rfl dX12_laysWays_87 ?_
                      refine lv_bipush (v := 10) hx hb dX12_laysWays_90 (by decide) ?_
                      refine lv_iload_n hx hb dX12_laysWays_92 rfl (lv_at hl 3 rfl) ?_
                      refine lv_imul hx hb dX12_laysWays_93 ?_
                      refine sk_top (nI (10 * (dd - 1))) (nmul 10 (dd - 1)) ?_
                      refine lv_iload_n hx hb dX12_laysWays_94 rfl (lv_at hl 2 rfl) ?_
                      refine lv_iadd hx hb dX12_laysWays_95 ?_
                      refine sk_top (nI (10 * (dd - 1) + jm)) (nI_add (10 * (dd - 1)) jm) ?_
                      refine lv_lload hx hb dX12_laysWays_96 (lv_at hl 1 rfl) ?_
                      refine sk_lastP (Pr := beOk2 (cfL (cfN nw yw yo mt_) (lfH nw ws_ hR rm)) dm (dd - 1) (jm + 1)) (ws' := fun f_92 => [ro_ mm 12 (mo g (nI ta) (nI pa) (nI pe) pd (nI pb) pp pf pg pn rt rn (nI cd) sn (nI il) tk am at_ aa mt_ 1 (-1) wt wy (nI it_) (nI rm) (nI ud) (nI nu) sd (nI qn) (nI qw) qo (nI qb) (nI qp) qa (nI qi) (nI oc)), ra_I (g 20) cI 4 (l4 (nI l0) (nI l1) (nI dm) (nI l3)), ra_I (g 31) cI 120 nw, ra_I (g 37) cZ 900 yo, ra_I (g 36) cZ 900 yw, ra_J (g 43) cJ 90 f_92, ra_J (g 44) cJ 90 bf, ra_I (g 38) cI 90 ws_, ra_I (g 53) cI 32 rw_]) hx hb hK hP hD hS 5 1 rfl rfl (vin (10 * (dd - 1) + jm) 90 (by omega) (Nat.le_of_ble_eq_true rfl)) (fun _ => rfl) (be_store hbe2 (by omega) (by omega) (bx_fin hbx (by omega))) dX12_laysWays_98 (fun f_92 H locs hf_93 hP hD hS => ?_)
                      refine lv_iinc (v := nI (jm + 1)) (lv' := [(3, .int (nI (jm + 1))), (6, .int (nI kk)), (4, .long xn), (2, .int (nI (dd - 1))), (1, .int (nI dm - 1)), (0, .ref mm)]) hx hb dX12_laysWays_99 hl (k := 2) rfl (ninc jm 1 (by decide)) (by decide) rfl (fun ls hl => ?_)
                      refine lv_goto (tgt := 15) hx hb dX12_laysWays_102 (by decide) ?_
                      exact ih_lp_85 (jm + 1) f_92 _ _ _ (by omega) (by omega) hf_93 hP hD hS (lv_sub hl [0, 3, 4, 5] rfl)
                    · have c_91 : ¬ (10 ≤ kk) := fun h => c_91 ((nle 10 kk (Nat.le_of_ble_eq_true rfl) (by omega)).mpr h)
                      refine lv_iload_n hx hb dX12_laysWays_43 rfl (lv_at hl 3 rfl) ?_
                      refine lv_iload_n hx hb dX12_laysWays_44 rfl (lv_at hl 4 rfl) ?_
                      refine lv_icmp_ge (tgt := 86) hx hb dX12_laysWays_45 (by decide) (fun c_94 => ?_) (fun c_94 => ?_)
                      · have c_94 : ((dm : Nat) : Int) - 1 ≤ ((dd - 1 : Nat) : Int) := (ile (ivp dm (by omega)) (ivn (dd - 1) (by omega))).mp c_94
                        refine lv_aload_n hx hb dX12_laysWays_86 rfl (lv_at hl 5 rfl) ?_
                        refine sk_get (v := .ref (g 43)) (C := RX12) (T := TX12) (N := 92) hx hb hts inlX12 hown hK hP 0 rfl rfl 43 (Nat.le_of_ble_eq_true rfl) w_5_198 rfl dX12_laysWays_87 ?_
                        refine lv_bipush (v := 10) hx hb dX12_laysWays_90 (by decide) ?_
                        refine lv_iload_n hx hb dX12_laysWays_92 rfl (lv_at hl 3 rfl) ?_
                        refine lv_imul hx hb dX12_laysWays_93 ?_
                        refine sk_top (nI (10 * (dd - 1))) (nmul 10 (dd - 1)) ?_
                        refine lv_iload_n hx hb dX12_laysWays_94 rfl (lv_at hl 2 rfl) ?_
                        refine lv_iadd hx hb dX12_laysWays_95 ?_
                        refine sk_top (nI (10 * (dd - 1) + jm)) (nI_add (10 * (dd - 1)) jm) ?_
                        refine lv_lload hx hb dX12_laysWays_96 (lv_at hl 1 rfl) ?_
                        refine sk_lastP (Pr := beOk2 (cfL (cfN nw yw yo mt_) (lfH nw ws_ hR rm)) dm (dd - 1) (jm + 1)) (ws' := fun f_95 => [ro_ mm 12 (mo g (nI ta) (nI pa) (nI pe) pd (nI pb) pp pf pg pn rt rn (nI cd) sn (nI il) tk am at_ aa mt_ 1 (-1) wt wy (nI it_) (nI rm) (nI ud) (nI nu) sd (nI qn) (nI qw) qo (nI qb) (nI qp) qa (nI qi) (nI oc)), ra_I (g 20) cI 4 (l4 (nI l0) (nI l1) (nI dm) (nI l3)), ra_I (g 31) cI 120 nw, ra_I (g 37) cZ 900 yo, ra_I (g 36) cZ 900 yw, ra_J (g 43) cJ 90 f_95, ra_J (g 44) cJ 90 bf, ra_I (g 38) cI 90 ws_, ra_I (g 53) cI 32 rw_]) hx hb hK hP hD hS 5 1 rfl rfl (vin (10 * (dd - 1) + jm) 90 (by omega) (Nat.le_of_ble_eq_true rfl)) (fun _ => rfl) (be_store hbe2 (by omega) (by omega) (bx_fin hbx (by omega))) dX12_laysWays_98 (fun f_95 H locs hf_96 hP hD hS => ?_)
                        refine lv_iinc (v := nI (jm + 1)) (lv' := [(3, .int (nI (jm + 1))), (6, .int (nI kk)), (4, .long xn), (2, .int (nI (dd - 1))), (1, .int (nI dm - 1)), (0, .ref mm)]) hx hb dX12_laysWays_99 hl (k := 2) rfl (ninc jm 1 (by decide)) (by decide) rfl (fun ls hl => ?_)
                        refine lv_goto (tgt := 15) hx hb dX12_laysWays_102 (by decide) ?_
                        exact ih_lp_85 (jm + 1) f_95 _ _ _ (by omega) (by omega) hf_96 hP hD hS (lv_sub hl [0, 3, 4, 5] rfl)
                      · have c_94 : ¬ (((dm : Nat) : Int) - 1 ≤ ((dd - 1 : Nat) : Int)) := fun h => c_94 ((ile (ivp dm (by omega)) (ivn (dd - 1) (by omega))).mpr h)
                        refine lv_aload_n hx hb dX12_laysWays_48 rfl (lv_at hl 5 rfl) ?_
                        refine lv_iload_n hx hb dX12_laysWays_49 rfl (lv_at hl 3 rfl) ?_
                        refine lv_iconst (v := 1) hx hb dX12_laysWays_50 ic_1 ?_
                        refine lv_iadd hx hb dX12_laysWays_51 ?_
                        refine sk_top (nI (dd - 1 + 1)) (nI_add (dd - 1) 1) ?_
                        refine lv_iload_n hx hb dX12_laysWays_52 rfl (lv_at hl 2 rfl) ?_
                        refine lv_iload hx hb dX12_laysWays_53 (lv_at hl 0 rfl) ?_
                        refine sk_Vi (q0 := 0) (n := 3) (rest := []) (wr := fmR om_9_173 _) ⟨hx, hb, hml, hown, hts⟩ hl.1 (c_vm_canFollowH l D cI cJ cC cZ cS mm g ta pa pe pd pb pp pf pg pn rt rn cd sn il tk am at_ aa mt_ wt wy it_ rm ud nu sd qn qw qo qb qp qa qi oc (dd - 1 + 1) jm kk nw ws_ rw_ yo yw hR (by omega) (by omega) (by omega) hrw hR90 hrm hnw) w_7_201 w_7_203 w_0_85 w_1_14 w_7_204 hd_X12_canFollow_3 ⟨⟨(Nat.le_of_ble_eq_true rfl), (Nat.le_of_ble_eq_true rfl)⟩, (Nat.le_of_ble_eq_true rfl), (Nat.le_of_ble_eq_true rfl)⟩ hK hP hD hS hA [0, 2, 7, 8, 3, 4] (fmF om_9_173 0) rfl (fm_R rfl rfl) (by decide +kernel) (fm_nF om_9_173 0) (by decide +kernel) rfl rfl rfl rfl (Nat.le_of_ble_eq_true rfl) dX12_laysWays_55 (fun r_98 u H locs hw hP hD hS => ?_)
                        refine exE hw (fun b_97 hw1 => anE hw1 (fun hb1_99 hw2 => anE hw2 (fun hb2_100 hw3 => anE hw3 (fun er_102 eu_101 => ?_))))
                        clear hw hw1 hw2 hw3
                        subst er_102
                        refine o_mgqE (ux := [ro_ mm 12 (mo g (nI ta) (nI pa) (nI pe) pd (nI pb) pp pf pg pn rt rn (nI cd) sn (nI il) tk am at_ aa mt_ 1 (-1) wt wy (nI it_) (nI rm) (nI ud) (nI nu) sd (nI qn) (nI qw) qo (nI qb) (nI qp) qa (nI qi) (nI oc)), ra_I (g 31) cI 120 nw, ra_I (g 37) cZ 900 yo, ra_I (g 36) cZ 900 yw, ra_I (g 38) cI 90 ws_, ra_I (g 53) cI 32 rw_]) (ws' := [ro_ mm 12 (mo g (nI ta) (nI pa) (nI pe) pd (nI pb) pp pf pg pn rt rn (nI cd) sn (nI il) tk am at_ aa mt_ 1 (-1) wt wy (nI it_) (nI rm) (nI ud) (nI nu) sd (nI qn) (nI qw) qo (nI qb) (nI qp) qa (nI qi) (nI oc)), ra_I (g 20) cI 4 (l4 (nI l0) (nI l1) (nI dm) (nI l3)), ra_I (g 31) cI 120 nw, ra_I (g 37) cZ 900 yo, ra_I (g 36) cZ 900 yw, ra_J (g 43) cJ 90 zc, ra_J (g 44) cJ 90 bf, ra_I (g 38) cI 90 ws_, ra_I (g 53) cI 32 rw_]) eu_101 [0, 1, 4, 5, 2, 3] (by decide +kernel) rfl hP hD rfl (fun hP hD => ?_)
                        refine lv_if_eq (tgt := 80) hx hb dX12_laysWays_58 (by decide) (fun c_103 => ?_) (fun c_103 => ?_)
                        · have c_103 : b_97 = 0 := (neq b_97 0 (by omega) (Nat.le_of_ble_eq_true rfl)).mp c_103
                          refine lv_iinc (v := nI (kk + 1)) (lv' := [(6, .int (nI (kk + 1))), (4, .long xn), (3, .int (nI jm)), (2, .int (nI (dd - 1))), (1, .int (nI dm - 1)), (0, .ref mm)]) hx hb dX12_laysWays_80 hl (k := 0) rfl (ninc kk 1 (by decide)) (by decide) rfl (fun ls hl => ?_)
                          refine lv_goto (tgt := 36) hx hb dX12_laysWays_83 (by decide) ?_
                          exact ih_lp_89 (kk + 1) xn _ _ _ (by omega) (by omega) (bx_no hbx (by omega) (or_0 hb1_99 (by omega))) hP hD hS (lv_sub hl [0, 1, 2, 3, 4, 5] rfl)
                        · have c_103 : ¬ (b_97 = 0) := fun h => c_103 ((neq b_97 0 (by omega) (Nat.le_of_ble_eq_true rfl)).mpr h)
                          refine lv_lload hx hb dX12_laysWays_61 (lv_at hl 1 rfl) ?_
                          refine lv_aload_n hx hb dX12_laysWays_63 rfl (lv_at hl 5 rfl) ?_
                          refine sk_get (v := .ref (g 43)) (C := RX12) (T := TX12) (N := 92) hx hb hts inlX12 hown hK hP 0 rfl rfl 43 (Nat.le_of_ble_eq_true rfl) w_5_198 rfl dX12_laysWays_64 ?_
                          refine lv_bipush (v := 10) hx hb dX12_laysWays_67 (by decide) ?_
                          refine lv_iload_n hx hb dX12_laysWays_69 rfl (lv_at hl 3 rfl) ?_
                          refine lv_iconst (v := 1) hx hb dX12_laysWays_70 ic_1 ?_
                          refine lv_iadd hx hb dX12_laysWays_71 ?_
                          refine sk_top (nI (dd - 1 + 1)) (nI_add (dd - 1) 1) ?_
                          refine lv_imul hx hb dX12_laysWays_72 ?_
                          refine sk_top (nI (10 * (dd - 1 + 1))) (nmul 10 (dd - 1 + 1)) ?_
                          refine lv_iload hx hb dX12_laysWays_73 (lv_at hl 0 rfl) ?_
                          refine lv_iadd hx hb dX12_laysWays_75 ?_
                          refine sk_top (nI (10 * (dd - 1 + 1) + kk)) (nI_add (10 * (dd - 1 + 1)) kk) ?_
                          refine va_lald hx hb hK.1 hP 5 1 rfl rfl (vin (10 * (dd - 1 + 1) + kk) 90 (by omega) (Nat.le_of_ble_eq_true rfl)) dX12_laysWays_76 ?_
                          refine lv_topl (fun v_104 ev_104 => ?_)
                          refine lv_ladd hx hb dX12_laysWays_77 ?_
                          refine lv_topl (fun v_105 ev_105 => ?_)
                          refine lv_lstore (lv' := [(4, .long v_105), (6, .int (nI kk)), (3, .int (nI jm)), (2, .int (nI (dd - 1))), (1, .int (nI dm - 1)), (0, .ref mm)]) hx hb dX12_laysWays_78 hl (by decide) rfl (fun ls hl => ?_)
                          refine lv_iinc (v := nI (kk + 1)) (lv' := [(6, .int (nI (kk + 1))), (4, .long v_105), (3, .int (nI jm)), (2, .int (nI (dd - 1))), (1, .int (nI dm - 1)), (0, .ref mm)]) hx hb dX12_laysWays_80 hl (k := 1) rfl (ninc kk 1 (by decide)) (by decide) rfl (fun ls hl => ?_)
                          refine lv_goto (tgt := 36) hx hb dX12_laysWays_83 (by decide) ?_
                          exact ih_lp_89 (kk + 1) v_105 _ _ _ (by omega) (by omega) (bx_yes hbx (by omega) (or_1 hb1_99 (by omega)) (be_get hbe2.1 (by omega) (by omega) (by omega) (by omega) ev_104) ev_105) hP hD hS (lv_sub hl [0, 1, 2, 3, 4, 5] rfl)
                exact lp_89 (10 - 0 + 1) 0 0 _ _ _ (Nat.lt_succ_self _) (by omega) (Or.inr ⟨by omega, rfl⟩) hP hD hS (lv_sub hl [0, 1, 2, 3, 4, 5] rfl)
              · have c_88 : ((dd - 1 : Nat) : Int) = ((dm : Nat) : Int) - 1 := (ieq (ivn (dd - 1) (by omega)) (ivp dm (by omega))).mp c_88
                refine lv_lconst (v := 1) hx hb dX12_laysWays_26 (by decide) ?_
                refine lv_goto (tgt := 31) hx hb dX12_laysWays_27 (by decide) ?_
                refine lv_lstore (lv' := [(4, .long 1), (3, .int (nI jm)), (2, .int (nI (dd - 1))), (1, .int (nI dm - 1)), (0, .ref mm)]) hx hb dX12_laysWays_31 hl (by decide) rfl (fun ls hl => ?_)
                refine lv_iconst (v := 0) hx hb dX12_laysWays_33 ic_0 ?_
                refine lv_istore (lv' := [(6, .int 0), (4, .long 1), (3, .int (nI jm)), (2, .int (nI (dd - 1))), (1, .int (nI dm - 1)), (0, .ref mm)]) hx hb dX12_laysWays_34 hl (by decide) rfl (fun ls hl => ?_)
                have lp_106 : ∀ (n_107 : Nat) (kk : Nat) (xn : Int64) (H : Heap) (locs : List Loc) (ls : Array Slot), 10 - kk < n_107 → (kk ≤ 10) → (bx (cfL (cfN nw yw yo mt_) (lfH nw ws_ hR rm)) dm (dd - 1) jm kk xn) → va_P D vwCl [ro_ mm 12 (mo g (nI ta) (nI pa) (nI pe) pd (nI pb) pp pf pg pn rt rn (nI cd) sn (nI il) tk am at_ aa mt_ 1 (-1) wt wy (nI it_) (nI rm) (nI ud) (nI nu) sd (nI qn) (nI qw) qo (nI qb) (nI qp) qa (nI qi) (nI oc)), ra_I (g 20) cI 4 (l4 (nI l0) (nI l1) (nI dm) (nI l3)), ra_I (g 31) cI 120 nw, ra_I (g 37) cZ 900 yo, ra_I (g 36) cZ 900 yw, ra_J (g 43) cJ 90 zc, ra_J (g 44) cJ 90 bf, ra_I (g 38) cI 90 ws_, ra_I (g 53) cI 32 rw_] H → va_D A [ro_ mm 12 (mo g (nI ta) (nI pa) (nI pe) pd (nI pb) pp pf pg pn rt rn (nI cd) sn (nI il) tk am at_ aa mt_ 1 (-1) wt wy (nI it_) (nI rm) (nI ud) (nI nu) sd (nI qn) (nI qw) qo (nI qb) (nI qp) qa (nI qi) (nI oc)), ra_I (g 20) cI 4 (l4 (nI l0) (nI l1) (nI dm) (nI l3)), ra_I (g 31) cI 120 nw, ra_I (g 37) cZ 900 yo, ra_I (g 36) cZ 900 yw, ra_J (g 43) cJ 90 zc, ra_J (g 44) cJ 90 bf, ra_I (g 38) cI 90 ws_, ra_I (g 53) cI 32 rw_] → va_S A s.heap H locs → lv_has ls 7 [(6, .int (nI kk)), (4, .long xn), (3, .int (nI jm)), (2, .int (nI (dd - 1))), (1, .int (nI dm - 1)), (0, .ref mm)] → W p l e { frames := 3, cells := 0, slots := 0, locals := 68 } s m ([.ref mm] : List Value).toArray below meth c H locs 0 0 (MQ below (skV D (skT cI cJ cC cZ cS) (fun (u : va_W) => ∃ (wy2 : Int64), ∃ (be2 : Nat → Int64), ∃ (bf2 : Nat → Int64), beOk (cfL (cfN nw yw yo mt_) (lfH nw ws_ hR rm)) dm 0 be2 ∧ bfOk (cfL (cfN nw yw yo mt_) (lfH nw ws_ hR rm)) (a0N nw) dm bf2 ∧ wy2 = nL (wys (cfL (cfN nw yw yo mt_) (lfH nw ws_ hR rm)) (a0N nw) (dm - 1)) ∧ u = [ro_ mm 12 (mo g (nI ta) (nI pa) (nI pe) pd (nI pb) pp pf pg pn rt rn (nI cd) sn (nI il) tk am at_ aa mt_ 1 (-1) wt wy2 (nI it_) (nI rm) (nI ud) (nI nu) sd (nI qn) (nI qw) qo (nI qb) (nI qp) qa (nI qi) (nI oc)), ra_I (g 20) cI 4 (l4 (nI l0) (nI l1) (nI dm) (nI l3)), ra_I (g 31) cI 120 nw, ra_I (g 37) cZ 900 yo, ra_I (g 36) cZ 900 yw, ra_J (g 43) cJ 90 be2, ra_J (g 44) cJ 90 bf2, ra_I (g 38) cI 90 ws_, ra_I (g 53) cI 32 rw_]) A) ([.ref mm] : List Value).toArray s 0 0 A) (F0 m 36 ls []) := by
                  intro n_107
                  induction n_107 with
                  | zero => intro kk xn H locs ls hm; exact absurd hm (Nat.not_lt_zero _)
                  | succ n_107 ih_lp_106 =>
                    intro kk xn H locs ls hm hkk hbx hP hD hS hl
                    refine lv_iload hx hb dX12_laysWays_36 (lv_at hl 0 rfl) ?_
                    refine lv_bipush (v := 10) hx hb dX12_laysWays_38 (by decide) ?_
                    refine lv_icmp_ge (tgt := 86) hx hb dX12_laysWays_40 (by decide) (fun c_108 => ?_) (fun c_108 => ?_)
                    · have c_108 : 10 ≤ kk := (nle 10 kk (Nat.le_of_ble_eq_true rfl) (by omega)).mp c_108
                      refine lv_aload_n hx hb dX12_laysWays_86 rfl (lv_at hl 5 rfl) ?_
                      refine sk_get (v := .ref (g 43)) (C := RX12) (T := TX12) (N := 92) hx hb hts inlX12 hown hK hP 0 rfl rfl 43 (Nat.le_of_ble_eq_true rfl) w_5_198 rfl dX12_laysWays_87 ?_
                      refine lv_bipush (v := 10) hx hb dX12_laysWays_90 (by decide) ?_
                      refine lv_iload_n hx hb dX12_laysWays_92 rfl (lv_at hl 3 rfl) ?_
                      refine lv_imul hx hb dX12_laysWays_93 ?_
                      refine sk_top (nI (10 * (dd - 1))) (nmul 10 (dd - 1)) ?_
                      refine lv_iload_n hx hb dX12_laysWays_94 rfl (lv_at hl 2 rfl) ?_
                      refine lv_iadd hx hb dX12_laysWays_95 ?_
                      refine sk_top (nI (10 * (dd - 1) + jm)) (nI_add (10 * (dd - 1)) jm) ?_
                      refine lv_lload hx hb dX12_laysWays_96 (lv_at hl 1 rfl) ?_
                      refine sk_lastP (Pr := beOk2 (cfL (cfN nw yw yo mt_) (lfH nw ws_ hR rm)) dm (dd - 1) (jm + 1)) (ws' := fun f_109 => [ro_ mm 12 (mo g (nI ta) (nI pa) (nI pe) pd (nI pb) pp pf pg pn rt rn (nI cd) sn (nI il) tk am at_ aa mt_ 1 (-1) wt wy (nI it_) (nI rm) (nI ud) (nI nu) sd (nI qn) (nI qw) qo (nI qb) (nI qp) qa (nI qi) (nI oc)), ra_I (g 20) cI 4 (l4 (nI l0) (nI l1) (nI dm) (nI l3)), ra_I (g 31) cI 120 nw, ra_I (g 37) cZ 900 yo, ra_I (g 36) cZ 900 yw, ra_J (g 43) cJ 90 f_109, ra_J (g 44) cJ 90 bf, ra_I (g 38) cI 90 ws_, ra_I (g 53) cI 32 rw_]) hx hb hK hP hD hS 5 1 rfl rfl (vin (10 * (dd - 1) + jm) 90 (by omega) (Nat.le_of_ble_eq_true rfl)) (fun _ => rfl) (be_store hbe2 (by omega) (by omega) (bx_fin hbx (by omega))) dX12_laysWays_98 (fun f_109 H locs hf_110 hP hD hS => ?_)
                      refine lv_iinc (v := nI (jm + 1)) (lv' := [(3, .int (nI (jm + 1))), (6, .int (nI kk)), (4, .long xn), (2, .int (nI (dd - 1))), (1, .int (nI dm - 1)), (0, .ref mm)]) hx hb dX12_laysWays_99 hl (k := 2) rfl (ninc jm 1 (by decide)) (by decide) rfl (fun ls hl => ?_)
                      refine lv_goto (tgt := 15) hx hb dX12_laysWays_102 (by decide) ?_
                      exact ih_lp_85 (jm + 1) f_109 _ _ _ (by omega) (by omega) hf_110 hP hD hS (lv_sub hl [0, 3, 4, 5] rfl)
                    · have c_108 : ¬ (10 ≤ kk) := fun h => c_108 ((nle 10 kk (Nat.le_of_ble_eq_true rfl) (by omega)).mpr h)
                      refine lv_iload_n hx hb dX12_laysWays_43 rfl (lv_at hl 3 rfl) ?_
                      refine lv_iload_n hx hb dX12_laysWays_44 rfl (lv_at hl 4 rfl) ?_
                      refine lv_icmp_ge (tgt := 86) hx hb dX12_laysWays_45 (by decide) (fun c_111 => ?_) (fun c_111 => ?_)
                      · have c_111 : ((dm : Nat) : Int) - 1 ≤ ((dd - 1 : Nat) : Int) := (ile (ivp dm (by omega)) (ivn (dd - 1) (by omega))).mp c_111
                        refine lv_aload_n hx hb dX12_laysWays_86 rfl (lv_at hl 5 rfl) ?_
                        refine sk_get (v := .ref (g 43)) (C := RX12) (T := TX12) (N := 92) hx hb hts inlX12 hown hK hP 0 rfl rfl 43 (Nat.le_of_ble_eq_true rfl) w_5_198 rfl dX12_laysWays_87 ?_
                        refine lv_bipush (v := 10) hx hb dX12_laysWays_90 (by decide) ?_
                        refine lv_iload_n hx hb dX12_laysWays_92 rfl (lv_at hl 3 rfl) ?_
                        refine lv_imul hx hb dX12_laysWays_93 ?_
                        refine sk_top (nI (10 * (dd - 1))) (nmul 10 (dd - 1)) ?_
                        refine lv_iload_n hx hb dX12_laysWays_94 rfl (lv_at hl 2 rfl) ?_
                        refine lv_iadd hx hb dX12_laysWays_95 ?_
                        refine sk_top (nI (10 * (dd - 1) + jm)) (nI_add (10 * (dd - 1)) jm) ?_
                        refine lv_lload hx hb dX12_laysWays_96 (lv_at hl 1 rfl) ?_
                        refine sk_lastP (Pr := beOk2 (cfL (cfN nw yw yo mt_) (lfH nw ws_ hR rm)) dm (dd - 1) (jm + 1)) (ws' := fun f_112 => [ro_ mm 12 (mo g (nI ta) (nI pa) (nI pe) pd (nI pb) pp pf pg pn rt rn (nI cd) sn (nI il) tk am at_ aa mt_ 1 (-1) wt wy (nI it_) (nI rm) (nI ud) (nI nu) sd (nI qn) (nI qw) qo (nI qb) (nI qp) qa (nI qi) (nI oc)), ra_I (g 20) cI 4 (l4 (nI l0) (nI l1) (nI dm) (nI l3)), ra_I (g 31) cI 120 nw, ra_I (g 37) cZ 900 yo, ra_I (g 36) cZ 900 yw, ra_J (g 43) cJ 90 f_112, ra_J (g 44) cJ 90 bf, ra_I (g 38) cI 90 ws_, ra_I (g 53) cI 32 rw_]) hx hb hK hP hD hS 5 1 rfl rfl (vin (10 * (dd - 1) + jm) 90 (by omega) (Nat.le_of_ble_eq_true rfl)) (fun _ => rfl) (be_store hbe2 (by omega) (by omega) (bx_fin hbx (by omega))) dX12_laysWays_98 (fun f_112 H locs hf_113 hP hD hS => ?_)
                        refine lv_iinc (v := nI (jm + 1)) (lv' := [(3, .int (nI (jm + 1))), (6, .int (nI kk)), (4, .long xn), (2, .int (nI (dd - 1))), (1, .int (nI dm - 1)), (0, .ref mm)]) hx hb dX12_laysWays_99 hl (k := 2) rfl (ninc jm 1 (by decide)) (by decide) rfl (fun ls hl => ?_)
                        refine lv_goto (tgt := 15) hx hb dX12_laysWays_102 (by decide) ?_
                        exact ih_lp_85 (jm + 1) f_112 _ _ _ (by omega) (by omega) hf_113 hP hD hS (lv_sub hl [0, 3, 4, 5] rfl)
                      · have c_111 : ¬ (((dm : Nat) : Int) - 1 ≤ ((dd - 1 : Nat) : Int)) := fun h => c_111 ((ile (ivp dm (by omega)) (ivn (dd - 1) (by omega))).mpr h)
                        refine lv_aload_n hx hb dX12_laysWays_48 rfl (lv_at hl 5 rfl) ?_
                        refine lv_iload_n hx hb dX12_laysWays_49 rfl (lv_at hl 3 rfl) ?_
                        refine lv_iconst (v := 1) hx hb dX12_laysWays_50 ic_1 ?_
                        refine lv_iadd hx hb dX12_laysWays_51 ?_
                        refine sk_top (nI (dd - 1 + 1)) (nI_add (dd - 1) 1) ?_
                        refine lv_iload_n hx hb dX12_laysWays_52 rfl (lv_at hl 2 rfl) ?_
                        refine lv_iload hx hb dX12_laysWays_53 (lv_at hl 0 rfl) ?_
                        refine sk_Vi (q0 := 0) (n := 3) (rest := []) (wr := fmR om_9_173 _) ⟨hx, hb, hml, hown, hts⟩ hl.1 (c_vm_canFollowH l D cI cJ cC cZ cS mm g ta pa pe pd pb pp pf pg pn rt rn cd sn il tk am at_ aa mt_ wt wy it_ rm ud nu sd qn qw qo qb qp qa qi oc (dd - 1 + 1) jm kk nw ws_ rw_ yo yw hR (by omega) (by omega) (by omega) hrw hR90 hrm hnw) w_7_201 w_7_203 w_0_85 w_1_14 w_7_204 hd_X12_canFollow_3 ⟨⟨(Nat.le_of_ble_eq_true rfl), (Nat.le_of_ble_eq_true rfl)⟩, (Nat.le_of_ble_eq_true rfl), (Nat.le_of_ble_eq_true rfl)⟩ hK hP hD hS hA [0, 2, 7, 8, 3, 4] (fmF om_9_173 0) rfl (fm_R rfl rfl) (by decide +kernel) (fm_nF om_9_173 0) (by decide +kernel) rfl rfl rfl rfl (Nat.le_of_ble_eq_true rfl) dX12_laysWays_55 (fun r_115 u H locs hw hP hD hS => ?_)
                        refine exE hw (fun b_114 hw1 => anE hw1 (fun hb1_116 hw2 => anE hw2 (fun hb2_117 hw3 => anE hw3 (fun er_119 eu_118 => ?_))))
                        clear hw hw1 hw2 hw3
                        subst er_119
                        refine o_mgqE (ux := [ro_ mm 12 (mo g (nI ta) (nI pa) (nI pe) pd (nI pb) pp pf pg pn rt rn (nI cd) sn (nI il) tk am at_ aa mt_ 1 (-1) wt wy (nI it_) (nI rm) (nI ud) (nI nu) sd (nI qn) (nI qw) qo (nI qb) (nI qp) qa (nI qi) (nI oc)), ra_I (g 31) cI 120 nw, ra_I (g 37) cZ 900 yo, ra_I (g 36) cZ 900 yw, ra_I (g 38) cI 90 ws_, ra_I (g 53) cI 32 rw_]) (ws' := [ro_ mm 12 (mo g (nI ta) (nI pa) (nI pe) pd (nI pb) pp pf pg pn rt rn (nI cd) sn (nI il) tk am at_ aa mt_ 1 (-1) wt wy (nI it_) (nI rm) (nI ud) (nI nu) sd (nI qn) (nI qw) qo (nI qb) (nI qp) qa (nI qi) (nI oc)), ra_I (g 20) cI 4 (l4 (nI l0) (nI l1) (nI dm) (nI l3)), ra_I (g 31) cI 120 nw, ra_I (g 37) cZ 900 yo, ra_I (g 36) cZ 900 yw, ra_J (g 43) cJ 90 zc, ra_J (g 44) cJ 90 bf, ra_I (g 38) cI 90 ws_, ra_I (g 53) cI 32 rw_]) eu_118 [0, 1, 4, 5, 2, 3] (by decide +kernel) rfl hP hD rfl (fun hP hD => ?_)
                        refine lv_if_eq (tgt := 80) hx hb dX12_laysWays_58 (by decide) (fun c_120 => ?_) (fun c_120 => ?_)
                        · have c_120 : b_114 = 0 := (neq b_114 0 (by omega) (Nat.le_of_ble_eq_true rfl)).mp c_120
                          refine lv_iinc (v := nI (kk + 1)) (lv' := [(6, .int (nI (kk + 1))), (4, .long xn), (3, .int (nI jm)), (2, .int (nI (dd - 1))), (1, .int (nI dm - 1)), (0, .ref mm)]) hx hb dX12_laysWays_80 hl (k := 0) rfl (ninc kk 1 (by decide)) (by decide) rfl (fun ls hl => ?_)
                          refine lv_goto (tgt := 36) hx hb dX12_laysWays_83 (by decide) ?_
                          exact ih_lp_106 (kk + 1) xn _ _ _ (by omega) (by omega) (bx_no hbx (by omega) (or_0 hb1_116 (by omega))) hP hD hS (lv_sub hl [0, 1, 2, 3, 4, 5] rfl)
                        · have c_120 : ¬ (b_114 = 0) := fun h => c_120 ((neq b_114 0 (by omega) (Nat.le_of_ble_eq_true rfl)).mpr h)
                          refine lv_lload hx hb dX12_laysWays_61 (lv_at hl 1 rfl) ?_
                          refine lv_aload_n hx hb dX12_laysWays_63 rfl (lv_at hl 5 rfl) ?_
                          refine sk_get (v := .ref (g 43)) (C := RX12) (T := TX12) (N := 92) hx hb hts inlX12 hown hK hP 0 rfl rfl 43 (Nat.le_of_ble_eq_true rfl) w_5_198 rfl dX12_laysWays_64 ?_
                          refine lv_bipush (v := 10) hx hb dX12_laysWays_67 (by decide) ?_
                          refine lv_iload_n hx hb dX12_laysWays_69 rfl (lv_at hl 3 rfl) ?_
                          refine lv_iconst (v := 1) hx hb dX12_laysWays_70 ic_1 ?_
                          refine lv_iadd hx hb dX12_laysWays_71 ?_
                          refine sk_top (nI (dd - 1 + 1)) (nI_add (dd - 1) 1) ?_
                          refine lv_imul hx hb dX12_laysWays_72 ?_
                          refine sk_top (nI (10 * (dd - 1 + 1))) (nmul 10 (dd - 1 + 1)) ?_
                          refine lv_iload hx hb dX12_laysWays_73 (lv_at hl 0 rfl) ?_
                          refine lv_iadd hx hb dX12_laysWays_75 ?_
                          refine sk_top (nI (10 * (dd - 1 + 1) + kk)) (nI_add (10 * (dd - 1 + 1)) kk) ?_
                          refine va_lald hx hb hK.1 hP 5 1 rfl rfl (vin (10 * (dd - 1 + 1) + kk) 90 (by omega) (Nat.le_of_ble_eq_true rfl)) dX12_laysWays_76 ?_
                          refine lv_topl (fun v_121 ev_121 => ?_)
                          refine lv_ladd hx hb dX12_laysWays_77 ?_
                          refine lv_topl (fun v_122 ev_122 => ?_)
                          refine lv_lstore (lv' := [(4, .long v_122), (6, .int (nI kk)), (3, .int (nI jm)), (2, .int (nI (dd - 1))), (1, .int (nI dm - 1)), (0, .ref mm)]) hx hb dX12_laysWays_78 hl (by decide) rfl (fun ls hl => ?_)
                          refine lv_iinc (v := nI (kk + 1)) (lv' := [(6, .int (nI (kk + 1))), (4, .long v_122), (3, .int (nI jm)), (2, .int (nI (dd - 1))), (1, .int (nI dm - 1)), (0, .ref mm)]) hx hb dX12_laysWays_80 hl (k := 1) rfl (ninc kk 1 (by decide)) (by decide) rfl (fun ls hl => ?_)
                          refine lv_goto (tgt := 36) hx hb dX12_laysWays_83 (by decide) ?_
                          exact ih_lp_106 (kk + 1) v_122 _ _ _ (by omega) (by omega) (bx_yes hbx (by omega) (or_1 hb1_116 (by omega)) (be_get hbe2.1 (by omega) (by omega) (by omega) (by omega) ev_121) ev_122) hP hD hS (lv_sub hl [0, 1, 2, 3, 4, 5] rfl)
                exact lp_106 (10 - 0 + 1) 0 1 _ _ _ (Nat.lt_succ_self _) (by omega) (Or.inl ⟨by omega, rfl⟩) hP hD hS (lv_sub hl [0, 1, 2, 3, 4, 5] rfl)
        exact lp_85 (10 - 0 + 1) 0 zb _ _ _ (Nat.lt_succ_self _) (by omega) (be_0 hbe (by omega)) hP hD hS (lv_sub hl [0, 1, 2, 3] rfl)
  exact lp_4 (dm + 1) dm be _ _ _ (Nat.lt_succ_self _) (by omega) (be_init _ _ _) hP hD hS (lv_sub hl [0, 1, 2] rfl)
