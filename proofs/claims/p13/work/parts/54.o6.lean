theorem dg_X12_laysByWord_0_0 : bqL cX12_laysByWord 0 [(0, [42]), (1, [3]), (2, [182, 1, 129]), (5, [42]), (6, [27]), (7, [181, 0, 79]), (10, [42]), (11, [28]), (12, [181, 1, 109]), (15, [42]), (16, [182, 1, 132]), (19, [42]), (20, [2]), (21, [181, 0, 79]), (24, [177])] = true := by decide +kernel
theorem dX12_laysByWord_0 : decode cX12_laysByWord 0 = .ok (.aload_n 0, 1) := q_aload_n0 (bat_get dg_X12_laysByWord_0_0 0 rfl rfl)
theorem dX12_laysByWord_1 : decode cX12_laysByWord 1 = .ok (.iconst 0, 1) := q_iconst0 (bat_get dg_X12_laysByWord_0_0 1 rfl rfl)
theorem dX12_laysByWord_2 : decode cX12_laysByWord 2 = .ok (.invokevirtual 385, 3) := q_invokevirtual (bat_get dg_X12_laysByWord_0_0 2 rfl rfl) rfl
theorem dX12_laysByWord_5 : decode cX12_laysByWord 5 = .ok (.aload_n 0, 1) := q_aload_n0 (bat_get dg_X12_laysByWord_0_0 3 rfl rfl)
theorem dX12_laysByWord_6 : decode cX12_laysByWord 6 = .ok (.iload_n 1, 1) := q_iload_n1 (bat_get dg_X12_laysByWord_0_0 4 rfl rfl)
theorem dX12_laysByWord_7 : decode cX12_laysByWord 7 = .ok (.putfield 79, 3) := q_putfield (bat_get dg_X12_laysByWord_0_0 5 rfl rfl) rfl
theorem dX12_laysByWord_10 : decode cX12_laysByWord 10 = .ok (.aload_n 0, 1) := q_aload_n0 (bat_get dg_X12_laysByWord_0_0 6 rfl rfl)
theorem dX12_laysByWord_11 : decode cX12_laysByWord 11 = .ok (.iload_n 2, 1) := q_iload_n2 (bat_get dg_X12_laysByWord_0_0 7 rfl rfl)
theorem dX12_laysByWord_12 : decode cX12_laysByWord 12 = .ok (.putfield 365, 3) := q_putfield (bat_get dg_X12_laysByWord_0_0 8 rfl rfl) rfl
theorem dX12_laysByWord_15 : decode cX12_laysByWord 15 = .ok (.aload_n 0, 1) := q_aload_n0 (bat_get dg_X12_laysByWord_0_0 9 rfl rfl)
theorem dX12_laysByWord_16 : decode cX12_laysByWord 16 = .ok (.invokevirtual 388, 3) := q_invokevirtual (bat_get dg_X12_laysByWord_0_0 10 rfl rfl) rfl
theorem dX12_laysByWord_19 : decode cX12_laysByWord 19 = .ok (.aload_n 0, 1) := q_aload_n0 (bat_get dg_X12_laysByWord_0_0 11 rfl rfl)
theorem dX12_laysByWord_20 : decode cX12_laysByWord 20 = .ok (.iconst (-1), 1) := q_iconstm1 (bat_get dg_X12_laysByWord_0_0 12 rfl rfl)
theorem dX12_laysByWord_21 : decode cX12_laysByWord 21 = .ok (.putfield 79, 3) := q_putfield (bat_get dg_X12_laysByWord_0_0 13 rfl rfl) rfl
theorem dX12_laysByWord_24 : decode cX12_laysByWord 24 = .ok (.return_, 1) := q_return_ (bat_get dg_X12_laysByWord_0_0 14 rfl rfl)
theorem w_8_84 : (Cond.code yX12_laysByWord cX12_laysByWord 3 none) ∈ wsL_law := sk_mem (ck_8 _ (List.mem_of_getElem? (i := 84) rfl)) rfl
def om_13_113f : List Bool := true :: false :: false :: false :: true :: false :: false :: true :: true :: true :: true :: true :: true :: []
set_option maxHeartbeats 4000000 in
set_option maxRecDepth 100000 in
theorem c_vm_laysByWordX (l : Launch) (D : va_G) (cI cJ cC cZ cS : ClassId) (mm : Nat) (g : Nat → Nat) (ta : Nat) (pa : Nat) (pe : Nat) (pd : Int32) (pb : Nat) (pp : Int32) (pf : Int32) (pg : Int32) (pn : Int32) (rt : Int32) (rn : Int32) (cd : Nat) (sn : Int32) (il : Nat) (tk : Int32) (am : Int32) (at_ : Int32) (aa : Int32) (wt : Int32) (wy : Int64) (rm : Nat) (ud : Nat) (nu : Nat) (sd : Int64) (qn : Nat) (qw : Nat) (qo : Int32) (qb : Nat) (qp : Nat) (qa : Int64) (qi : Nat) (oc : Nat) (kd_ : Nat) (kw_ : Nat) (u0 : Int32) (u1 : Int32) (u2 : Int32) (u3 : Int32) (u4 : Int32) (u5 : Int32) (v0 : Int32) (v1 : Int32) (v2 : Int32) (v3 : Int32) (v4 : Int32) (v5 : Int32) (cs : Nat → Nat) (nw : Nat → Int32) (pt : Nat → Nat) (ql : Nat → Int64) (l0 : Nat) (l1 : Nat) (dm : Nat) (l3 : Nat) (ws_ : Nat → Int32) (yw : Nat → Int32) (yo : Nat → Int32) (be : Nat → Int64) (bf : Nat → Int64) (wn : Nat) (mN : Nat) (Ba : Nat → Nat) (We : Nat → Nat) (U : Nat → Bool) (ke : Nat) (lg : KLg) (L : LkS) (hdm : dm ≤ 9) (hdm1 : 1 ≤ dm) (hLk : kcLk L) (hkl : (lK L).length ≤ 1600) (hmw0 : mwO L 0 u3 v3 cs) (hmw1 : mwO L 1 u4 v4 cs) (hB9 : ∀ j, Ba j ≤ 9) (hW9 : ∀ j, We j ≤ 9) (hwk : wn ≤ 999) (hkd : kd_ < dm) (hkw : kw_ < 10) (hcs : ∀ j, cs j ≤ 20000) (hnw : nwX wn mN Ba We U ke lg nw) (hpt : ∀ j, pt j ≤ 9) : skM l yX12_laysByWord cX12_laysByWord 3 none 5 122 0 0 D (skT cI cJ cC cZ cS) [.ref mm, .int (nI kd_), .int (nI kw_)] [ro_ mm 12 (mo g (nI ta) (nI pa) (nI pe) pd (nI pb) pp pf pg pn rt rn (nI cd) sn (nI il) tk am at_ aa 0 0 (-1) wt wy 0 (nI rm) (nI ud) (nI nu) sd (nI qn) (nI qw) qo (nI qb) (nI qp) qa (nI qi) (nI oc)), ra_I (g 24) cI 6 (l6 u0 u1 u2 u3 u4 u5), ra_I (g 25) cI 6 (l6 v0 v1 v2 v3 v4 v5), ra_N (g 26) cI 3200 cs, ra_I (g 31) cI 120 nw, ra_N (g 46) cI 9 pt, ra_J (g 86) cJ 1700 ql, ra_I (g 20) cI 4 (l4 (nI l0) (nI l1) (nI dm) (nI l3)), ra_I (g 38) cI 90 ws_, ra_I (g 36) cZ 900 yw, ra_I (g 37) cZ 900 yo, ra_J (g 43) cJ 90 be, ra_J (g 44) cJ 90 bf] (skV D (skT cI cJ cC cZ cS) (fun (u : va_W) => ∃ (tk2 : Int32), ∃ (qp2 : Nat), ∃ (am2 : Int32), ∃ (at_2 : Int32), ∃ (aa2 : Int32), ∃ (wy2 : Int64), ∃ (ql2 : Nat → Int64), ∃ (ws_2 : Nat → Int32), ∃ (yw2 : Nat → Int32), ∃ (yo2 : Nat → Int32), ∃ (be2 : Nat → Int64), ∃ (bf2 : Nat → Int64), mwY (kcFw (kcFo L wn Ba We U 0) (kSd L wn Ba We) kd_ kw_) dm mN be2 bf2 ∧ wy2 = Int64.ofNat (kcC (kcFw (kcFo L wn Ba We U 0) (kSd L wn Ba We) kd_ kw_) dm 0 mN) ∧ u = [ro_ mm 12 (mo g (nI ta) (nI pa) (nI pe) pd (nI pb) pp pf pg pn rt rn (nI cd) sn (nI il) tk2 am2 at_2 aa2 0 0 (-1) (nI kw_) wy2 0 (nI rm) (nI ud) (nI nu) sd (nI qn) (nI qw) qo (nI qb) (nI qp2) qa (nI qi) (nI oc)), ra_I (g 24) cI 6 (l6 u0 u1 u2 u3 u4 u5), ra_I (g 25) cI 6 (l6 v0 v1 v2 v3 v4 v5), ra_N (g 26) cI 3200 cs, ra_I (g 31) cI 120 nw, ra_N (g 46) cI 9 pt, ra_J (g 86) cJ 1700 ql2, ra_I (g 20) cI 4 (l4 (nI l0) (nI l1) (nI dm) (nI l3)), ra_I (g 38) cI 90 ws_2, ra_I (g 36) cZ 900 yw2, ra_I (g 37) cZ 900 yo2, ra_J (g 43) cJ 90 be2, ra_J (g 44) cJ 90 bf2])) := by
  refine skM_of pf_X12_laysByWord (Nat.le_of_ble_eq_true rfl) ?_
  intro p e s m below meth c A ls E hP hD hl
  refine skE_el E (fun hx hb hr hml hlocks hin hown hts hK hA => ?_)
  have hown : s.vm.findClass RX12 = some m.cls := hown
  have hS : va_S A s.heap s.heap [] := va_S.rf
  have hl : lv_has ls 3 [(0, .ref mm), (1, .int (nI kd_)), (2, .int (nI kw_))] := hl
  refine lv_aload_n hx hb dX12_laysByWord_0 rfl (lv_at hl 0 rfl) ?_
  refine lv_iconst (v := 0) hx hb dX12_laysByWord_1 ic_0 ?_
  refine sk_Vv (q0 := 0) (n := 1) (rest := []) (wr := fmR om_13_1ffc _) ⟨hx, hb, hml, hown, hts⟩ hl.1 (c_nm_laysDays l D cI cJ cC cZ cS mm g ta pa pe pd pb pp pf pg pn rt rn cd sn il tk am at_ aa 0 wt wy 0 rm ud nu sd qn qw qo qb qp qa qi oc 0 u0 u1 u2 u3 u4 u5 v0 v1 v2 v3 v4 v5 cs nw pt ql l0 l1 dm l3 ws_ yw yo L wn Ba We hdm (by decide) hLk hkl hmw0 hmw1 hB9 hW9 hwk (fun d hd => nwX_md hnw (by omega)) hcs (nwX_ok hnw) hpt) w_7_193 w_7_195 w_0_83 w_1_14 w_7_196 hd_X12_laysDays_1 ⟨⟨(Nat.le_of_ble_eq_true rfl), (Nat.le_of_ble_eq_true rfl)⟩, (Nat.le_of_ble_eq_true rfl), (Nat.le_of_ble_eq_true rfl)⟩ hK hP hD hS hA (fmT om_13_1ffc 0) (fmF om_13_1ffc 0) (fm_C1 rfl rfl) (fm_R rfl rfl) (fm_nT om_13_1ffc 0) (fm_nF om_13_1ffc 0) (fm_di om_13_1ffc 0) rfl rfl rfl rfl (Nat.le_of_ble_eq_true rfl) dX12_laysByWord_2 (fun u H locs hw hP hD hS => ?_)
  refine exE hw (fun tk2_1 hw1 => exE hw1 (fun qp2_2 hw2 => exE hw2 (fun am2_3 hw3 => exE hw3 (fun at_2_4 hw4 => exE hw4 (fun aa2_5 hw5 => exE hw5 (fun ql2_6 hw6 => exE hw6 (fun ws_2_7 hw7 => exE hw7 (fun yw2_8 hw8 => exE hw8 (fun yo2_9 hw9 => anE hw9 (fun hld_10 eu_11 => ?_))))))))))
  clear hw hw1 hw2 hw3 hw4 hw5 hw6 hw7 hw8 hw9
  refine o_mgE (ws' := [ro_ mm 12 (mo g (nI ta) (nI pa) (nI pe) pd (nI pb) pp pf pg pn rt rn (nI cd) sn (nI il) tk2_1 am2_3 at_2_4 aa2_5 0 0 (-1) wt wy 0 (nI rm) (nI ud) (nI nu) sd (nI qn) (nI qw) qo (nI qb) (nI qp2_2) qa (nI qi) (nI oc)), ra_I (g 24) cI 6 (l6 u0 u1 u2 u3 u4 u5), ra_I (g 25) cI 6 (l6 v0 v1 v2 v3 v4 v5), ra_N (g 26) cI 3200 cs, ra_I (g 31) cI 120 nw, ra_N (g 46) cI 9 pt, ra_J (g 86) cJ 1700 ql2_6, ra_I (g 20) cI 4 (l4 (nI l0) (nI l1) (nI dm) (nI l3)), ra_I (g 38) cI 90 ws_2_7, ra_I (g 36) cZ 900 yw2_8, ra_I (g 37) cZ 900 yo2_9, ra_J (g 43) cJ 90 be, ra_J (g 44) cJ 90 bf]) eu_11 hP hD rfl (fun hP hD => ?_)
  refine lv_aload_n hx hb dX12_laysByWord_5 rfl (lv_at hl 0 rfl) ?_
  refine lv_iload_n hx hb dX12_laysByWord_6 rfl (lv_at hl 1 rfl) ?_
  refine sk_put (ws' := [ro_ mm 12 (mo g (nI ta) (nI pa) (nI pe) pd (nI pb) pp pf pg pn rt rn (nI cd) sn (nI il) tk2_1 am2_3 at_2_4 aa2_5 0 0 (nI kd_) wt wy 0 (nI rm) (nI ud) (nI nu) sd (nI qn) (nI qw) qo (nI qb) (nI qp2_2) qa (nI qi) (nI oc)), ra_I (g 24) cI 6 (l6 u0 u1 u2 u3 u4 u5), ra_I (g 25) cI 6 (l6 v0 v1 v2 v3 v4 v5), ra_N (g 26) cI 3200 cs, ra_I (g 31) cI 120 nw, ra_N (g 46) cI 9 pt, ra_J (g 86) cJ 1700 ql2_6, ra_I (g 20) cI 4 (l4 (nI l0) (nI l1) (nI dm) (nI l3)), ra_I (g 38) cI 90 ws_2_7, ra_I (g 36) cZ 900 yw2_8, ra_I (g 37) cZ 900 yo2_9, ra_J (g 43) cJ 90 be, ra_J (g 44) cJ 90 bf]) (C := RX12) (T := TX12) (N := 92) (v := .int (nI kd_)) hx hb hts inlX12 tyX12 tyX12_ok nmX12 hown hK hP hD hS 0 rfl rfl 41 (Nat.le_of_ble_eq_true rfl) w_5_196 rfl rfl rfl (Nat.le_of_ble_eq_true rfl) rfl dX12_laysByWord_7 (fun H locs hP hD hS => ?_)
  refine lv_aload_n hx hb dX12_laysByWord_10 rfl (lv_at hl 0 rfl) ?_
  refine lv_iload_n hx hb dX12_laysByWord_11 rfl (lv_at hl 2 rfl) ?_
  refine sk_put (ws' := [ro_ mm 12 (mo g (nI ta) (nI pa) (nI pe) pd (nI pb) pp pf pg pn rt rn (nI cd) sn (nI il) tk2_1 am2_3 at_2_4 aa2_5 0 0 (nI kd_) (nI kw_) wy 0 (nI rm) (nI ud) (nI nu) sd (nI qn) (nI qw) qo (nI qb) (nI qp2_2) qa (nI qi) (nI oc)), ra_I (g 24) cI 6 (l6 u0 u1 u2 u3 u4 u5), ra_I (g 25) cI 6 (l6 v0 v1 v2 v3 v4 v5), ra_N (g 26) cI 3200 cs, ra_I (g 31) cI 120 nw, ra_N (g 46) cI 9 pt, ra_J (g 86) cJ 1700 ql2_6, ra_I (g 20) cI 4 (l4 (nI l0) (nI l1) (nI dm) (nI l3)), ra_I (g 38) cI 90 ws_2_7, ra_I (g 36) cZ 900 yw2_8, ra_I (g 37) cZ 900 yo2_9, ra_J (g 43) cJ 90 be, ra_J (g 44) cJ 90 bf]) (C := RX12) (T := TX12) (N := 92) (v := .int (nI kw_)) hx hb hts inlX12 tyX12 tyX12_ok nmX12 hown hK hP hD hS 0 rfl rfl 42 (Nat.le_of_ble_eq_true rfl) w_5_197 rfl rfl rfl (Nat.le_of_ble_eq_true rfl) rfl dX12_laysByWord_12 (fun H locs hP hD hS => ?_)
  refine lv_aload_n hx hb dX12_laysByWord_15 rfl (lv_at hl 0 rfl) ?_
  refine sk_Vv (q0 := 0) (n := 0) (rest := []) (wr := fmR om_13_113f _) ⟨hx, hb, hml, hown, hts⟩ hl.1 (c_vm_laysWaysW l D cI cJ cC cZ cS mm g ta pa pe pd pb pp pf pg pn rt rn cd sn il tk2_1 am2_3 at_2_4 aa2_5 0 wy 0 rm ud nu sd qn qw qo qb qp2_2 qa qi oc l0 l1 dm l3 nw yo2_9 yw2_8 be bf ws_2_7 kd_ kw_ hdm hdm1 (by omega) (nwX_ok hnw)) w_7_197 w_7_199 w_0_84 w_1_14 w_7_200 hd_X12_laysWays_0 ⟨⟨(Nat.le_of_ble_eq_true rfl), (Nat.le_of_ble_eq_true rfl)⟩, (Nat.le_of_ble_eq_true rfl), (Nat.le_of_ble_eq_true rfl)⟩ hK hP hD hS hA [0, 7, 4, 10, 9, 11, 12, 8] (fmF om_13_113f 0) rfl (fm_R rfl rfl) (by decide +kernel) (fm_nF om_13_113f 0) (by decide +kernel) rfl rfl rfl rfl (Nat.le_of_ble_eq_true rfl) dX12_laysByWord_16 (fun u H locs hw hP hD hS => ?_)
  refine exE hw (fun wy2_12 hw1 => exE hw1 (fun be2_13 hw2 => exE hw2 (fun bf2_14 hw3 => anE hw3 (fun hbe_15 hw4 => anE hw4 (fun hbf_16 hw5 => anE hw5 (fun hwy_17 eu_18 => ?_))))))
  clear hw hw1 hw2 hw3 hw4 hw5
  refine o_mgqE (ux := [ro_ mm 12 (mo g (nI ta) (nI pa) (nI pe) pd (nI pb) pp pf pg pn rt rn (nI cd) sn (nI il) tk2_1 am2_3 at_2_4 aa2_5 0 0 (nI kd_) (nI kw_) wy2_12 0 (nI rm) (nI ud) (nI nu) sd (nI qn) (nI qw) qo (nI qb) (nI qp2_2) qa (nI qi) (nI oc)), ra_I (g 31) cI 120 nw, ra_I (g 20) cI 4 (l4 (nI l0) (nI l1) (nI dm) (nI l3)), ra_I (g 38) cI 90 ws_2_7, ra_I (g 36) cZ 900 yw2_8, ra_I (g 37) cZ 900 yo2_9, ra_J (g 43) cJ 90 be2_13, ra_J (g 44) cJ 90 bf2_14]) (ws' := [ro_ mm 12 (mo g (nI ta) (nI pa) (nI pe) pd (nI pb) pp pf pg pn rt rn (nI cd) sn (nI il) tk2_1 am2_3 at_2_4 aa2_5 0 0 (nI kd_) (nI kw_) wy2_12 0 (nI rm) (nI ud) (nI nu) sd (nI qn) (nI qw) qo (nI qb) (nI qp2_2) qa (nI qi) (nI oc)), ra_I (g 24) cI 6 (l6 u0 u1 u2 u3 u4 u5), ra_I (g 25) cI 6 (l6 v0 v1 v2 v3 v4 v5), ra_N (g 26) cI 3200 cs, ra_I (g 31) cI 120 nw, ra_N (g 46) cI 9 pt, ra_J (g 86) cJ 1700 ql2_6, ra_I (g 20) cI 4 (l4 (nI l0) (nI l1) (nI dm) (nI l3)), ra_I (g 38) cI 90 ws_2_7, ra_I (g 36) cZ 900 yw2_8, ra_I (g 37) cZ 900 yo2_9, ra_J (g 43) cJ 90 be2_13, ra_J (g 44) cJ 90 bf2_14]) eu_18 [0, 2, 1, 7, 4, 3, 5, 6] (by decide +kernel) rfl hP hD rfl (fun hP hD => ?_)
  refine lv_aload_n hx hb dX12_laysByWord_19 rfl (lv_at hl 0 rfl) ?_
  refine lv_iconst (v := (-1)) hx hb dX12_laysByWord_20 (by decide) ?_
  refine sk_put (ws' := [ro_ mm 12 (mo g (nI ta) (nI pa) (nI pe) pd (nI pb) pp pf pg pn rt rn (nI cd) sn (nI il) tk2_1 am2_3 at_2_4 aa2_5 0 0 (-1) (nI kw_) wy2_12 0 (nI rm) (nI ud) (nI nu) sd (nI qn) (nI qw) qo (nI qb) (nI qp2_2) qa (nI qi) (nI oc)), ra_I (g 24) cI 6 (l6 u0 u1 u2 u3 u4 u5), ra_I (g 25) cI 6 (l6 v0 v1 v2 v3 v4 v5), ra_N (g 26) cI 3200 cs, ra_I (g 31) cI 120 nw, ra_N (g 46) cI 9 pt, ra_J (g 86) cJ 1700 ql2_6, ra_I (g 20) cI 4 (l4 (nI l0) (nI l1) (nI dm) (nI l3)), ra_I (g 38) cI 90 ws_2_7, ra_I (g 36) cZ 900 yw2_8, ra_I (g 37) cZ 900 yo2_9, ra_J (g 43) cJ 90 be2_13, ra_J (g 44) cJ 90 bf2_14]) (C := RX12) (T := TX12) (N := 92) (v := .int (-1)) hx hb hts inlX12 tyX12 tyX12_ok nmX12 hown hK hP hD hS 0 rfl rfl 41 (Nat.le_of_ble_eq_true rfl) w_5_196 rfl rfl rfl (Nat.le_of_ble_eq_true rfl) rfl dX12_laysByWord_21 (fun H locs hP hD hS => ?_)
  exact sk_vret hx hb hr hlocks hK hP hD hS (⟨tk2_1, qp2_2, am2_3, at_2_4, aa2_5, wy2_12, ql2_6, ws_2_7, yw2_8, yo2_9, be2_13, bf2_14, (mwX (cfW hnw hld_10 hdm hkw) (nwX_a0 hnw) hnw.1 hbe_15 hbf_16), (hwy_17.trans (congrArg Int64.ofNat (wyX (cfW hnw hld_10 hdm hkw) (by omega) (nwX_a0 hnw) hnw.1))), rfl⟩) (Nat.le_of_ble_eq_true rfl) (Nat.le_of_ble_eq_true rfl) dX12_laysByWord_24
theorem dg_X12_laysHeard_0_0 : bqL cX12_laysHeard 0 [(0, [42]), (1, [3]), (2, [182, 1, 129]), (5, [42]), (6, [4]), (7, [181, 1, 112]), (10, [42]), (11, [182, 1, 132]), (14, [42]), (15, [3]), (16, [181, 1, 112]), (19, [177])] = true := by decide +kernel
theorem dX12_laysHeard_0 : decode cX12_laysHeard 0 = .ok (.aload_n 0, 1) := q_aload_n0 (bat_get dg_X12_laysHeard_0_0 0 rfl rfl)
theorem dX12_laysHeard_1 : decode cX12_laysHeard 1 = .ok (.iconst 0, 1) := q_iconst0 (bat_get dg_X12_laysHeard_0_0 1 rfl rfl)
theorem dX12_laysHeard_2 : decode cX12_laysHeard 2 = .ok (.invokevirtual 385, 3) := q_invokevirtual (bat_get dg_X12_laysHeard_0_0 2 rfl rfl) rfl
theorem dX12_laysHeard_5 : decode cX12_laysHeard 5 = .ok (.aload_n 0, 1) := q_aload_n0 (bat_get dg_X12_laysHeard_0_0 3 rfl rfl)
theorem dX12_laysHeard_6 : decode cX12_laysHeard 6 = .ok (.iconst 1, 1) := q_iconst1 (bat_get dg_X12_laysHeard_0_0 4 rfl rfl)
theorem dX12_laysHeard_7 : decode cX12_laysHeard 7 = .ok (.putfield 368, 3) := q_putfield (bat_get dg_X12_laysHeard_0_0 5 rfl rfl) rfl
theorem dX12_laysHeard_10 : decode cX12_laysHeard 10 = .ok (.aload_n 0, 1) := q_aload_n0 (bat_get dg_X12_laysHeard_0_0 6 rfl rfl)
theorem dX12_laysHeard_11 : decode cX12_laysHeard 11 = .ok (.invokevirtual 388, 3) := q_invokevirtual (bat_get dg_X12_laysHeard_0_0 7 rfl rfl) rfl
theorem dX12_laysHeard_14 : decode cX12_laysHeard 14 = .ok (.aload_n 0, 1) := q_aload_n0 (bat_get dg_X12_laysHeard_0_0 8 rfl rfl)
theorem dX12_laysHeard_15 : decode cX12_laysHeard 15 = .ok (.iconst 0, 1) := q_iconst0 (bat_get dg_X12_laysHeard_0_0 9 rfl rfl)
theorem dX12_laysHeard_16 : decode cX12_laysHeard 16 = .ok (.putfield 368, 3) := q_putfield (bat_get dg_X12_laysHeard_0_0 10 rfl rfl) rfl
theorem dX12_laysHeard_19 : decode cX12_laysHeard 19 = .ok (.return_, 1) := q_return_ (bat_get dg_X12_laysHeard_0_0 11 rfl rfl)
theorem w_8_108 : (Cond.code yX12_laysHeard cX12_laysHeard 1 none) ∈ wsL_law := sk_mem (ck_8 _ (List.mem_of_getElem? (i := 108) rfl)) rfl
def om_14_3ff8 : List Bool := true :: true :: true :: true :: true :: true :: true :: true :: true :: true :: true :: false :: false :: false :: []
def om_14_227f : List Bool := true :: false :: false :: false :: true :: false :: false :: true :: true :: true :: true :: true :: true :: true :: []
set_option maxHeartbeats 4000000 in
set_option maxRecDepth 100000 in
theorem c_vm_laysHeardX (l : Launch) (D : va_G) (cI cJ cC cZ cS : ClassId) (mm : Nat) (g : Nat → Nat) (ta : Nat) (pa : Nat) (pe : Nat) (pd : Int32) (pb : Nat) (pp : Int32) (pf : Int32) (pg : Int32) (pn : Int32) (rt : Int32) (rn : Int32) (cd : Nat) (sn : Int32) (il : Nat) (tk : Int32) (am : Int32) (at_ : Int32) (aa : Int32) (wt : Int32) (wy : Int64) (rm : Nat) (ud : Nat) (nu : Nat) (sd : Int64) (qn : Nat) (qw : Nat) (qo : Int32) (qb : Nat) (qp : Nat) (qa : Int64) (qi : Nat) (oc : Nat) (u0 : Int32) (u1 : Int32) (u2 : Int32) (u3 : Int32) (u4 : Int32) (u5 : Int32) (v0 : Int32) (v1 : Int32) (v2 : Int32) (v3 : Int32) (v4 : Int32) (v5 : Int32) (cs : Nat → Nat) (nw : Nat → Int32) (pt : Nat → Nat) (ql : Nat → Int64) (l0 : Nat) (l1 : Nat) (dm : Nat) (l3 : Nat) (ws_ : Nat → Int32) (yw : Nat → Int32) (yo : Nat → Int32) (be : Nat → Int64) (bf : Nat → Int64) (rw_ : Nat → Int32) (wn : Nat) (mN : Nat) (Ba : Nat → Nat) (We : Nat → Nat) (U : Nat → Bool) (ke : Nat) (lg : KLg) (L : LkS) (hR : Nat → Nat) (hdm : dm ≤ 9) (hdm1 : 1 ≤ dm) (hLk : kcLk L) (hkl : (lK L).length ≤ 1600) (hmw0 : mwO L 0 u3 v3 cs) (hmw1 : mwO L 1 u4 v4 cs) (hB9 : ∀ j, Ba j ≤ 9) (hW9 : ∀ j, We j ≤ 9) (hwk : wn ≤ 999) (hrw : ∀ j, j < rm → rw_ (2 * j) = nI (hR j / 10) ∧ rw_ (2 * j + 1) = nI (hR j % 10)) (hR90 : ∀ j, j < rm → hR j < 90) (hrm : rm ≤ 16) (hcs : ∀ j, cs j ≤ 20000) (hnw : nwX wn mN Ba We U ke lg nw) (hpt : ∀ j, pt j ≤ 9) : skM l yX12_laysHeard cX12_laysHeard 1 none 5 122 0 0 D (skT cI cJ cC cZ cS) [.ref mm] [ro_ mm 12 (mo g (nI ta) (nI pa) (nI pe) pd (nI pb) pp pf pg pn rt rn (nI cd) sn (nI il) tk am at_ aa 0 0 (-1) wt wy 0 (nI rm) (nI ud) (nI nu) sd (nI qn) (nI qw) qo (nI qb) (nI qp) qa (nI qi) (nI oc)), ra_I (g 24) cI 6 (l6 u0 u1 u2 u3 u4 u5), ra_I (g 25) cI 6 (l6 v0 v1 v2 v3 v4 v5), ra_N (g 26) cI 3200 cs, ra_I (g 31) cI 120 nw, ra_N (g 46) cI 9 pt, ra_J (g 86) cJ 1700 ql, ra_I (g 20) cI 4 (l4 (nI l0) (nI l1) (nI dm) (nI l3)), ra_I (g 38) cI 90 ws_, ra_I (g 36) cZ 900 yw, ra_I (g 37) cZ 900 yo, ra_J (g 43) cJ 90 be, ra_J (g 44) cJ 90 bf, ra_I (g 53) cI 32 rw_] (skV D (skT cI cJ cC cZ cS) (fun (u : va_W) => ∃ (tk2 : Int32), ∃ (qp2 : Nat), ∃ (am2 : Int32), ∃ (at_2 : Int32), ∃ (aa2 : Int32), ∃ (wy2 : Int64), ∃ (ql2 : Nat → Int64), ∃ (ws_2 : Nat → Int32), ∃ (yw2 : Nat → Int32), ∃ (yo2 : Nat → Int32), ∃ (be2 : Nat → Int64), ∃ (bf2 : Nat → Int64), mwY (kcHd (kcFo L wn Ba We U 0) U (kSd L wn Ba We) hR rm) dm mN be2 bf2 ∧ wy2 = Int64.ofNat (kcC (kcHd (kcFo L wn Ba We U 0) U (kSd L wn Ba We) hR rm) dm 0 mN) ∧ u = [ro_ mm 12 (mo g (nI ta) (nI pa) (nI pe) pd (nI pb) pp pf pg pn rt rn (nI cd) sn (nI il) tk2 am2 at_2 aa2 0 0 (-1) wt wy2 0 (nI rm) (nI ud) (nI nu) sd (nI qn) (nI qw) qo (nI qb) (nI qp2) qa (nI qi) (nI oc)), ra_I (g 24) cI 6 (l6 u0 u1 u2 u3 u4 u5), ra_I (g 25) cI 6 (l6 v0 v1 v2 v3 v4 v5), ra_N (g 26) cI 3200 cs, ra_I (g 31) cI 120 nw, ra_N (g 46) cI 9 pt, ra_J (g 86) cJ 1700 ql2, ra_I (g 20) cI 4 (l4 (nI l0) (nI l1) (nI dm) (nI l3)), ra_I (g 38) cI 90 ws_2, ra_I (g 36) cZ 900 yw2, ra_I (g 37) cZ 900 yo2, ra_J (g 43) cJ 90 be2, ra_J (g 44) cJ 90 bf2, ra_I (g 53) cI 32 rw_])) := by
  refine skM_of pf_X12_laysHeard (Nat.le_of_ble_eq_true rfl) ?_
  intro p e s m below meth c A ls E hP hD hl
  refine skE_el E (fun hx hb hr hml hlocks hin hown hts hK hA => ?_)
  have hown : s.vm.findClass RX12 = some m.cls := hown
  have hS : va_S A s.heap s.heap [] := va_S.rf
  have hl : lv_has ls 1 [(0, .ref mm)] := hl
  refine lv_aload_n hx hb dX12_laysHeard_0 rfl (lv_at hl 0 rfl) ?_
  refine lv_iconst (v := 0) hx hb dX12_laysHeard_1 ic_0 ?_
  refine sk_Vv (q0 := 0) (n := 1) (rest := []) (wr := fmR om_14_3ff8 _) ⟨hx, hb, hml, hown, hts⟩ hl.1 (c_nm_laysDays l D cI cJ cC cZ cS mm g ta pa pe pd pb pp pf pg pn rt rn cd sn il tk am at_ aa 0 wt wy 0 rm ud nu sd qn qw qo qb qp qa qi oc 0 u0 u1 u2 u3 u4 u5 v0 v1 v2 v3 v4 v5 cs nw pt ql l0 l1 dm l3 ws_ yw yo L wn Ba We hdm (by decide) hLk hkl hmw0 hmw1 hB9 hW9 hwk (fun d hd => nwX_md hnw (by omega)) hcs (nwX_ok hnw) hpt) w_7_193 w_7_195 w_0_83 w_1_14 w_7_196 hd_X12_laysDays_1 ⟨⟨(Nat.le_of_ble_eq_true rfl), (Nat.le_of_ble_eq_true rfl)⟩, (Nat.le_of_ble_eq_true rfl), (Nat.le_of_ble_eq_true rfl)⟩ hK hP hD hS hA (fmT om_14_3ff8 0) (fmF om_14_3ff8 0) (fm_C1 rfl rfl) (fm_R rfl rfl) (fm_nT om_14_3ff8 0) (fm_nF om_14_3ff8 0) (fm_di om_14_3ff8 0) rfl rfl rfl rfl (Nat.le_of_ble_eq_true rfl) dX12_laysHeard_2 (fun u H locs hw hP hD hS => ?_)
  refine exE hw (fun tk2_1 hw1 => exE hw1 (fun qp2_2 hw2 => exE hw2 (fun am2_3 hw3 => exE hw3 (fun at_2_4 hw4 => exE hw4 (fun aa2_5 hw5 => exE hw5 (fun ql2_6 hw6 => exE hw6 (fun ws_2_7 hw7 => exE hw7 (fun yw2_8 hw8 => exE hw8 (fun yo2_9 hw9 => anE hw9 (fun hld_10 eu_11 => ?_))))))))))
  clear hw hw1 hw2 hw3 hw4 hw5 hw6 hw7 hw8 hw9
  refine o_mgE (ws' := [ro_ mm 12 (mo g (nI ta) (nI pa) (nI pe) pd (nI pb) pp pf pg pn rt rn (nI cd) sn (nI il) tk2_1 am2_3 at_2_4 aa2_5 0 0 (-1) wt wy 0 (nI rm) (nI ud) (nI nu) sd (nI qn) (nI qw) qo (nI qb) (nI qp2_2) qa (nI qi) (nI oc)), ra_I (g 24) cI 6 (l6 u0 u1 u2 u3 u4 u5), ra_I (g 25) cI 6 (l6 v0 v1 v2 v3 v4 v5), ra_N (g 26) cI 3200 cs, ra_I (g 31) cI 120 nw, ra_N (g 46) cI 9 pt, ra_J (g 86) cJ 1700 ql2_6, ra_I (g 20) cI 4 (l4 (nI l0) (nI l1) (nI dm) (nI l3)), ra_I (g 38) cI 90 ws_2_7, ra_I (g 36) cZ 900 yw2_8, ra_I (g 37) cZ 900 yo2_9, ra_J (g 43) cJ 90 be, ra_J (g 44) cJ 90 bf, ra_I (g 53) cI 32 rw_]) eu_11 hP hD rfl (fun hP hD => ?_)
  refine lv_aload_n hx hb dX12_laysHeard_5 rfl (lv_at hl 0 rfl) ?_
  refine lv_iconst (v := 1) hx hb dX12_laysHeard_6 ic_1 ?_
  refine sk_put (ws' := [ro_ mm 12 (mo g (nI ta) (nI pa) (nI pe) pd (nI pb) pp pf pg pn rt rn (nI cd) sn (nI il) tk2_1 am2_3 at_2_4 aa2_5 0 1 (-1) wt wy 0 (nI rm) (nI ud) (nI nu) sd (nI qn) (nI qw) qo (nI qb) (nI qp2_2) qa (nI qi) (nI oc)), ra_I (g 24) cI 6 (l6 u0 u1 u2 u3 u4 u5), ra_I (g 25) cI 6 (l6 v0 v1 v2 v3 v4 v5), ra_N (g 26) cI 3200 cs, ra_I (g 31) cI 120 nw, ra_N (g 46) cI 9 pt, ra_J (g 86) cJ 1700 ql2_6, ra_I (g 20) cI 4 (l4 (nI l0) (nI l1) (nI dm) (nI l3)), ra_I (g 38) cI 90 ws_2_7, ra_I (g 36) cZ 900 yw2_8, ra_I (g 37) cZ 900 yo2_9, ra_J (g 43) cJ 90 be, ra_J (g 44) cJ 90 bf, ra_I (g 53) cI 32 rw_]) (C := RX12) (T := TX12) (N := 92) (v := .int 1) hx hb hts inlX12 tyX12 tyX12_ok nmX12 hown hK hP hD hS 0 rfl rfl 40 (Nat.le_of_ble_eq_true rfl) w_5_195 rfl rfl rfl (Nat.le_of_ble_eq_true rfl) rfl dX12_laysHeard_7 (fun H locs hP hD hS => ?_)
  refine lv_aload_n hx hb dX12_laysHeard_10 rfl (lv_at hl 0 rfl) ?_
  refine sk_Vv (q0 := 0) (n := 0) (rest := []) (wr := fmR om_14_227f _) ⟨hx, hb, hml, hown, hts⟩ hl.1 (c_vm_laysWaysH l D cI cJ cC cZ cS mm g ta pa pe pd pb pp pf pg pn rt rn cd sn il tk2_1 am2_3 at_2_4 aa2_5 0 wt wy 0 rm ud nu sd qn qw qo qb qp2_2 qa qi oc l0 l1 dm l3 nw yo2_9 yw2_8 be bf ws_2_7 rw_ hR hdm hdm1 hrw hR90 hrm (nwX_ok hnw)) w_7_197 w_7_199 w_0_84 w_1_14 w_7_200 hd_X12_laysWays_0 ⟨⟨(Nat.le_of_ble_eq_true rfl), (Nat.le_of_ble_eq_true rfl)⟩, (Nat.le_of_ble_eq_true rfl), (Nat.le_of_ble_eq_true rfl)⟩ hK hP hD hS hA [0, 7, 4, 10, 9, 11, 12, 8, 13] (fmF om_14_227f 0) rfl (fm_R rfl rfl) (by decide +kernel) (fm_nF om_14_227f 0) (by decide +kernel) rfl rfl rfl rfl (Nat.le_of_ble_eq_true rfl) dX12_laysHeard_11 (fun u H locs hw hP hD hS => ?_)
  refine exE hw (fun wy2_12 hw1 => exE hw1 (fun be2_13 hw2 => exE hw2 (fun bf2_14 hw3 => anE hw3 (fun hbe_15 hw4 => anE hw4 (fun hbf_16 hw5 => anE hw5 (fun hwy_17 eu_18 => ?_))))))
  clear hw hw1 hw2 hw3 hw4 hw5
  refine o_mgqE (ux := [ro_ mm 12 (mo g (nI ta) (nI pa) (nI pe) pd (nI pb) pp pf pg pn rt rn (nI cd) sn (nI il) tk2_1 am2_3 at_2_4 aa2_5 0 1 (-1) wt wy2_12 0 (nI rm) (nI ud) (nI nu) sd (nI qn) (nI qw) qo (nI qb) (nI qp2_2) qa (nI qi) (nI oc)), ra_I (g 31) cI 120 nw, ra_I (g 20) cI 4 (l4 (nI l0) (nI l1) (nI dm) (nI l3)), ra_I (g 38) cI 90 ws_2_7, ra_I (g 36) cZ 900 yw2_8, ra_I (g 37) cZ 900 yo2_9, ra_J (g 43) cJ 90 be2_13, ra_J (g 44) cJ 90 bf2_14, ra_I (g 53) cI 32 rw_]) (ws' := [ro_ mm 12 (mo g (nI ta) (nI pa) (nI pe) pd (nI pb) pp pf pg pn rt rn (nI cd) sn (nI il) tk2_1 am2_3 at_2_4 aa2_5 0 1 (-1) wt wy2_12 0 (nI rm) (nI ud) (nI nu) sd (nI qn) (nI qw) qo (nI qb) (nI qp2_2) qa (nI qi) (nI oc)), ra_I (g 24) cI 6 (l6 u0 u1 u2 u3 u4 u5), ra_I (g 25) cI 6 (l6 v0 v1 v2 v3 v4 v5), ra_N (g 26) cI 3200 cs, ra_I (g 31) cI 120 nw, ra_N (g 46) cI 9 pt, ra_J (g 86) cJ 1700 ql2_6, ra_I (g 20) cI 4 (l4 (nI l0) (nI l1) (nI dm) (nI l3)), ra_I (g 38) cI 90 ws_2_7, ra_I (g 36) cZ 900 yw2_8, ra_I (g 37) cZ 900 yo2_9, ra_J (g 43) cJ 90 be2_13, ra_J (g 44) cJ 90 bf2_14, ra_I (g 53) cI 32 rw_]) eu_18 [0, 2, 1, 7, 4, 3, 5, 6, 8] (by decide +kernel) rfl hP hD rfl (fun hP hD => ?_)
  refine lv_aload_n hx hb dX12_laysHeard_14 rfl (lv_at hl 0 rfl) ?_
  refine lv_iconst (v := 0) hx hb dX12_laysHeard_15 ic_0 ?_
  refine sk_put (ws' := [ro_ mm 12 (mo g (nI ta) (nI pa) (nI pe) pd (nI pb) pp pf pg pn rt rn (nI cd) sn (nI il) tk2_1 am2_3 at_2_4 aa2_5 0 0 (-1) wt wy2_12 0 (nI rm) (nI ud) (nI nu) sd (nI qn) (nI qw) qo (nI qb) (nI qp2_2) qa (nI qi) (nI oc)), ra_I (g 24) cI 6 (l6 u0 u1 u2 u3 u4 u5), ra_I (g 25) cI 6 (l6 v0 v1 v2 v3 v4 v5), ra_N (g 26) cI 3200 cs, ra_I (g 31) cI 120 nw, ra_N (g 46) cI 9 pt, ra_J (g 86) cJ 1700 ql2_6, ra_I (g 20) cI 4 (l4 (nI l0) (nI l1) (nI dm) (nI l3)), ra_I (g 38) cI 90 ws_2_7, ra_I (g 36) cZ 900 yw2_8, ra_I (g 37) cZ 900 yo2_9, ra_J (g 43) cJ 90 be2_13, ra_J (g 44) cJ 90 bf2_14, ra_I (g 53) cI 32 rw_]) (C := RX12) (T := TX12) (N := 92) (v := .int 0) hx hb hts inlX12 tyX12 tyX12_ok nmX12 hown hK hP hD hS 0 rfl rfl 40 (Nat.le_of_ble_eq_true rfl) w_5_195 rfl rfl rfl (Nat.le_of_ble_eq_true rfl) rfl dX12_laysHeard_16 (fun H locs hP hD hS => ?_)
  exact sk_vret hx hb hr hlocks hK hP hD hS (⟨tk2_1, qp2_2, am2_3, at_2_4, aa2_5, wy2_12, ql2_6, ws_2_7, yw2_8, yo2_9, be2_13, bf2_14, (mwX (cfH hnw hld_10 hdm) (nwX_a0 hnw) hnw.1 hbe_15 hbf_16), (hwy_17.trans (congrArg Int64.ofNat (wyX (cfH hnw hld_10 hdm) (by omega) (nwX_a0 hnw) hnw.1))), rfl⟩) (Nat.le_of_ble_eq_true rfl) (Nat.le_of_ble_eq_true rfl) dX12_laysHeard_19
set_option maxHeartbeats 4000000 in
set_option maxRecDepth 100000 in
theorem c_vm_canBeToldI (l : Launch) (D : va_G) (cI cJ cC cZ cS : ClassId) (mm : Nat) (g : Nat → Nat) (ta : Nat) (pa : Nat) (pe : Nat) (pd : Int32) (pb : Nat) (pp : Int32) (pf : Int32) (pg : Int32) (pn : Int32) (rt : Int32) (rn : Int32) (cd : Nat) (sn : Int32) (il : Nat) (tk : Int32) (am : Int32) (at_ : Int32) (aa : Int32) (wt : Int32) (wy : Int64) (rm : Nat) (ud : Nat) (nu : Nat) (sd : Int64) (qn : Nat) (qw : Nat) (qo : Int32) (qb : Nat) (qp : Nat) (qa : Int64) (qi : Nat) (oc : Nat) (d : Int32) (w : Int32) (l0 : Nat) (l1 : Nat) (dm : Nat) (l3 : Nat) (nw : Nat → Int32) (wn : Nat) (mN : Nat) (Ba : Nat → Nat) (We : Nat → Nat) (U : Nat → Bool) (ke : Nat) (lg : KLg) (hdm : dm ≤ 9) (hnw : nwX wn mN Ba We U ke lg nw) : skM l yX12_canBeTold cX12_canBeTold 3 (some .boolean) 2 46 0 0 D (skT cI cJ cC cZ cS) [.ref mm, .int d, .int w] [ro_ mm 12 (mo g (nI ta) (nI pa) (nI pe) pd (nI pb) pp pf pg pn rt rn (nI cd) sn (nI il) tk am at_ aa 0 0 (-1) wt wy 0 (nI rm) (nI ud) (nI nu) sd (nI qn) (nI qw) qo (nI qb) (nI qp) qa (nI qi) (nI oc)), ra_I (g 20) cI 4 (l4 (nI l0) (nI l1) (nI dm) (nI l3)), ra_I (g 31) cI 120 nw] (skI D (skT cI cJ cC cZ cS) (fun (r : Int32) (u : va_W) => ∃ (b : Nat), ((b = 0 ∧ ∀ x, ¬ kWo dm U d w x) ∨ (b = 1 ∧ ∃ x, kWo dm U d w x)) ∧ r = nI b ∧ u = [ro_ mm 12 (mo g (nI ta) (nI pa) (nI pe) pd (nI pb) pp pf pg pn rt rn (nI cd) sn (nI il) tk am at_ aa 0 0 (-1) wt wy 0 (nI rm) (nI ud) (nI nu) sd (nI qn) (nI qw) qo (nI qb) (nI qp) qa (nI qi) (nI oc)), ra_I (g 20) cI 4 (l4 (nI l0) (nI l1) (nI dm) (nI l3)), ra_I (g 31) cI 120 nw])) := by
  refine skM_of pf_X12_canBeTold (Nat.le_of_ble_eq_true rfl) ?_
  intro p e s m below meth c A ls E hP hD hl
  refine skE_el E (fun hx hb hr hml hlocks hin hown hts hK hA => ?_)
  have hown : s.vm.findClass RX12 = some m.cls := hown
  have hS : va_S A s.heap s.heap [] := va_S.rf
  have hl : lv_has ls 3 [(0, .ref mm), (1, .int d), (2, .int w)] := hl
  refine lv_aload_n hx hb dX12_canBeTold_0 rfl (lv_at hl 0 rfl) ?_
  refine lv_iload_n hx hb dX12_canBeTold_1 rfl (lv_at hl 1 rfl) ?_
  refine sk_Vi (q0 := 0) (n := 1) (rest := []) (wr := fmR om_3_6 _) ⟨hx, hb, hml, hown, hts⟩ hl.1 (c_nm_isDay l D cI cJ cC cZ cS mm g ta pa pe pd pb pp pf pg pn rt rn cd sn il tk am at_ aa wt wy rm ud nu sd qn qw qo qb qp qa qi oc d l0 l1 dm l3 hdm) w_7_117 w_7_119 w_0_72 w_1_14 w_7_120 hd_X12_isDay_1 ⟨⟨(Nat.le_of_ble_eq_true rfl), (Nat.le_of_ble_eq_true rfl)⟩, (Nat.le_of_ble_eq_true rfl), (Nat.le_of_ble_eq_true rfl)⟩ hK hP hD hS hA (fmT om_3_6 0) (fmF om_3_6 0) (fm_C1 rfl rfl) (fm_R rfl rfl) (fm_nT om_3_6 0) (fm_nF om_3_6 0) (fm_di om_3_6 0) rfl rfl rfl rfl (Nat.le_of_ble_eq_true rfl) dX12_canBeTold_2 (fun r_2 u H locs hw hP hD hS => ?_)
  refine exE hw (fun b_1 hw1 => anE hw1 (fun hb1_3 hw2 => anE hw2 (fun er_5 eu_4 => ?_)))
  clear hw hw1 hw2
  subst er_5
  refine o_mgE (ws' := [ro_ mm 12 (mo g (nI ta) (nI pa) (nI pe) pd (nI pb) pp pf pg pn rt rn (nI cd) sn (nI il) tk am at_ aa 0 0 (-1) wt wy 0 (nI rm) (nI ud) (nI nu) sd (nI qn) (nI qw) qo (nI qb) (nI qp) qa (nI qi) (nI oc)), ra_I (g 20) cI 4 (l4 (nI l0) (nI l1) (nI dm) (nI l3)), ra_I (g 31) cI 120 nw]) eu_4 hP hD rfl (fun hP hD => ?_)
  refine lv_if_eq (tgt := 28) hx hb dX12_canBeTold_5 (by decide) (fun c_6 => ?_) (fun c_6 => ?_)
  · have c_6 : b_1 = 0 := (neq b_1 0 (by omega) (Nat.le_of_ble_eq_true rfl)).mp c_6
    refine lv_iconst (v := 0) hx hb dX12_canBeTold_28 ic_0 ?_
    exact sk_iret hx hb hr rfl hlocks hK hP hD hS (⟨0, Or.inl ⟨rfl, kwo_d (rr_0 hb1_3 (by omega))⟩, rfl, rfl⟩) (Nat.le_of_ble_eq_true rfl) (Nat.le_of_ble_eq_true rfl) dX12_canBeTold_29
  · have c_6 : ¬ (b_1 = 0) := fun h => c_6 ((neq b_1 0 (by omega) (Nat.le_of_ble_eq_true rfl)).mpr h)
    obtain ⟨kd_7, hkd_7, rfl⟩ := rr_1 hb1_3 (by omega)
    refine lv_aload_n hx hb dX12_canBeTold_8 rfl (lv_at hl 0 rfl) ?_
    refine lv_iload_n hx hb dX12_canBeTold_9 rfl (lv_at hl 1 rfl) ?_
    refine sk_Vi (q0 := 0) (n := 1) (rest := []) (wr := fmR om_3_5 _) ⟨hx, hb, hml, hown, hts⟩ hl.1 (c_nm_isMute l D cI cJ cC cZ cS mm g ta pa pe pd pb pp pf pg pn rt rn cd sn il tk am at_ aa wt wy rm ud nu sd qn qw qo qb qp qa qi oc kd_7 nw wn mN Ba We U ke lg (by omega) hnw) w_7_106 w_7_108 w_0_71 w_1_14 w_7_109 hd_X12_isMute_1 ⟨⟨(Nat.le_of_ble_eq_true rfl), (Nat.le_of_ble_eq_true rfl)⟩, (Nat.le_of_ble_eq_true rfl), (Nat.le_of_ble_eq_true rfl)⟩ hK hP hD hS hA (fmT om_3_5 0) (fmF om_3_5 0) (fm_C1 rfl rfl) (fm_R rfl rfl) (fm_nT om_3_5 0) (fm_nF om_3_5 0) (fm_di om_3_5 0) rfl rfl rfl rfl (Nat.le_of_ble_eq_true rfl) dX12_canBeTold_10 (fun r_9 u H locs hw hP hD hS => ?_)
    refine exE hw (fun b_8 hw1 => anE hw1 (fun hb1_10 hw2 => anE hw2 (fun er_12 eu_11 => ?_)))
    clear hw hw1 hw2
    subst er_12
    refine o_mgE (ws' := [ro_ mm 12 (mo g (nI ta) (nI pa) (nI pe) pd (nI pb) pp pf pg pn rt rn (nI cd) sn (nI il) tk am at_ aa 0 0 (-1) wt wy 0 (nI rm) (nI ud) (nI nu) sd (nI qn) (nI qw) qo (nI qb) (nI qp) qa (nI qi) (nI oc)), ra_I (g 20) cI 4 (l4 (nI l0) (nI l1) (nI dm) (nI l3)), ra_I (g 31) cI 120 nw]) eu_11 hP hD rfl (fun hP hD => ?_)
    refine lv_if_ne (tgt := 28) hx hb dX12_canBeTold_13 (by decide) (fun c_13 => ?_) (fun c_13 => ?_)
    · have c_13 : ¬ (b_8 = 0) := fun h => c_13 ((neq b_8 0 (by omega) (Nat.le_of_ble_eq_true rfl)).mpr h)
      refine lv_iconst (v := 0) hx hb dX12_canBeTold_28 ic_0 ?_
      exact sk_iret hx hb hr rfl hlocks hK hP hD hS (⟨0, Or.inl ⟨rfl, kwo_m hdm hkd_7 (km_1 hb1_10 (by omega))⟩, rfl, rfl⟩) (Nat.le_of_ble_eq_true rfl) (Nat.le_of_ble_eq_true rfl) dX12_canBeTold_29
    · have c_13 : b_8 = 0 := (neq b_8 0 (by omega) (Nat.le_of_ble_eq_true rfl)).mp c_13
      refine lv_aload_n hx hb dX12_canBeTold_16 rfl (lv_at hl 0 rfl) ?_
      refine lv_iload_n hx hb dX12_canBeTold_17 rfl (lv_at hl 2 rfl) ?_
      refine sk_Vi (q0 := 0) (n := 1) (rest := []) (wr := fmR om_3_4 _) ⟨hx, hb, hml, hown, hts⟩ hl.1 (c_nm_isMood l D cI cJ cC cZ cS mm g ta pa pe pd pb pp pf pg pn rt rn cd sn il tk am at_ aa wt wy rm ud nu sd qn qw qo qb qp qa qi oc w) w_7_126 w_7_128 w_0_73 w_1_14 w_7_129 hd_X12_isMood_1 ⟨⟨(Nat.le_of_ble_eq_true rfl), (Nat.le_of_ble_eq_true rfl)⟩, (Nat.le_of_ble_eq_true rfl), (Nat.le_of_ble_eq_true rfl)⟩ hK hP hD hS hA (fmT om_3_4 0) (fmF om_3_4 0) (fm_C1 rfl rfl) (fm_R rfl rfl) (fm_nT om_3_4 0) (fm_nF om_3_4 0) (fm_di om_3_4 0) rfl rfl rfl rfl (Nat.le_of_ble_eq_true rfl) dX12_canBeTold_18 (fun r_15 u H locs hw hP hD hS => ?_)
      refine exE hw (fun b_14 hw1 => anE hw1 (fun hb1_16 hw2 => anE hw2 (fun er_18 eu_17 => ?_)))
      clear hw hw1 hw2
      subst er_18
      refine o_mgE (ws' := [ro_ mm 12 (mo g (nI ta) (nI pa) (nI pe) pd (nI pb) pp pf pg pn rt rn (nI cd) sn (nI il) tk am at_ aa 0 0 (-1) wt wy 0 (nI rm) (nI ud) (nI nu) sd (nI qn) (nI qw) qo (nI qb) (nI qp) qa (nI qi) (nI oc)), ra_I (g 20) cI 4 (l4 (nI l0) (nI l1) (nI dm) (nI l3)), ra_I (g 31) cI 120 nw]) eu_17 hP hD rfl (fun hP hD => ?_)
      refine lv_if_eq (tgt := 28) hx hb dX12_canBeTold_21 (by decide) (fun c_19 => ?_) (fun c_19 => ?_)
      · have c_19 : b_14 = 0 := (neq b_14 0 (by omega) (Nat.le_of_ble_eq_true rfl)).mp c_19
        refine lv_iconst (v := 0) hx hb dX12_canBeTold_28 ic_0 ?_
        exact sk_iret hx hb hr rfl hlocks hK hP hD hS (⟨0, Or.inl ⟨rfl, kwo_w (rr_0 hb1_16 (by omega))⟩, rfl, rfl⟩) (Nat.le_of_ble_eq_true rfl) (Nat.le_of_ble_eq_true rfl) dX12_canBeTold_29
      · have c_19 : ¬ (b_14 = 0) := fun h => c_19 ((neq b_14 0 (by omega) (Nat.le_of_ble_eq_true rfl)).mpr h)
        obtain ⟨kd_20, hkd_20, rfl⟩ := rr_1 hb1_16 (by omega)
        refine lv_iconst (v := 1) hx hb dX12_canBeTold_24 ic_1 ?_
        refine lv_goto (tgt := 29) hx hb dX12_canBeTold_25 (by decide) ?_
        exact sk_iret hx hb hr rfl hlocks hK hP hD hS (⟨1, Or.inr ⟨rfl, (kd_7, kd_20), hkd_7, rfl, km_0 hb1_10 (by omega), hkd_20, rfl⟩, rfl, rfl⟩) (Nat.le_of_ble_eq_true rfl) (Nat.le_of_ble_eq_true rfl) dX12_canBeTold_29
theorem dg_X12_known_0_0 : bqL cX12_known 0 [(0, [42]), (1, [27]), (2, [28]), (3, [182, 1, 198]), (6, [153, 0, 11]), (17, [2]), (18, [172]), (9, [42]), (10, [29]), (11, [182, 1, 157]), (14, [154, 0, 5]), (19, [42]), (20, [27]), (21, [28]), (22, [182, 1, 201]), (25, [42]), (26, [29]), (27, [182, 1, 204]), (30, [172])] = true := by decide +kernel
theorem dX12_known_0 : decode cX12_known 0 = .ok (.aload_n 0, 1) := q_aload_n0 (bat_get dg_X12_known_0_0 0 rfl rfl)
theorem dX12_known_1 : decode cX12_known 1 = .ok (.iload_n 1, 1) := q_iload_n1 (bat_get dg_X12_known_0_0 1 rfl rfl)
theorem dX12_known_2 : decode cX12_known 2 = .ok (.iload_n 2, 1) := q_iload_n2 (bat_get dg_X12_known_0_0 2 rfl rfl)
theorem dX12_known_3 : decode cX12_known 3 = .ok (.invokevirtual 454, 3) := q_invokevirtual (bat_get dg_X12_known_0_0 3 rfl rfl) rfl
theorem dX12_known_6 : decode cX12_known 6 = .ok (.ifCond .eq 11, 3) := q_ifCond_eq (bat_get dg_X12_known_0_0 4 rfl rfl) rfl
theorem dX12_known_17 : decode cX12_known 17 = .ok (.iconst (-1), 1) := q_iconstm1 (bat_get dg_X12_known_0_0 5 rfl rfl)
theorem dX12_known_18 : decode cX12_known 18 = .ok (.ireturn, 1) := q_ireturn (bat_get dg_X12_known_0_0 6 rfl rfl)
theorem dX12_known_9 : decode cX12_known 9 = .ok (.aload_n 0, 1) := q_aload_n0 (bat_get dg_X12_known_0_0 7 rfl rfl)
theorem dX12_known_10 : decode cX12_known 10 = .ok (.iload_n 3, 1) := q_iload_n3 (bat_get dg_X12_known_0_0 8 rfl rfl)
theorem dX12_known_11 : decode cX12_known 11 = .ok (.invokevirtual 413, 3) := q_invokevirtual (bat_get dg_X12_known_0_0 9 rfl rfl) rfl
theorem dX12_known_14 : decode cX12_known 14 = .ok (.ifCond .ne 5, 3) := q_ifCond_ne (bat_get dg_X12_known_0_0 10 rfl rfl) rfl
theorem dX12_known_19 : decode cX12_known 19 = .ok (.aload_n 0, 1) := q_aload_n0 (bat_get dg_X12_known_0_0 11 rfl rfl)
theorem dX12_known_20 : decode cX12_known 20 = .ok (.iload_n 1, 1) := q_iload_n1 (bat_get dg_X12_known_0_0 12 rfl rfl)
theorem dX12_known_21 : decode cX12_known 21 = .ok (.iload_n 2, 1) := q_iload_n2 (bat_get dg_X12_known_0_0 13 rfl rfl)
theorem dX12_known_22 : decode cX12_known 22 = .ok (.invokevirtual 457, 3) := q_invokevirtual (bat_get dg_X12_known_0_0 14 rfl rfl) rfl
theorem dX12_known_25 : decode cX12_known 25 = .ok (.aload_n 0, 1) := q_aload_n0 (bat_get dg_X12_known_0_0 15 rfl rfl)
theorem dX12_known_26 : decode cX12_known 26 = .ok (.iload_n 3, 1) := q_iload_n3 (bat_get dg_X12_known_0_0 16 rfl rfl)
theorem dX12_known_27 : decode cX12_known 27 = .ok (.invokevirtual 460, 3) := q_invokevirtual (bat_get dg_X12_known_0_0 17 rfl rfl) rfl
theorem dX12_known_30 : decode cX12_known 30 = .ok (.ireturn, 1) := q_ireturn (bat_get dg_X12_known_0_0 18 rfl rfl)
theorem w_8_81 : (Cond.methodLink RX12 457 yX12_laysByWord) ∈ wsL_law := sk_mem (ck_8 _ (List.mem_of_getElem? (i := 81) rfl)) rfl
theorem w_8_83 : (Cond.instanceMethod yX12_laysByWord) ∈ wsL_law := sk_mem (ck_8 _ (List.mem_of_getElem? (i := 83) rfl)) rfl
theorem w_0_102 : (Cond.selects RX12 yX12_laysByWord yX12_laysByWord) ∈ wsL_law := sk_mem (ck_0 _ (List.mem_of_getElem? (i := 102) rfl)) rfl
theorem w_8_85 : (Cond.methodLink RX12 460 yX12_moodsOf) ∈ wsL_law := sk_mem (ck_8 _ (List.mem_of_getElem? (i := 85) rfl)) rfl
theorem w_8_87 : (Cond.instanceMethod yX12_moodsOf) ∈ wsL_law := sk_mem (ck_8 _ (List.mem_of_getElem? (i := 87) rfl)) rfl
theorem w_0_103 : (Cond.selects RX12 yX12_moodsOf yX12_moodsOf) ∈ wsL_law := sk_mem (ck_0 _ (List.mem_of_getElem? (i := 103) rfl)) rfl
theorem w_8_76 : (Cond.code yX12_known cX12_known 4 (some .int)) ∈ wsL_law := sk_mem (ck_8 _ (List.mem_of_getElem? (i := 76) rfl)) rfl
def om_13_1120 : List Bool := true :: false :: false :: false :: true :: false :: false :: true :: false :: false :: false :: false :: false :: []
def om_13_1003 : List Bool := true :: false :: false :: false :: false :: false :: false :: false :: false :: false :: false :: true :: true :: []
theorem hd_X12_laysByWord_2 : skD yX12_laysByWord 2 := by decide +kernel
theorem hd_X12_moodsOf_1 : skD yX12_moodsOf 1 := by decide +kernel
set_option maxHeartbeats 4000000 in
set_option maxRecDepth 100000 in
theorem c_vm_known (l : Launch) (D : va_G) (cI cJ cC cZ cS : ClassId) (mm : Nat) (g : Nat → Nat) (ta : Nat) (pa : Nat) (pe : Nat) (pd : Int32) (pb : Nat) (pp : Int32) (pf : Int32) (pg : Int32) (pn : Int32) (rt : Int32) (rn : Int32) (cd : Nat) (sn : Int32) (il : Nat) (tk : Int32) (am : Int32) (at_ : Int32) (aa : Int32) (wt : Int32) (wy : Int64) (rm : Nat) (ud : Nat) (nu : Nat) (sd : Int64) (qn : Nat) (qw : Nat) (qo : Int32) (qb : Nat) (qp : Nat) (qa : Int64) (qi : Nat) (oc : Nat) (d : Int32) (w : Int32) (o : Int32) (u0 : Int32) (u1 : Int32) (u2 : Int32) (u3 : Int32) (u4 : Int32) (u5 : Int32) (v0 : Int32) (v1 : Int32) (v2 : Int32) (v3 : Int32) (v4 : Int32) (v5 : Int32) (cs : Nat → Nat) (nw : Nat → Int32) (pt : Nat → Nat) (ql : Nat → Int64) (l0 : Nat) (l1 : Nat) (dm : Nat) (l3 : Nat) (ws_ : Nat → Int32) (yw : Nat → Int32) (yo : Nat → Int32) (be : Nat → Int64) (bf : Nat → Int64) (wn : Nat) (mN : Nat) (Ba : Nat → Nat) (We : Nat → Nat) (U : Nat → Bool) (ke : Nat) (lg : KLg) (L : LkS) (hil : il ≤ 1) (hild : il = 1 → 1 ≤ dm) (hilb : 1 ≤ dm → il = 1) (hdm : dm ≤ 9) (hLk : kcLk L) (hkl : (lK L).length ≤ 1600) (hmw0 : mwO L 0 u3 v3 cs) (hmw1 : mwO L 1 u4 v4 cs) (hB9 : ∀ j, Ba j ≤ 9) (hW9 : ∀ j, We j ≤ 9) (hwk : wn ≤ 999) (hcs : ∀ j, cs j ≤ 20000) (hnw : nwX wn mN Ba We U ke lg nw) (hpt : ∀ j, pt j ≤ 9) : skM l yX12_known cX12_known 4 (some .int) 6 144 0 0 D (skT cI cJ cC cZ cS) [.ref mm, .int d, .int w, .int o] [ro_ mm 12 (mo g (nI ta) (nI pa) (nI pe) pd (nI pb) pp pf pg pn rt rn (nI cd) sn (nI il) tk am at_ aa 0 0 (-1) wt wy 0 (nI rm) (nI ud) (nI nu) sd (nI qn) (nI qw) qo (nI qb) (nI qp) qa (nI qi) (nI oc)), ra_I (g 24) cI 6 (l6 u0 u1 u2 u3 u4 u5), ra_I (g 25) cI 6 (l6 v0 v1 v2 v3 v4 v5), ra_N (g 26) cI 3200 cs, ra_I (g 31) cI 120 nw, ra_N (g 46) cI 9 pt, ra_J (g 86) cJ 1700 ql, ra_I (g 20) cI 4 (l4 (nI l0) (nI l1) (nI dm) (nI l3)), ra_I (g 38) cI 90 ws_, ra_I (g 36) cZ 900 yw, ra_I (g 37) cZ 900 yo, ra_J (g 43) cJ 90 be, ra_J (g 44) cJ 90 bf] (skI D (skT cI cJ cC cZ cS) (fun (r : Int32) (u : va_W) => ∃ (tk2 : Int32), ∃ (qp2 : Nat), ∃ (am2 : Int32), ∃ (at_2 : Int32), ∃ (aa2 : Int32), ∃ (wy2 : Int64), ∃ (wt2 : Int32), ∃ (ql2 : Nat → Int64), ∃ (ws_2 : Nat → Int32), ∃ (yw2 : Nat → Int32), ∃ (yo2 : Nat → Int32), ∃ (be2 : Nat → Int64), ∃ (bf2 : Nat → Int64), knownR (kcFo L wn Ba We U 0) (kSd L wn Ba We) dm mN U d w o r ∧ u = [ro_ mm 12 (mo g (nI ta) (nI pa) (nI pe) pd (nI pb) pp pf pg pn rt rn (nI cd) sn (nI il) tk2 am2 at_2 aa2 0 0 (-1) wt2 wy2 0 (nI rm) (nI ud) (nI nu) sd (nI qn) (nI qw) qo (nI qb) (nI qp2) qa (nI qi) (nI oc)), ra_I (g 24) cI 6 (l6 u0 u1 u2 u3 u4 u5), ra_I (g 25) cI 6 (l6 v0 v1 v2 v3 v4 v5), ra_N (g 26) cI 3200 cs, ra_I (g 31) cI 120 nw, ra_N (g 46) cI 9 pt, ra_J (g 86) cJ 1700 ql2, ra_I (g 20) cI 4 (l4 (nI l0) (nI l1) (nI dm) (nI l3)), ra_I (g 38) cI 90 ws_2, ra_I (g 36) cZ 900 yw2, ra_I (g 37) cZ 900 yo2, ra_J (g 43) cJ 90 be2, ra_J (g 44) cJ 90 bf2])) := by
  refine skM_of pf_X12_known (Nat.le_of_ble_eq_true rfl) ?_
  intro p e s m below meth c A ls E hP hD hl
  refine skE_el E (fun hx hb hr hml hlocks hin hown hts hK hA => ?_)
  have hown : s.vm.findClass RX12 = some m.cls := hown
  have hS : va_S A s.heap s.heap [] := va_S.rf
  have hl : lv_has ls 4 [(0, .ref mm), (1, .int d), (2, .int w), (3, .int o)] := hl
  refine lv_aload_n hx hb dX12_known_0 rfl (lv_at hl 0 rfl) ?_
  refine lv_iload_n hx hb dX12_known_1 rfl (lv_at hl 1 rfl) ?_
  refine lv_iload_n hx hb dX12_known_2 rfl (lv_at hl 2 rfl) ?_
  refine sk_Vi (q0 := 0) (n := 2) (rest := []) (wr := fmR om_13_1120 _) ⟨hx, hb, hml, hown, hts⟩ hl.1 (c_vm_canBeToldI l D cI cJ cC cZ cS mm g ta pa pe pd pb pp pf pg pn rt rn cd sn il tk am at_ aa wt wy rm ud nu sd qn qw qo qb qp qa qi oc d w l0 l1 dm l3 nw wn mN Ba We U ke lg hdm hnw) w_8_77 w_8_79 w_0_101 w_1_14 w_8_80 hd_X12_canBeTold_2 ⟨⟨(Nat.le_of_ble_eq_true rfl), (Nat.le_of_ble_eq_true rfl)⟩, (Nat.le_of_ble_eq_true rfl), (Nat.le_of_ble_eq_true rfl)⟩ hK hP hD hS hA [0, 7, 4] (fmF om_13_1120 0) rfl (fm_R rfl rfl) (by decide +kernel) (fm_nF om_13_1120 0) (by decide +kernel) rfl rfl rfl rfl (Nat.le_of_ble_eq_true rfl) dX12_known_3 (fun r_2 u H locs hw hP hD hS => ?_)
  refine exE hw (fun b_1 hw1 => anE hw1 (fun hwo_3 hw2 => anE hw2 (fun er_5 eu_4 => ?_)))
  clear hw hw1 hw2
  subst er_5
  refine o_mgqE (ux := [ro_ mm 12 (mo g (nI ta) (nI pa) (nI pe) pd (nI pb) pp pf pg pn rt rn (nI cd) sn (nI il) tk am at_ aa 0 0 (-1) wt wy 0 (nI rm) (nI ud) (nI nu) sd (nI qn) (nI qw) qo (nI qb) (nI qp) qa (nI qi) (nI oc)), ra_I (g 31) cI 120 nw, ra_I (g 20) cI 4 (l4 (nI l0) (nI l1) (nI dm) (nI l3))]) (ws' := [ro_ mm 12 (mo g (nI ta) (nI pa) (nI pe) pd (nI pb) pp pf pg pn rt rn (nI cd) sn (nI il) tk am at_ aa 0 0 (-1) wt wy 0 (nI rm) (nI ud) (nI nu) sd (nI qn) (nI qw) qo (nI qb) (nI qp) qa (nI qi) (nI oc)), ra_I (g 24) cI 6 (l6 u0 u1 u2 u3 u4 u5), ra_I (g 25) cI 6 (l6 v0 v1 v2 v3 v4 v5), ra_N (g 26) cI 3200 cs, ra_I (g 31) cI 120 nw, ra_N (g 46) cI 9 pt, ra_J (g 86) cJ 1700 ql, ra_I (g 20) cI 4 (l4 (nI l0) (nI l1) (nI dm) (nI l3)), ra_I (g 38) cI 90 ws_, ra_I (g 36) cZ 900 yw, ra_I (g 37) cZ 900 yo, ra_J (g 43) cJ 90 be, ra_J (g 44) cJ 90 bf]) eu_4 [0, 2, 1] (by decide +kernel) rfl hP hD rfl (fun hP hD => ?_)
  refine lv_if_eq (tgt := 17) hx hb dX12_known_6 (by decide) (fun c_6 => ?_) (fun c_6 => ?_)
  · have c_6 : b_1 = 0 := (neq b_1 0 (by omega) (Nat.le_of_ble_eq_true rfl)).mp c_6
    refine lv_iconst (v := (-1)) hx hb dX12_known_17 (by decide) ?_
    exact sk_iret hx hb hr rfl hlocks hK hP hD hS (⟨tk, qp, am, at_, aa, wy, wt, ql, ws_, yw, yo, be, bf, kno_1 (rr_0 hwo_3 (by omega)), rfl⟩) (Nat.le_of_ble_eq_true rfl) (Nat.le_of_ble_eq_true rfl) dX12_known_18
  · have c_6 : ¬ (b_1 = 0) := fun h => c_6 ((neq b_1 0 (by omega) (Nat.le_of_ble_eq_true rfl)).mpr h)
    obtain ⟨⟨ka_7, kb_8⟩, hx_9⟩ := rr_1 hwo_3 (by omega)
    have hka_7 : ka_7 < dm := hx_9.1
    have hkb_8 : kb_8 < 10 := hx_9.2.2.2.1
    have nka_7 : ¬ U ka_7 = true := hx_9.2.2.1
    have ed_ : d = nI ka_7 := hx_9.2.1
    have ew_ : w = nI kb_8 := hx_9.2.2.2.2
    subst ed_
    subst ew_
    refine lv_aload_n hx hb dX12_known_9 rfl (lv_at hl 0 rfl) ?_
    refine lv_iload_n hx hb dX12_known_10 rfl (lv_at hl 3 rfl) ?_
    refine sk_Vi (q0 := 0) (n := 1) (rest := []) (wr := fmR om_13_1020 _) ⟨hx, hb, hml, hown, hts⟩ hl.1 (c_nm_isDay l D cI cJ cC cZ cS mm g ta pa pe pd pb pp pf pg pn rt rn cd sn il tk am at_ aa wt wy rm ud nu sd qn qw qo qb qp qa qi oc o l0 l1 dm l3 hdm) w_7_117 w_7_119 w_0_72 w_1_14 w_7_120 hd_X12_isDay_1 ⟨⟨(Nat.le_of_ble_eq_true rfl), (Nat.le_of_ble_eq_true rfl)⟩, (Nat.le_of_ble_eq_true rfl), (Nat.le_of_ble_eq_true rfl)⟩ hK hP hD hS hA (fmT om_13_1020 0) (fmF om_13_1020 0) (fm_C1 rfl rfl) (fm_R rfl rfl) (fm_nT om_13_1020 0) (fm_nF om_13_1020 0) (fm_di om_13_1020 0) rfl rfl rfl rfl (Nat.le_of_ble_eq_true rfl) dX12_known_11 (fun r_11 u H locs hw hP hD hS => ?_)
    refine exE hw (fun b_10 hw1 => anE hw1 (fun hb1_12 hw2 => anE hw2 (fun er_14 eu_13 => ?_)))
    clear hw hw1 hw2
    subst er_14
    refine o_mgE (ws' := [ro_ mm 12 (mo g (nI ta) (nI pa) (nI pe) pd (nI pb) pp pf pg pn rt rn (nI cd) sn (nI il) tk am at_ aa 0 0 (-1) wt wy 0 (nI rm) (nI ud) (nI nu) sd (nI qn) (nI qw) qo (nI qb) (nI qp) qa (nI qi) (nI oc)), ra_I (g 24) cI 6 (l6 u0 u1 u2 u3 u4 u5), ra_I (g 25) cI 6 (l6 v0 v1 v2 v3 v4 v5), ra_N (g 26) cI 3200 cs, ra_I (g 31) cI 120 nw, ra_N (g 46) cI 9 pt, ra_J (g 86) cJ 1700 ql, ra_I (g 20) cI 4 (l4 (nI l0) (nI l1) (nI dm) (nI l3)), ra_I (g 38) cI 90 ws_, ra_I (g 36) cZ 900 yw, ra_I (g 37) cZ 900 yo, ra_J (g 43) cJ 90 be, ra_J (g 44) cJ 90 bf]) eu_13 hP hD rfl (fun hP hD => ?_)
    refine lv_if_ne (tgt := 19) hx hb dX12_known_14 (by decide) (fun c_15 => ?_) (fun c_15 => ?_)
    · have c_15 : ¬ (b_10 = 0) := fun h => c_15 ((neq b_10 0 (by omega) (Nat.le_of_ble_eq_true rfl)).mpr h)
      obtain ⟨kd_16, hkd_16, rfl⟩ := rr_1 hb1_12 (by omega)
      refine lv_aload_n hx hb dX12_known_19 rfl (lv_at hl 0 rfl) ?_
      refine lv_iload_n hx hb dX12_known_20 rfl (lv_at hl 1 rfl) ?_
      refine lv_iload_n hx hb dX12_known_21 rfl (lv_at hl 2 rfl) ?_
      refine sk_Vv (q0 := 0) (n := 2) (rest := []) (wr := fmR om_13_1fff _) ⟨hx, hb, hml, hown, hts⟩ hl.1 (c_vm_laysByWordX l D cI cJ cC cZ cS mm g ta pa pe pd pb pp pf pg pn rt rn cd sn il tk am at_ aa wt wy rm ud nu sd qn qw qo qb qp qa qi oc ka_7 kb_8 u0 u1 u2 u3 u4 u5 v0 v1 v2 v3 v4 v5 cs nw pt ql l0 l1 dm l3 ws_ yw yo be bf wn mN Ba We U ke lg L hdm (by omega) hLk hkl hmw0 hmw1 hB9 hW9 hwk (by omega) (by omega) hcs hnw hpt) w_8_81 w_8_83 w_0_102 w_1_14 w_8_84 hd_X12_laysByWord_2 ⟨⟨(Nat.le_of_ble_eq_true rfl), (Nat.le_of_ble_eq_true rfl)⟩, (Nat.le_of_ble_eq_true rfl), (Nat.le_of_ble_eq_true rfl)⟩ hK hP hD hS hA (fmT om_13_1fff 0) (fmF om_13_1fff 0) (fm_C1 rfl rfl) (fm_R rfl rfl) (fm_nT om_13_1fff 0) (fm_nF om_13_1fff 0) (fm_di om_13_1fff 0) rfl rfl rfl rfl (Nat.le_of_ble_eq_true rfl) dX12_known_22 (fun u H locs hw hP hD hS => ?_)
      refine exE hw (fun tk2_17 hw1 => exE hw1 (fun qp2_18 hw2 => exE hw2 (fun am2_19 hw3 => exE hw3 (fun at_2_20 hw4 => exE hw4 (fun aa2_21 hw5 => exE hw5 (fun wy2_22 hw6 => exE hw6 (fun ql2_23 hw7 => exE hw7 (fun ws_2_24 hw8 => exE hw8 (fun yw2_25 hw9 => exE hw9 (fun yo2_26 hw10 => exE hw10 (fun be2_27 hw11 => exE hw11 (fun bf2_28 hw12 => anE hw12 (fun hmw_29 hw13 => anE hw13 (fun hwy_30 eu_31 => ?_))))))))))))))
      clear hw hw1 hw2 hw3 hw4 hw5 hw6 hw7 hw8 hw9 hw10 hw11 hw12 hw13
      refine o_mgE (ws' := [ro_ mm 12 (mo g (nI ta) (nI pa) (nI pe) pd (nI pb) pp pf pg pn rt rn (nI cd) sn (nI il) tk2_17 am2_19 at_2_20 aa2_21 0 0 (-1) (nI kb_8) wy2_22 0 (nI rm) (nI ud) (nI nu) sd (nI qn) (nI qw) qo (nI qb) (nI qp2_18) qa (nI qi) (nI oc)), ra_I (g 24) cI 6 (l6 u0 u1 u2 u3 u4 u5), ra_I (g 25) cI 6 (l6 v0 v1 v2 v3 v4 v5), ra_N (g 26) cI 3200 cs, ra_I (g 31) cI 120 nw, ra_N (g 46) cI 9 pt, ra_J (g 86) cJ 1700 ql2_23, ra_I (g 20) cI 4 (l4 (nI l0) (nI l1) (nI dm) (nI l3)), ra_I (g 38) cI 90 ws_2_24, ra_I (g 36) cZ 900 yw2_25, ra_I (g 37) cZ 900 yo2_26, ra_J (g 43) cJ 90 be2_27, ra_J (g 44) cJ 90 bf2_28]) eu_31 hP hD rfl (fun hP hD => ?_)
      refine lv_aload_n hx hb dX12_known_25 rfl (lv_at hl 0 rfl) ?_
      refine lv_iload_n hx hb dX12_known_26 rfl (lv_at hl 3 rfl) ?_
      refine sk_Vi (q0 := 0) (n := 1) (rest := []) (wr := fmR om_13_1003 _) ⟨hx, hb, hml, hown, hts⟩ hl.1 (c_vm_moodsOf l D cI cJ cC cZ cS mm g ta pa pe pd pb pp pf pg pn rt rn cd sn il tk2_17 am2_19 at_2_20 aa2_21 (nI kb_8) wy2_22 rm ud nu sd qn qw qo qb qp2_18 qa qi oc kd_16 be2_27 bf2_28 (kcFw (kcFo L wn Ba We U 0) (kSd L wn Ba We) ka_7 kb_8) dm mN hdm (by omega) hmw_29) w_8_85 w_8_87 w_0_103 w_1_14 w_8_88 hd_X12_moodsOf_1 ⟨⟨(Nat.le_of_ble_eq_true rfl), (Nat.le_of_ble_eq_true rfl)⟩, (Nat.le_of_ble_eq_true rfl), (Nat.le_of_ble_eq_true rfl)⟩ hK hP hD hS hA (fmT om_13_1003 0) (fmF om_13_1003 0) (fm_C1 rfl rfl) (fm_R rfl rfl) (fm_nT om_13_1003 0) (fm_nF om_13_1003 0) (fm_di om_13_1003 0) rfl rfl rfl rfl (Nat.le_of_ble_eq_true rfl) dX12_known_27 (fun r_32 u H locs hw hP hD hS => ?_)
      refine anE hw (fun er_34 eu_33 => ?_)
      clear hw
      subst er_34
      refine o_mgE (ws' := [ro_ mm 12 (mo g (nI ta) (nI pa) (nI pe) pd (nI pb) pp pf pg pn rt rn (nI cd) sn (nI il) tk2_17 am2_19 at_2_20 aa2_21 0 0 (-1) (nI kb_8) wy2_22 0 (nI rm) (nI ud) (nI nu) sd (nI qn) (nI qw) qo (nI qb) (nI qp2_18) qa (nI qi) (nI oc)), ra_I (g 24) cI 6 (l6 u0 u1 u2 u3 u4 u5), ra_I (g 25) cI 6 (l6 v0 v1 v2 v3 v4 v5), ra_N (g 26) cI 3200 cs, ra_I (g 31) cI 120 nw, ra_N (g 46) cI 9 pt, ra_J (g 86) cJ 1700 ql2_23, ra_I (g 20) cI 4 (l4 (nI l0) (nI l1) (nI dm) (nI l3)), ra_I (g 38) cI 90 ws_2_24, ra_I (g 36) cZ 900 yw2_25, ra_I (g 37) cZ 900 yo2_26, ra_J (g 43) cJ 90 be2_27, ra_J (g 44) cJ 90 bf2_28]) eu_33 hP hD rfl (fun hP hD => ?_)
      exact sk_iret hx hb hr rfl hlocks hK hP hD hS (⟨tk2_17, qp2_18, am2_19, at_2_20, aa2_21, wy2_22, nI kb_8, ql2_23, ws_2_24, yw2_25, yo2_26, be2_27, bf2_28, kno_2 hx_9 hkd_16 rfl, rfl⟩) (Nat.le_of_ble_eq_true rfl) (Nat.le_of_ble_eq_true rfl) dX12_known_30
    · have c_15 : b_10 = 0 := (neq b_10 0 (by omega) (Nat.le_of_ble_eq_true rfl)).mp c_15
      refine lv_iconst (v := (-1)) hx hb dX12_known_17 (by decide) ?_
      exact sk_iret hx hb hr rfl hlocks hK hP hD hS (⟨tk, qp, am, at_, aa, wy, wt, ql, ws_, yw, yo, be, bf, kno_0 (rr_0 hb1_12 (by omega)), rfl⟩) (Nat.le_of_ble_eq_true rfl) (Nat.le_of_ble_eq_true rfl) dX12_known_18
set_option maxHeartbeats 4000000 in
set_option maxRecDepth 100000 in
theorem c_vm_bitsT (l : Launch) (D : va_G) (cI cJ cC cZ cS : ClassId) (mz : Nat) (hm : mz < 1024) : skM l yX12_bits cX12_bits 3 (some .int) 0 0 0 0 D (skT cI cJ cC cZ cS) [.int (nI mz)] [] (skI D (skT cI cJ cC cZ cS) (fun (r : Int32) (u : va_W) => r = nI (kpopT mz) ∧ u = [])) := by
  refine skM_of pf_X12_bits (Nat.le_of_ble_eq_true rfl) ?_
  intro p e s m below meth c A ls E hP hD hl
  refine skE_el E (fun hx hb hr hml hlocks hin hown hts hK hA => ?_)
  have hown : s.vm.findClass RX12 = some m.cls := hown
  have hS : va_S A s.heap s.heap [] := va_S.rf
  have hl : lv_has ls 3 [(0, .int (nI mz))] := hl
  refine lv_iconst (v := 0) hx hb dX12_bits_0 ic_0 ?_
  refine lv_istore_n (lv' := [(1, .int 0), (0, .int (nI mz))]) hx hb dX12_bits_1 rfl hl (by decide) rfl (fun ls hl => ?_)
  refine lv_iload_n hx hb dX12_bits_2 rfl (lv_at hl 1 rfl) ?_
  refine lv_istore_n (lv' := [(2, .int (nI mz)), (1, .int 0), (0, .int (nI mz))]) hx hb dX12_bits_3 rfl hl (by decide) rfl (fun ls hl => ?_)
  have lp_1 : ∀ (n_2 : Nat) (bs : Nat) (bn : Nat) (H : Heap) (locs : List Loc) (ls : Array Slot), bs < n_2 → (bs < 1024) → (bn + kpopT bs = kpopT mz) → va_P D vwCl [] H → va_D A [] → va_S A s.heap H locs → lv_has ls 3 [(2, .int (nI bs)), (1, .int (nI bn)), (0, .int (nI mz))] → W p l e { frames := 0, cells := 0, slots := 0, locals := 0 } s m ([.int (nI mz)] : List Value).toArray below meth c H locs 0 0 (MQ below (skI D (skT cI cJ cC cZ cS) (fun (r : Int32) (u : va_W) => r = nI (kpopT mz) ∧ u = []) A) ([.int (nI mz)] : List Value).toArray s 0 0 A) (F0 m 4 ls []) := by
    intro n_2
    induction n_2 with
    | zero => intro bs bn H locs ls hm; exact absurd hm (Nat.not_lt_zero _)
    | succ n_2 ih_lp_1 =>
      intro bs bn H locs ls hm hbs hbn hP hD hS hl
      refine lv_iload_n hx hb dX12_bits_4 rfl (lv_at hl 0 rfl) ?_
      refine lv_if_eq (tgt := 20) hx hb dX12_bits_5 (by decide) (fun c_3 => ?_) (fun c_3 => ?_)
      · have c_3 : bs = 0 := (neq bs 0 (by omega) (Nat.le_of_ble_eq_true rfl)).mp c_3
        refine lv_iload_n hx hb dX12_bits_20 rfl (lv_at hl 1 rfl) ?_
        exact sk_iret hx hb hr rfl hlocks hK hP hD hS (⟨(congrArg nI (by have h9 := hbn; rw [show bs = 0 by omega, kpopT_0] at h9; omega)), rfl⟩) (Nat.le_of_ble_eq_true rfl) (Nat.le_of_ble_eq_true rfl) dX12_bits_21
      · have c_3 : ¬ (bs = 0) := fun h => c_3 ((neq bs 0 (by omega) (Nat.le_of_ble_eq_true rfl)).mpr h)
        refine lv_iinc (v := nI (bn + 1)) (lv' := [(1, .int (nI (bn + 1))), (2, .int (nI bs)), (0, .int (nI mz))]) hx hb dX12_bits_8 hl (k := 1) rfl (ninc bn 1 (by decide)) (by decide) rfl (fun ls hl => ?_)
        refine lv_iload_n hx hb dX12_bits_11 rfl (lv_at hl 1 rfl) ?_
        refine lv_iload_n hx hb dX12_bits_12 rfl (lv_at hl 1 rfl) ?_
        refine lv_iconst (v := 1) hx hb dX12_bits_13 ic_1 ?_
        refine lv_isub hx hb dX12_bits_14 ?_
        refine sk_top (nI (bs - 1)) (nsub bs 1 (by omega)) ?_
        refine lv_iand hx hb dX12_bits_15 ?_
        have hbd := kbsT_d bs (by omega) (by omega)
        refine sk_top (nI (bs &&& (bs - 1))) hbd.1 ?_
        refine lv_istore_n (lv' := [(2, .int (nI (bs &&& (bs - 1)))), (1, .int (nI (bn + 1))), (0, .int (nI mz))]) hx hb dX12_bits_16 rfl hl (by decide) rfl (fun ls hl => ?_)
        refine lv_goto (tgt := 4) hx hb dX12_bits_17 (by decide) ?_
        exact ih_lp_1 (bs &&& (bs - 1)) (bn + 1) _ _ _ (by have h9 := hbd.2.1; omega) (by have h9 := hbd.2.1; omega) (by have h9 := hbd.2.2; omega) hP hD hS (lv_sub hl [0, 1, 2] rfl)
  exact lp_1 (mz + 1) mz 0 _ _ _ (Nat.lt_succ_self _) hm (Nat.zero_add _) hP hD hS (lv_sub hl [0, 1, 2] rfl)
theorem dg_X12_sure_0_0 : bqL cX12_sure 0 [(0, [42]), (1, [27]), (2, [28]), (3, [182, 1, 198]), (6, [154, 0, 5]), (11, [42]), (12, [27]), (13, [28]), (14, [182, 1, 201]), (17, [42]), (18, [180, 1, 126]), (21, [9]), (22, [148]), (23, [154, 0, 5]), (28, [3]), (29, [62]), (30, [27]), (31, [54, 4]), (33, [21, 4]), (35, [42]), (36, [182, 1, 59]), (39, [162, 0, 25]), (64, [29]), (65, [172]), (42, [42]), (43, [21, 4]), (45, [182, 1, 204]), (48, [184, 1, 153]), (51, [4]), (52, [160, 0, 12]), (55, [132, 3, 1]), (58, [132, 4, 1]), (61, [167, 255, 228]), (26, [2]), (27, [172]), (9, [2]), (10, [172])] = true := by decide +kernel
theorem dX12_sure_0 : decode cX12_sure 0 = .ok (.aload_n 0, 1) := q_aload_n0 (bat_get dg_X12_sure_0_0 0 rfl rfl)
theorem dX12_sure_1 : decode cX12_sure 1 = .ok (.iload_n 1, 1) := q_iload_n1 (bat_get dg_X12_sure_0_0 1 rfl rfl)
theorem dX12_sure_2 : decode cX12_sure 2 = .ok (.iload_n 2, 1) := q_iload_n2 (bat_get dg_X12_sure_0_0 2 rfl rfl)
theorem dX12_sure_3 : decode cX12_sure 3 = .ok (.invokevirtual 454, 3) := q_invokevirtual (bat_get dg_X12_sure_0_0 3 rfl rfl) rfl
theorem dX12_sure_6 : decode cX12_sure 6 = .ok (.ifCond .ne 5, 3) := q_ifCond_ne (bat_get dg_X12_sure_0_0 4 rfl rfl) rfl
theorem dX12_sure_11 : decode cX12_sure 11 = .ok (.aload_n 0, 1) := q_aload_n0 (bat_get dg_X12_sure_0_0 5 rfl rfl)
theorem dX12_sure_12 : decode cX12_sure 12 = .ok (.iload_n 1, 1) := q_iload_n1 (bat_get dg_X12_sure_0_0 6 rfl rfl)
theorem dX12_sure_13 : decode cX12_sure 13 = .ok (.iload_n 2, 1) := q_iload_n2 (bat_get dg_X12_sure_0_0 7 rfl rfl)
theorem dX12_sure_14 : decode cX12_sure 14 = .ok (.invokevirtual 457, 3) := q_invokevirtual (bat_get dg_X12_sure_0_0 8 rfl rfl) rfl
theorem dX12_sure_17 : decode cX12_sure 17 = .ok (.aload_n 0, 1) := q_aload_n0 (bat_get dg_X12_sure_0_0 9 rfl rfl)
theorem dX12_sure_18 : decode cX12_sure 18 = .ok (.getfield 382, 3) := q_getfield (bat_get dg_X12_sure_0_0 10 rfl rfl) rfl
theorem dX12_sure_21 : decode cX12_sure 21 = .ok (.lconst 0, 1) := q_lconst0 (bat_get dg_X12_sure_0_0 11 rfl rfl)
theorem dX12_sure_22 : decode cX12_sure 22 = .ok (.lcmp, 1) := q_lcmp (bat_get dg_X12_sure_0_0 12 rfl rfl)
theorem dX12_sure_23 : decode cX12_sure 23 = .ok (.ifCond .ne 5, 3) := q_ifCond_ne (bat_get dg_X12_sure_0_0 13 rfl rfl) rfl
theorem dX12_sure_28 : decode cX12_sure 28 = .ok (.iconst 0, 1) := q_iconst0 (bat_get dg_X12_sure_0_0 14 rfl rfl)
theorem dX12_sure_29 : decode cX12_sure 29 = .ok (.istore_n 3, 1) := q_istore_n3 (bat_get dg_X12_sure_0_0 15 rfl rfl)
theorem dX12_sure_30 : decode cX12_sure 30 = .ok (.iload_n 1, 1) := q_iload_n1 (bat_get dg_X12_sure_0_0 16 rfl rfl)
theorem dX12_sure_31 : decode cX12_sure 31 = .ok (.istore 4, 2) := q_istore (bat_get dg_X12_sure_0_0 17 rfl rfl)
theorem dX12_sure_33 : decode cX12_sure 33 = .ok (.iload 4, 2) := q_iload (bat_get dg_X12_sure_0_0 18 rfl rfl)
theorem dX12_sure_35 : decode cX12_sure 35 = .ok (.aload_n 0, 1) := q_aload_n0 (bat_get dg_X12_sure_0_0 19 rfl rfl)
theorem dX12_sure_36 : decode cX12_sure 36 = .ok (.invokevirtual 315, 3) := q_invokevirtual (bat_get dg_X12_sure_0_0 20 rfl rfl) rfl
theorem dX12_sure_39 : decode cX12_sure 39 = .ok (.if_icmp .ge 25, 3) := q_if_icmp_ge (bat_get dg_X12_sure_0_0 21 rfl rfl) rfl
theorem dX12_sure_64 : decode cX12_sure 64 = .ok (.iload_n 3, 1) := q_iload_n3 (bat_get dg_X12_sure_0_0 22 rfl rfl)
theorem dX12_sure_65 : decode cX12_sure 65 = .ok (.ireturn, 1) := q_ireturn (bat_get dg_X12_sure_0_0 23 rfl rfl)
theorem dX12_sure_42 : decode cX12_sure 42 = .ok (.aload_n 0, 1) := q_aload_n0 (bat_get dg_X12_sure_0_0 24 rfl rfl)
theorem dX12_sure_43 : decode cX12_sure 43 = .ok (.iload 4, 2) := q_iload (bat_get dg_X12_sure_0_0 25 rfl rfl)
theorem dX12_sure_45 : decode cX12_sure 45 = .ok (.invokevirtual 460, 3) := q_invokevirtual (bat_get dg_X12_sure_0_0 26 rfl rfl) rfl
theorem dX12_sure_48 : decode cX12_sure 48 = .ok (.invokestatic 409, 3) := q_invokestatic (bat_get dg_X12_sure_0_0 27 rfl rfl) rfl
theorem dX12_sure_51 : decode cX12_sure 51 = .ok (.iconst 1, 1) := q_iconst1 (bat_get dg_X12_sure_0_0 28 rfl rfl)
theorem dX12_sure_52 : decode cX12_sure 52 = .ok (.if_icmp .ne 12, 3) := q_if_icmp_ne (bat_get dg_X12_sure_0_0 29 rfl rfl) rfl
theorem dX12_sure_55 : decode cX12_sure 55 = .ok (.iinc 3 1, 3) := q_iinc (bat_get dg_X12_sure_0_0 30 rfl rfl) rfl
theorem dX12_sure_58 : decode cX12_sure 58 = .ok (.iinc 4 1, 3) := q_iinc (bat_get dg_X12_sure_0_0 31 rfl rfl) rfl
theorem dX12_sure_61 : decode cX12_sure 61 = .ok (.goto (-28), 3) := q_goto (bat_get dg_X12_sure_0_0 32 rfl rfl) rfl
theorem dX12_sure_26 : decode cX12_sure 26 = .ok (.iconst (-1), 1) := q_iconstm1 (bat_get dg_X12_sure_0_0 33 rfl rfl)
theorem dX12_sure_27 : decode cX12_sure 27 = .ok (.ireturn, 1) := q_ireturn (bat_get dg_X12_sure_0_0 34 rfl rfl)
theorem dX12_sure_9 : decode cX12_sure 9 = .ok (.iconst (-1), 1) := q_iconstm1 (bat_get dg_X12_sure_0_0 35 rfl rfl)
theorem dX12_sure_10 : decode cX12_sure 10 = .ok (.ireturn, 1) := q_ireturn (bat_get dg_X12_sure_0_0 36 rfl rfl)
theorem w_8_92 : (Cond.code yX12_sure cX12_sure 5 (some .int)) ∈ wsL_law := sk_mem (ck_8 _ (List.mem_of_getElem? (i := 92) rfl)) rfl
set_option maxHeartbeats 4000000 in
set_option maxRecDepth 100000 in
theorem c_vm_sure (l : Launch) (D : va_G) (cI cJ cC cZ cS : ClassId) (mm : Nat) (g : Nat → Nat) (ta : Nat) (pa : Nat) (pe : Nat) (pd : Int32) (pb : Nat) (pp : Int32) (pf : Int32) (pg : Int32) (pn : Int32) (rt : Int32) (rn : Int32) (cd : Nat) (sn : Int32) (il : Nat) (tk : Int32) (am : Int32) (at_ : Int32) (aa : Int32) (wt : Int32) (wy : Int64) (rm : Nat) (ud : Nat) (nu : Nat) (sd : Int64) (qn : Nat) (qw : Nat) (qo : Int32) (qb : Nat) (qp : Nat) (qa : Int64) (qi : Nat) (oc : Nat) (d : Int32) (w : Int32) (u0 : Int32) (u1 : Int32) (u2 : Int32) (u3 : Int32) (u4 : Int32) (u5 : Int32) (v0 : Int32) (v1 : Int32) (v2 : Int32) (v3 : Int32) (v4 : Int32) (v5 : Int32) (cs : Nat → Nat) (nw : Nat → Int32) (pt : Nat → Nat) (ql : Nat → Int64) (l0 : Nat) (l1 : Nat) (dm : Nat) (l3 : Nat) (ws_ : Nat → Int32) (yw : Nat → Int32) (yo : Nat → Int32) (be : Nat → Int64) (bf : Nat → Int64) (wn : Nat) (mN : Nat) (Ba : Nat → Nat) (We : Nat → Nat) (U : Nat → Bool) (ke : Nat) (lg : KLg) (L : LkS) (hil : il ≤ 1) (hild : il = 1 → 1 ≤ dm) (hilb : 1 ≤ dm → il = 1) (hdm : dm ≤ 9) (hLk : kcLk L) (hkl : (lK L).length ≤ 1600) (hmw0 : mwO L 0 u3 v3 cs) (hmw1 : mwO L 1 u4 v4 cs) (hB9 : ∀ j, Ba j ≤ 9) (hW9 : ∀ j, We j ≤ 9) (hwk : wn ≤ 999) (hcs : ∀ j, cs j ≤ 20000) (hnw : nwX wn mN Ba We U ke lg nw) (hpt : ∀ j, pt j ≤ 9) : skM l yX12_sure cX12_sure 5 (some .int) 6 144 0 0 D (skT cI cJ cC cZ cS) [.ref mm, .int d, .int w] [ro_ mm 12 (mo g (nI ta) (nI pa) (nI pe) pd (nI pb) pp pf pg pn rt rn (nI cd) sn (nI il) tk am at_ aa 0 0 (-1) wt wy 0 (nI rm) (nI ud) (nI nu) sd (nI qn) (nI qw) qo (nI qb) (nI qp) qa (nI qi) (nI oc)), ra_I (g 24) cI 6 (l6 u0 u1 u2 u3 u4 u5), ra_I (g 25) cI 6 (l6 v0 v1 v2 v3 v4 v5), ra_N (g 26) cI 3200 cs, ra_I (g 31) cI 120 nw, ra_N (g 46) cI 9 pt, ra_J (g 86) cJ 1700 ql, ra_I (g 20) cI 4 (l4 (nI l0) (nI l1) (nI dm) (nI l3)), ra_I (g 38) cI 90 ws_, ra_I (g 36) cZ 900 yw, ra_I (g 37) cZ 900 yo, ra_J (g 43) cJ 90 be, ra_J (g 44) cJ 90 bf] (skI D (skT cI cJ cC cZ cS) (fun (r : Int32) (u : va_W) => ∃ (tk2 : Int32), ∃ (qp2 : Nat), ∃ (am2 : Int32), ∃ (at_2 : Int32), ∃ (aa2 : Int32), ∃ (wy2 : Int64), ∃ (wt2 : Int32), ∃ (ql2 : Nat → Int64), ∃ (ws_2 : Nat → Int32), ∃ (yw2 : Nat → Int32), ∃ (yo2 : Nat → Int32), ∃ (be2 : Nat → Int64), ∃ (bf2 : Nat → Int64), sureR (kcFo L wn Ba We U 0) (kSd L wn Ba We) dm mN U d w r ∧ u = [ro_ mm 12 (mo g (nI ta) (nI pa) (nI pe) pd (nI pb) pp pf pg pn rt rn (nI cd) sn (nI il) tk2 am2 at_2 aa2 0 0 (-1) wt2 wy2 0 (nI rm) (nI ud) (nI nu) sd (nI qn) (nI qw) qo (nI qb) (nI qp2) qa (nI qi) (nI oc)), ra_I (g 24) cI 6 (l6 u0 u1 u2 u3 u4 u5), ra_I (g 25) cI 6 (l6 v0 v1 v2 v3 v4 v5), ra_N (g 26) cI 3200 cs, ra_I (g 31) cI 120 nw, ra_N (g 46) cI 9 pt, ra_J (g 86) cJ 1700 ql2, ra_I (g 20) cI 4 (l4 (nI l0) (nI l1) (nI dm) (nI l3)), ra_I (g 38) cI 90 ws_2, ra_I (g 36) cZ 900 yw2, ra_I (g 37) cZ 900 yo2, ra_J (g 43) cJ 90 be2, ra_J (g 44) cJ 90 bf2])) := by
  refine skM_of pf_X12_sure (Nat.le_of_ble_eq_true rfl) ?_
  intro p e s m below meth c A ls E hP hD hl
  refine skE_el E (fun hx hb hr hml hlocks hin hown hts hK hA => ?_)
  have hown : s.vm.findClass RX12 = some m.cls := hown
  have hS : va_S A s.heap s.heap [] := va_S.rf
  have hl : lv_has ls 5 [(0, .ref mm), (1, .int d), (2, .int w)] := hl
  refine lv_aload_n hx hb dX12_sure_0 rfl (lv_at hl 0 rfl) ?_
  refine lv_iload_n hx hb dX12_sure_1 rfl (lv_at hl 1 rfl) ?_
  refine lv_iload_n hx hb dX12_sure_2 rfl (lv_at hl 2 rfl) ?_
  refine sk_Vi (q0 := 0) (n := 2) (rest := []) (wr := fmR om_13_1120 _) ⟨hx, hb, hml, hown, hts⟩ hl.1 (c_vm_canBeToldI l D cI cJ cC cZ cS mm g ta pa pe pd pb pp pf pg pn rt rn cd sn il tk am at_ aa wt wy rm ud nu sd qn qw qo qb qp qa qi oc d w l0 l1 dm l3 nw wn mN Ba We U ke lg hdm hnw) w_8_77 w_8_79 w_0_101 w_1_14 w_8_80 hd_X12_canBeTold_2 ⟨⟨(Nat.le_of_ble_eq_true rfl), (Nat.le_of_ble_eq_true rfl)⟩, (Nat.le_of_ble_eq_true rfl), (Nat.le_of_ble_eq_true rfl)⟩ hK hP hD hS hA [0, 7, 4] (fmF om_13_1120 0) rfl (fm_R rfl rfl) (by decide +kernel) (fm_nF om_13_1120 0) (by decide +kernel) rfl rfl rfl rfl (Nat.le_of_ble_eq_true rfl) dX12_sure_3 (fun r_2 u H locs hw hP hD hS => ?_)
  refine exE hw (fun b_1 hw1 => anE hw1 (fun hwo_3 hw2 => anE hw2 (fun er_5 eu_4 => ?_)))
  clear hw hw1 hw2
  subst er_5
  refine o_mgqE (ux := [ro_ mm 12 (mo g (nI ta) (nI pa) (nI pe) pd (nI pb) pp pf pg pn rt rn (nI cd) sn (nI il) tk am at_ aa 0 0 (-1) wt wy 0 (nI rm) (nI ud) (nI nu) sd (nI qn) (nI qw) qo (nI qb) (nI qp) qa (nI qi) (nI oc)), ra_I (g 31) cI 120 nw, ra_I (g 20) cI 4 (l4 (nI l0) (nI l1) (nI dm) (nI l3))]) (ws' := [ro_ mm 12 (mo g (nI ta) (nI pa) (nI pe) pd (nI pb) pp pf pg pn rt rn (nI cd) sn (nI il) tk am at_ aa 0 0 (-1) wt wy 0 (nI rm) (nI ud) (nI nu) sd (nI qn) (nI qw) qo (nI qb) (nI qp) qa (nI qi) (nI oc)), ra_I (g 24) cI 6 (l6 u0 u1 u2 u3 u4 u5), ra_I (g 25) cI 6 (l6 v0 v1 v2 v3 v4 v5), ra_N (g 26) cI 3200 cs, ra_I (g 31) cI 120 nw, ra_N (g 46) cI 9 pt, ra_J (g 86) cJ 1700 ql, ra_I (g 20) cI 4 (l4 (nI l0) (nI l1) (nI dm) (nI l3)), ra_I (g 38) cI 90 ws_, ra_I (g 36) cZ 900 yw, ra_I (g 37) cZ 900 yo, ra_J (g 43) cJ 90 be, ra_J (g 44) cJ 90 bf]) eu_4 [0, 2, 1] (by decide +kernel) rfl hP hD rfl (fun hP hD => ?_)
  refine lv_if_ne (tgt := 11) hx hb dX12_sure_6 (by decide) (fun c_6 => ?_) (fun c_6 => ?_)
  · have c_6 : ¬ (b_1 = 0) := fun h => c_6 ((neq b_1 0 (by omega) (Nat.le_of_ble_eq_true rfl)).mpr h)
    obtain ⟨⟨ka_7, kb_8⟩, hx_9⟩ := rr_1 hwo_3 (by omega)
    have hka_7 : ka_7 < dm := hx_9.1
    have hkb_8 : kb_8 < 10 := hx_9.2.2.2.1
    have nka_7 : ¬ U ka_7 = true := hx_9.2.2.1
    have ed_ : d = nI ka_7 := hx_9.2.1
    have ew_ : w = nI kb_8 := hx_9.2.2.2.2
    subst ed_
    subst ew_
    refine lv_aload_n hx hb dX12_sure_11 rfl (lv_at hl 0 rfl) ?_
    refine lv_iload_n hx hb dX12_sure_12 rfl (lv_at hl 1 rfl) ?_
    refine lv_iload_n hx hb dX12_sure_13 rfl (lv_at hl 2 rfl) ?_
    refine sk_Vv (q0 := 0) (n := 2) (rest := []) (wr := fmR om_13_1fff _) ⟨hx, hb, hml, hown, hts⟩ hl.1 (c_vm_laysByWordX l D cI cJ cC cZ cS mm g ta pa pe pd pb pp pf pg pn rt rn cd sn il tk am at_ aa wt wy rm ud nu sd qn qw qo qb qp qa qi oc ka_7 kb_8 u0 u1 u2 u3 u4 u5 v0 v1 v2 v3 v4 v5 cs nw pt ql l0 l1 dm l3 ws_ yw yo be bf wn mN Ba We U ke lg L hdm (by omega) hLk hkl hmw0 hmw1 hB9 hW9 hwk (by omega) (by omega) hcs hnw hpt) w_8_81 w_8_83 w_0_102 w_1_14 w_8_84 hd_X12_laysByWord_2 ⟨⟨(Nat.le_of_ble_eq_true rfl), (Nat.le_of_ble_eq_true rfl)⟩, (Nat.le_of_ble_eq_true rfl), (Nat.le_of_ble_eq_true rfl)⟩ hK hP hD hS hA (fmT om_13_1fff 0) (fmF om_13_1fff 0) (fm_C1 rfl rfl) (fm_R rfl rfl) (fm_nT om_13_1fff 0) (fm_nF om_13_1fff 0) (fm_di om_13_1fff 0) rfl rfl rfl rfl (Nat.le_of_ble_eq_true rfl) dX12_sure_14 (fun u H locs hw hP hD hS => ?_)
    refine exE hw (fun tk2_10 hw1 => exE hw1 (fun qp2_11 hw2 => exE hw2 (fun am2_12 hw3 => exE hw3 (fun at_2_13 hw4 => exE hw4 (fun aa2_14 hw5 => exE hw5 (fun wy2_15 hw6 => exE hw6 (fun ql2_16 hw7 => exE hw7 (fun ws_2_17 hw8 => exE hw8 (fun yw2_18 hw9 => exE hw9 (fun yo2_19 hw10 => exE hw10 (fun be2_20 hw11 => exE hw11 (fun bf2_21 hw12 => anE hw12 (fun hmw_22 hw13 => anE hw13 (fun hwy_23 eu_24 => ?_))))))))))))))
    clear hw hw1 hw2 hw3 hw4 hw5 hw6 hw7 hw8 hw9 hw10 hw11 hw12 hw13
    refine o_mgE (ws' := [ro_ mm 12 (mo g (nI ta) (nI pa) (nI pe) pd (nI pb) pp pf pg pn rt rn (nI cd) sn (nI il) tk2_10 am2_12 at_2_13 aa2_14 0 0 (-1) (nI kb_8) wy2_15 0 (nI rm) (nI ud) (nI nu) sd (nI qn) (nI qw) qo (nI qb) (nI qp2_11) qa (nI qi) (nI oc)), ra_I (g 24) cI 6 (l6 u0 u1 u2 u3 u4 u5), ra_I (g 25) cI 6 (l6 v0 v1 v2 v3 v4 v5), ra_N (g 26) cI 3200 cs, ra_I (g 31) cI 120 nw, ra_N (g 46) cI 9 pt, ra_J (g 86) cJ 1700 ql2_16, ra_I (g 20) cI 4 (l4 (nI l0) (nI l1) (nI dm) (nI l3)), ra_I (g 38) cI 90 ws_2_17, ra_I (g 36) cZ 900 yw2_18, ra_I (g 37) cZ 900 yo2_19, ra_J (g 43) cJ 90 be2_20, ra_J (g 44) cJ 90 bf2_21]) eu_24 hP hD rfl (fun hP hD => ?_)
    refine lv_aload_n hx hb dX12_sure_17 rfl (lv_at hl 0 rfl) ?_
    refine sk_get (v := .long wy2_15) (C := RX12) (T := TX12) (N := 92) hx hb hts inlX12 hown hK hP 0 rfl rfl 45 (Nat.le_of_ble_eq_true rfl) w_5_200 rfl dX12_sure_18 ?_
    refine lv_lconst (v := 0) hx hb dX12_sure_21 (by decide) ?_
    refine W.lcmp hx hb dX12_sure_22 ?_
    refine lv_if_ne (tgt := 28) hx hb dX12_sure_23 (by decide) (fun c_25 => ?_) (fun c_25 => ?_)
    · have hpos : 0 < kcC (kcFw (kcFo L wn Ba We U 0) (kSd L wn Ba We) ka_7 kb_8) dm 0 mN := Nat.pos_of_ne_zero (fun hq => c_25 (by rw [hwy_23, hq]; rfl))
      refine lv_iconst (v := 0) hx hb dX12_sure_28 ic_0 ?_
      refine lv_istore_n (lv' := [(3, .int 0), (0, .ref mm), (1, .int (nI ka_7)), (2, .int (nI kb_8))]) hx hb dX12_sure_29 rfl hl (by decide) rfl (fun ls hl => ?_)
      refine lv_iload_n hx hb dX12_sure_30 rfl (lv_at hl 2 rfl) ?_
      refine lv_istore (lv' := [(4, .int (nI ka_7)), (3, .int 0), (0, .ref mm), (1, .int (nI ka_7)), (2, .int (nI kb_8))]) hx hb dX12_sure_31 hl (by decide) rfl (fun ls hl => ?_)
      have lp_26 : ∀ (n_27 : Nat) (i : Nat) (su : Nat) (H : Heap) (locs : List Loc) (ls : Array Slot), dm - i < n_27 → (i ≤ dm) → (su + kSu (sureP (kcFw (kcFo L wn Ba We U 0) (kSd L wn Ba We) ka_7 kb_8) dm mN) (dm - i) i = kSu (sureP (kcFw (kcFo L wn Ba We U 0) (kSd L wn Ba We) ka_7 kb_8) dm mN) (dm - ka_7) ka_7) → va_P D vwCl [ro_ mm 12 (mo g (nI ta) (nI pa) (nI pe) pd (nI pb) pp pf pg pn rt rn (nI cd) sn (nI il) tk2_10 am2_12 at_2_13 aa2_14 0 0 (-1) (nI kb_8) wy2_15 0 (nI rm) (nI ud) (nI nu) sd (nI qn) (nI qw) qo (nI qb) (nI qp2_11) qa (nI qi) (nI oc)), ra_I (g 24) cI 6 (l6 u0 u1 u2 u3 u4 u5), ra_I (g 25) cI 6 (l6 v0 v1 v2 v3 v4 v5), ra_N (g 26) cI 3200 cs, ra_I (g 31) cI 120 nw, ra_N (g 46) cI 9 pt, ra_J (g 86) cJ 1700 ql2_16, ra_I (g 20) cI 4 (l4 (nI l0) (nI l1) (nI dm) (nI l3)), ra_I (g 38) cI 90 ws_2_17, ra_I (g 36) cZ 900 yw2_18, ra_I (g 37) cZ 900 yo2_19, ra_J (g 43) cJ 90 be2_20, ra_J (g 44) cJ 90 bf2_21] H → va_D A [ro_ mm 12 (mo g (nI ta) (nI pa) (nI pe) pd (nI pb) pp pf pg pn rt rn (nI cd) sn (nI il) tk2_10 am2_12 at_2_13 aa2_14 0 0 (-1) (nI kb_8) wy2_15 0 (nI rm) (nI ud) (nI nu) sd (nI qn) (nI qw) qo (nI qb) (nI qp2_11) qa (nI qi) (nI oc)), ra_I (g 24) cI 6 (l6 u0 u1 u2 u3 u4 u5), ra_I (g 25) cI 6 (l6 v0 v1 v2 v3 v4 v5), ra_N (g 26) cI 3200 cs, ra_I (g 31) cI 120 nw, ra_N (g 46) cI 9 pt, ra_J (g 86) cJ 1700 ql2_16, ra_I (g 20) cI 4 (l4 (nI l0) (nI l1) (nI dm) (nI l3)), ra_I (g 38) cI 90 ws_2_17, ra_I (g 36) cZ 900 yw2_18, ra_I (g 37) cZ 900 yo2_19, ra_J (g 43) cJ 90 be2_20, ra_J (g 44) cJ 90 bf2_21] → va_S A s.heap H locs → lv_has ls 5 [(4, .int (nI i)), (3, .int (nI su)), (0, .ref mm), (1, .int (nI ka_7)), (2, .int (nI kb_8))] → W p l e { frames := 6, cells := 0, slots := 0, locals := 144 } s m ([.ref mm, .int (nI ka_7), .int (nI kb_8)] : List Value).toArray below meth c H locs 0 0 (MQ below (skI D (skT cI cJ cC cZ cS) (fun (r : Int32) (u : va_W) => ∃ (tk2 : Int32), ∃ (qp2 : Nat), ∃ (am2 : Int32), ∃ (at_2 : Int32), ∃ (aa2 : Int32), ∃ (wy2 : Int64), ∃ (wt2 : Int32), ∃ (ql2 : Nat → Int64), ∃ (ws_2 : Nat → Int32), ∃ (yw2 : Nat → Int32), ∃ (yo2 : Nat → Int32), ∃ (be2 : Nat → Int64), ∃ (bf2 : Nat → Int64), sureR (kcFo L wn Ba We U 0) (kSd L wn Ba We) dm mN U (nI ka_7) (nI kb_8) r ∧ u = [ro_ mm 12 (mo g (nI ta) (nI pa) (nI pe) pd (nI pb) pp pf pg pn rt rn (nI cd) sn (nI il) tk2 am2 at_2 aa2 0 0 (-1) wt2 wy2 0 (nI rm) (nI ud) (nI nu) sd (nI qn) (nI qw) qo (nI qb) (nI qp2) qa (nI qi) (nI oc)), ra_I (g 24) cI 6 (l6 u0 u1 u2 u3 u4 u5), ra_I (g 25) cI 6 (l6 v0 v1 v2 v3 v4 v5), ra_N (g 26) cI 3200 cs, ra_I (g 31) cI 120 nw, ra_N (g 46) cI 9 pt, ra_J (g 86) cJ 1700 ql2, ra_I (g 20) cI 4 (l4 (nI l0) (nI l1) (nI dm) (nI l3)), ra_I (g 38) cI 90 ws_2, ra_I (g 36) cZ 900 yw2, ra_I (g 37) cZ 900 yo2, ra_J (g 43) cJ 90 be2, ra_J (g 44) cJ 90 bf2]) A) ([.ref mm, .int (nI ka_7), .int (nI kb_8)] : List Value).toArray s 0 0 A) (F0 m 33 ls []) := by
        intro n_27
        induction n_27 with
        | zero => intro i su H locs ls hm; exact absurd hm (Nat.not_lt_zero _)
        | succ n_27 ih_lp_26 =>
          intro i su H locs ls hm hi hsu hP hD hS hl
          refine lv_iload hx hb dX12_sure_33 (lv_at hl 0 rfl) ?_
          refine lv_aload_n hx hb dX12_sure_35 rfl (lv_at hl 2 rfl) ?_
          refine sk_Vi (q0 := 0) (n := 0) (rest := [.int (nI i)]) (wr := fmR om_13_1020 _) ⟨hx, hb, hml, hown, hts⟩ hl.1 (c_m_dayMany l D cI cJ cC cZ cS mm g ta pa pe pd pb pp pf pg pn rt rn cd sn il tk2_10 am2_12 at_2_13 aa2_14 0 0 (-1) (nI kb_8) wy2_15 0 rm ud nu sd qn qw qo qb qp2_11 qa qi oc l0 l1 dm l3) w_7_98 w_7_100 w_0_69 w_1_14 w_7_101 hd_X12_dayMany_0 ⟨⟨(Nat.le_of_ble_eq_true rfl), (Nat.le_of_ble_eq_true rfl)⟩, (Nat.le_of_ble_eq_true rfl), (Nat.le_of_ble_eq_true rfl)⟩ hK hP hD hS hA (fmT om_13_1020 0) (fmF om_13_1020 0) (fm_C1 rfl rfl) (fm_R rfl rfl) (fm_nT om_13_1020 0) (fm_nF om_13_1020 0) (fm_di om_13_1020 0) rfl rfl rfl rfl (Nat.le_of_ble_eq_true rfl) dX12_sure_36 (fun r_28 u H locs hw hP hD hS => ?_)
          refine anE hw (fun er_30 eu_29 => ?_)
          clear hw
          subst er_30
          refine o_mgE (ws' := [ro_ mm 12 (mo g (nI ta) (nI pa) (nI pe) pd (nI pb) pp pf pg pn rt rn (nI cd) sn (nI il) tk2_10 am2_12 at_2_13 aa2_14 0 0 (-1) (nI kb_8) wy2_15 0 (nI rm) (nI ud) (nI nu) sd (nI qn) (nI qw) qo (nI qb) (nI qp2_11) qa (nI qi) (nI oc)), ra_I (g 24) cI 6 (l6 u0 u1 u2 u3 u4 u5), ra_I (g 25) cI 6 (l6 v0 v1 v2 v3 v4 v5), ra_N (g 26) cI 3200 cs, ra_I (g 31) cI 120 nw, ra_N (g 46) cI 9 pt, ra_J (g 86) cJ 1700 ql2_16, ra_I (g 20) cI 4 (l4 (nI l0) (nI l1) (nI dm) (nI l3)), ra_I (g 38) cI 90 ws_2_17, ra_I (g 36) cZ 900 yw2_18, ra_I (g 37) cZ 900 yo2_19, ra_J (g 43) cJ 90 be2_20, ra_J (g 44) cJ 90 bf2_21]) eu_29 hP hD rfl (fun hP hD => ?_)
          refine lv_icmp_ge (tgt := 64) hx hb dX12_sure_39 (by decide) (fun c_31 => ?_) (fun c_31 => ?_)
          · have c_31 : dm ≤ i := (nle dm i (by omega) (by omega)).mp c_31
            refine lv_iload_n hx hb dX12_sure_64 rfl (lv_at hl 1 rfl) ?_
            exact sk_iret hx hb hr rfl hlocks hK hP hD hS (⟨tk2_10, qp2_11, am2_12, at_2_13, aa2_14, wy2_15, nI kb_8, ql2_16, ws_2_17, yw2_18, yo2_19, be2_20, bf2_21, sur_2 hx_9 hpos (ksu_e hsu (by omega)), rfl⟩) (Nat.le_of_ble_eq_true rfl) (Nat.le_of_ble_eq_true rfl) dX12_sure_65
          · have c_31 : ¬ (dm ≤ i) := fun h => c_31 ((nle dm i (by omega) (by omega)).mpr h)
            refine lv_aload_n hx hb dX12_sure_42 rfl (lv_at hl 2 rfl) ?_
            refine lv_iload hx hb dX12_sure_43 (lv_at hl 0 rfl) ?_
            refine sk_Vi (q0 := 0) (n := 1) (rest := []) (wr := fmR om_13_1003 _) ⟨hx, hb, hml, hown, hts⟩ hl.1 (c_vm_moodsOf l D cI cJ cC cZ cS mm g ta pa pe pd pb pp pf pg pn rt rn cd sn il tk2_10 am2_12 at_2_13 aa2_14 (nI kb_8) wy2_15 rm ud nu sd qn qw qo qb qp2_11 qa qi oc i be2_20 bf2_21 (kcFw (kcFo L wn Ba We U 0) (kSd L wn Ba We) ka_7 kb_8) dm mN hdm (by omega) hmw_22) w_8_85 w_8_87 w_0_103 w_1_14 w_8_88 hd_X12_moodsOf_1 ⟨⟨(Nat.le_of_ble_eq_true rfl), (Nat.le_of_ble_eq_true rfl)⟩, (Nat.le_of_ble_eq_true rfl), (Nat.le_of_ble_eq_true rfl)⟩ hK hP hD hS hA (fmT om_13_1003 0) (fmF om_13_1003 0) (fm_C1 rfl rfl) (fm_R rfl rfl) (fm_nT om_13_1003 0) (fm_nF om_13_1003 0) (fm_di om_13_1003 0) rfl rfl rfl rfl (Nat.le_of_ble_eq_true rfl) dX12_sure_45 (fun r_32 u H locs hw hP hD hS => ?_)
            refine anE hw (fun er_34 eu_33 => ?_)
            clear hw
            subst er_34
            refine o_mgE (ws' := [ro_ mm 12 (mo g (nI ta) (nI pa) (nI pe) pd (nI pb) pp pf pg pn rt rn (nI cd) sn (nI il) tk2_10 am2_12 at_2_13 aa2_14 0 0 (-1) (nI kb_8) wy2_15 0 (nI rm) (nI ud) (nI nu) sd (nI qn) (nI qw) qo (nI qb) (nI qp2_11) qa (nI qi) (nI oc)), ra_I (g 24) cI 6 (l6 u0 u1 u2 u3 u4 u5), ra_I (g 25) cI 6 (l6 v0 v1 v2 v3 v4 v5), ra_N (g 26) cI 3200 cs, ra_I (g 31) cI 120 nw, ra_N (g 46) cI 9 pt, ra_J (g 86) cJ 1700 ql2_16, ra_I (g 20) cI 4 (l4 (nI l0) (nI l1) (nI dm) (nI l3)), ra_I (g 38) cI 90 ws_2_17, ra_I (g 36) cZ 900 yw2_18, ra_I (g 37) cZ 900 yo2_19, ra_J (g 43) cJ 90 be2_20, ra_J (g 44) cJ 90 bf2_21]) eu_33 hP hD rfl (fun hP hD => ?_)
            refine sk_Si (n := 1) (rest := []) (wr := [ro_ mm 12 (mo g (nI ta) (nI pa) (nI pe) pd (nI pb) pp pf pg pn rt rn (nI cd) sn (nI il) tk2_10 am2_12 at_2_13 aa2_14 0 0 (-1) (nI kb_8) wy2_15 0 (nI rm) (nI ud) (nI nu) sd (nI qn) (nI qw) qo (nI qb) (nI qp2_11) qa (nI qi) (nI oc)), ra_I (g 24) cI 6 (l6 u0 u1 u2 u3 u4 u5), ra_I (g 25) cI 6 (l6 v0 v1 v2 v3 v4 v5), ra_N (g 26) cI 3200 cs, ra_I (g 31) cI 120 nw, ra_N (g 46) cI 9 pt, ra_J (g 86) cJ 1700 ql2_16, ra_I (g 20) cI 4 (l4 (nI l0) (nI l1) (nI dm) (nI l3)), ra_I (g 38) cI 90 ws_2_17, ra_I (g 36) cZ 900 yw2_18, ra_I (g 37) cZ 900 yo2_19, ra_J (g 43) cJ 90 be2_20, ra_J (g 44) cJ 90 bf2_21]) ⟨hx, hb, hml, hown, hts⟩ hl.1 (c_vm_bitsT l D cI cJ cC cZ cS (kcMs (kcFw (kcFo L wn Ba We U 0) (kSd L wn Ba We) ka_7 kb_8) dm mN i) (kms_lt _ _ _ _)) w_7_110 w_7_111 w_1_14 w_7_112 hd_X12_bits_1 ⟨⟨(Nat.le_of_ble_eq_true rfl), (Nat.le_of_ble_eq_true rfl)⟩, (Nat.le_of_ble_eq_true rfl), (Nat.le_of_ble_eq_true rfl)⟩ hK hP hD hS hA [] [0, 1, 2, 3, 4, 5, 6, 7, 8, 9, 10, 11, 12] rfl rfl (by decide +kernel) (by decide +kernel) (by decide +kernel) rfl rfl (Nat.le_of_ble_eq_true rfl) dX12_sure_48 (fun r_35 u H locs hw hP hD hS => ?_)
            obtain ⟨hr_36, rfl⟩ := hw
            refine o_re (ws' := [ro_ mm 12 (mo g (nI ta) (nI pa) (nI pe) pd (nI pb) pp pf pg pn rt rn (nI cd) sn (nI il) tk2_10 am2_12 at_2_13 aa2_14 0 0 (-1) (nI kb_8) wy2_15 0 (nI rm) (nI ud) (nI nu) sd (nI qn) (nI qw) qo (nI qb) (nI qp2_11) qa (nI qi) (nI oc)), ra_I (g 24) cI 6 (l6 u0 u1 u2 u3 u4 u5), ra_I (g 25) cI 6 (l6 v0 v1 v2 v3 v4 v5), ra_N (g 26) cI 3200 cs, ra_I (g 31) cI 120 nw, ra_N (g 46) cI 9 pt, ra_J (g 86) cJ 1700 ql2_16, ra_I (g 20) cI 4 (l4 (nI l0) (nI l1) (nI dm) (nI l3)), ra_I (g 38) cI 90 ws_2_17, ra_I (g 36) cZ 900 yw2_18, ra_I (g 37) cZ 900 yo2_19, ra_J (g 43) cJ 90 be2_20, ra_J (g 44) cJ 90 bf2_21]) hP hD rfl (fun hP hD => ?_)
            subst hr_36
            refine lv_iconst (v := 1) hx hb dX12_sure_51 ic_1 ?_
            refine lv_icmp_ne (tgt := 64) hx hb dX12_sure_52 (by decide) (fun c_37 => ?_) (fun c_37 => ?_)
            · skip
              refine lv_iload_n hx hb dX12_sure_64 rfl (lv_at hl 1 rfl) ?_
              exact sk_iret hx hb hr rfl hlocks hK hP hD hS (⟨tk2_10, qp2_11, am2_12, at_2_13, aa2_14, wy2_15, nI kb_8, ql2_16, ws_2_17, yw2_18, yo2_19, be2_20, bf2_21, sur_2 hx_9 hpos (ksu_n hsu (by omega) (ksp_0 c_37)), rfl⟩) (Nat.le_of_ble_eq_true rfl) (Nat.le_of_ble_eq_true rfl) dX12_sure_65
            · skip
              refine lv_iinc (v := nI (su + 1)) (lv' := [(3, .int (nI (su + 1))), (4, .int (nI i)), (0, .ref mm), (1, .int (nI ka_7)), (2, .int (nI kb_8))]) hx hb dX12_sure_55 hl (k := 1) rfl (ninc su 1 (by decide)) (by decide) rfl (fun ls hl => ?_)
              refine lv_iinc (v := nI (i + 1)) (lv' := [(4, .int (nI (i + 1))), (3, .int (nI (su + 1))), (0, .ref mm), (1, .int (nI ka_7)), (2, .int (nI kb_8))]) hx hb dX12_sure_58 hl (k := 1) rfl (ninc i 1 (by decide)) (by decide) rfl (fun ls hl => ?_)
              refine lv_goto (tgt := 33) hx hb dX12_sure_61 (by decide) ?_
              exact ih_lp_26 (i + 1) (su + 1) _ _ _ (by omega) (by omega) (ksu_y hsu (by omega) (ksp_1 c_37)) hP hD hS (lv_sub hl [0, 1, 2, 3, 4] rfl)
      exact lp_26 (dm - ka_7 + 1) ka_7 0 _ _ _ (Nat.lt_succ_self _) (by omega) (Nat.zero_add _) hP hD hS (lv_sub hl [0, 1, 2, 3, 4] rfl)
    · have hz0 : kcC (kcFw (kcFo L wn Ba We U 0) (kSd L wn Ba We) ka_7 kb_8) dm 0 mN = 0 := kz_0 (by rw [← hwy_23]; exact c_25) (by have := kcC_9 (kcFw (kcFo L wn Ba We U 0) (kSd L wn Ba We) ka_7 kb_8) hdm 0 mN; omega)
      refine lv_iconst (v := (-1)) hx hb dX12_sure_26 (by decide) ?_
      exact sk_iret hx hb hr rfl hlocks hK hP hD hS (⟨tk2_10, qp2_11, am2_12, at_2_13, aa2_14, wy2_15, nI kb_8, ql2_16, ws_2_17, yw2_18, yo2_19, be2_20, bf2_21, sur_1 (by omega) hx_9 hz0, rfl⟩) (Nat.le_of_ble_eq_true rfl) (Nat.le_of_ble_eq_true rfl) dX12_sure_27
  · have c_6 : b_1 = 0 := (neq b_1 0 (by omega) (Nat.le_of_ble_eq_true rfl)).mp c_6
    refine lv_iconst (v := (-1)) hx hb dX12_sure_9 (by decide) ?_
    exact sk_iret hx hb hr rfl hlocks hK hP hD hS (⟨tk, qp, am, at_, aa, wy, wt, ql, ws_, yw, yo, be, bf, sur_0 (rr_0 hwo_3 (by omega)), rfl⟩) (Nat.le_of_ble_eq_true rfl) (Nat.le_of_ble_eq_true rfl) dX12_sure_10
theorem dg_X12_heard_0_0 : bqL cX12_heard 0 [(0, [42]), (1, [180, 1, 46]), (4, [154, 0, 7]), (11, [42]), (12, [182, 1, 210]), (15, [42]), (16, [180, 1, 126]), (19, [173]), (7, [20, 1, 165]), (10, [173])] = true := by decide +kernel
theorem dX12_heard_0 : decode cX12_heard 0 = .ok (.aload_n 0, 1) := q_aload_n0 (bat_get dg_X12_heard_0_0 0 rfl rfl)
theorem dX12_heard_1 : decode cX12_heard 1 = .ok (.getfield 302, 3) := q_getfield (bat_get dg_X12_heard_0_0 1 rfl rfl) rfl
theorem dX12_heard_4 : decode cX12_heard 4 = .ok (.ifCond .ne 7, 3) := q_ifCond_ne (bat_get dg_X12_heard_0_0 2 rfl rfl) rfl
theorem dX12_heard_11 : decode cX12_heard 11 = .ok (.aload_n 0, 1) := q_aload_n0 (bat_get dg_X12_heard_0_0 3 rfl rfl)
theorem dX12_heard_12 : decode cX12_heard 12 = .ok (.invokevirtual 466, 3) := q_invokevirtual (bat_get dg_X12_heard_0_0 4 rfl rfl) rfl
theorem dX12_heard_15 : decode cX12_heard 15 = .ok (.aload_n 0, 1) := q_aload_n0 (bat_get dg_X12_heard_0_0 5 rfl rfl)
theorem dX12_heard_16 : decode cX12_heard 16 = .ok (.getfield 382, 3) := q_getfield (bat_get dg_X12_heard_0_0 6 rfl rfl) rfl
theorem dX12_heard_19 : decode cX12_heard 19 = .ok (.lreturn, 1) := q_lreturn (bat_get dg_X12_heard_0_0 7 rfl rfl)
theorem dX12_heard_7 : decode cX12_heard 7 = .ok (.ldc2_w 421, 3) := q_ldc2_w (bat_get dg_X12_heard_0_0 8 rfl rfl) rfl
theorem dX12_heard_10 : decode cX12_heard 10 = .ok (.lreturn, 1) := q_lreturn (bat_get dg_X12_heard_0_0 9 rfl rfl)
theorem w_8_105 : (Cond.methodLink RX12 466 yX12_laysHeard) ∈ wsL_law := sk_mem (ck_8 _ (List.mem_of_getElem? (i := 105) rfl)) rfl
theorem w_8_107 : (Cond.instanceMethod yX12_laysHeard) ∈ wsL_law := sk_mem (ck_8 _ (List.mem_of_getElem? (i := 107) rfl)) rfl
theorem w_0_105 : (Cond.selects RX12 yX12_laysHeard yX12_laysHeard) ∈ wsL_law := sk_mem (ck_0 _ (List.mem_of_getElem? (i := 105) rfl)) rfl
theorem w_8_104 : (Cond.code yX12_heard cX12_heard 1 (some .long)) ∈ wsL_law := sk_mem (ck_8 _ (List.mem_of_getElem? (i := 104) rfl)) rfl
def om_14_3fff : List Bool := true :: true :: true :: true :: true :: true :: true :: true :: true :: true :: true :: true :: true :: true :: []
theorem hd_X12_laysHeard_0 : skD yX12_laysHeard 0 := by decide +kernel
set_option maxHeartbeats 4000000 in
set_option maxRecDepth 100000 in
theorem c_vm_heard (l : Launch) (D : va_G) (cI cJ cC cZ cS : ClassId) (mm : Nat) (g : Nat → Nat) (ta : Nat) (pa : Nat) (pe : Nat) (pd : Int32) (pb : Nat) (pp : Int32) (pf : Int32) (pg : Int32) (pn : Int32) (rt : Int32) (rn : Int32) (cd : Nat) (sn : Int32) (il : Nat) (tk : Int32) (am : Int32) (at_ : Int32) (aa : Int32) (wt : Int32) (wy : Int64) (rm : Nat) (ud : Nat) (nu : Nat) (sd : Int64) (qn : Nat) (qw : Nat) (qo : Int32) (qb : Nat) (qp : Nat) (qa : Int64) (qi : Nat) (oc : Nat) (u0 : Int32) (u1 : Int32) (u2 : Int32) (u3 : Int32) (u4 : Int32) (u5 : Int32) (v0 : Int32) (v1 : Int32) (v2 : Int32) (v3 : Int32) (v4 : Int32) (v5 : Int32) (cs : Nat → Nat) (nw : Nat → Int32) (pt : Nat → Nat) (ql : Nat → Int64) (l0 : Nat) (l1 : Nat) (dm : Nat) (l3 : Nat) (ws_ : Nat → Int32) (yw : Nat → Int32) (yo : Nat → Int32) (be : Nat → Int64) (bf : Nat → Int64) (rw_ : Nat → Int32) (wn : Nat) (mN : Nat) (Ba : Nat → Nat) (We : Nat → Nat) (U : Nat → Bool) (ke : Nat) (lg : KLg) (L : LkS) (hR : Nat → Nat) (hil : il ≤ 1) (hild : il = 1 → 1 ≤ dm) (hilb : 1 ≤ dm → il = 1) (hdm : dm ≤ 9) (hLk : kcLk L) (hkl : (lK L).length ≤ 1600) (hmw0 : mwO L 0 u3 v3 cs) (hmw1 : mwO L 1 u4 v4 cs) (hB9 : ∀ j, Ba j ≤ 9) (hW9 : ∀ j, We j ≤ 9) (hwk : wn ≤ 999) (hrw : ∀ j, j < rm → rw_ (2 * j) = nI (hR j / 10) ∧ rw_ (2 * j + 1) = nI (hR j % 10)) (hR90 : ∀ j, j < rm → hR j < 90) (hrm : rm ≤ 16) (hcs : ∀ j, cs j ≤ 20000) (hnw : nwX wn mN Ba We U ke lg nw) (hpt : ∀ j, pt j ≤ 9) : skM l yX12_heard cX12_heard 1 (some .long) 6 142 0 0 D (skT cI cJ cC cZ cS) [.ref mm] [ro_ mm 12 (mo g (nI ta) (nI pa) (nI pe) pd (nI pb) pp pf pg pn rt rn (nI cd) sn (nI il) tk am at_ aa 0 0 (-1) wt wy 0 (nI rm) (nI ud) (nI nu) sd (nI qn) (nI qw) qo (nI qb) (nI qp) qa (nI qi) (nI oc)), ra_I (g 24) cI 6 (l6 u0 u1 u2 u3 u4 u5), ra_I (g 25) cI 6 (l6 v0 v1 v2 v3 v4 v5), ra_N (g 26) cI 3200 cs, ra_I (g 31) cI 120 nw, ra_N (g 46) cI 9 pt, ra_J (g 86) cJ 1700 ql, ra_I (g 20) cI 4 (l4 (nI l0) (nI l1) (nI dm) (nI l3)), ra_I (g 38) cI 90 ws_, ra_I (g 36) cZ 900 yw, ra_I (g 37) cZ 900 yo, ra_J (g 43) cJ 90 be, ra_J (g 44) cJ 90 bf, ra_I (g 53) cI 32 rw_] (skL D (skT cI cJ cC cZ cS) (fun (r : Int64) (u : va_W) => ∃ (tk2 : Int32), ∃ (qp2 : Nat), ∃ (am2 : Int32), ∃ (at_2 : Int32), ∃ (aa2 : Int32), ∃ (wy2 : Int64), ∃ (ql2 : Nat → Int64), ∃ (ws_2 : Nat → Int32), ∃ (yw2 : Nat → Int32), ∃ (yo2 : Nat → Int32), ∃ (be2 : Nat → Int64), ∃ (bf2 : Nat → Int64), heardR (kcHd (kcFo L wn Ba We U 0) U (kSd L wn Ba We) hR rm) dm mN r ∧ u = [ro_ mm 12 (mo g (nI ta) (nI pa) (nI pe) pd (nI pb) pp pf pg pn rt rn (nI cd) sn (nI il) tk2 am2 at_2 aa2 0 0 (-1) wt wy2 0 (nI rm) (nI ud) (nI nu) sd (nI qn) (nI qw) qo (nI qb) (nI qp2) qa (nI qi) (nI oc)), ra_I (g 24) cI 6 (l6 u0 u1 u2 u3 u4 u5), ra_I (g 25) cI 6 (l6 v0 v1 v2 v3 v4 v5), ra_N (g 26) cI 3200 cs, ra_I (g 31) cI 120 nw, ra_N (g 46) cI 9 pt, ra_J (g 86) cJ 1700 ql2, ra_I (g 20) cI 4 (l4 (nI l0) (nI l1) (nI dm) (nI l3)), ra_I (g 38) cI 90 ws_2, ra_I (g 36) cZ 900 yw2, ra_I (g 37) cZ 900 yo2, ra_J (g 43) cJ 90 be2, ra_J (g 44) cJ 90 bf2, ra_I (g 53) cI 32 rw_])) := by
  refine skM_of pf_X12_heard (Nat.le_of_ble_eq_true rfl) ?_
  intro p e s m below meth c A ls E hP hD hl
  refine skE_el E (fun hx hb hr hml hlocks hin hown hts hK hA => ?_)
  have hown : s.vm.findClass RX12 = some m.cls := hown
  have hS : va_S A s.heap s.heap [] := va_S.rf
  have hl : lv_has ls 1 [(0, .ref mm)] := hl
  refine lv_aload_n hx hb dX12_heard_0 rfl (lv_at hl 0 rfl) ?_
  refine sk_get (v := .int (nI il)) (C := RX12) (T := TX12) (N := 92) hx hb hts inlX12 hown hK hP 0 rfl rfl 29 (Nat.le_of_ble_eq_true rfl) w_5_184 rfl dX12_heard_1 ?_
  refine lv_if_ne (tgt := 11) hx hb dX12_heard_4 (by decide) (fun c_1 => ?_) (fun c_1 => ?_)
  · have c_1 : ¬ (il = 0) := fun h => c_1 ((neq il 0 (by omega) (Nat.le_of_ble_eq_true rfl)).mpr h)
    refine lv_aload_n hx hb dX12_heard_11 rfl (lv_at hl 0 rfl) ?_
    refine sk_Vv (q0 := 0) (n := 0) (rest := []) (wr := fmR om_14_3fff _) ⟨hx, hb, hml, hown, hts⟩ hl.1 (c_vm_laysHeardX l D cI cJ cC cZ cS mm g ta pa pe pd pb pp pf pg pn rt rn cd sn il tk am at_ aa wt wy rm ud nu sd qn qw qo qb qp qa qi oc u0 u1 u2 u3 u4 u5 v0 v1 v2 v3 v4 v5 cs nw pt ql l0 l1 dm l3 ws_ yw yo be bf rw_ wn mN Ba We U ke lg L hR hdm (by omega) hLk hkl hmw0 hmw1 hB9 hW9 hwk hrw hR90 hrm hcs hnw hpt) w_8_105 w_8_107 w_0_105 w_1_14 w_8_108 hd_X12_laysHeard_0 ⟨⟨(Nat.le_of_ble_eq_true rfl), (Nat.le_of_ble_eq_true rfl)⟩, (Nat.le_of_ble_eq_true rfl), (Nat.le_of_ble_eq_true rfl)⟩ hK hP hD hS hA (fmT om_14_3fff 0) (fmF om_14_3fff 0) (fm_C1 rfl rfl) (fm_R rfl rfl) (fm_nT om_14_3fff 0) (fm_nF om_14_3fff 0) (fm_di om_14_3fff 0) rfl rfl rfl rfl (Nat.le_of_ble_eq_true rfl) dX12_heard_12 (fun u H locs hw hP hD hS => ?_)
    refine exE hw (fun tk2_2 hw1 => exE hw1 (fun qp2_3 hw2 => exE hw2 (fun am2_4 hw3 => exE hw3 (fun at_2_5 hw4 => exE hw4 (fun aa2_6 hw5 => exE hw5 (fun wy2_7 hw6 => exE hw6 (fun ql2_8 hw7 => exE hw7 (fun ws_2_9 hw8 => exE hw8 (fun yw2_10 hw9 => exE hw9 (fun yo2_11 hw10 => exE hw10 (fun be2_12 hw11 => exE hw11 (fun bf2_13 hw12 => anE hw12 (fun hmw_14 hw13 => anE hw13 (fun hwy_15 eu_16 => ?_))))))))))))))
    clear hw hw1 hw2 hw3 hw4 hw5 hw6 hw7 hw8 hw9 hw10 hw11 hw12 hw13
    refine o_mgE (ws' := [ro_ mm 12 (mo g (nI ta) (nI pa) (nI pe) pd (nI pb) pp pf pg pn rt rn (nI cd) sn (nI il) tk2_2 am2_4 at_2_5 aa2_6 0 0 (-1) wt wy2_7 0 (nI rm) (nI ud) (nI nu) sd (nI qn) (nI qw) qo (nI qb) (nI qp2_3) qa (nI qi) (nI oc)), ra_I (g 24) cI 6 (l6 u0 u1 u2 u3 u4 u5), ra_I (g 25) cI 6 (l6 v0 v1 v2 v3 v4 v5), ra_N (g 26) cI 3200 cs, ra_I (g 31) cI 120 nw, ra_N (g 46) cI 9 pt, ra_J (g 86) cJ 1700 ql2_8, ra_I (g 20) cI 4 (l4 (nI l0) (nI l1) (nI dm) (nI l3)), ra_I (g 38) cI 90 ws_2_9, ra_I (g 36) cZ 900 yw2_10, ra_I (g 37) cZ 900 yo2_11, ra_J (g 43) cJ 90 be2_12, ra_J (g 44) cJ 90 bf2_13, ra_I (g 53) cI 32 rw_]) eu_16 hP hD rfl (fun hP hD => ?_)
    refine lv_aload_n hx hb dX12_heard_15 rfl (lv_at hl 0 rfl) ?_
    refine sk_get (v := .long wy2_7) (C := RX12) (T := TX12) (N := 92) hx hb hts inlX12 hown hK hP 0 rfl rfl 45 (Nat.le_of_ble_eq_true rfl) w_5_200 rfl dX12_heard_16 ?_
    exact sk_lret hx hb hr hlocks hK hP hD hS (⟨tk2_2, qp2_3, am2_4, at_2_5, aa2_6, wy2_7, ql2_8, ws_2_9, yw2_10, yo2_11, be2_12, bf2_13, kB_1 (by omega) hwy_15, rfl⟩) (Nat.le_of_ble_eq_true rfl) (Nat.le_of_ble_eq_true rfl) dX12_heard_19
  · have c_1 : il = 0 := (neq il 0 (by omega) (Nat.le_of_ble_eq_true rfl)).mp c_1
    refine lv_ldc2 (v := (-1000000000000000)) hx hb hown (hts _ w_7_184) dX12_heard_7 ?_
    exact sk_lret hx hb hr hlocks hK hP hD hS (⟨tk, qp, am, at_, aa, wy, ql, ws_, yw, yo, be, bf, kB_0 (by omega) rfl, rfl⟩) (Nat.le_of_ble_eq_true rfl) (Nat.le_of_ble_eq_true rfl) dX12_heard_10
theorem dg_X12_tells_0_0 : bqL cX12_tells 0 [(0, [42]), (1, [180, 1, 46]), (4, [153, 0, 13]), (17, [20, 1, 165]), (20, [173]), (7, [27]), (8, [133]), (9, [9]), (10, [10]), (11, [184, 0, 238]), (14, [154, 0, 7]), (21, [42]), (22, [182, 1, 210]), (25, [2]), (26, [61]), (27, [9]), (28, [66]), (29, [3]), (30, [54, 5]), (32, [21, 5]), (34, [42]), (35, [182, 1, 59]), (38, [162, 0, 99]), (137, [28]), (138, [2]), (139, [160, 0, 9]), (148, [27]), (149, [154, 0, 8]), (157, [33]), (158, [173]), (152, [28]), (153, [133]), (154, [167, 0, 4]), (142, [20, 1, 165]), (145, [167, 0, 13]), (41, [42]), (42, [180, 1, 126]), (45, [9]), (46, [148]), (47, [158, 0, 90])] = true := by decide +kernel
theorem dX12_tells_0 : decode cX12_tells 0 = .ok (.aload_n 0, 1) := q_aload_n0 (bat_get dg_X12_tells_0_0 0 rfl rfl)
theorem dX12_tells_1 : decode cX12_tells 1 = .ok (.getfield 302, 3) := q_getfield (bat_get dg_X12_tells_0_0 1 rfl rfl) rfl
theorem dX12_tells_4 : decode cX12_tells 4 = .ok (.ifCond .eq 13, 3) := q_ifCond_eq (bat_get dg_X12_tells_0_0 2 rfl rfl) rfl
theorem dX12_tells_17 : decode cX12_tells 17 = .ok (.ldc2_w 421, 3) := q_ldc2_w (bat_get dg_X12_tells_0_0 3 rfl rfl) rfl
theorem dX12_tells_20 : decode cX12_tells 20 = .ok (.lreturn, 1) := q_lreturn (bat_get dg_X12_tells_0_0 4 rfl rfl)
theorem dX12_tells_7 : decode cX12_tells 7 = .ok (.iload_n 1, 1) := q_iload_n1 (bat_get dg_X12_tells_0_0 5 rfl rfl)
theorem dX12_tells_8 : decode cX12_tells 8 = .ok (.i2l, 1) := q_i2l (bat_get dg_X12_tells_0_0 6 rfl rfl)
theorem dX12_tells_9 : decode cX12_tells 9 = .ok (.lconst 0, 1) := q_lconst0 (bat_get dg_X12_tells_0_0 7 rfl rfl)
theorem dX12_tells_10 : decode cX12_tells 10 = .ok (.lconst 1, 1) := q_lconst1 (bat_get dg_X12_tells_0_0 8 rfl rfl)
theorem dX12_tells_11 : decode cX12_tells 11 = .ok (.invokestatic 238, 3) := q_invokestatic (bat_get dg_X12_tells_0_0 9 rfl rfl) rfl
theorem dX12_tells_14 : decode cX12_tells 14 = .ok (.ifCond .ne 7, 3) := q_ifCond_ne (bat_get dg_X12_tells_0_0 10 rfl rfl) rfl
theorem dX12_tells_21 : decode cX12_tells 21 = .ok (.aload_n 0, 1) := q_aload_n0 (bat_get dg_X12_tells_0_0 11 rfl rfl)
theorem dX12_tells_22 : decode cX12_tells 22 = .ok (.invokevirtual 466, 3) := q_invokevirtual (bat_get dg_X12_tells_0_0 12 rfl rfl) rfl
theorem dX12_tells_25 : decode cX12_tells 25 = .ok (.iconst (-1), 1) := q_iconstm1 (bat_get dg_X12_tells_0_0 13 rfl rfl)
theorem dX12_tells_26 : decode cX12_tells 26 = .ok (.istore_n 2, 1) := q_istore_n2 (bat_get dg_X12_tells_0_0 14 rfl rfl)
theorem dX12_tells_27 : decode cX12_tells 27 = .ok (.lconst 0, 1) := q_lconst0 (bat_get dg_X12_tells_0_0 15 rfl rfl)
theorem dX12_tells_28 : decode cX12_tells 28 = .ok (.lstore_n 3, 1) := q_lstore_n3 (bat_get dg_X12_tells_0_0 16 rfl rfl)
theorem dX12_tells_29 : decode cX12_tells 29 = .ok (.iconst 0, 1) := q_iconst0 (bat_get dg_X12_tells_0_0 17 rfl rfl)
theorem dX12_tells_30 : decode cX12_tells 30 = .ok (.istore 5, 2) := q_istore (bat_get dg_X12_tells_0_0 18 rfl rfl)
theorem dX12_tells_32 : decode cX12_tells 32 = .ok (.iload 5, 2) := q_iload (bat_get dg_X12_tells_0_0 19 rfl rfl)
theorem dX12_tells_34 : decode cX12_tells 34 = .ok (.aload_n 0, 1) := q_aload_n0 (bat_get dg_X12_tells_0_0 20 rfl rfl)
theorem dX12_tells_35 : decode cX12_tells 35 = .ok (.invokevirtual 315, 3) := q_invokevirtual (bat_get dg_X12_tells_0_0 21 rfl rfl) rfl
theorem dX12_tells_38 : decode cX12_tells 38 = .ok (.if_icmp .ge 99, 3) := q_if_icmp_ge (bat_get dg_X12_tells_0_0 22 rfl rfl) rfl
theorem dX12_tells_137 : decode cX12_tells 137 = .ok (.iload_n 2, 1) := q_iload_n2 (bat_get dg_X12_tells_0_0 23 rfl rfl)
theorem dX12_tells_138 : decode cX12_tells 138 = .ok (.iconst (-1), 1) := q_iconstm1 (bat_get dg_X12_tells_0_0 24 rfl rfl)
theorem dX12_tells_139 : decode cX12_tells 139 = .ok (.if_icmp .ne 9, 3) := q_if_icmp_ne (bat_get dg_X12_tells_0_0 25 rfl rfl) rfl
theorem dX12_tells_148 : decode cX12_tells 148 = .ok (.iload_n 1, 1) := q_iload_n1 (bat_get dg_X12_tells_0_0 26 rfl rfl)
theorem dX12_tells_149 : decode cX12_tells 149 = .ok (.ifCond .ne 8, 3) := q_ifCond_ne (bat_get dg_X12_tells_0_0 27 rfl rfl) rfl
theorem dX12_tells_157 : decode cX12_tells 157 = .ok (.lload_n 3, 1) := q_lload_n3 (bat_get dg_X12_tells_0_0 28 rfl rfl)
theorem dX12_tells_158 : decode cX12_tells 158 = .ok (.lreturn, 1) := q_lreturn (bat_get dg_X12_tells_0_0 29 rfl rfl)
theorem dX12_tells_152 : decode cX12_tells 152 = .ok (.iload_n 2, 1) := q_iload_n2 (bat_get dg_X12_tells_0_0 30 rfl rfl)
theorem dX12_tells_153 : decode cX12_tells 153 = .ok (.i2l, 1) := q_i2l (bat_get dg_X12_tells_0_0 31 rfl rfl)
theorem dX12_tells_154 : decode cX12_tells 154 = .ok (.goto 4, 3) := q_goto (bat_get dg_X12_tells_0_0 32 rfl rfl) rfl
theorem dX12_tells_142 : decode cX12_tells 142 = .ok (.ldc2_w 421, 3) := q_ldc2_w (bat_get dg_X12_tells_0_0 33 rfl rfl) rfl
theorem dX12_tells_145 : decode cX12_tells 145 = .ok (.goto 13, 3) := q_goto (bat_get dg_X12_tells_0_0 34 rfl rfl) rfl
theorem dX12_tells_41 : decode cX12_tells 41 = .ok (.aload_n 0, 1) := q_aload_n0 (bat_get dg_X12_tells_0_0 35 rfl rfl)
theorem dX12_tells_42 : decode cX12_tells 42 = .ok (.getfield 382, 3) := q_getfield (bat_get dg_X12_tells_0_0 36 rfl rfl) rfl
theorem dX12_tells_45 : decode cX12_tells 45 = .ok (.lconst 0, 1) := q_lconst0 (bat_get dg_X12_tells_0_0 37 rfl rfl)
theorem dX12_tells_46 : decode cX12_tells 46 = .ok (.lcmp, 1) := q_lcmp (bat_get dg_X12_tells_0_0 38 rfl rfl)
theorem dX12_tells_47 : decode cX12_tells 47 = .ok (.ifCond .le 90, 3) := q_ifCond_le (bat_get dg_X12_tells_0_0 39 rfl rfl) rfl
theorem dg_X12_tells_50_50 : bqL cX12_tells 50 [(0, [9]), (1, [55, 6]), (3, [3]), (4, [54, 8]), (6, [21, 8]), (8, [16, 10]), (10, [162, 0, 50]), (60, [28]), (61, [2]), (62, [159, 0, 13]), (75, [21, 5]), (77, [61]), (78, [22, 6]), (80, [66]), (81, [132, 5, 1]), (84, [167, 255, 154]), (65, [22, 6]), (67, [33]), (68, [148]), (69, [155, 0, 6]), (72, [167, 0, 9]), (13, [42]), (14, [180, 0, 86]), (17, [16, 10]), (19, [21, 5]), (21, [104]), (22, [21, 8]), (24, [96]), (25, [47]), (26, [42]), (27, [180, 0, 82]), (30, [16, 10]), (32, [21, 5]), (34, [104]), (35, [21, 8]), (37, [96]), (38, [47]), (39, [105]), (40, [55, 9]), (42, [22, 9])] = true := by decide +kernel
theorem dX12_tells_50 : decode cX12_tells 50 = .ok (.lconst 0, 1) := q_lconst0 (bat_get dg_X12_tells_50_50 0 rfl rfl)
theorem dX12_tells_51 : decode cX12_tells 51 = .ok (.lstore 6, 2) := q_lstore (bat_get dg_X12_tells_50_50 1 rfl rfl)
theorem dX12_tells_53 : decode cX12_tells 53 = .ok (.iconst 0, 1) := q_iconst0 (bat_get dg_X12_tells_50_50 2 rfl rfl)
theorem dX12_tells_54 : decode cX12_tells 54 = .ok (.istore 8, 2) := q_istore (bat_get dg_X12_tells_50_50 3 rfl rfl)
theorem dX12_tells_56 : decode cX12_tells 56 = .ok (.iload 8, 2) := q_iload (bat_get dg_X12_tells_50_50 4 rfl rfl)
theorem dX12_tells_58 : decode cX12_tells 58 = .ok (.bipush 10, 2) := q_bipush (bat_get dg_X12_tells_50_50 5 rfl rfl) rfl
theorem dX12_tells_60 : decode cX12_tells 60 = .ok (.if_icmp .ge 50, 3) := q_if_icmp_ge (bat_get dg_X12_tells_50_50 6 rfl rfl) rfl
theorem dX12_tells_110 : decode cX12_tells 110 = .ok (.iload_n 2, 1) := q_iload_n2 (bat_get dg_X12_tells_50_50 7 rfl rfl)
theorem dX12_tells_111 : decode cX12_tells 111 = .ok (.iconst (-1), 1) := q_iconstm1 (bat_get dg_X12_tells_50_50 8 rfl rfl)
theorem dX12_tells_112 : decode cX12_tells 112 = .ok (.if_icmp .eq 13, 3) := q_if_icmp_eq (bat_get dg_X12_tells_50_50 9 rfl rfl) rfl
theorem dX12_tells_125 : decode cX12_tells 125 = .ok (.iload 5, 2) := q_iload (bat_get dg_X12_tells_50_50 10 rfl rfl)
theorem dX12_tells_127 : decode cX12_tells 127 = .ok (.istore_n 2, 1) := q_istore_n2 (bat_get dg_X12_tells_50_50 11 rfl rfl)
theorem dX12_tells_128 : decode cX12_tells 128 = .ok (.lload 6, 2) := q_lload (bat_get dg_X12_tells_50_50 12 rfl rfl)
theorem dX12_tells_130 : decode cX12_tells 130 = .ok (.lstore_n 3, 1) := q_lstore_n3 (bat_get dg_X12_tells_50_50 13 rfl rfl)
theorem dX12_tells_131 : decode cX12_tells 131 = .ok (.iinc 5 1, 3) := q_iinc (bat_get dg_X12_tells_50_50 14 rfl rfl) rfl
theorem dX12_tells_134 : decode cX12_tells 134 = .ok (.goto (-102), 3) := q_goto (bat_get dg_X12_tells_50_50 15 rfl rfl) rfl
theorem dX12_tells_115 : decode cX12_tells 115 = .ok (.lload 6, 2) := q_lload (bat_get dg_X12_tells_50_50 16 rfl rfl)
theorem dX12_tells_117 : decode cX12_tells 117 = .ok (.lload_n 3, 1) := q_lload_n3 (bat_get dg_X12_tells_50_50 17 rfl rfl)
theorem dX12_tells_118 : decode cX12_tells 118 = .ok (.lcmp, 1) := q_lcmp (bat_get dg_X12_tells_50_50 18 rfl rfl)
theorem dX12_tells_119 : decode cX12_tells 119 = .ok (.ifCond .lt 6, 3) := q_ifCond_lt (bat_get dg_X12_tells_50_50 19 rfl rfl) rfl
theorem dX12_tells_122 : decode cX12_tells 122 = .ok (.goto 9, 3) := q_goto (bat_get dg_X12_tells_50_50 20 rfl rfl) rfl
theorem dX12_tells_63 : decode cX12_tells 63 = .ok (.aload_n 0, 1) := q_aload_n0 (bat_get dg_X12_tells_50_50 21 rfl rfl)
theorem dX12_tells_64 : decode cX12_tells 64 = .ok (.getfield 86, 3) := q_getfield (bat_get dg_X12_tells_50_50 22 rfl rfl) rfl
theorem dX12_tells_67 : decode cX12_tells 67 = .ok (.bipush 10, 2) := q_bipush (bat_get dg_X12_tells_50_50 23 rfl rfl) rfl
theorem dX12_tells_69 : decode cX12_tells 69 = .ok (.iload 5, 2) := q_iload (bat_get dg_X12_tells_50_50 24 rfl rfl)
theorem dX12_tells_71 : decode cX12_tells 71 = .ok (.imul, 1) := q_imul (bat_get dg_X12_tells_50_50 25 rfl rfl)
theorem dX12_tells_72 : decode cX12_tells 72 = .ok (.iload 8, 2) := q_iload (bat_get dg_X12_tells_50_50 26 rfl rfl)
theorem dX12_tells_74 : decode cX12_tells 74 = .ok (.iadd, 1) := q_iadd (bat_get dg_X12_tells_50_50 27 rfl rfl)
theorem dX12_tells_75 : decode cX12_tells 75 = .ok (.laload, 1) := q_laload (bat_get dg_X12_tells_50_50 28 rfl rfl)
theorem dX12_tells_76 : decode cX12_tells 76 = .ok (.aload_n 0, 1) := q_aload_n0 (bat_get dg_X12_tells_50_50 29 rfl rfl)
theorem dX12_tells_77 : decode cX12_tells 77 = .ok (.getfield 82, 3) := q_getfield (bat_get dg_X12_tells_50_50 30 rfl rfl) rfl
theorem dX12_tells_80 : decode cX12_tells 80 = .ok (.bipush 10, 2) := q_bipush (bat_get dg_X12_tells_50_50 31 rfl rfl) rfl
theorem dX12_tells_82 : decode cX12_tells 82 = .ok (.iload 5, 2) := q_iload (bat_get dg_X12_tells_50_50 32 rfl rfl)
theorem dX12_tells_84 : decode cX12_tells 84 = .ok (.imul, 1) := q_imul (bat_get dg_X12_tells_50_50 33 rfl rfl)
theorem dX12_tells_85 : decode cX12_tells 85 = .ok (.iload 8, 2) := q_iload (bat_get dg_X12_tells_50_50 34 rfl rfl)
theorem dX12_tells_87 : decode cX12_tells 87 = .ok (.iadd, 1) := q_iadd (bat_get dg_X12_tells_50_50 35 rfl rfl)
theorem dX12_tells_88 : decode cX12_tells 88 = .ok (.laload, 1) := q_laload (bat_get dg_X12_tells_50_50 36 rfl rfl)
theorem dX12_tells_89 : decode cX12_tells 89 = .ok (.lmul, 1) := q_lmul (bat_get dg_X12_tells_50_50 37 rfl rfl)
theorem dX12_tells_90 : decode cX12_tells 90 = .ok (.lstore 9, 2) := q_lstore (bat_get dg_X12_tells_50_50 38 rfl rfl)
theorem dX12_tells_92 : decode cX12_tells 92 = .ok (.lload 9, 2) := q_lload (bat_get dg_X12_tells_50_50 39 rfl rfl)
theorem dg_X12_tells_94_94 : bqL cX12_tells 94 [(0, [22, 6]), (2, [148]), (3, [158, 0, 7]), (10, [132, 8, 1]), (13, [167, 255, 205]), (6, [22, 9]), (8, [55, 6])] = true := by decide +kernel
theorem dX12_tells_94 : decode cX12_tells 94 = .ok (.lload 6, 2) := q_lload (bat_get dg_X12_tells_94_94 0 rfl rfl)
theorem dX12_tells_96 : decode cX12_tells 96 = .ok (.lcmp, 1) := q_lcmp (bat_get dg_X12_tells_94_94 1 rfl rfl)
theorem dX12_tells_97 : decode cX12_tells 97 = .ok (.ifCond .le 7, 3) := q_ifCond_le (bat_get dg_X12_tells_94_94 2 rfl rfl) rfl
theorem dX12_tells_104 : decode cX12_tells 104 = .ok (.iinc 8 1, 3) := q_iinc (bat_get dg_X12_tells_94_94 3 rfl rfl) rfl
theorem dX12_tells_107 : decode cX12_tells 107 = .ok (.goto (-51), 3) := q_goto (bat_get dg_X12_tells_94_94 4 rfl rfl) rfl
theorem dX12_tells_100 : decode cX12_tells 100 = .ok (.lload 9, 2) := q_lload (bat_get dg_X12_tells_94_94 5 rfl rfl)
theorem dX12_tells_102 : decode cX12_tells 102 = .ok (.lstore 6, 2) := q_lstore (bat_get dg_X12_tells_94_94 6 rfl rfl)
theorem w_8_112 : (Cond.code yX12_tells cX12_tells 11 (some .long)) ∈ wsL_law := sk_mem (ck_8 _ (List.mem_of_getElem? (i := 112) rfl)) rfl
set_option maxHeartbeats 4000000 in
set_option maxRecDepth 100000 in
theorem c_vm_tells (l : Launch) (D : va_G) (cI cJ cC cZ cS : ClassId) (mm : Nat) (g : Nat → Nat) (ta : Nat) (pa : Nat) (pe : Nat) (pd : Int32) (pb : Nat) (pp : Int32) (pf : Int32) (pg : Int32) (pn : Int32) (rt : Int32) (rn : Int32) (cd : Nat) (sn : Int32) (il : Nat) (tk : Int32) (am : Int32) (at_ : Int32) (aa : Int32) (wt : Int32) (wy : Int64) (rm : Nat) (ud : Nat) (nu : Nat) (sd : Int64) (qn : Nat) (qw : Nat) (qo : Int32) (qb : Nat) (qp : Nat) (qa : Int64) (qi : Nat) (oc : Nat) (w : Int32) (u0 : Int32) (u1 : Int32) (u2 : Int32) (u3 : Int32) (u4 : Int32) (u5 : Int32) (v0 : Int32) (v1 : Int32) (v2 : Int32) (v3 : Int32) (v4 : Int32) (v5 : Int32) (cs : Nat → Nat) (nw : Nat → Int32) (pt : Nat → Nat) (ql : Nat → Int64) (l0 : Nat) (l1 : Nat) (dm : Nat) (l3 : Nat) (ws_ : Nat → Int32) (yw : Nat → Int32) (yo : Nat → Int32) (be : Nat → Int64) (bf : Nat → Int64) (rw_ : Nat → Int32) (wn : Nat) (mN : Nat) (Ba : Nat → Nat) (We : Nat → Nat) (U : Nat → Bool) (ke : Nat) (lg : KLg) (L : LkS) (hR : Nat → Nat) (hil : il ≤ 1) (hild : il = 1 → 1 ≤ dm) (hilb : 1 ≤ dm → il = 1) (hdm : dm ≤ 9) (hLk : kcLk L) (hkl : (lK L).length ≤ 1600) (hmw0 : mwO L 0 u3 v3 cs) (hmw1 : mwO L 1 u4 v4 cs) (hB9 : ∀ j, Ba j ≤ 9) (hW9 : ∀ j, We j ≤ 9) (hwk : wn ≤ 999) (hrw : ∀ j, j < rm → rw_ (2 * j) = nI (hR j / 10) ∧ rw_ (2 * j + 1) = nI (hR j % 10)) (hR90 : ∀ j, j < rm → hR j < 90) (hrm : rm ≤ 16) (hcs : ∀ j, cs j ≤ 20000) (hnw : nwX wn mN Ba We U ke lg nw) (hpt : ∀ j, pt j ≤ 9) : skM l yX12_tells cX12_tells 11 (some .long) 6 142 0 0 D (skT cI cJ cC cZ cS) [.ref mm, .int w] [ro_ mm 12 (mo g (nI ta) (nI pa) (nI pe) pd (nI pb) pp pf pg pn rt rn (nI cd) sn (nI il) tk am at_ aa 0 0 (-1) wt wy 0 (nI rm) (nI ud) (nI nu) sd (nI qn) (nI qw) qo (nI qb) (nI qp) qa (nI qi) (nI oc)), ra_I (g 24) cI 6 (l6 u0 u1 u2 u3 u4 u5), ra_I (g 25) cI 6 (l6 v0 v1 v2 v3 v4 v5), ra_N (g 26) cI 3200 cs, ra_I (g 31) cI 120 nw, ra_N (g 46) cI 9 pt, ra_J (g 86) cJ 1700 ql, ra_I (g 20) cI 4 (l4 (nI l0) (nI l1) (nI dm) (nI l3)), ra_I (g 38) cI 90 ws_, ra_I (g 36) cZ 900 yw, ra_I (g 37) cZ 900 yo, ra_J (g 43) cJ 90 be, ra_J (g 44) cJ 90 bf, ra_I (g 53) cI 32 rw_] (skL D (skT cI cJ cC cZ cS) (fun (r : Int64) (u : va_W) => ∃ (tk2 : Int32), ∃ (qp2 : Nat), ∃ (am2 : Int32), ∃ (at_2 : Int32), ∃ (aa2 : Int32), ∃ (wy2 : Int64), ∃ (ql2 : Nat → Int64), ∃ (ws_2 : Nat → Int32), ∃ (yw2 : Nat → Int32), ∃ (yo2 : Nat → Int32), ∃ (be2 : Nat → Int64), ∃ (bf2 : Nat → Int64), tellsR (kcHd (kcFo L wn Ba We U 0) U (kSd L wn Ba We) hR rm) dm mN w r ∧ u = [ro_ mm 12 (mo g (nI ta) (nI pa) (nI pe) pd (nI pb) pp pf pg pn rt rn (nI cd) sn (nI il) tk2 am2 at_2 aa2 0 0 (-1) wt wy2 0 (nI rm) (nI ud) (nI nu) sd (nI qn) (nI qw) qo (nI qb) (nI qp2) qa (nI qi) (nI oc)), ra_I (g 24) cI 6 (l6 u0 u1 u2 u3 u4 u5), ra_I (g 25) cI 6 (l6 v0 v1 v2 v3 v4 v5), ra_N (g 26) cI 3200 cs, ra_I (g 31) cI 120 nw, ra_N (g 46) cI 9 pt, ra_J (g 86) cJ 1700 ql2, ra_I (g 20) cI 4 (l4 (nI l0) (nI l1) (nI dm) (nI l3)), ra_I (g 38) cI 90 ws_2, ra_I (g 36) cZ 900 yw2, ra_I (g 37) cZ 900 yo2, ra_J (g 43) cJ 90 be2, ra_J (g 44) cJ 90 bf2, ra_I (g 53) cI 32 rw_])) := by
  refine skM_of pf_X12_tells (Nat.le_of_ble_eq_true rfl) ?_
  intro p e s m below meth c A ls E hP hD hl
  refine skE_el E (fun hx hb hr hml hlocks hin hown hts hK hA => ?_)
  have hown : s.vm.findClass RX12 = some m.cls := hown
  have hS : va_S A s.heap s.heap [] := va_S.rf
  have hl : lv_has ls 11 [(0, .ref mm), (1, .int w)] := hl
  refine lv_aload_n hx hb dX12_tells_0 rfl (lv_at hl 0 rfl) ?_
  refine sk_get (v := .int (nI il)) (C := RX12) (T := TX12) (N := 92) hx hb hts inlX12 hown hK hP 0 rfl rfl 29 (Nat.le_of_ble_eq_true rfl) w_5_184 rfl dX12_tells_1 ?_
  refine lv_if_eq (tgt := 17) hx hb dX12_tells_4 (by decide) (fun c_1 => ?_) (fun c_1 => ?_)
  · have c_1 : il = 0 := (neq il 0 (by omega) (Nat.le_of_ble_eq_true rfl)).mp c_1
    refine lv_ldc2 (v := (-1000000000000000)) hx hb hown (hts _ w_7_184) dX12_tells_17 ?_
    exact sk_lret hx hb hr hlocks hK hP hD hS (⟨tk, qp, am, at_, aa, wy, ql, ws_, yw, yo, be, bf, tel_0 (by omega), rfl⟩) (Nat.le_of_ble_eq_true rfl) (Nat.le_of_ble_eq_true rfl) dX12_tells_20
  · have c_1 : ¬ (il = 0) := fun h => c_1 ((neq il 0 (by omega) (Nat.le_of_ble_eq_true rfl)).mpr h)
    refine lv_iload_n hx hb dX12_tells_7 rfl (lv_at hl 1 rfl) ?_
    refine lv_i2l hx hb dX12_tells_8 rfl ?_
    refine lv_lconst (v := 0) hx hb dX12_tells_9 (by decide) ?_
    refine lv_lconst (v := 1) hx hb dX12_tells_10 (by decide) ?_
    refine sk_Si (n := 3) (rest := []) (wr := [ro_ mm 12 (mo g (nI ta) (nI pa) (nI pe) pd (nI pb) pp pf pg pn rt rn (nI cd) sn (nI il) tk am at_ aa 0 0 (-1) wt wy 0 (nI rm) (nI ud) (nI nu) sd (nI qn) (nI qw) qo (nI qb) (nI qp) qa (nI qi) (nI oc)), ra_I (g 24) cI 6 (l6 u0 u1 u2 u3 u4 u5), ra_I (g 25) cI 6 (l6 v0 v1 v2 v3 v4 v5), ra_N (g 26) cI 3200 cs, ra_I (g 31) cI 120 nw, ra_N (g 46) cI 9 pt, ra_J (g 86) cJ 1700 ql, ra_I (g 20) cI 4 (l4 (nI l0) (nI l1) (nI dm) (nI l3)), ra_I (g 38) cI 90 ws_, ra_I (g 36) cZ 900 yw, ra_I (g 37) cZ 900 yo, ra_J (g 43) cJ 90 be, ra_J (g 44) cJ 90 bf, ra_I (g 53) cI 32 rw_]) ⟨hx, hb, hml, hown, hts⟩ hl.1 (c_nm_isIn l D cI cJ cC cZ cS (Int32.toInt64 w) 0 1) w_7_0 w_7_1 w_1_14 w_7_2 hd_X12_isIn_3 ⟨⟨(Nat.le_of_ble_eq_true rfl), (Nat.le_of_ble_eq_true rfl)⟩, (Nat.le_of_ble_eq_true rfl), (Nat.le_of_ble_eq_true rfl)⟩ hK hP hD hS hA [] [0, 1, 2, 3, 4, 5, 6, 7, 8, 9, 10, 11, 12, 13] rfl rfl (by decide +kernel) (by decide +kernel) (by decide +kernel) rfl rfl (Nat.le_of_ble_eq_true rfl) dX12_tells_11 (fun r_3 u H locs hw hP hD hS => ?_)
    obtain ⟨b_2, hb1_4, rfl, rfl⟩ := hw
    refine o_re (ws' := [ro_ mm 12 (mo g (nI ta) (nI pa) (nI pe) pd (nI pb) pp pf pg pn rt rn (nI cd) sn (nI il) tk am at_ aa 0 0 (-1) wt wy 0 (nI rm) (nI ud) (nI nu) sd (nI qn) (nI qw) qo (nI qb) (nI qp) qa (nI qi) (nI oc)), ra_I (g 24) cI 6 (l6 u0 u1 u2 u3 u4 u5), ra_I (g 25) cI 6 (l6 v0 v1 v2 v3 v4 v5), ra_N (g 26) cI 3200 cs, ra_I (g 31) cI 120 nw, ra_N (g 46) cI 9 pt, ra_J (g 86) cJ 1700 ql, ra_I (g 20) cI 4 (l4 (nI l0) (nI l1) (nI dm) (nI l3)), ra_I (g 38) cI 90 ws_, ra_I (g 36) cZ 900 yw, ra_I (g 37) cZ 900 yo, ra_J (g 43) cJ 90 be, ra_J (g 44) cJ 90 bf, ra_I (g 53) cI 32 rw_]) hP hD rfl (fun hP hD => ?_)
    refine lv_if_ne (tgt := 21) hx hb dX12_tells_14 (by decide) (fun c_5 => ?_) (fun c_5 => ?_)
    · have c_5 : ¬ (b_2 = 0) := fun h => c_5 ((neq b_2 0 (by omega) (Nat.le_of_ble_eq_true rfl)).mpr h)
      obtain ⟨kd_6, hkd_6, rfl⟩ := (kin0 (n := 2) (by decide) (by omega)).mp (rr_1 hb1_4 (by omega))
      refine lv_aload_n hx hb dX12_tells_21 rfl (lv_at hl 0 rfl) ?_
      refine sk_Vv (q0 := 0) (n := 0) (rest := []) (wr := fmR om_14_3fff _) ⟨hx, hb, hml, hown, hts⟩ hl.1 (c_vm_laysHeardX l D cI cJ cC cZ cS mm g ta pa pe pd pb pp pf pg pn rt rn cd sn il tk am at_ aa wt wy rm ud nu sd qn qw qo qb qp qa qi oc u0 u1 u2 u3 u4 u5 v0 v1 v2 v3 v4 v5 cs nw pt ql l0 l1 dm l3 ws_ yw yo be bf rw_ wn mN Ba We U ke lg L hR hdm (by omega) hLk hkl hmw0 hmw1 hB9 hW9 hwk hrw hR90 hrm hcs hnw hpt) w_8_105 w_8_107 w_0_105 w_1_14 w_8_108 hd_X12_laysHeard_0 ⟨⟨(Nat.le_of_ble_eq_true rfl), (Nat.le_of_ble_eq_true rfl)⟩, (Nat.le_of_ble_eq_true rfl), (Nat.le_of_ble_eq_true rfl)⟩ hK hP hD hS hA (fmT om_14_3fff 0) (fmF om_14_3fff 0) (fm_C1 rfl rfl) (fm_R rfl rfl) (fm_nT om_14_3fff 0) (fm_nF om_14_3fff 0) (fm_di om_14_3fff 0) rfl rfl rfl rfl (Nat.le_of_ble_eq_true rfl) dX12_tells_22 (fun u H locs hw hP hD hS => ?_)
      refine exE hw (fun tk2_7 hw1 => exE hw1 (fun qp2_8 hw2 => exE hw2 (fun am2_9 hw3 => exE hw3 (fun at_2_10 hw4 => exE hw4 (fun aa2_11 hw5 => exE hw5 (fun wy2_12 hw6 => exE hw6 (fun ql2_13 hw7 => exE hw7 (fun ws_2_14 hw8 => exE hw8 (fun yw2_15 hw9 => exE hw9 (fun yo2_16 hw10 => exE hw10 (fun be2_17 hw11 => exE hw11 (fun bf2_18 hw12 => anE hw12 (fun hmw_19 hw13 => anE hw13 (fun hwy_20 eu_21 => ?_))))))))))))))
      clear hw hw1 hw2 hw3 hw4 hw5 hw6 hw7 hw8 hw9 hw10 hw11 hw12 hw13
      refine o_mgE (ws' := [ro_ mm 12 (mo g (nI ta) (nI pa) (nI pe) pd (nI pb) pp pf pg pn rt rn (nI cd) sn (nI il) tk2_7 am2_9 at_2_10 aa2_11 0 0 (-1) wt wy2_12 0 (nI rm) (nI ud) (nI nu) sd (nI qn) (nI qw) qo (nI qb) (nI qp2_8) qa (nI qi) (nI oc)), ra_I (g 24) cI 6 (l6 u0 u1 u2 u3 u4 u5), ra_I (g 25) cI 6 (l6 v0 v1 v2 v3 v4 v5), ra_N (g 26) cI 3200 cs, ra_I (g 31) cI 120 nw, ra_N (g 46) cI 9 pt, ra_J (g 86) cJ 1700 ql2_13, ra_I (g 20) cI 4 (l4 (nI l0) (nI l1) (nI dm) (nI l3)), ra_I (g 38) cI 90 ws_2_14, ra_I (g 36) cZ 900 yw2_15, ra_I (g 37) cZ 900 yo2_16, ra_J (g 43) cJ 90 be2_17, ra_J (g 44) cJ 90 bf2_18, ra_I (g 53) cI 32 rw_]) eu_21 hP hD rfl (fun hP hD => ?_)
      have hc9 := kcC_9 (kcHd (kcFo L wn Ba We U 0) U (kSd L wn Ba We) hR rm) hdm 0 mN
      refine lv_iconst (v := (-1)) hx hb dX12_tells_25 (by decide) ?_
      refine lv_istore_n (lv' := [(2, .int (-1)), (0, .ref mm), (1, .int (nI kd_6))]) hx hb dX12_tells_26 rfl hl (by decide) rfl (fun ls hl => ?_)
      refine lv_lconst (v := 0) hx hb dX12_tells_27 (by decide) ?_
      refine lv_lstore_n (lv' := [(3, .long 0), (2, .int (-1)), (0, .ref mm), (1, .int (nI kd_6))]) hx hb dX12_tells_28 rfl hl (by decide) rfl (fun ls hl => ?_)
      refine lv_iconst (v := 0) hx hb dX12_tells_29 ic_0 ?_
      refine lv_istore (lv' := [(5, .int 0), (3, .long 0), (2, .int (-1)), (0, .ref mm), (1, .int (nI kd_6))]) hx hb dX12_tells_30 hl (by decide) rfl (fun ls hl => ?_)
      have lp_22 : ∀ (n_23 : Nat) (i : Nat) (fe : Int64) (be_ : Int32) (H : Heap) (locs : List Loc) (ls : Array Slot), dm - i < n_23 → (i ≤ dm) → (tlI (tlF (kcHd (kcFo L wn Ba We U 0) U (kSd L wn Ba We) hR rm) dm mN) i be_ fe) → (i = 0 ∨ 0 < kcC (kcHd (kcFo L wn Ba We U 0) U (kSd L wn Ba We) hR rm) dm 0 mN) → va_P D vwCl [ro_ mm 12 (mo g (nI ta) (nI pa) (nI pe) pd (nI pb) pp pf pg pn rt rn (nI cd) sn (nI il) tk2_7 am2_9 at_2_10 aa2_11 0 0 (-1) wt wy2_12 0 (nI rm) (nI ud) (nI nu) sd (nI qn) (nI qw) qo (nI qb) (nI qp2_8) qa (nI qi) (nI oc)), ra_I (g 24) cI 6 (l6 u0 u1 u2 u3 u4 u5), ra_I (g 25) cI 6 (l6 v0 v1 v2 v3 v4 v5), ra_N (g 26) cI 3200 cs, ra_I (g 31) cI 120 nw, ra_N (g 46) cI 9 pt, ra_J (g 86) cJ 1700 ql2_13, ra_I (g 20) cI 4 (l4 (nI l0) (nI l1) (nI dm) (nI l3)), ra_I (g 38) cI 90 ws_2_14, ra_I (g 36) cZ 900 yw2_15, ra_I (g 37) cZ 900 yo2_16, ra_J (g 43) cJ 90 be2_17, ra_J (g 44) cJ 90 bf2_18, ra_I (g 53) cI 32 rw_] H → va_D A [ro_ mm 12 (mo g (nI ta) (nI pa) (nI pe) pd (nI pb) pp pf pg pn rt rn (nI cd) sn (nI il) tk2_7 am2_9 at_2_10 aa2_11 0 0 (-1) wt wy2_12 0 (nI rm) (nI ud) (nI nu) sd (nI qn) (nI qw) qo (nI qb) (nI qp2_8) qa (nI qi) (nI oc)), ra_I (g 24) cI 6 (l6 u0 u1 u2 u3 u4 u5), ra_I (g 25) cI 6 (l6 v0 v1 v2 v3 v4 v5), ra_N (g 26) cI 3200 cs, ra_I (g 31) cI 120 nw, ra_N (g 46) cI 9 pt, ra_J (g 86) cJ 1700 ql2_13, ra_I (g 20) cI 4 (l4 (nI l0) (nI l1) (nI dm) (nI l3)), ra_I (g 38) cI 90 ws_2_14, ra_I (g 36) cZ 900 yw2_15, ra_I (g 37) cZ 900 yo2_16, ra_J (g 43) cJ 90 be2_17, ra_J (g 44) cJ 90 bf2_18, ra_I (g 53) cI 32 rw_] → va_S A s.heap H locs → lv_has ls 11 [(5, .int (nI i)), (3, .long fe), (2, .int be_), (0, .ref mm), (1, .int (nI kd_6))] → W p l e { frames := 6, cells := 0, slots := 0, locals := 142 } s m ([.ref mm, .int (nI kd_6)] : List Value).toArray below meth c H locs 0 0 (MQ below (skL D (skT cI cJ cC cZ cS) (fun (r : Int64) (u : va_W) => ∃ (tk2 : Int32), ∃ (qp2 : Nat), ∃ (am2 : Int32), ∃ (at_2 : Int32), ∃ (aa2 : Int32), ∃ (wy2 : Int64), ∃ (ql2 : Nat → Int64), ∃ (ws_2 : Nat → Int32), ∃ (yw2 : Nat → Int32), ∃ (yo2 : Nat → Int32), ∃ (be2 : Nat → Int64), ∃ (bf2 : Nat → Int64), tellsR (kcHd (kcFo L wn Ba We U 0) U (kSd L wn Ba We) hR rm) dm mN (nI kd_6) r ∧ u = [ro_ mm 12 (mo g (nI ta) (nI pa) (nI pe) pd (nI pb) pp pf pg pn rt rn (nI cd) sn (nI il) tk2 am2 at_2 aa2 0 0 (-1) wt wy2 0 (nI rm) (nI ud) (nI nu) sd (nI qn) (nI qw) qo (nI qb) (nI qp2) qa (nI qi) (nI oc)), ra_I (g 24) cI 6 (l6 u0 u1 u2 u3 u4 u5), ra_I (g 25) cI 6 (l6 v0 v1 v2 v3 v4 v5), ra_N (g 26) cI 3200 cs, ra_I (g 31) cI 120 nw, ra_N (g 46) cI 9 pt, ra_J (g 86) cJ 1700 ql2, ra_I (g 20) cI 4 (l4 (nI l0) (nI l1) (nI dm) (nI l3)), ra_I (g 38) cI 90 ws_2, ra_I (g 36) cZ 900 yw2, ra_I (g 37) cZ 900 yo2, ra_J (g 43) cJ 90 be2, ra_J (g 44) cJ 90 bf2, ra_I (g 53) cI 32 rw_]) A) ([.ref mm, .int (nI kd_6)] : List Value).toArray s 0 0 A) (F0 m 32 ls []) := by
        intro n_23
        induction n_23 with
        | zero => intro i fe be_ H locs ls hm; exact absurd hm (Nat.not_lt_zero _)
        | succ n_23 ih_lp_22 =>
          intro i fe be_ H locs ls hm hi htl hip hP hD hS hl
          refine lv_iload hx hb dX12_tells_32 (lv_at hl 0 rfl) ?_
          refine lv_aload_n hx hb dX12_tells_34 rfl (lv_at hl 3 rfl) ?_
          refine sk_Vi (q0 := 0) (n := 0) (rest := [.int (nI i)]) (wr := fmR om_14_2040 _) ⟨hx, hb, hml, hown, hts⟩ hl.1 (c_m_dayMany l D cI cJ cC cZ cS mm g ta pa pe pd pb pp pf pg pn rt rn cd sn il tk2_7 am2_9 at_2_10 aa2_11 0 0 (-1) wt wy2_12 0 rm ud nu sd qn qw qo qb qp2_8 qa qi oc l0 l1 dm l3) w_7_98 w_7_100 w_0_69 w_1_14 w_7_101 hd_X12_dayMany_0 ⟨⟨(Nat.le_of_ble_eq_true rfl), (Nat.le_of_ble_eq_true rfl)⟩, (Nat.le_of_ble_eq_true rfl), (Nat.le_of_ble_eq_true rfl)⟩ hK hP hD hS hA (fmT om_14_2040 0) (fmF om_14_2040 0) (fm_C1 rfl rfl) (fm_R rfl rfl) (fm_nT om_14_2040 0) (fm_nF om_14_2040 0) (fm_di om_14_2040 0) rfl rfl rfl rfl (Nat.le_of_ble_eq_true rfl) dX12_tells_35 (fun r_24 u H locs hw hP hD hS => ?_)
          refine anE hw (fun er_26 eu_25 => ?_)
          clear hw
          subst er_26
          refine o_mgE (ws' := [ro_ mm 12 (mo g (nI ta) (nI pa) (nI pe) pd (nI pb) pp pf pg pn rt rn (nI cd) sn (nI il) tk2_7 am2_9 at_2_10 aa2_11 0 0 (-1) wt wy2_12 0 (nI rm) (nI ud) (nI nu) sd (nI qn) (nI qw) qo (nI qb) (nI qp2_8) qa (nI qi) (nI oc)), ra_I (g 24) cI 6 (l6 u0 u1 u2 u3 u4 u5), ra_I (g 25) cI 6 (l6 v0 v1 v2 v3 v4 v5), ra_N (g 26) cI 3200 cs, ra_I (g 31) cI 120 nw, ra_N (g 46) cI 9 pt, ra_J (g 86) cJ 1700 ql2_13, ra_I (g 20) cI 4 (l4 (nI l0) (nI l1) (nI dm) (nI l3)), ra_I (g 38) cI 90 ws_2_14, ra_I (g 36) cZ 900 yw2_15, ra_I (g 37) cZ 900 yo2_16, ra_J (g 43) cJ 90 be2_17, ra_J (g 44) cJ 90 bf2_18, ra_I (g 53) cI 32 rw_]) eu_25 hP hD rfl (fun hP hD => ?_)
          refine lv_icmp_ge (tgt := 137) hx hb dX12_tells_38 (by decide) (fun c_27 => ?_) (fun c_27 => ?_)
          · have c_27 : dm ≤ i := (nle dm i (by omega) (by omega)).mp c_27
            refine lv_iload_n hx hb dX12_tells_137 rfl (lv_at hl 2 rfl) ?_
            refine lv_iconst (v := (-1)) hx hb dX12_tells_138 (by decide) ?_
            refine lv_icmp_ne (tgt := 148) hx hb dX12_tells_139 (by decide) (fun c_28 => ?_) (fun c_28 => ?_)
            · skip
              refine lv_iload_n hx hb dX12_tells_148 rfl (lv_at hl 4 rfl) ?_
              refine lv_if_ne (tgt := 157) hx hb dX12_tells_149 (by decide) (fun c_29 => ?_) (fun c_29 => ?_)
              · have c_29 : ¬ (kd_6 = 0) := fun h => c_29 ((neq kd_6 0 (by omega) (Nat.le_of_ble_eq_true rfl)).mpr h)
                refine lv_lload_n hx hb dX12_tells_157 rfl (lv_at hl 1 rfl) ?_
                exact sk_lret hx hb hr hlocks hK hP hD hS (⟨tk2_7, qp2_8, am2_9, at_2_10, aa2_11, wy2_12, ql2_13, ws_2_14, yw2_15, yo2_16, be2_17, bf2_18, tel_6 (by omega) (hip.resolve_left (by omega)) (by omega) (by omega) (by have h9 := htl; rw [show i = dm by omega] at h9; exact h9), rfl⟩) (Nat.le_of_ble_eq_true rfl) (Nat.le_of_ble_eq_true rfl) dX12_tells_158
              · have c_29 : kd_6 = 0 := (neq kd_6 0 (by omega) (Nat.le_of_ble_eq_true rfl)).mp c_29
                refine lv_iload_n hx hb dX12_tells_152 rfl (lv_at hl 2 rfl) ?_
                refine lv_i2l hx hb dX12_tells_153 rfl ?_
                refine lv_goto (tgt := 158) hx hb dX12_tells_154 (by decide) ?_
                exact sk_lret hx hb hr hlocks hK hP hD hS (⟨tk2_7, qp2_8, am2_9, at_2_10, aa2_11, wy2_12, ql2_13, ws_2_14, yw2_15, yo2_16, be2_17, bf2_18, tel_5 (by omega) hdm (hip.resolve_left (by omega)) (by omega) (by have h9 := htl; rw [show i = dm by omega] at h9; exact h9), rfl⟩) (Nat.le_of_ble_eq_true rfl) (Nat.le_of_ble_eq_true rfl) dX12_tells_158
            · skip
              refine lv_ldc2 (v := (-1000000000000000)) hx hb hown (hts _ w_7_184) dX12_tells_142 ?_
              refine lv_goto (tgt := 158) hx hb dX12_tells_145 (by decide) ?_
              exact sk_lret hx hb hr hlocks hK hP hD hS (⟨tk2_7, qp2_8, am2_9, at_2_10, aa2_11, wy2_12, ql2_13, ws_2_14, yw2_15, yo2_16, be2_17, bf2_18, (tel_A (f := (tlF (kcHd (kcFo L wn Ba We U 0) U (kSd L wn Ba We) hR rm) dm mN)) (n := dm) (by omega) (by omega) (by have h9 := htl; rw [show i = dm by omega] at h9; exact h9) c_28).elim, rfl⟩) (Nat.le_of_ble_eq_true rfl) (Nat.le_of_ble_eq_true rfl) dX12_tells_158
          · have c_27 : ¬ (dm ≤ i) := fun h => c_27 ((nle dm i (by omega) (by omega)).mpr h)
            refine lv_aload_n hx hb dX12_tells_41 rfl (lv_at hl 3 rfl) ?_
            refine sk_get (v := .long wy2_12) (C := RX12) (T := TX12) (N := 92) hx hb hts inlX12 hown hK hP 0 rfl rfl 45 (Nat.le_of_ble_eq_true rfl) w_5_200 rfl dX12_tells_42 ?_
            refine lv_lconst (v := 0) hx hb dX12_tells_45 (by decide) ?_
            refine W.lcmp hx hb dX12_tells_46 ?_
            refine lv_if_le (tgt := 137) hx hb dX12_tells_47 (by decide) (fun c_30 => ?_) (fun c_30 => ?_)
            · have hz0 : kcC (kcHd (kcFo L wn Ba We U 0) U (kSd L wn Ba We) hR rm) dm 0 mN = 0 := dag_0 hwy_20 hc9 c_30
              refine lv_iload_n hx hb dX12_tells_137 rfl (lv_at hl 2 rfl) ?_
              refine lv_iconst (v := (-1)) hx hb dX12_tells_138 (by decide) ?_
              refine lv_icmp_ne (tgt := 148) hx hb dX12_tells_139 (by decide) (fun c_31 => ?_) (fun c_31 => ?_)
              · skip
                refine lv_iload_n hx hb dX12_tells_148 rfl (lv_at hl 4 rfl) ?_
                refine lv_if_ne (tgt := 157) hx hb dX12_tells_149 (by decide) (fun c_32 => ?_) (fun c_32 => ?_)
                · have c_32 : ¬ (kd_6 = 0) := fun h => c_32 ((neq kd_6 0 (by omega) (Nat.le_of_ble_eq_true rfl)).mpr h)
                  refine lv_lload_n hx hb dX12_tells_157 rfl (lv_at hl 1 rfl) ?_
                  exact sk_lret hx hb hr hlocks hK hP hD hS (⟨tk2_7, qp2_8, am2_9, at_2_10, aa2_11, wy2_12, ql2_13, ws_2_14, yw2_15, yo2_16, be2_17, bf2_18, absurd (tel_B htl (by omega)) c_31, rfl⟩) (Nat.le_of_ble_eq_true rfl) (Nat.le_of_ble_eq_true rfl) dX12_tells_158
                · have c_32 : kd_6 = 0 := (neq kd_6 0 (by omega) (Nat.le_of_ble_eq_true rfl)).mp c_32
                  refine lv_iload_n hx hb dX12_tells_152 rfl (lv_at hl 2 rfl) ?_
                  refine lv_i2l hx hb dX12_tells_153 rfl ?_
                  refine lv_goto (tgt := 158) hx hb dX12_tells_154 (by decide) ?_
                  exact sk_lret hx hb hr hlocks hK hP hD hS (⟨tk2_7, qp2_8, am2_9, at_2_10, aa2_11, wy2_12, ql2_13, ws_2_14, yw2_15, yo2_16, be2_17, bf2_18, absurd (tel_B htl (by omega)) c_31, rfl⟩) (Nat.le_of_ble_eq_true rfl) (Nat.le_of_ble_eq_true rfl) dX12_tells_158
              · skip
                refine lv_ldc2 (v := (-1000000000000000)) hx hb hown (hts _ w_7_184) dX12_tells_142 ?_
                refine lv_goto (tgt := 158) hx hb dX12_tells_145 (by decide) ?_
                exact sk_lret hx hb hr hlocks hK hP hD hS (⟨tk2_7, qp2_8, am2_9, at_2_10, aa2_11, wy2_12, ql2_13, ws_2_14, yw2_15, yo2_16, be2_17, bf2_18, tel_2 hz0, rfl⟩) (Nat.le_of_ble_eq_true rfl) (Nat.le_of_ble_eq_true rfl) dX12_tells_158
            · have hpos : 0 < kcC (kcHd (kcFo L wn Ba We U 0) U (kSd L wn Ba We) hR rm) dm 0 mN := dag_1 hwy_20 hc9 c_30
              refine lv_lconst (v := 0) hx hb dX12_tells_50 (by decide) ?_
              refine lv_lstore (lv' := [(6, .long 0), (5, .int (nI i)), (3, .long fe), (2, .int be_), (0, .ref mm), (1, .int (nI kd_6))]) hx hb dX12_tells_51 hl (by decide) rfl (fun ls hl => ?_)
              refine lv_iconst (v := 0) hx hb dX12_tells_53 ic_0 ?_
              refine lv_istore (lv' := [(8, .int 0), (6, .long 0), (5, .int (nI i)), (3, .long fe), (2, .int be_), (0, .ref mm), (1, .int (nI kd_6))]) hx hb dX12_tells_54 hl (by decide) rfl (fun ls hl => ?_)
              have lp_33 : ∀ (n_34 : Nat) (jm : Nat) (mo_ : Int64) (H : Heap) (locs : List Loc) (ls : Array Slot), 10 - jm < n_34 → (jm ≤ 10) → (mo_ = Int64.ofNat (kcMx (kcT2 (kcHd (kcFo L wn Ba We U 0) U (kSd L wn Ba We) hR rm) dm mN i) jm)) → va_P D vwCl [ro_ mm 12 (mo g (nI ta) (nI pa) (nI pe) pd (nI pb) pp pf pg pn rt rn (nI cd) sn (nI il) tk2_7 am2_9 at_2_10 aa2_11 0 0 (-1) wt wy2_12 0 (nI rm) (nI ud) (nI nu) sd (nI qn) (nI qw) qo (nI qb) (nI qp2_8) qa (nI qi) (nI oc)), ra_I (g 24) cI 6 (l6 u0 u1 u2 u3 u4 u5), ra_I (g 25) cI 6 (l6 v0 v1 v2 v3 v4 v5), ra_N (g 26) cI 3200 cs, ra_I (g 31) cI 120 nw, ra_N (g 46) cI 9 pt, ra_J (g 86) cJ 1700 ql2_13, ra_I (g 20) cI 4 (l4 (nI l0) (nI l1) (nI dm) (nI l3)), ra_I (g 38) cI 90 ws_2_14, ra_I (g 36) cZ 900 yw2_15, ra_I (g 37) cZ 900 yo2_16, ra_J (g 43) cJ 90 be2_17, ra_J (g 44) cJ 90 bf2_18, ra_I (g 53) cI 32 rw_] H → va_D A [ro_ mm 12 (mo g (nI ta) (nI pa) (nI pe) pd (nI pb) pp pf pg pn rt rn (nI cd) sn (nI il) tk2_7 am2_9 at_2_10 aa2_11 0 0 (-1) wt wy2_12 0 (nI rm) (nI ud) (nI nu) sd (nI qn) (nI qw) qo (nI qb) (nI qp2_8) qa (nI qi) (nI oc)), ra_I (g 24) cI 6 (l6 u0 u1 u2 u3 u4 u5), ra_I (g 25) cI 6 (l6 v0 v1 v2 v3 v4 v5), ra_N (g 26) cI 3200 cs, ra_I (g 31) cI 120 nw, ra_N (g 46) cI 9 pt, ra_J (g 86) cJ 1700 ql2_13, ra_I (g 20) cI 4 (l4 (nI l0) (nI l1) (nI dm) (nI l3)), ra_I (g 38) cI 90 ws_2_14, ra_I (g 36) cZ 900 yw2_15, ra_I (g 37) cZ 900 yo2_16, ra_J (g 43) cJ 90 be2_17, ra_J (g 44) cJ 90 bf2_18, ra_I (g 53) cI 32 rw_] → va_S A s.heap H locs → lv_has ls 11 [(8, .int (nI jm)), (6, .long mo_), (5, .int (nI i)), (3, .long fe), (2, .int be_), (0, .ref mm), (1, .int (nI kd_6))] → W p l e { frames := 6, cells := 0, slots := 0, locals := 142 } s m ([.ref mm, .int (nI kd_6)] : List Value).toArray below meth c H locs 0 0 (MQ below (skL D (skT cI cJ cC cZ cS) (fun (r : Int64) (u : va_W) => ∃ (tk2 : Int32), ∃ (qp2 : Nat), ∃ (am2 : Int32), ∃ (at_2 : Int32), ∃ (aa2 : Int32), ∃ (wy2 : Int64), ∃ (ql2 : Nat → Int64), ∃ (ws_2 : Nat → Int32), ∃ (yw2 : Nat → Int32), ∃ (yo2 : Nat → Int32), ∃ (be2 : Nat → Int64), ∃ (bf2 : Nat → Int64), tellsR (kcHd (kcFo L wn Ba We U 0) U (kSd L wn Ba We) hR rm) dm mN (nI kd_6) r ∧ u = [ro_ mm 12 (mo g (nI ta) (nI pa) (nI pe) pd (nI pb) pp pf pg pn rt rn (nI cd) sn (nI il) tk2 am2 at_2 aa2 0 0 (-1) wt wy2 0 (nI rm) (nI ud) (nI nu) sd (nI qn) (nI qw) qo (nI qb) (nI qp2) qa (nI qi) (nI oc)), ra_I (g 24) cI 6 (l6 u0 u1 u2 u3 u4 u5), ra_I (g 25) cI 6 (l6 v0 v1 v2 v3 v4 v5), ra_N (g 26) cI 3200 cs, ra_I (g 31) cI 120 nw, ra_N (g 46) cI 9 pt, ra_J (g 86) cJ 1700 ql2, ra_I (g 20) cI 4 (l4 (nI l0) (nI l1) (nI dm) (nI l3)), ra_I (g 38) cI 90 ws_2, ra_I (g 36) cZ 900 yw2, ra_I (g 37) cZ 900 yo2, ra_J (g 43) cJ 90 be2, ra_J (g 44) cJ 90 bf2, ra_I (g 53) cI 32 rw_]) A) ([.ref mm, .int (nI kd_6)] : List Value).toArray s 0 0 A) (F0 m 56 ls []) := by
                intro n_34
                induction n_34 with
                | zero => intro jm mo_ H locs ls hm; exact absurd hm (Nat.not_lt_zero _)
                | succ n_34 ih_lp_33 =>
                  intro jm mo_ H locs ls hm hjm hmx hP hD hS hl
                  refine lv_iload hx hb dX12_tells_56 (lv_at hl 0 rfl) ?_
                  refine lv_bipush (v := 10) hx hb dX12_tells_58 (by decide) ?_
                  refine lv_icmp_ge (tgt := 110) hx hb dX12_tells_60 (by decide) (fun c_35 => ?_) (fun c_35 => ?_)
                  · have c_35 : 10 ≤ jm := (nle 10 jm (Nat.le_of_ble_eq_true rfl) (by omega)).mp c_35
                    have hmF : mo_ = Int64.ofNat ((tlF (kcHd (kcFo L wn Ba We U 0) U (kSd L wn Ba We) hR rm) dm mN) i) := by rw [hmx, show jm = 10 by omega]; rfl
                    subst hmF
                    refine lv_iload_n hx hb dX12_tells_110 rfl (lv_at hl 4 rfl) ?_
                    refine lv_iconst (v := (-1)) hx hb dX12_tells_111 (by decide) ?_
                    refine lv_icmp_eq (tgt := 125) hx hb dX12_tells_112 (by decide) (fun c_36 => ?_) (fun c_36 => ?_)
                    · skip
                      refine lv_iload hx hb dX12_tells_125 (lv_at hl 2 rfl) ?_
                      refine lv_istore_n (lv' := [(2, .int (nI i)), (8, .int (nI jm)), (6, .long (Int64.ofNat ((tlF (kcHd (kcFo L wn Ba We U 0) U (kSd L wn Ba We) hR rm) dm mN) i))), (5, .int (nI i)), (3, .long fe), (0, .ref mm), (1, .int (nI kd_6))]) hx hb dX12_tells_127 rfl hl (by decide) rfl (fun ls hl => ?_)
                      refine lv_lload hx hb dX12_tells_128 (lv_at hl 2 rfl) ?_
                      refine lv_lstore_n (lv' := [(3, .long (Int64.ofNat ((tlF (kcHd (kcFo L wn Ba We U 0) U (kSd L wn Ba We) hR rm) dm mN) i))), (2, .int (nI i)), (8, .int (nI jm)), (6, .long (Int64.ofNat ((tlF (kcHd (kcFo L wn Ba We U 0) U (kSd L wn Ba We) hR rm) dm mN) i))), (5, .int (nI i)), (0, .ref mm), (1, .int (nI kd_6))]) hx hb dX12_tells_130 rfl hl (by decide) rfl (fun ls hl => ?_)
                      refine lv_iinc (v := nI (i + 1)) (lv' := [(5, .int (nI (i + 1))), (3, .long (Int64.ofNat ((tlF (kcHd (kcFo L wn Ba We U 0) U (kSd L wn Ba We) hR rm) dm mN) i))), (2, .int (nI i)), (8, .int (nI jm)), (6, .long (Int64.ofNat ((tlF (kcHd (kcFo L wn Ba We U 0) U (kSd L wn Ba We) hR rm) dm mN) i))), (0, .ref mm), (1, .int (nI kd_6))]) hx hb dX12_tells_131 hl (k := 4) rfl (ninc i 1 (by decide)) (by decide) rfl (fun ls hl => ?_)
                      refine lv_goto (tgt := 32) hx hb dX12_tells_134 (by decide) ?_
                      exact ih_lp_22 (i + 1) (Int64.ofNat ((tlF (kcHd (kcFo L wn Ba We U 0) U (kSd L wn Ba We) hR rm) dm mN) i)) (nI i) _ _ _ (by omega) (by omega) (tlI_1 htl (by omega) c_36) (Or.inr hpos) hP hD hS (lv_sub hl [0, 1, 2, 5, 6] rfl)
                    · skip
                      refine lv_lload hx hb dX12_tells_115 (lv_at hl 1 rfl) ?_
                      refine lv_lload_n hx hb dX12_tells_117 rfl (lv_at hl 3 rfl) ?_
                      refine W.lcmp hx hb dX12_tells_118 ?_
                      refine lv_if_lt (tgt := 125) hx hb dX12_tells_119 (by decide) (fun c_37 => ?_) (fun c_37 => ?_)
                      · skip
                        refine lv_iload hx hb dX12_tells_125 (lv_at hl 2 rfl) ?_
                        refine lv_istore_n (lv' := [(2, .int (nI i)), (8, .int (nI jm)), (6, .long (Int64.ofNat ((tlF (kcHd (kcFo L wn Ba We U 0) U (kSd L wn Ba We) hR rm) dm mN) i))), (5, .int (nI i)), (3, .long fe), (0, .ref mm), (1, .int (nI kd_6))]) hx hb dX12_tells_127 rfl hl (by decide) rfl (fun ls hl => ?_)
                        refine lv_lload hx hb dX12_tells_128 (lv_at hl 2 rfl) ?_
                        refine lv_lstore_n (lv' := [(3, .long (Int64.ofNat ((tlF (kcHd (kcFo L wn Ba We U 0) U (kSd L wn Ba We) hR rm) dm mN) i))), (2, .int (nI i)), (8, .int (nI jm)), (6, .long (Int64.ofNat ((tlF (kcHd (kcFo L wn Ba We U 0) U (kSd L wn Ba We) hR rm) dm mN) i))), (5, .int (nI i)), (0, .ref mm), (1, .int (nI kd_6))]) hx hb dX12_tells_130 rfl hl (by decide) rfl (fun ls hl => ?_)
                        refine lv_iinc (v := nI (i + 1)) (lv' := [(5, .int (nI (i + 1))), (3, .long (Int64.ofNat ((tlF (kcHd (kcFo L wn Ba We U 0) U (kSd L wn Ba We) hR rm) dm mN) i))), (2, .int (nI i)), (8, .int (nI jm)), (6, .long (Int64.ofNat ((tlF (kcHd (kcFo L wn Ba We U 0) U (kSd L wn Ba We) hR rm) dm mN) i))), (0, .ref mm), (1, .int (nI kd_6))]) hx hb dX12_tells_131 hl (k := 4) rfl (ninc i 1 (by decide)) (by decide) rfl (fun ls hl => ?_)
                        refine lv_goto (tgt := 32) hx hb dX12_tells_134 (by decide) ?_
                        exact ih_lp_22 (i + 1) (Int64.ofNat ((tlF (kcHd (kcFo L wn Ba We U 0) U (kSd L wn Ba We) hR rm) dm mN) i)) (nI i) _ _ _ (by omega) (by omega) (tlI_2 htl (n := dm) (fun v hv => tlF_b (kcHd (kcFo L wn Ba We U 0) U (kSd L wn Ba We) hR rm) hdm hv) (by omega) c_36 c_37) (Or.inr hpos) hP hD hS (lv_sub hl [0, 1, 2, 5, 6] rfl)
                      · skip
                        refine lv_goto (tgt := 131) hx hb dX12_tells_122 (by decide) ?_
                        refine lv_iinc (v := nI (i + 1)) (lv' := [(5, .int (nI (i + 1))), (8, .int (nI jm)), (6, .long (Int64.ofNat ((tlF (kcHd (kcFo L wn Ba We U 0) U (kSd L wn Ba We) hR rm) dm mN) i))), (3, .long fe), (2, .int be_), (0, .ref mm), (1, .int (nI kd_6))]) hx hb dX12_tells_131 hl (k := 2) rfl (ninc i 1 (by decide)) (by decide) rfl (fun ls hl => ?_)
                        refine lv_goto (tgt := 32) hx hb dX12_tells_134 (by decide) ?_
                        exact ih_lp_22 (i + 1) fe be_ _ _ _ (by omega) (by omega) (tlI_3 htl (n := dm) (fun v hv => tlF_b (kcHd (kcFo L wn Ba We U 0) U (kSd L wn Ba We) hR rm) hdm hv) (by omega) c_36 c_37) (Or.inr hpos) hP hD hS (lv_sub hl [0, 3, 4, 5, 6] rfl)
                  · have c_35 : ¬ (10 ≤ jm) := fun h => c_35 ((nle 10 jm (Nat.le_of_ble_eq_true rfl) (by omega)).mpr h)
                    refine lv_aload_n hx hb dX12_tells_63 rfl (lv_at hl 5 rfl) ?_
                    refine sk_get (v := .ref (g 44)) (C := RX12) (T := TX12) (N := 92) hx hb hts inlX12 hown hK hP 0 rfl rfl 44 (Nat.le_of_ble_eq_true rfl) w_5_199 rfl dX12_tells_64 ?_
                    refine lv_bipush (v := 10) hx hb dX12_tells_67 (by decide) ?_
                    refine lv_iload hx hb dX12_tells_69 (lv_at hl 2 rfl) ?_
                    refine lv_imul hx hb dX12_tells_71 ?_
                    refine sk_top (nI (10 * i)) (nmul 10 i) ?_
                    refine lv_iload hx hb dX12_tells_72 (lv_at hl 0 rfl) ?_
                    refine lv_iadd hx hb dX12_tells_74 ?_
                    refine sk_top (nI (10 * i + jm)) (nI_add (10 * i) jm) ?_
                    refine va_lald hx hb hK.1 hP 12 1 rfl rfl (vin (10 * i + jm) 90 (by omega) (Nat.le_of_ble_eq_true rfl)) dX12_tells_75 ?_
                    refine sk_topl (bf2_18 (10 * i + jm)) (by rw [nI_clamp (by omega)]) ?_
                    refine lv_aload_n hx hb dX12_tells_76 rfl (lv_at hl 5 rfl) ?_
                    refine sk_get (v := .ref (g 43)) (C := RX12) (T := TX12) (N := 92) hx hb hts inlX12 hown hK hP 0 rfl rfl 43 (Nat.le_of_ble_eq_true rfl) w_5_198 rfl dX12_tells_77 ?_
                    refine lv_bipush (v := 10) hx hb dX12_tells_80 (by decide) ?_
                    refine lv_iload hx hb dX12_tells_82 (lv_at hl 2 rfl) ?_
                    refine lv_imul hx hb dX12_tells_84 ?_
                    refine sk_top (nI (10 * i)) (nmul 10 i) ?_
                    refine lv_iload hx hb dX12_tells_85 (lv_at hl 0 rfl) ?_
                    refine lv_iadd hx hb dX12_tells_87 ?_
                    refine sk_top (nI (10 * i + jm)) (nI_add (10 * i) jm) ?_
                    refine va_lald hx hb hK.1 hP 11 1 rfl rfl (vin (10 * i + jm) 90 (by omega) (Nat.le_of_ble_eq_true rfl)) dX12_tells_88 ?_
                    refine sk_topl (be2_17 (10 * i + jm)) (by rw [nI_clamp (by omega)]) ?_
                    refine lv_lmul hx hb dX12_tells_89 ?_
                    refine sk_topl (nL (kcT2 (kcHd (kcFo L wn Ba We U 0) U (kSd L wn Ba We) hR rm) dm mN i jm)) (mw_p hmw_19 (by omega) (by omega)) ?_
                    have hb1_ := kmx_b (kcHd (kcFo L wn Ba We U 0) U (kSd L wn Ba We) hR rm) (a0 := mN) (n := jm) hdm (show i < dm by omega) (by omega)
                    have hb2_ := kt2_b (kcHd (kcFo L wn Ba We U 0) U (kSd L wn Ba We) hR rm) (a0 := mN) (m := jm) hdm (show i < dm by omega) (by omega)
                    refine lv_lstore (lv' := [(9, .long (nL (kcT2 (kcHd (kcFo L wn Ba We U 0) U (kSd L wn Ba We) hR rm) dm mN i jm))), (8, .int (nI jm)), (6, .long mo_), (5, .int (nI i)), (3, .long fe), (2, .int be_), (0, .ref mm), (1, .int (nI kd_6))]) hx hb dX12_tells_90 hl (by decide) rfl (fun ls hl => ?_)
                    refine lv_lload hx hb dX12_tells_92 (lv_at hl 0 rfl) ?_
                    refine lv_lload hx hb dX12_tells_94 (lv_at hl 2 rfl) ?_
                    refine W.lcmp hx hb dX12_tells_96 ?_
                    refine lv_if_le (tgt := 104) hx hb dX12_tells_97 (by decide) (fun c_38 => ?_) (fun c_38 => ?_)
                    · skip
                      refine lv_iinc (v := nI (jm + 1)) (lv' := [(8, .int (nI (jm + 1))), (9, .long (nL (kcT2 (kcHd (kcFo L wn Ba We U 0) U (kSd L wn Ba We) hR rm) dm mN i jm))), (6, .long mo_), (5, .int (nI i)), (3, .long fe), (2, .int be_), (0, .ref mm), (1, .int (nI kd_6))]) hx hb dX12_tells_104 hl (k := 1) rfl (ninc jm 1 (by decide)) (by decide) rfl (fun ls hl => ?_)
                      refine lv_goto (tgt := 56) hx hb dX12_tells_107 (by decide) ?_
                      exact ih_lp_33 (jm + 1) mo_ _ _ _ (by omega) (by omega) (mx_n hmx (by omega) (by omega) c_38) hP hD hS (lv_sub hl [0, 2, 3, 4, 5, 6, 7] rfl)
                    · skip
                      refine lv_lload hx hb dX12_tells_100 (lv_at hl 0 rfl) ?_
                      refine lv_lstore (lv' := [(6, .long (nL (kcT2 (kcHd (kcFo L wn Ba We U 0) U (kSd L wn Ba We) hR rm) dm mN i jm))), (9, .long (nL (kcT2 (kcHd (kcFo L wn Ba We U 0) U (kSd L wn Ba We) hR rm) dm mN i jm))), (8, .int (nI jm)), (5, .int (nI i)), (3, .long fe), (2, .int be_), (0, .ref mm), (1, .int (nI kd_6))]) hx hb dX12_tells_102 hl (by decide) rfl (fun ls hl => ?_)
                      refine lv_iinc (v := nI (jm + 1)) (lv' := [(8, .int (nI (jm + 1))), (6, .long (nL (kcT2 (kcHd (kcFo L wn Ba We U 0) U (kSd L wn Ba We) hR rm) dm mN i jm))), (9, .long (nL (kcT2 (kcHd (kcFo L wn Ba We U 0) U (kSd L wn Ba We) hR rm) dm mN i jm))), (5, .int (nI i)), (3, .long fe), (2, .int be_), (0, .ref mm), (1, .int (nI kd_6))]) hx hb dX12_tells_104 hl (k := 2) rfl (ninc jm 1 (by decide)) (by decide) rfl (fun ls hl => ?_)
                      refine lv_goto (tgt := 56) hx hb dX12_tells_107 (by decide) ?_
                      exact ih_lp_33 (jm + 1) (nL (kcT2 (kcHd (kcFo L wn Ba We U 0) U (kSd L wn Ba We) hR rm) dm mN i jm)) _ _ _ (by omega) (by omega) (mx_y hmx (by omega) (by omega) c_38) hP hD hS (lv_sub hl [0, 1, 3, 4, 5, 6, 7] rfl)
              exact lp_33 (10 - 0 + 1) 0 0 _ _ _ (Nat.lt_succ_self _) (by omega) rfl hP hD hS (lv_sub hl [0, 1, 2, 3, 4, 5, 6] rfl)
      exact lp_22 (dm - 0 + 1) 0 0 (-1) _ _ _ (Nat.lt_succ_self _) (by omega) (Or.inl ⟨rfl, rfl⟩) (Or.inl rfl) hP hD hS (lv_sub hl [0, 1, 2, 3, 4] rfl)
    · have c_5 : b_2 = 0 := (neq b_2 0 (by omega) (Nat.le_of_ble_eq_true rfl)).mp c_5
      refine lv_ldc2 (v := (-1000000000000000)) hx hb hown (hts _ w_7_184) dX12_tells_17 ?_
      exact sk_lret hx hb hr hlocks hK hP hD hS (⟨tk, qp, am, at_, aa, wy, ql, ws_, yw, yo, be, bf, tel_1 (fun hq => rr_0 hb1_4 (by omega) ((kin0 (n := 2) (by decide) (by omega)).mpr hq)), rfl⟩) (Nat.le_of_ble_eq_true rfl) (Nat.le_of_ble_eq_true rfl) dX12_tells_20
/-! the reference's pay -/
def kPv (E : Nat → Nat → Nat → Bool) (W : Nat → Nat → Int) (gd d m : Nat) : Int := if kcC E (gd - (d + 1)) (d + 1) m = 0 then -1000000000000000 else kPg E W gd d m
def mpY (E : Nat → Nat → Nat → Bool) (W : Nat → Nat → Int) (gd i : Nat) (f : Nat → Int64) : Prop := ∀ d, i ≤ d → d < gd → ∀ m, m < 10 → (f (10 * d + m)).toInt = kPv E W gd d m
def mpJ (E : Nat → Nat → Nat → Bool) (W : Nat → Nat → Int) (gd d j : Nat) (f : Nat → Int64) : Prop := mpY E W gd (d + 1) f ∧ ∀ m, m < j → (f (10 * d + m)).toInt = kPv E W gd d m
theorem mpY_0 (E : Nat → Nat → Nat → Bool) (W : Nat → Nat → Int) (gd : Nat) (f : Nat → Int64) : mpY E W gd gd f := fun d h1 h2 => absurd h2 (by omega)
theorem mpJ_0 {E : Nat → Nat → Nat → Bool} {W : Nat → Nat → Int} {gd d e : Nat} {f : Nat → Int64} (h : mpY E W gd e f) (he : e = d + 1) : mpJ E W gd d 0 f := ⟨he ▸ h, fun p hp => absurd hp (Nat.not_lt_zero p)⟩
theorem mpJ_s {E : Nat → Nat → Nat → Bool} {W : Nat → Nat → Int} {gd d j : Nat} {f g : Nat → Int64} {x : Int64} (h : mpJ E W gd d j f) (e : g = vp_updL f (10 * d + j) x) (hj : j < 10) (hx : x.toInt = kPv E W gd d j) : mpJ E W gd d (j + 1) g := by
  refine ⟨fun d2 h1 h2 m hm => ?_, fun p hp => ?_⟩
  · rw [kup_n e (by omega)]; exact h.1 d2 h1 h2 m hm
  · by_cases q : p = j
    · subst q; rw [kup_s e, hx]
    · rw [kup_n e (by omega)]; exact h.2 p (by omega)
theorem mpJ_10 {E : Nat → Nat → Nat → Bool} {W : Nat → Nat → Int} {gd d : Nat} {f : Nat → Int64} (h : mpJ E W gd d 10 f) : mpY E W gd d f := fun d2 h1 h2 m hm => by
  by_cases q : d2 = d
  · subst q; exact h.2 m hm
  · exact h.1 d2 (by omega) h2 m hm
theorem mpY_z {E : Nat → Nat → Nat → Bool} {W : Nat → Nat → Int} {gd i : Nat} {f : Nat → Int64} (h : mpY E W gd i f) (e : i = 0) : mpY E W gd 0 f := e ▸ h
/-- the most that is to come, so far -/
def mpM (E : Nat → Nat → Nat → Bool) (W : Nat → Nat → Int) (gd d m k : Nat) (x : Int64) : Prop := x.toInt = if d + 1 = gd then 0 else kPm (kGo E gd (d + 1) m) (kPg E W gd (d + 1)) k
theorem mpM_1 {E : Nat → Nat → Nat → Bool} {W : Nat → Nat → Int} {gd d m : Nat} (h : d + 1 = gd) : mpM E W gd d m 0 0 := by
  unfold mpM
  rw [if_pos h]
  decide
theorem mpM_2 {E : Nat → Nat → Nat → Bool} {W : Nat → Nat → Int} {gd d m : Nat} (h : ¬ d + 1 = gd) : mpM E W gd d m 0 (-1000000000000000) := by
  unfold mpM
  rw [if_neg h]
  show ((-1000000000000000 : Int64)).toInt = -1000000000000000
  decide
theorem mpM_n {E : Nat → Nat → Nat → Bool} {W : Nat → Nat → Int} {gd d m k : Nat} {x : Int64} (h : mpM E W gd d m k x) (hd : d + 1 < gd) (hn : ¬ kGo E gd (d + 1) m k = true) : mpM E W gd d m (k + 1) x := by
  unfold mpM at h ⊢
  rw [if_neg (by omega)] at h ⊢
  rw [kpm_s, if_neg (fun q => hn q.1)]
  exact h
theorem mpM_go {E : Nat → Nat → Nat → Bool} {W : Nat → Nat → Int} {gd d m k : Nat} {x y : Int64} (h : mpM E W gd d m k x) (hW : kWb W gd) (h9 : gd ≤ 9) (hd : d + 1 < gd) (hk : k < 10) (hE : E (d + 1) m k = true) (hy : y.toInt = kPv E W gd (d + 1) k) : (lg_cmp y x ≤ 0 → mpM E W gd d m (k + 1) x) ∧ (¬ lg_cmp y x ≤ 0 → mpM E W gd d m (k + 1) y) := by
  have hb := kpm_b (E := E) (a := m) (n := k) hW h9 hd (by omega)
  unfold mpM at h
  rw [if_neg (by omega)] at h
  unfold kPv at hy
  by_cases c : kcC E (gd - (d + 1 + 1)) (d + 1 + 1) k = 0
  · rw [if_pos c] at hy
    have hn : ¬ kGo E gd (d + 1) m k = true := fun q => by have := kgo_C q; omega
    refine ⟨fun _ => mpM_n (by unfold mpM; rw [if_neg (by omega)]; exact h) hd hn, fun q => ?_⟩
    have h2 := (lg_cmp_gt _ _).mp (Int32.not_le.mp q)
    rw [Int64.lt_iff_toInt_lt, h, hy] at h2
    omega
  · rw [if_neg c] at hy
    have hg : kGo E gd (d + 1) m k = true := kgo_t.mpr (kW_pos.mpr ⟨hE, Nat.pos_of_ne_zero c⟩)
    unfold mpM
    rw [if_neg (by omega), kpm_s]
    constructor
    · intro q
      have h2 : ¬ x < y := fun z => Int32.not_le.mpr ((lg_cmp_gt _ _).mpr z) q
      rw [Int64.lt_iff_toInt_lt, h, hy] at h2
      rw [if_neg (fun z => h2 z.2)]
      exact h
    · intro q
      have h2 := (lg_cmp_gt _ _).mp (Int32.not_le.mp q)
      rw [Int64.lt_iff_toInt_lt, h, hy] at h2
      rw [if_pos ⟨hg, h2⟩]
      exact hy
theorem mpM_e {E : Nat → Nat → Nat → Bool} {W : Nat → Nat → Int} {gd d m k : Nat} {x : Int64} (h : mpM E W gd d m k x) (hd : d < gd) (hk : k = 10 ∨ d + 1 = gd) : x.toInt = kPd E W gd (d + 1) m := by
  unfold mpM at h
  by_cases c : d + 1 = gd
  · rw [if_pos c] at h
    rw [h, c, kpd_e]
  · rw [if_neg c] at h
    rcases hk with e | e
    · rw [h, e, kpd_s (by omega)]
    · exact absurd e c
theorem kNOT_i : (-1000000000000000 : Int64).toInt = -1000000000000000 := by decide
theorem mpV_n {E : Nat → Nat → Nat → Bool} {W : Nat → Nat → Int} {gd d m : Nat} {x : Int64} (h : x.toInt = kPd E W gd (d + 1) m) (hW : kWb W gd) (h9 : gd ≤ 9) (hd : d < gd) (hc : lg_cmp x (-1000000000000000) = 0) : (-1000000000000000 : Int64).toInt = kPv E W gd d m := by
  have h2 := (lg_cmp_eq _ _).mp hc
  rw [h2, kNOT_i] at h
  unfold kPv
  rw [kNOT_i]
  by_cases c : kcC E (gd - (d + 1)) (d + 1) m = 0
  · rw [if_pos c]
  · have := kpd_b9 (a := m) hW h9 (show d + 1 ≤ gd by omega) (Nat.pos_of_ne_zero c)
    omega
theorem mpV_y {E : Nat → Nat → Nat → Bool} {W : Nat → Nat → Int} {gd d m : Nat} {x w : Int64} (h : x.toInt = kPd E W gd (d + 1) m) (hW : kWb W gd) (h9 : gd ≤ 9) (hd : d < gd) (hm : m < 10) (hw : w.toInt = W d m) (hc : ¬ lg_cmp x (-1000000000000000) = 0) : (x + w).toInt = kPv E W gd d m := by
  have h3 := hW d m hd hm
  unfold kPv
  by_cases c : kcC E (gd - (d + 1)) (d + 1) m = 0
  · refine absurd ((lg_cmp_eq _ _).mpr (Int64.toInt_inj.mp ?_)) hc
    rw [h, kNOT_i]
    have hd1 : d + 1 < gd := by
      refine Nat.lt_of_le_of_ne (by omega) (fun e => ?_)
      rw [e, Nat.sub_self] at c
      exact absurd (show (1 : Nat) = 0 from c) (by decide)
    rw [kpd_s hd1]
    exact kpm_z 10 (fun k hk q => by
      have h4 := kcW_S (E := E) (a := m) hd1
      rw [c] at h4
      have h5 := kcS_pos 10 h4 k hk
      have h6 := kgo_t.mp q
      omega)
  · rw [if_neg c]
    have h4 := kpd_b9 (a := m) hW h9 (show d + 1 ≤ gd by omega) (Nat.pos_of_ne_zero c)
    rw [Int64.toInt_add, h, hw, kbm (by omega) (by omega)]
    unfold kPg
    omega
/-- the best behind a mood, so far -/
def bbI (P : Nat → Bool) (f : Nat → Int) (i : Nat) (be : Int32) : Prop := (be = -1 ∧ ∀ m, m < i → ¬ P m = true) ∨ ∃ s, s < i ∧ be = nI s ∧ P s = true ∧ (∀ m, m < i → P m = true → f m ≤ f s) ∧ ∀ m, m < s → P m = true → f m < f s
theorem bbI_0 (P : Nat → Bool) (f : Nat → Int) : bbI P f 0 (-1) := Or.inl ⟨rfl, fun m hm => absurd hm (Nat.not_lt_zero m)⟩
theorem bbI_n {P : Nat → Bool} {f : Nat → Int} {i : Nat} {be : Int32} (h : bbI P f i be) (hn : ¬ P i = true) : bbI P f (i + 1) be := by
  rcases h with ⟨h1, h2⟩ | ⟨s, h1, h2, h3, h4, h5⟩
  · refine Or.inl ⟨h1, fun m hm => ?_⟩
    by_cases e : m = i
    · subst e; exact hn
    · exact h2 m (by omega)
  · refine Or.inr ⟨s, by omega, h2, h3, fun m hm hp => ?_, h5⟩
    by_cases e : m = i
    · subst e; exact absurd hp hn
    · exact h4 m (by omega) hp
theorem bbI_1 {P : Nat → Bool} {f : Nat → Int} {i : Nat} {be : Int32} (h : bbI P f i be) (hi : i ≤ 10) (e : be = -1) (hp : P i = true) : bbI P f (i + 1) (nI i) := by
  rcases h with ⟨h1, h2⟩ | ⟨s, h1, h2, _⟩
  · refine Or.inr ⟨i, Nat.lt_succ_self i, rfl, hp, fun m hm hq => ?_, fun m hm hq => absurd hq (h2 m hm)⟩
    by_cases c : m = i
    · subst c; exact Int.le_refl _
    · exact absurd hq (h2 m (by omega))
  · exact absurd (h2.symm.trans e) (nI_ne1 (by omega))
theorem bb_k {P : Nat → Bool} {f : Nat → Int} {i : Nat} {be : Int32} (h : bbI P f i be) (e : ¬ be = -1) : ∃ s, s < i ∧ be = nI s ∧ P s = true ∧ (∀ m, m < i → P m = true → f m ≤ f s) ∧ ∀ m, m < s → P m = true → f m < f s := by
  rcases h with ⟨h1, _⟩ | h
  · exact absurd h1 e
  · exact h
theorem bbI_2 {P : Nat → Bool} {f : Nat → Int} {i s : Nat} (h1 : s < i) (h3 : P s = true) (h4 : ∀ m, m < i → P m = true → f m ≤ f s) (h5 : ∀ m, m < s → P m = true → f m < f s) (hp : P i = true) (hc : f s < f i) : bbI P f (i + 1) (nI i) := Or.inr ⟨i, Nat.lt_succ_self i, rfl, hp, fun m hm hq => by
  by_cases c : m = i
  · subst c; exact Int.le_refl _
  · have := h4 m (by omega) hq; omega, fun m hm hq => by have := h4 m hm hq; omega⟩
theorem bbI_3 {P : Nat → Bool} {f : Nat → Int} {i s : Nat} (h1 : s < i) (h3 : P s = true) (h4 : ∀ m, m < i → P m = true → f m ≤ f s) (h5 : ∀ m, m < s → P m = true → f m < f s) (hc : ¬ f s < f i) : bbI P f (i + 1) (nI s) := Or.inr ⟨s, by omega, rfl, h3, fun m hm hq => by
  by_cases c : m = i
  · subst c; omega
  · exact h4 m (by omega) hq, h5⟩
theorem kpf_eq {P : Nat → Bool} {f : Nat → Int} {v : Int} {s : Nat} (hs : P s = true ∧ f s = v) : ∀ n m, m ≤ s → s < m + n → (∀ j, m ≤ j → j < s → ¬ (P j = true ∧ f j = v)) → kPf P f v n m = s
  | 0, m, h1, h2, _ => absurd h2 (by omega)
  | n + 1, m, h1, h2, h3 => by
    by_cases e : m = s
    · subst e
      exact if_pos hs
    · have e2 : kPf P f v (n + 1) m = kPf P f v n (m + 1) := if_neg (h3 m (Nat.le_refl m) (by omega))
      rw [e2]
      exact kpf_eq hs n (m + 1) (by omega) (by omega) (fun j hj hj2 => h3 j (by omega) hj2)
theorem bb_pf {E : Nat → Nat → Nat → Bool} {W : Nat → Nat → Int} {gd d a i : Nat} {be : Int32} (h : bbI (kGo E gd d a) (kPg E W gd d) i be) (hi : i = 10) (hW : kWb W gd) (h9 : gd ≤ 9) (hd : d < gd) (hC : 0 < kcC E (gd - d) d a) : be = nI (kPf (kGo E gd d a) (kPg E W gd d) (kPd E W gd d a) 10 0) ∧ ∃ s, s < 10 ∧ be = nI s ∧ kGo E gd d a s = true ∧ kPg E W gd d s = kPd E W gd d a := by
  subst hi
  obtain ⟨j, _, hj, hp, hf⟩ := kpd_at hW h9 hd hC
  rcases h with ⟨_, h2⟩ | ⟨s, h1, h2, h3, h4, h5⟩
  · exact absurd hp (h2 j (by omega))
  · have h6 := h4 j (by omega) hp
    have h7 := kpm_le (P := kGo E gd d a) (f := kPg E W gd d) 10 s h1 h3
    rw [← kpd_s hd] at h7
    have e : kPg E W gd d s = kPd E W gd d a := by omega
    refine ⟨?_, s, h1, h2, h3, e⟩
    rw [h2]
    refine congrArg nI (kpf_eq ⟨h3, e⟩ 10 0 (Nat.zero_le s) (by omega) (fun m _ hm q => ?_)).symm
    have := h5 m hm q.1
    have := q.2
    omega
theorem bb_z {E : Nat → Nat → Nat → Bool} {W : Nat → Nat → Int} {gd d a i : Nat} {be : Int32} (h : bbI (kGo E gd d a) (kPg E W gd d) i be) (hi : i ≤ 10) (hd : d < gd) (hC : kcC E (gd - d) d a = 0) : be = -1 := by
  rcases h with ⟨h1, _⟩ | ⟨s, h1, h2, h3, _⟩
  · exact h1
  · have h4 := kcW_S (E := E) (a := a) hd
    rw [hC] at h4
    have h5 := kcS_pos 10 h4 s (by omega)
    have h6 := kgo_t.mp h3
    omega
theorem mp_v {E : Nat → Nat → Nat → Bool} {W : Nat → Nat → Int} {gd d a m : Nat} {x : Int64} (hE : E d a m = true) (hx : x.toInt = kPv E W gd d m) (hW : kWb W gd) (h9 : gd ≤ 9) (hd : d < gd) (hm : m < 10) : (lg_cmp x (-1000000000000000) = 0 → ¬ kGo E gd d a m = true) ∧ (¬ lg_cmp x (-1000000000000000) = 0 → kGo E gd d a m = true ∧ x.toInt = kPg E W gd d m) := by
  unfold kPv at hx
  by_cases c : kcC E (gd - (d + 1)) (d + 1) m = 0
  · rw [if_pos c] at hx
    refine ⟨fun _ q => by have := kgo_C q; omega, fun q => absurd ((lg_cmp_eq _ _).mpr (Int64.toInt_inj.mp (by rw [hx, kNOT_i]))) q⟩
  · rw [if_neg c] at hx
    have hg : kGo E gd d a m = true := kgo_t.mpr (kW_pos.mpr ⟨hE, Nat.pos_of_ne_zero c⟩)
    have hb := kpg_b hW h9 hd hm hg
    refine ⟨fun q => ?_, fun _ => ⟨hg, hx⟩⟩
    have h2 := (lg_cmp_eq _ _).mp q
    rw [h2, kNOT_i] at hx
    omega
theorem kgo_no {E : Nat → Nat → Nat → Bool} {gd d a m : Nat} (h : E d a m = false) : ¬ kGo E gd d a m = true := fun q => by
  have h1 := (kW_pos.mp (kgo_t.mp q)).1
  rw [h] at h1
  cases h1
theorem kPv_s {E : Nat → Nat → Nat → Bool} {W : Nat → Nat → Int} {gd d a s : Nat} (h : kGo E gd d a s = true) : kPv E W gd d s = kPg E W gd d s := if_neg (by have := kgo_C h; omega)
theorem dg_X12_bestBehind_0_0 : bqL cX12_bestBehind 0 [(0, [2]), (1, [62]), (2, [3]), (3, [54, 4]), (5, [21, 4]), (7, [16, 10]), (9, [162, 0, 77]), (86, [29]), (87, [172]), (12, [42]), (13, [27]), (14, [28]), (15, [21, 4]), (17, [182, 1, 122]), (20, [153, 0, 60]), (80, [132, 4, 1]), (83, [167, 255, 178]), (23, [42]), (24, [180, 0, 92]), (27, [16, 10]), (29, [27]), (30, [104]), (31, [21, 4]), (33, [96]), (34, [47]), (35, [20, 1, 165]), (38, [148]), (39, [154, 0, 6]), (45, [29]), (46, [2]), (47, [159, 0, 30]), (77, [21, 4]), (79, [62]), (50, [42]), (51, [180, 0, 92]), (54, [16, 10]), (56, [27]), (57, [104]), (58, [21, 4]), (60, [96])] = true := by decide +kernel
theorem dX12_bestBehind_0 : decode cX12_bestBehind 0 = .ok (.iconst (-1), 1) := q_iconstm1 (bat_get dg_X12_bestBehind_0_0 0 rfl rfl)
theorem dX12_bestBehind_1 : decode cX12_bestBehind 1 = .ok (.istore_n 3, 1) := q_istore_n3 (bat_get dg_X12_bestBehind_0_0 1 rfl rfl)
theorem dX12_bestBehind_2 : decode cX12_bestBehind 2 = .ok (.iconst 0, 1) := q_iconst0 (bat_get dg_X12_bestBehind_0_0 2 rfl rfl)
theorem dX12_bestBehind_3 : decode cX12_bestBehind 3 = .ok (.istore 4, 2) := q_istore (bat_get dg_X12_bestBehind_0_0 3 rfl rfl)
theorem dX12_bestBehind_5 : decode cX12_bestBehind 5 = .ok (.iload 4, 2) := q_iload (bat_get dg_X12_bestBehind_0_0 4 rfl rfl)
theorem dX12_bestBehind_7 : decode cX12_bestBehind 7 = .ok (.bipush 10, 2) := q_bipush (bat_get dg_X12_bestBehind_0_0 5 rfl rfl) rfl
theorem dX12_bestBehind_9 : decode cX12_bestBehind 9 = .ok (.if_icmp .ge 77, 3) := q_if_icmp_ge (bat_get dg_X12_bestBehind_0_0 6 rfl rfl) rfl
theorem dX12_bestBehind_86 : decode cX12_bestBehind 86 = .ok (.iload_n 3, 1) := q_iload_n3 (bat_get dg_X12_bestBehind_0_0 7 rfl rfl)
theorem dX12_bestBehind_87 : decode cX12_bestBehind 87 = .ok (.ireturn, 1) := q_ireturn (bat_get dg_X12_bestBehind_0_0 8 rfl rfl)
theorem dX12_bestBehind_12 : decode cX12_bestBehind 12 = .ok (.aload_n 0, 1) := q_aload_n0 (bat_get dg_X12_bestBehind_0_0 9 rfl rfl)
theorem dX12_bestBehind_13 : decode cX12_bestBehind 13 = .ok (.iload_n 1, 1) := q_iload_n1 (bat_get dg_X12_bestBehind_0_0 10 rfl rfl)
theorem dX12_bestBehind_14 : decode cX12_bestBehind 14 = .ok (.iload_n 2, 1) := q_iload_n2 (bat_get dg_X12_bestBehind_0_0 11 rfl rfl)
theorem dX12_bestBehind_15 : decode cX12_bestBehind 15 = .ok (.iload 4, 2) := q_iload (bat_get dg_X12_bestBehind_0_0 12 rfl rfl)
theorem dX12_bestBehind_17 : decode cX12_bestBehind 17 = .ok (.invokevirtual 378, 3) := q_invokevirtual (bat_get dg_X12_bestBehind_0_0 13 rfl rfl) rfl
theorem dX12_bestBehind_20 : decode cX12_bestBehind 20 = .ok (.ifCond .eq 60, 3) := q_ifCond_eq (bat_get dg_X12_bestBehind_0_0 14 rfl rfl) rfl
theorem dX12_bestBehind_80 : decode cX12_bestBehind 80 = .ok (.iinc 4 1, 3) := q_iinc (bat_get dg_X12_bestBehind_0_0 15 rfl rfl) rfl
theorem dX12_bestBehind_83 : decode cX12_bestBehind 83 = .ok (.goto (-78), 3) := q_goto (bat_get dg_X12_bestBehind_0_0 16 rfl rfl) rfl
theorem dX12_bestBehind_23 : decode cX12_bestBehind 23 = .ok (.aload_n 0, 1) := q_aload_n0 (bat_get dg_X12_bestBehind_0_0 17 rfl rfl)
theorem dX12_bestBehind_24 : decode cX12_bestBehind 24 = .ok (.getfield 92, 3) := q_getfield (bat_get dg_X12_bestBehind_0_0 18 rfl rfl) rfl
theorem dX12_bestBehind_27 : decode cX12_bestBehind 27 = .ok (.bipush 10, 2) := q_bipush (bat_get dg_X12_bestBehind_0_0 19 rfl rfl) rfl
theorem dX12_bestBehind_29 : decode cX12_bestBehind 29 = .ok (.iload_n 1, 1) := q_iload_n1 (bat_get dg_X12_bestBehind_0_0 20 rfl rfl)
theorem dX12_bestBehind_30 : decode cX12_bestBehind 30 = .ok (.imul, 1) := q_imul (bat_get dg_X12_bestBehind_0_0 21 rfl rfl)
theorem dX12_bestBehind_31 : decode cX12_bestBehind 31 = .ok (.iload 4, 2) := q_iload (bat_get dg_X12_bestBehind_0_0 22 rfl rfl)
theorem dX12_bestBehind_33 : decode cX12_bestBehind 33 = .ok (.iadd, 1) := q_iadd (bat_get dg_X12_bestBehind_0_0 23 rfl rfl)
theorem dX12_bestBehind_34 : decode cX12_bestBehind 34 = .ok (.laload, 1) := q_laload (bat_get dg_X12_bestBehind_0_0 24 rfl rfl)
theorem dX12_bestBehind_35 : decode cX12_bestBehind 35 = .ok (.ldc2_w 421, 3) := q_ldc2_w (bat_get dg_X12_bestBehind_0_0 25 rfl rfl) rfl
theorem dX12_bestBehind_38 : decode cX12_bestBehind 38 = .ok (.lcmp, 1) := q_lcmp (bat_get dg_X12_bestBehind_0_0 26 rfl rfl)
theorem dX12_bestBehind_39 : decode cX12_bestBehind 39 = .ok (.ifCond .ne 6, 3) := q_ifCond_ne (bat_get dg_X12_bestBehind_0_0 27 rfl rfl) rfl
theorem dX12_bestBehind_45 : decode cX12_bestBehind 45 = .ok (.iload_n 3, 1) := q_iload_n3 (bat_get dg_X12_bestBehind_0_0 28 rfl rfl)
theorem dX12_bestBehind_46 : decode cX12_bestBehind 46 = .ok (.iconst (-1), 1) := q_iconstm1 (bat_get dg_X12_bestBehind_0_0 29 rfl rfl)
theorem dX12_bestBehind_47 : decode cX12_bestBehind 47 = .ok (.if_icmp .eq 30, 3) := q_if_icmp_eq (bat_get dg_X12_bestBehind_0_0 30 rfl rfl) rfl
theorem dX12_bestBehind_77 : decode cX12_bestBehind 77 = .ok (.iload 4, 2) := q_iload (bat_get dg_X12_bestBehind_0_0 31 rfl rfl)
theorem dX12_bestBehind_79 : decode cX12_bestBehind 79 = .ok (.istore_n 3, 1) := q_istore_n3 (bat_get dg_X12_bestBehind_0_0 32 rfl rfl)
theorem dX12_bestBehind_50 : decode cX12_bestBehind 50 = .ok (.aload_n 0, 1) := q_aload_n0 (bat_get dg_X12_bestBehind_0_0 33 rfl rfl)
theorem dX12_bestBehind_51 : decode cX12_bestBehind 51 = .ok (.getfield 92, 3) := q_getfield (bat_get dg_X12_bestBehind_0_0 34 rfl rfl) rfl
theorem dX12_bestBehind_54 : decode cX12_bestBehind 54 = .ok (.bipush 10, 2) := q_bipush (bat_get dg_X12_bestBehind_0_0 35 rfl rfl) rfl
theorem dX12_bestBehind_56 : decode cX12_bestBehind 56 = .ok (.iload_n 1, 1) := q_iload_n1 (bat_get dg_X12_bestBehind_0_0 36 rfl rfl)
theorem dX12_bestBehind_57 : decode cX12_bestBehind 57 = .ok (.imul, 1) := q_imul (bat_get dg_X12_bestBehind_0_0 37 rfl rfl)
theorem dX12_bestBehind_58 : decode cX12_bestBehind 58 = .ok (.iload 4, 2) := q_iload (bat_get dg_X12_bestBehind_0_0 38 rfl rfl)
theorem dX12_bestBehind_60 : decode cX12_bestBehind 60 = .ok (.iadd, 1) := q_iadd (bat_get dg_X12_bestBehind_0_0 39 rfl rfl)
theorem dg_X12_bestBehind_42_61 : bqL cX12_bestBehind 42 [(19, [47]), (20, [42]), (21, [180, 0, 92]), (24, [16, 10]), (26, [27]), (27, [104]), (28, [29]), (29, [96]), (30, [47]), (31, [148]), (32, [158, 0, 6]), (0, [167, 0, 38])] = true := by decide +kernel
theorem dX12_bestBehind_61 : decode cX12_bestBehind 61 = .ok (.laload, 1) := q_laload (bat_get dg_X12_bestBehind_42_61 0 rfl rfl)
theorem dX12_bestBehind_62 : decode cX12_bestBehind 62 = .ok (.aload_n 0, 1) := q_aload_n0 (bat_get dg_X12_bestBehind_42_61 1 rfl rfl)
theorem dX12_bestBehind_63 : decode cX12_bestBehind 63 = .ok (.getfield 92, 3) := q_getfield (bat_get dg_X12_bestBehind_42_61 2 rfl rfl) rfl
theorem dX12_bestBehind_66 : decode cX12_bestBehind 66 = .ok (.bipush 10, 2) := q_bipush (bat_get dg_X12_bestBehind_42_61 3 rfl rfl) rfl
theorem dX12_bestBehind_68 : decode cX12_bestBehind 68 = .ok (.iload_n 1, 1) := q_iload_n1 (bat_get dg_X12_bestBehind_42_61 4 rfl rfl)
theorem dX12_bestBehind_69 : decode cX12_bestBehind 69 = .ok (.imul, 1) := q_imul (bat_get dg_X12_bestBehind_42_61 5 rfl rfl)
theorem dX12_bestBehind_70 : decode cX12_bestBehind 70 = .ok (.iload_n 3, 1) := q_iload_n3 (bat_get dg_X12_bestBehind_42_61 6 rfl rfl)
theorem dX12_bestBehind_71 : decode cX12_bestBehind 71 = .ok (.iadd, 1) := q_iadd (bat_get dg_X12_bestBehind_42_61 7 rfl rfl)
theorem dX12_bestBehind_72 : decode cX12_bestBehind 72 = .ok (.laload, 1) := q_laload (bat_get dg_X12_bestBehind_42_61 8 rfl rfl)
theorem dX12_bestBehind_73 : decode cX12_bestBehind 73 = .ok (.lcmp, 1) := q_lcmp (bat_get dg_X12_bestBehind_42_61 9 rfl rfl)
theorem dX12_bestBehind_74 : decode cX12_bestBehind 74 = .ok (.ifCond .le 6, 3) := q_ifCond_le (bat_get dg_X12_bestBehind_42_61 10 rfl rfl) rfl
theorem dX12_bestBehind_42 : decode cX12_bestBehind 42 = .ok (.goto 38, 3) := q_goto (bat_get dg_X12_bestBehind_42_61 11 rfl rfl) rfl
theorem w_5_203 : (Cond.fieldLink RX12 92 "SameKeeperModel" "pays" "[J") ∈ wsL_law := sk_mem (ck_5 _ (List.mem_of_getElem? (i := 203) rfl)) rfl
theorem w_8_52 : (Cond.code yX12_bestBehind cX12_bestBehind 5 (some .int)) ∈ wsL_law := sk_mem (ck_8 _ (List.mem_of_getElem? (i := 52) rfl)) rfl
set_option maxHeartbeats 4000000 in
set_option maxRecDepth 100000 in
theorem c_vm_bestBehindX (l : Launch) (D : va_G) (cI cJ cC cZ cS : ClassId) (mm : Nat) (g : Nat → Nat) (ta : Nat) (pa : Nat) (pe : Nat) (pd : Int32) (pb : Nat) (pp : Int32) (pf : Int32) (pg : Int32) (pn : Int32) (rt : Int32) (rn : Int32) (cd : Nat) (sn : Int32) (il : Nat) (tk : Int32) (am : Int32) (at_ : Int32) (aa : Int32) (wt : Int32) (wy : Int64) (it_ : Nat) (rm : Nat) (ud : Nat) (nu : Nat) (sd : Int64) (qn : Nat) (qw : Nat) (qo : Int32) (qb : Nat) (qp : Nat) (qa : Int64) (qi : Nat) (oc : Nat) (d : Nat) (ab : Nat) (nw : Nat → Int32) (yo : Nat → Int32) (yw : Nat → Int32) (py : Nat → Int64) (Ed : Nat → Nat → Nat → Bool) (Wg : Nat → Nat → Int) (dm : Nat) (hdm : dm ≤ 9) (hd : d < dm) (hab : ab < 10) (hWb : kWb Wg dm) (hpy : mpY Ed Wg dm 0 py) (hcf : ∀ d, d < dm → ∀ a m, a < 10 → m < 10 → cfN nw yw yo 0 d a m = Ed d a m) (hnw : nowOk nw) : skM l yX12_bestBehind cX12_bestBehind 5 (some .int) 3 66 0 0 D (skT cI cJ cC cZ cS) [.ref mm, .int (nI d), .int (nI ab)] [ro_ mm 12 (mo g (nI ta) (nI pa) (nI pe) pd (nI pb) pp pf pg pn rt rn (nI cd) sn (nI il) tk am at_ aa 0 0 (-1) wt wy (nI it_) (nI rm) (nI ud) (nI nu) sd (nI qn) (nI qw) qo (nI qb) (nI qp) qa (nI qi) (nI oc)), ra_I (g 31) cI 120 nw, ra_I (g 37) cZ 900 yo, ra_I (g 36) cZ 900 yw, ra_J (g 48) cJ 90 py] (skI D (skT cI cJ cC cZ cS) (fun (r : Int32) (u : va_W) => bbI (kGo Ed dm d ab) (kPg Ed Wg dm d) 10 r ∧ u = [ro_ mm 12 (mo g (nI ta) (nI pa) (nI pe) pd (nI pb) pp pf pg pn rt rn (nI cd) sn (nI il) tk am at_ aa 0 0 (-1) wt wy (nI it_) (nI rm) (nI ud) (nI nu) sd (nI qn) (nI qw) qo (nI qb) (nI qp) qa (nI qi) (nI oc)), ra_I (g 31) cI 120 nw, ra_I (g 37) cZ 900 yo, ra_I (g 36) cZ 900 yw, ra_J (g 48) cJ 90 py])) := by
  refine skM_of pf_X12_bestBehind (Nat.le_of_ble_eq_true rfl) ?_
  intro p e s m below meth c A ls E hP hD hl
  refine skE_el E (fun hx hb hr hml hlocks hin hown hts hK hA => ?_)
  have hown : s.vm.findClass RX12 = some m.cls := hown
  have hS : va_S A s.heap s.heap [] := va_S.rf
  have hl : lv_has ls 5 [(0, .ref mm), (1, .int (nI d)), (2, .int (nI ab))] := hl
  refine lv_iconst (v := (-1)) hx hb dX12_bestBehind_0 (by decide) ?_
  refine lv_istore_n (lv' := [(3, .int (-1)), (0, .ref mm), (1, .int (nI d)), (2, .int (nI ab))]) hx hb dX12_bestBehind_1 rfl hl (by decide) rfl (fun ls hl => ?_)
  refine lv_iconst (v := 0) hx hb dX12_bestBehind_2 ic_0 ?_
  refine lv_istore (lv' := [(4, .int 0), (3, .int (-1)), (0, .ref mm), (1, .int (nI d)), (2, .int (nI ab))]) hx hb dX12_bestBehind_3 hl (by decide) rfl (fun ls hl => ?_)
  have lp_1 : ∀ (n_2 : Nat) (i : Nat) (bs_ : Int32) (H : Heap) (locs : List Loc) (ls : Array Slot), 10 - i < n_2 → (i ≤ 10) → (bbI (kGo Ed dm d ab) (kPg Ed Wg dm d) i bs_) → va_P D vwCl [ro_ mm 12 (mo g (nI ta) (nI pa) (nI pe) pd (nI pb) pp pf pg pn rt rn (nI cd) sn (nI il) tk am at_ aa 0 0 (-1) wt wy (nI it_) (nI rm) (nI ud) (nI nu) sd (nI qn) (nI qw) qo (nI qb) (nI qp) qa (nI qi) (nI oc)), ra_I (g 31) cI 120 nw, ra_I (g 37) cZ 900 yo, ra_I (g 36) cZ 900 yw, ra_J (g 48) cJ 90 py] H → va_D A [ro_ mm 12 (mo g (nI ta) (nI pa) (nI pe) pd (nI pb) pp pf pg pn rt rn (nI cd) sn (nI il) tk am at_ aa 0 0 (-1) wt wy (nI it_) (nI rm) (nI ud) (nI nu) sd (nI qn) (nI qw) qo (nI qb) (nI qp) qa (nI qi) (nI oc)), ra_I (g 31) cI 120 nw, ra_I (g 37) cZ 900 yo, ra_I (g 36) cZ 900 yw, ra_J (g 48) cJ 90 py] → va_S A s.heap H locs → lv_has ls 5 [(4, .int (nI i)), (3, .int bs_), (0, .ref mm), (1, .int (nI d)), (2, .int (nI ab))] → W p l e { frames := 3, cells := 0, slots := 0, locals := 66 } s m ([.ref mm, .int (nI d), .int (nI ab)] : List Value).toArray below meth c H locs 0 0 (MQ below (skI D (skT cI cJ cC cZ cS) (fun (r : Int32) (u : va_W) => bbI (kGo Ed dm d ab) (kPg Ed Wg dm d) 10 r ∧ u = [ro_ mm 12 (mo g (nI ta) (nI pa) (nI pe) pd (nI pb) pp pf pg pn rt rn (nI cd) sn (nI il) tk am at_ aa 0 0 (-1) wt wy (nI it_) (nI rm) (nI ud) (nI nu) sd (nI qn) (nI qw) qo (nI qb) (nI qp) qa (nI qi) (nI oc)), ra_I (g 31) cI 120 nw, ra_I (g 37) cZ 900 yo, ra_I (g 36) cZ 900 yw, ra_J (g 48) cJ 90 py]) A) ([.ref mm, .int (nI d), .int (nI ab)] : List Value).toArray s 0 0 A) (F0 m 5 ls []) := by
    intro n_2
    induction n_2 with
    | zero => intro i bs_ H locs ls hm; exact absurd hm (Nat.not_lt_zero _)
    | succ n_2 ih_lp_1 =>
      intro i bs_ H locs ls hm hi hbb hP hD hS hl
      refine lv_iload hx hb dX12_bestBehind_5 (lv_at hl 0 rfl) ?_
      refine lv_bipush (v := 10) hx hb dX12_bestBehind_7 (by decide) ?_
      refine lv_icmp_ge (tgt := 86) hx hb dX12_bestBehind_9 (by decide) (fun c_3 => ?_) (fun c_3 => ?_)
      · have c_3 : 10 ≤ i := (nle 10 i (Nat.le_of_ble_eq_true rfl) (by omega)).mp c_3
        refine lv_iload_n hx hb dX12_bestBehind_86 rfl (lv_at hl 1 rfl) ?_
        exact sk_iret hx hb hr rfl hlocks hK hP hD hS (⟨(by have h9 := hbb; rw [show i = 10 by omega] at h9; exact h9), rfl⟩) (Nat.le_of_ble_eq_true rfl) (Nat.le_of_ble_eq_true rfl) dX12_bestBehind_87
      · have c_3 : ¬ (10 ≤ i) := fun h => c_3 ((nle 10 i (Nat.le_of_ble_eq_true rfl) (by omega)).mpr h)
        refine lv_aload_n hx hb dX12_bestBehind_12 rfl (lv_at hl 2 rfl) ?_
        refine lv_iload_n hx hb dX12_bestBehind_13 rfl (lv_at hl 3 rfl) ?_
        refine lv_iload_n hx hb dX12_bestBehind_14 rfl (lv_at hl 4 rfl) ?_
        refine lv_iload hx hb dX12_bestBehind_15 (lv_at hl 0 rfl) ?_
        refine sk_Vi (q0 := 0) (n := 3) (rest := []) (wr := fmR om_5_1e _) ⟨hx, hb, hml, hown, hts⟩ hl.1 (c_m_canFollow0 l D cI cJ cC cZ cS mm g ta pa pe pd pb pp pf pg pn rt rn cd sn il tk am at_ aa 0 wt wy it_ rm ud nu sd qn qw qo qb qp qa qi oc d ab i nw yo yw (by omega) (by omega) hab hnw) w_7_201 w_7_203 w_0_85 w_1_14 w_7_204 hd_X12_canFollow_3 ⟨⟨(Nat.le_of_ble_eq_true rfl), (Nat.le_of_ble_eq_true rfl)⟩, (Nat.le_of_ble_eq_true rfl), (Nat.le_of_ble_eq_true rfl)⟩ hK hP hD hS hA (fmT om_5_1e 0) (fmF om_5_1e 0) (fm_C1 rfl rfl) (fm_R rfl rfl) (fm_nT om_5_1e 0) (fm_nF om_5_1e 0) (fm_di om_5_1e 0) rfl rfl rfl rfl (Nat.le_of_ble_eq_true rfl) dX12_bestBehind_17 (fun r_5 u H locs hw hP hD hS => ?_)
        refine exE hw (fun b_4 hw1 => anE hw1 (fun hb1_6 hw2 => anE hw2 (fun hb2_7 hw3 => anE hw3 (fun er_9 eu_8 => ?_))))
        clear hw hw1 hw2 hw3
        subst er_9
        refine o_mgE (ws' := [ro_ mm 12 (mo g (nI ta) (nI pa) (nI pe) pd (nI pb) pp pf pg pn rt rn (nI cd) sn (nI il) tk am at_ aa 0 0 (-1) wt wy (nI it_) (nI rm) (nI ud) (nI nu) sd (nI qn) (nI qw) qo (nI qb) (nI qp) qa (nI qi) (nI oc)), ra_I (g 31) cI 120 nw, ra_I (g 37) cZ 900 yo, ra_I (g 36) cZ 900 yw, ra_J (g 48) cJ 90 py]) eu_8 hP hD rfl (fun hP hD => ?_)
        refine lv_if_eq (tgt := 80) hx hb dX12_bestBehind_20 (by decide) (fun c_10 => ?_) (fun c_10 => ?_)
        · have c_10 : b_4 = 0 := (neq b_4 0 (by omega) (Nat.le_of_ble_eq_true rfl)).mp c_10
          refine lv_iinc (v := nI (i + 1)) (lv' := [(4, .int (nI (i + 1))), (3, .int bs_), (0, .ref mm), (1, .int (nI d)), (2, .int (nI ab))]) hx hb dX12_bestBehind_80 hl (k := 0) rfl (ninc i 1 (by decide)) (by decide) rfl (fun ls hl => ?_)
          refine lv_goto (tgt := 5) hx hb dX12_bestBehind_83 (by decide) ?_
          exact ih_lp_1 (i + 1) bs_ _ _ _ (by omega) (by omega) (bbI_n hbb (kgo_no (by rw [← hcf d hd ab i hab (by omega)]; exact or_0 hb1_6 (by omega)))) hP hD hS (lv_sub hl [0, 1, 2, 3, 4] rfl)
        · have c_10 : ¬ (b_4 = 0) := fun h => c_10 ((neq b_4 0 (by omega) (Nat.le_of_ble_eq_true rfl)).mpr h)
          refine lv_aload_n hx hb dX12_bestBehind_23 rfl (lv_at hl 2 rfl) ?_
          refine sk_get (v := .ref (g 48)) (C := RX12) (T := TX12) (N := 92) hx hb hts inlX12 hown hK hP 0 rfl rfl 48 (Nat.le_of_ble_eq_true rfl) w_5_203 rfl dX12_bestBehind_24 ?_
          refine lv_bipush (v := 10) hx hb dX12_bestBehind_27 (by decide) ?_
          refine lv_iload_n hx hb dX12_bestBehind_29 rfl (lv_at hl 3 rfl) ?_
          refine lv_imul hx hb dX12_bestBehind_30 ?_
          refine sk_top (nI (10 * d)) (nmul 10 d) ?_
          refine lv_iload hx hb dX12_bestBehind_31 (lv_at hl 0 rfl) ?_
          refine lv_iadd hx hb dX12_bestBehind_33 ?_
          refine sk_top (nI (10 * d + i)) (nI_add (10 * d) i) ?_
          refine va_lald hx hb hK.1 hP 4 1 rfl rfl (vin (10 * d + i) 90 (by omega) (Nat.le_of_ble_eq_true rfl)) dX12_bestBehind_34 ?_
          have hv_11 := hpy d (Nat.zero_le d) hd i (by omega)
          refine sk_topl (py (10 * d + i)) (by rw [nI_clamp (by omega)]) ?_
          refine lv_ldc2 (v := (-1000000000000000)) hx hb hown (hts _ w_7_184) dX12_bestBehind_35 ?_
          refine W.lcmp hx hb dX12_bestBehind_38 ?_
          refine lv_if_ne (tgt := 45) hx hb dX12_bestBehind_39 (by decide) (fun c_12 => ?_) (fun c_12 => ?_)
          · have hgv := (mp_v (a := ab) (by rw [← hcf d hd ab i hab (by omega)]; exact or_1 hb1_6 (by omega)) hv_11 hWb hdm hd (by omega)).2 c_12
            refine lv_iload_n hx hb dX12_bestBehind_45 rfl (lv_at hl 1 rfl) ?_
            refine lv_iconst (v := (-1)) hx hb dX12_bestBehind_46 (by decide) ?_
            refine lv_icmp_eq (tgt := 77) hx hb dX12_bestBehind_47 (by decide) (fun c_13 => ?_) (fun c_13 => ?_)
            · skip
              refine lv_iload hx hb dX12_bestBehind_77 (lv_at hl 0 rfl) ?_
              refine lv_istore_n (lv' := [(3, .int (nI i)), (4, .int (nI i)), (0, .ref mm), (1, .int (nI d)), (2, .int (nI ab))]) hx hb dX12_bestBehind_79 rfl hl (by decide) rfl (fun ls hl => ?_)
              refine lv_iinc (v := nI (i + 1)) (lv' := [(4, .int (nI (i + 1))), (3, .int (nI i)), (0, .ref mm), (1, .int (nI d)), (2, .int (nI ab))]) hx hb dX12_bestBehind_80 hl (k := 1) rfl (ninc i 1 (by decide)) (by decide) rfl (fun ls hl => ?_)
              refine lv_goto (tgt := 5) hx hb dX12_bestBehind_83 (by decide) ?_
              exact ih_lp_1 (i + 1) (nI i) _ _ _ (by omega) (by omega) (bbI_1 hbb (by omega) c_13 hgv.1) hP hD hS (lv_sub hl [0, 1, 2, 3, 4] rfl)
            · skip
              obtain ⟨sb, hs1, hs2, hs3, hs4, hs5⟩ := bb_k hbb c_13
              subst hs2
              refine lv_aload_n hx hb dX12_bestBehind_50 rfl (lv_at hl 2 rfl) ?_
              refine sk_get (v := .ref (g 48)) (C := RX12) (T := TX12) (N := 92) hx hb hts inlX12 hown hK hP 0 rfl rfl 48 (Nat.le_of_ble_eq_true rfl) w_5_203 rfl dX12_bestBehind_51 ?_
              refine lv_bipush (v := 10) hx hb dX12_bestBehind_54 (by decide) ?_
              refine lv_iload_n hx hb dX12_bestBehind_56 rfl (lv_at hl 3 rfl) ?_
              refine lv_imul hx hb dX12_bestBehind_57 ?_
              refine sk_top (nI (10 * d)) (nmul 10 d) ?_
              refine lv_iload hx hb dX12_bestBehind_58 (lv_at hl 0 rfl) ?_
              refine lv_iadd hx hb dX12_bestBehind_60 ?_
              refine sk_top (nI (10 * d + i)) (nI_add (10 * d) i) ?_
              refine va_lald hx hb hK.1 hP 4 1 rfl rfl (vin (10 * d + i) 90 (by omega) (Nat.le_of_ble_eq_true rfl)) dX12_bestBehind_61 ?_
              refine sk_topl (py (10 * d + i)) (by rw [nI_clamp (by omega)]) ?_
              refine lv_aload_n hx hb dX12_bestBehind_62 rfl (lv_at hl 2 rfl) ?_
              refine sk_get (v := .ref (g 48)) (C := RX12) (T := TX12) (N := 92) hx hb hts inlX12 hown hK hP 0 rfl rfl 48 (Nat.le_of_ble_eq_true rfl) w_5_203 rfl dX12_bestBehind_63 ?_
              refine lv_bipush (v := 10) hx hb dX12_bestBehind_66 (by decide) ?_
              refine lv_iload_n hx hb dX12_bestBehind_68 rfl (lv_at hl 3 rfl) ?_
              refine lv_imul hx hb dX12_bestBehind_69 ?_
              refine sk_top (nI (10 * d)) (nmul 10 d) ?_
              refine lv_iload_n hx hb dX12_bestBehind_70 rfl (lv_at hl 1 rfl) ?_
              refine lv_iadd hx hb dX12_bestBehind_71 ?_
              refine sk_top (nI (10 * d + sb)) (nI_add (10 * d) sb) ?_
              refine va_lald hx hb hK.1 hP 4 1 rfl rfl (vin (10 * d + sb) 90 (by omega) (Nat.le_of_ble_eq_true rfl)) dX12_bestBehind_72 ?_
              have hvs := (hpy d (Nat.zero_le d) hd sb (by omega)).trans (kPv_s hs3)
              refine sk_topl (py (10 * d + sb)) (by rw [nI_clamp (by omega)]) ?_
              refine W.lcmp hx hb dX12_bestBehind_73 ?_
              refine lv_if_le (tgt := 80) hx hb dX12_bestBehind_74 (by decide) (fun c_14 => ?_) (fun c_14 => ?_)
              · skip
                refine lv_iinc (v := nI (i + 1)) (lv' := [(4, .int (nI (i + 1))), (3, .int (nI sb)), (0, .ref mm), (1, .int (nI d)), (2, .int (nI ab))]) hx hb dX12_bestBehind_80 hl (k := 0) rfl (ninc i 1 (by decide)) (by decide) rfl (fun ls hl => ?_)
                refine lv_goto (tgt := 5) hx hb dX12_bestBehind_83 (by decide) ?_
                exact ih_lp_1 (i + 1) (nI sb) _ _ _ (by omega) (by omega) (bbI_3 hs1 hs3 hs4 hs5 (by rw [← hvs, ← hgv.2, ← Int64.lt_iff_toInt_lt]; exact fun z => Int32.not_le.mpr ((lg_cmp_gt _ _).mpr z) c_14)) hP hD hS (lv_sub hl [0, 1, 2, 3, 4] rfl)
              · skip
                refine lv_iload hx hb dX12_bestBehind_77 (lv_at hl 0 rfl) ?_
                refine lv_istore_n (lv' := [(3, .int (nI i)), (4, .int (nI i)), (0, .ref mm), (1, .int (nI d)), (2, .int (nI ab))]) hx hb dX12_bestBehind_79 rfl hl (by decide) rfl (fun ls hl => ?_)
                refine lv_iinc (v := nI (i + 1)) (lv' := [(4, .int (nI (i + 1))), (3, .int (nI i)), (0, .ref mm), (1, .int (nI d)), (2, .int (nI ab))]) hx hb dX12_bestBehind_80 hl (k := 1) rfl (ninc i 1 (by decide)) (by decide) rfl (fun ls hl => ?_)
                refine lv_goto (tgt := 5) hx hb dX12_bestBehind_83 (by decide) ?_
                exact ih_lp_1 (i + 1) (nI i) _ _ _ (by omega) (by omega) (bbI_2 hs1 hs3 hs4 hs5 hgv.1 (by rw [← hvs, ← hgv.2, ← Int64.lt_iff_toInt_lt]; exact (lg_cmp_gt _ _).mp (Int32.not_le.mp c_14))) hP hD hS (lv_sub hl [0, 1, 2, 3, 4] rfl)
          · skip
            refine lv_goto (tgt := 80) hx hb dX12_bestBehind_42 (by decide) ?_
            refine lv_iinc (v := nI (i + 1)) (lv' := [(4, .int (nI (i + 1))), (3, .int bs_), (0, .ref mm), (1, .int (nI d)), (2, .int (nI ab))]) hx hb dX12_bestBehind_80 hl (k := 0) rfl (ninc i 1 (by decide)) (by decide) rfl (fun ls hl => ?_)
            refine lv_goto (tgt := 5) hx hb dX12_bestBehind_83 (by decide) ?_
            exact ih_lp_1 (i + 1) bs_ _ _ _ (by omega) (by omega) (bbI_n hbb ((mp_v (a := ab) (by rw [← hcf d hd ab i hab (by omega)]; exact or_1 hb1_6 (by omega)) hv_11 hWb hdm hd (by omega)).1 c_12)) hP hD hS (lv_sub hl [0, 1, 2, 3, 4] rfl)
  exact lp_1 (10 - 0 + 1) 0 (-1) _ _ _ (Nat.lt_succ_self _) (by omega) (bbI_0 _ _) hP hD hS (lv_sub hl [0, 1, 2, 3, 4] rfl)
theorem dg_X12_laysPay_0_0 : bqL cX12_laysPay 0 [(0, [42]), (1, [182, 1, 144]), (4, [42]), (5, [182, 1, 59]), (8, [4]), (9, [100]), (10, [60]), (11, [27]), (12, [155, 0, 147]), (159, [177]), (15, [3]), (16, [61]), (17, [28]), (18, [16, 10]), (20, [162, 0, 133]), (153, [132, 1, 255]), (156, [167, 255, 111]), (23, [27]), (24, [42]), (25, [182, 1, 59]), (28, [4]), (29, [100]), (30, [160, 0, 7]), (37, [20, 1, 165]), (40, [66]), (41, [3]), (42, [54, 5]), (44, [21, 5]), (46, [16, 10]), (48, [162, 0, 66]), (114, [42]), (115, [180, 0, 92]), (118, [16, 10]), (120, [27]), (121, [104]), (122, [28]), (123, [96]), (124, [33]), (125, [20, 1, 165]), (128, [148])] = true := by decide +kernel
theorem dX12_laysPay_0 : decode cX12_laysPay 0 = .ok (.aload_n 0, 1) := q_aload_n0 (bat_get dg_X12_laysPay_0_0 0 rfl rfl)
theorem dX12_laysPay_1 : decode cX12_laysPay 1 = .ok (.invokevirtual 400, 3) := q_invokevirtual (bat_get dg_X12_laysPay_0_0 1 rfl rfl) rfl
theorem dX12_laysPay_4 : decode cX12_laysPay 4 = .ok (.aload_n 0, 1) := q_aload_n0 (bat_get dg_X12_laysPay_0_0 2 rfl rfl)
theorem dX12_laysPay_5 : decode cX12_laysPay 5 = .ok (.invokevirtual 315, 3) := q_invokevirtual (bat_get dg_X12_laysPay_0_0 3 rfl rfl) rfl
theorem dX12_laysPay_8 : decode cX12_laysPay 8 = .ok (.iconst 1, 1) := q_iconst1 (bat_get dg_X12_laysPay_0_0 4 rfl rfl)
theorem dX12_laysPay_9 : decode cX12_laysPay 9 = .ok (.isub, 1) := q_isub (bat_get dg_X12_laysPay_0_0 5 rfl rfl)
theorem dX12_laysPay_10 : decode cX12_laysPay 10 = .ok (.istore_n 1, 1) := q_istore_n1 (bat_get dg_X12_laysPay_0_0 6 rfl rfl)
theorem dX12_laysPay_11 : decode cX12_laysPay 11 = .ok (.iload_n 1, 1) := q_iload_n1 (bat_get dg_X12_laysPay_0_0 7 rfl rfl)
theorem dX12_laysPay_12 : decode cX12_laysPay 12 = .ok (.ifCond .lt 147, 3) := q_ifCond_lt (bat_get dg_X12_laysPay_0_0 8 rfl rfl) rfl
theorem dX12_laysPay_159 : decode cX12_laysPay 159 = .ok (.return_, 1) := q_return_ (bat_get dg_X12_laysPay_0_0 9 rfl rfl)
theorem dX12_laysPay_15 : decode cX12_laysPay 15 = .ok (.iconst 0, 1) := q_iconst0 (bat_get dg_X12_laysPay_0_0 10 rfl rfl)
theorem dX12_laysPay_16 : decode cX12_laysPay 16 = .ok (.istore_n 2, 1) := q_istore_n2 (bat_get dg_X12_laysPay_0_0 11 rfl rfl)
theorem dX12_laysPay_17 : decode cX12_laysPay 17 = .ok (.iload_n 2, 1) := q_iload_n2 (bat_get dg_X12_laysPay_0_0 12 rfl rfl)
theorem dX12_laysPay_18 : decode cX12_laysPay 18 = .ok (.bipush 10, 2) := q_bipush (bat_get dg_X12_laysPay_0_0 13 rfl rfl) rfl
theorem dX12_laysPay_20 : decode cX12_laysPay 20 = .ok (.if_icmp .ge 133, 3) := q_if_icmp_ge (bat_get dg_X12_laysPay_0_0 14 rfl rfl) rfl
theorem dX12_laysPay_153 : decode cX12_laysPay 153 = .ok (.iinc 1 (-1), 3) := q_iinc (bat_get dg_X12_laysPay_0_0 15 rfl rfl) rfl
theorem dX12_laysPay_156 : decode cX12_laysPay 156 = .ok (.goto (-145), 3) := q_goto (bat_get dg_X12_laysPay_0_0 16 rfl rfl) rfl
theorem dX12_laysPay_23 : decode cX12_laysPay 23 = .ok (.iload_n 1, 1) := q_iload_n1 (bat_get dg_X12_laysPay_0_0 17 rfl rfl)
theorem dX12_laysPay_24 : decode cX12_laysPay 24 = .ok (.aload_n 0, 1) := q_aload_n0 (bat_get dg_X12_laysPay_0_0 18 rfl rfl)
theorem dX12_laysPay_25 : decode cX12_laysPay 25 = .ok (.invokevirtual 315, 3) := q_invokevirtual (bat_get dg_X12_laysPay_0_0 19 rfl rfl) rfl
theorem dX12_laysPay_28 : decode cX12_laysPay 28 = .ok (.iconst 1, 1) := q_iconst1 (bat_get dg_X12_laysPay_0_0 20 rfl rfl)
theorem dX12_laysPay_29 : decode cX12_laysPay 29 = .ok (.isub, 1) := q_isub (bat_get dg_X12_laysPay_0_0 21 rfl rfl)
theorem dX12_laysPay_30 : decode cX12_laysPay 30 = .ok (.if_icmp .ne 7, 3) := q_if_icmp_ne (bat_get dg_X12_laysPay_0_0 22 rfl rfl) rfl
theorem dX12_laysPay_37 : decode cX12_laysPay 37 = .ok (.ldc2_w 421, 3) := q_ldc2_w (bat_get dg_X12_laysPay_0_0 23 rfl rfl) rfl
theorem dX12_laysPay_40 : decode cX12_laysPay 40 = .ok (.lstore_n 3, 1) := q_lstore_n3 (bat_get dg_X12_laysPay_0_0 24 rfl rfl)
theorem dX12_laysPay_41 : decode cX12_laysPay 41 = .ok (.iconst 0, 1) := q_iconst0 (bat_get dg_X12_laysPay_0_0 25 rfl rfl)
theorem dX12_laysPay_42 : decode cX12_laysPay 42 = .ok (.istore 5, 2) := q_istore (bat_get dg_X12_laysPay_0_0 26 rfl rfl)
theorem dX12_laysPay_44 : decode cX12_laysPay 44 = .ok (.iload 5, 2) := q_iload (bat_get dg_X12_laysPay_0_0 27 rfl rfl)
theorem dX12_laysPay_46 : decode cX12_laysPay 46 = .ok (.bipush 10, 2) := q_bipush (bat_get dg_X12_laysPay_0_0 28 rfl rfl) rfl
theorem dX12_laysPay_48 : decode cX12_laysPay 48 = .ok (.if_icmp .ge 66, 3) := q_if_icmp_ge (bat_get dg_X12_laysPay_0_0 29 rfl rfl) rfl
theorem dX12_laysPay_114 : decode cX12_laysPay 114 = .ok (.aload_n 0, 1) := q_aload_n0 (bat_get dg_X12_laysPay_0_0 30 rfl rfl)
theorem dX12_laysPay_115 : decode cX12_laysPay 115 = .ok (.getfield 92, 3) := q_getfield (bat_get dg_X12_laysPay_0_0 31 rfl rfl) rfl
theorem dX12_laysPay_118 : decode cX12_laysPay 118 = .ok (.bipush 10, 2) := q_bipush (bat_get dg_X12_laysPay_0_0 32 rfl rfl) rfl
theorem dX12_laysPay_120 : decode cX12_laysPay 120 = .ok (.iload_n 1, 1) := q_iload_n1 (bat_get dg_X12_laysPay_0_0 33 rfl rfl)
theorem dX12_laysPay_121 : decode cX12_laysPay 121 = .ok (.imul, 1) := q_imul (bat_get dg_X12_laysPay_0_0 34 rfl rfl)
theorem dX12_laysPay_122 : decode cX12_laysPay 122 = .ok (.iload_n 2, 1) := q_iload_n2 (bat_get dg_X12_laysPay_0_0 35 rfl rfl)
theorem dX12_laysPay_123 : decode cX12_laysPay 123 = .ok (.iadd, 1) := q_iadd (bat_get dg_X12_laysPay_0_0 36 rfl rfl)
theorem dX12_laysPay_124 : decode cX12_laysPay 124 = .ok (.lload_n 3, 1) := q_lload_n3 (bat_get dg_X12_laysPay_0_0 37 rfl rfl)
theorem dX12_laysPay_125 : decode cX12_laysPay 125 = .ok (.ldc2_w 421, 3) := q_ldc2_w (bat_get dg_X12_laysPay_0_0 38 rfl rfl) rfl
theorem dX12_laysPay_128 : decode cX12_laysPay 128 = .ok (.lcmp, 1) := q_lcmp (bat_get dg_X12_laysPay_0_0 39 rfl rfl)
theorem dg_X12_laysPay_51_129 : bqL cX12_laysPay 51 [(78, [154, 0, 9]), (87, [33]), (88, [42]), (89, [27]), (90, [28]), (91, [182, 1, 183]), (94, [97]), (95, [80]), (96, [132, 2, 1]), (99, [167, 255, 123]), (81, [20, 1, 165]), (84, [167, 0, 11]), (0, [27]), (1, [42]), (2, [182, 1, 59]), (5, [4]), (6, [100]), (7, [162, 0, 56]), (10, [42]), (11, [27]), (12, [4]), (13, [96]), (14, [28]), (15, [21, 5]), (17, [182, 1, 122]), (20, [153, 0, 37]), (57, [132, 5, 1]), (60, [167, 255, 189]), (23, [42]), (24, [180, 0, 92]), (27, [16, 10]), (29, [27]), (30, [4]), (31, [96]), (32, [104]), (33, [21, 5]), (35, [96]), (36, [47]), (37, [33]), (38, [148])] = true := by decide +kernel
theorem dX12_laysPay_129 : decode cX12_laysPay 129 = .ok (.ifCond .ne 9, 3) := q_ifCond_ne (bat_get dg_X12_laysPay_51_129 0 rfl rfl) rfl
theorem dX12_laysPay_138 : decode cX12_laysPay 138 = .ok (.lload_n 3, 1) := q_lload_n3 (bat_get dg_X12_laysPay_51_129 1 rfl rfl)
theorem dX12_laysPay_139 : decode cX12_laysPay 139 = .ok (.aload_n 0, 1) := q_aload_n0 (bat_get dg_X12_laysPay_51_129 2 rfl rfl)
theorem dX12_laysPay_140 : decode cX12_laysPay 140 = .ok (.iload_n 1, 1) := q_iload_n1 (bat_get dg_X12_laysPay_51_129 3 rfl rfl)
theorem dX12_laysPay_141 : decode cX12_laysPay 141 = .ok (.iload_n 2, 1) := q_iload_n2 (bat_get dg_X12_laysPay_51_129 4 rfl rfl)
theorem dX12_laysPay_142 : decode cX12_laysPay 142 = .ok (.invokevirtual 439, 3) := q_invokevirtual (bat_get dg_X12_laysPay_51_129 5 rfl rfl) rfl
theorem dX12_laysPay_145 : decode cX12_laysPay 145 = .ok (.ladd, 1) := q_ladd (bat_get dg_X12_laysPay_51_129 6 rfl rfl)
theorem dX12_laysPay_146 : decode cX12_laysPay 146 = .ok (.lastore, 1) := q_lastore (bat_get dg_X12_laysPay_51_129 7 rfl rfl)
theorem dX12_laysPay_147 : decode cX12_laysPay 147 = .ok (.iinc 2 1, 3) := q_iinc (bat_get dg_X12_laysPay_51_129 8 rfl rfl) rfl
theorem dX12_laysPay_150 : decode cX12_laysPay 150 = .ok (.goto (-133), 3) := q_goto (bat_get dg_X12_laysPay_51_129 9 rfl rfl) rfl
theorem dX12_laysPay_132 : decode cX12_laysPay 132 = .ok (.ldc2_w 421, 3) := q_ldc2_w (bat_get dg_X12_laysPay_51_129 10 rfl rfl) rfl
theorem dX12_laysPay_135 : decode cX12_laysPay 135 = .ok (.goto 11, 3) := q_goto (bat_get dg_X12_laysPay_51_129 11 rfl rfl) rfl
theorem dX12_laysPay_51 : decode cX12_laysPay 51 = .ok (.iload_n 1, 1) := q_iload_n1 (bat_get dg_X12_laysPay_51_129 12 rfl rfl)
theorem dX12_laysPay_52 : decode cX12_laysPay 52 = .ok (.aload_n 0, 1) := q_aload_n0 (bat_get dg_X12_laysPay_51_129 13 rfl rfl)
theorem dX12_laysPay_53 : decode cX12_laysPay 53 = .ok (.invokevirtual 315, 3) := q_invokevirtual (bat_get dg_X12_laysPay_51_129 14 rfl rfl) rfl
theorem dX12_laysPay_56 : decode cX12_laysPay 56 = .ok (.iconst 1, 1) := q_iconst1 (bat_get dg_X12_laysPay_51_129 15 rfl rfl)
theorem dX12_laysPay_57 : decode cX12_laysPay 57 = .ok (.isub, 1) := q_isub (bat_get dg_X12_laysPay_51_129 16 rfl rfl)
theorem dX12_laysPay_58 : decode cX12_laysPay 58 = .ok (.if_icmp .ge 56, 3) := q_if_icmp_ge (bat_get dg_X12_laysPay_51_129 17 rfl rfl) rfl
theorem dX12_laysPay_61 : decode cX12_laysPay 61 = .ok (.aload_n 0, 1) := q_aload_n0 (bat_get dg_X12_laysPay_51_129 18 rfl rfl)
theorem dX12_laysPay_62 : decode cX12_laysPay 62 = .ok (.iload_n 1, 1) := q_iload_n1 (bat_get dg_X12_laysPay_51_129 19 rfl rfl)
theorem dX12_laysPay_63 : decode cX12_laysPay 63 = .ok (.iconst 1, 1) := q_iconst1 (bat_get dg_X12_laysPay_51_129 20 rfl rfl)
theorem dX12_laysPay_64 : decode cX12_laysPay 64 = .ok (.iadd, 1) := q_iadd (bat_get dg_X12_laysPay_51_129 21 rfl rfl)
theorem dX12_laysPay_65 : decode cX12_laysPay 65 = .ok (.iload_n 2, 1) := q_iload_n2 (bat_get dg_X12_laysPay_51_129 22 rfl rfl)
theorem dX12_laysPay_66 : decode cX12_laysPay 66 = .ok (.iload 5, 2) := q_iload (bat_get dg_X12_laysPay_51_129 23 rfl rfl)
theorem dX12_laysPay_68 : decode cX12_laysPay 68 = .ok (.invokevirtual 378, 3) := q_invokevirtual (bat_get dg_X12_laysPay_51_129 24 rfl rfl) rfl
theorem dX12_laysPay_71 : decode cX12_laysPay 71 = .ok (.ifCond .eq 37, 3) := q_ifCond_eq (bat_get dg_X12_laysPay_51_129 25 rfl rfl) rfl
theorem dX12_laysPay_108 : decode cX12_laysPay 108 = .ok (.iinc 5 1, 3) := q_iinc (bat_get dg_X12_laysPay_51_129 26 rfl rfl) rfl
theorem dX12_laysPay_111 : decode cX12_laysPay 111 = .ok (.goto (-67), 3) := q_goto (bat_get dg_X12_laysPay_51_129 27 rfl rfl) rfl
theorem dX12_laysPay_74 : decode cX12_laysPay 74 = .ok (.aload_n 0, 1) := q_aload_n0 (bat_get dg_X12_laysPay_51_129 28 rfl rfl)
theorem dX12_laysPay_75 : decode cX12_laysPay 75 = .ok (.getfield 92, 3) := q_getfield (bat_get dg_X12_laysPay_51_129 29 rfl rfl) rfl
theorem dX12_laysPay_78 : decode cX12_laysPay 78 = .ok (.bipush 10, 2) := q_bipush (bat_get dg_X12_laysPay_51_129 30 rfl rfl) rfl
theorem dX12_laysPay_80 : decode cX12_laysPay 80 = .ok (.iload_n 1, 1) := q_iload_n1 (bat_get dg_X12_laysPay_51_129 31 rfl rfl)
theorem dX12_laysPay_81 : decode cX12_laysPay 81 = .ok (.iconst 1, 1) := q_iconst1 (bat_get dg_X12_laysPay_51_129 32 rfl rfl)
theorem dX12_laysPay_82 : decode cX12_laysPay 82 = .ok (.iadd, 1) := q_iadd (bat_get dg_X12_laysPay_51_129 33 rfl rfl)
theorem dX12_laysPay_83 : decode cX12_laysPay 83 = .ok (.imul, 1) := q_imul (bat_get dg_X12_laysPay_51_129 34 rfl rfl)
theorem dX12_laysPay_84 : decode cX12_laysPay 84 = .ok (.iload 5, 2) := q_iload (bat_get dg_X12_laysPay_51_129 35 rfl rfl)
theorem dX12_laysPay_86 : decode cX12_laysPay 86 = .ok (.iadd, 1) := q_iadd (bat_get dg_X12_laysPay_51_129 36 rfl rfl)
theorem dX12_laysPay_87 : decode cX12_laysPay 87 = .ok (.laload, 1) := q_laload (bat_get dg_X12_laysPay_51_129 37 rfl rfl)
theorem dX12_laysPay_88 : decode cX12_laysPay 88 = .ok (.lload_n 3, 1) := q_lload_n3 (bat_get dg_X12_laysPay_51_129 38 rfl rfl)
theorem dX12_laysPay_89 : decode cX12_laysPay 89 = .ok (.lcmp, 1) := q_lcmp (bat_get dg_X12_laysPay_51_129 39 rfl rfl)
theorem dg_X12_laysPay_33_90 : bqL cX12_laysPay 33 [(57, [158, 0, 18]), (60, [42]), (61, [180, 0, 92]), (64, [16, 10]), (66, [27]), (67, [4]), (68, [96]), (69, [104]), (70, [21, 5]), (72, [96]), (73, [47]), (74, [66]), (0, [9]), (1, [167, 0, 6])] = true := by decide +kernel
theorem dX12_laysPay_90 : decode cX12_laysPay 90 = .ok (.ifCond .le 18, 3) := q_ifCond_le (bat_get dg_X12_laysPay_33_90 0 rfl rfl) rfl
theorem dX12_laysPay_93 : decode cX12_laysPay 93 = .ok (.aload_n 0, 1) := q_aload_n0 (bat_get dg_X12_laysPay_33_90 1 rfl rfl)
theorem dX12_laysPay_94 : decode cX12_laysPay 94 = .ok (.getfield 92, 3) := q_getfield (bat_get dg_X12_laysPay_33_90 2 rfl rfl) rfl
theorem dX12_laysPay_97 : decode cX12_laysPay 97 = .ok (.bipush 10, 2) := q_bipush (bat_get dg_X12_laysPay_33_90 3 rfl rfl) rfl
theorem dX12_laysPay_99 : decode cX12_laysPay 99 = .ok (.iload_n 1, 1) := q_iload_n1 (bat_get dg_X12_laysPay_33_90 4 rfl rfl)
theorem dX12_laysPay_100 : decode cX12_laysPay 100 = .ok (.iconst 1, 1) := q_iconst1 (bat_get dg_X12_laysPay_33_90 5 rfl rfl)
theorem dX12_laysPay_101 : decode cX12_laysPay 101 = .ok (.iadd, 1) := q_iadd (bat_get dg_X12_laysPay_33_90 6 rfl rfl)
theorem dX12_laysPay_102 : decode cX12_laysPay 102 = .ok (.imul, 1) := q_imul (bat_get dg_X12_laysPay_33_90 7 rfl rfl)
theorem dX12_laysPay_103 : decode cX12_laysPay 103 = .ok (.iload 5, 2) := q_iload (bat_get dg_X12_laysPay_33_90 8 rfl rfl)
theorem dX12_laysPay_105 : decode cX12_laysPay 105 = .ok (.iadd, 1) := q_iadd (bat_get dg_X12_laysPay_33_90 9 rfl rfl)
theorem dX12_laysPay_106 : decode cX12_laysPay 106 = .ok (.laload, 1) := q_laload (bat_get dg_X12_laysPay_33_90 10 rfl rfl)
theorem dX12_laysPay_107 : decode cX12_laysPay 107 = .ok (.lstore_n 3, 1) := q_lstore_n3 (bat_get dg_X12_laysPay_33_90 11 rfl rfl)
theorem dX12_laysPay_33 : decode cX12_laysPay 33 = .ok (.lconst 0, 1) := q_lconst0 (bat_get dg_X12_laysPay_33_90 12 rfl rfl)
theorem dX12_laysPay_34 : decode cX12_laysPay 34 = .ok (.goto 6, 3) := q_goto (bat_get dg_X12_laysPay_33_90 13 rfl rfl) rfl
theorem w_8_45 : (Cond.methodLink RX12 439 yX12_wageOf) ∈ wsL_law := sk_mem (ck_8 _ (List.mem_of_getElem? (i := 45) rfl)) rfl
theorem w_8_47 : (Cond.instanceMethod yX12_wageOf) ∈ wsL_law := sk_mem (ck_8 _ (List.mem_of_getElem? (i := 47) rfl)) rfl
theorem w_0_97 : (Cond.selects RX12 yX12_wageOf yX12_wageOf) ∈ wsL_law := sk_mem (ck_0 _ (List.mem_of_getElem? (i := 97) rfl)) rfl
theorem w_8_44 : (Cond.code yX12_laysPay cX12_laysPay 6 none) ∈ wsL_law := sk_mem (ck_8 _ (List.mem_of_getElem? (i := 44) rfl)) rfl
def om_14_3f80 : List Bool := true :: true :: true :: true :: true :: true :: true :: false :: false :: false :: false :: false :: false :: false :: []
def om_14_2218 : List Bool := true :: false :: false :: false :: true :: false :: false :: false :: false :: true :: true :: false :: false :: false :: []
theorem hd_X12_wageOf_2 : skD yX12_wageOf 2 := by decide +kernel
set_option maxHeartbeats 4000000 in
set_option maxRecDepth 100000 in
theorem c_vm_laysPayX (l : Launch) (D : va_G) (cI cJ cC cZ cS : ClassId) (mm : Nat) (g : Nat → Nat) (ta : Nat) (pa : Nat) (pe : Nat) (pd : Int32) (pb : Nat) (pp : Int32) (pf : Int32) (pg : Int32) (pn : Int32) (rt : Int32) (rn : Int32) (cd : Nat) (sn : Int32) (il : Nat) (tk : Int32) (am : Int32) (at_ : Int32) (aa : Int32) (wt : Int32) (wy : Int64) (rm : Nat) (ud : Nat) (nu : Nat) (sd : Int64) (qn : Nat) (qw : Nat) (qo : Int32) (qb : Nat) (qp : Nat) (qa : Int64) (qi : Nat) (oc : Nat) (u0 : Int32) (u1 : Int32) (u2 : Int32) (u3 : Int32) (u4 : Int32) (u5 : Int32) (v0 : Int32) (v1 : Int32) (v2 : Int32) (v3 : Int32) (v4 : Int32) (v5 : Int32) (cs : Nat → Nat) (nw : Nat → Int32) (pt : Nat → Nat) (ql : Nat → Int64) (l0 : Nat) (l1 : Nat) (dm : Nat) (l3 : Nat) (ws_ : Nat → Int32) (yw : Nat → Int32) (yo : Nat → Int32) (be : Nat → Int64) (bf : Nat → Int64) (py : Nat → Int64) (wn : Nat) (mN : Nat) (Ba : Nat → Nat) (We : Nat → Nat) (U : Nat → Bool) (ke : Nat) (lg : KLg) (L : LkS) (hdm : dm ≤ 9) (hdm1 : 1 ≤ dm) (hLk : kcLk L) (hkl : (lK L).length ≤ 1600) (hmw0 : mwO L 0 u3 v3 cs) (hmw1 : mwO L 1 u4 v4 cs) (hB9 : ∀ j, Ba j ≤ 9) (hW9 : ∀ j, We j ≤ 9) (hwk : wn ≤ 999) (hmw2 : mwO L 2 u5 v5 cs) (hcs : ∀ j, cs j ≤ 20000) (hnw : nwX wn mN Ba We U ke lg nw) (hpt : ∀ j, pt j ≤ 9) : skM l yX12_laysPay cX12_laysPay 6 none 6 142 0 0 D (skT cI cJ cC cZ cS) [.ref mm] [ro_ mm 12 (mo g (nI ta) (nI pa) (nI pe) pd (nI pb) pp pf pg pn rt rn (nI cd) sn (nI il) tk am at_ aa 0 0 (-1) wt wy 0 (nI rm) (nI ud) (nI nu) sd (nI qn) (nI qw) qo (nI qb) (nI qp) qa (nI qi) (nI oc)), ra_I (g 24) cI 6 (l6 u0 u1 u2 u3 u4 u5), ra_I (g 25) cI 6 (l6 v0 v1 v2 v3 v4 v5), ra_N (g 26) cI 3200 cs, ra_I (g 31) cI 120 nw, ra_N (g 46) cI 9 pt, ra_J (g 86) cJ 1700 ql, ra_I (g 20) cI 4 (l4 (nI l0) (nI l1) (nI dm) (nI l3)), ra_I (g 38) cI 90 ws_, ra_I (g 36) cZ 900 yw, ra_I (g 37) cZ 900 yo, ra_J (g 43) cJ 90 be, ra_J (g 44) cJ 90 bf, ra_J (g 48) cJ 90 py] (skV D (skT cI cJ cC cZ cS) (fun (u : va_W) => ∃ (tk2 : Int32), ∃ (qp2 : Nat), ∃ (am2 : Int32), ∃ (at_2 : Int32), ∃ (aa2 : Int32), ∃ (wy2 : Int64), ∃ (ql2 : Nat → Int64), ∃ (ws_2 : Nat → Int32), ∃ (yw2 : Nat → Int32), ∃ (yo2 : Nat → Int32), ∃ (be2 : Nat → Int64), ∃ (bf2 : Nat → Int64), ∃ (py2 : Nat → Int64), mpY (kcFo L wn Ba We U 0) (kWg L wn Ba We) dm 0 py2 ∧ (∀ d, d < dm → ∀ a m, a < 10 → m < 10 → (cfN nw yw2 yo2 0) d a m = (kcFo L wn Ba We U 0) d a m) ∧ wy2 = Int64.ofNat (kcC (kcFo L wn Ba We U 0) dm 0 mN) ∧ u = [ro_ mm 12 (mo g (nI ta) (nI pa) (nI pe) pd (nI pb) pp pf pg pn rt rn (nI cd) sn (nI il) tk2 am2 at_2 aa2 0 0 (-1) wt wy2 0 (nI rm) (nI ud) (nI nu) sd (nI qn) (nI qw) qo (nI qb) (nI qp2) qa (nI qi) (nI oc)), ra_I (g 24) cI 6 (l6 u0 u1 u2 u3 u4 u5), ra_I (g 25) cI 6 (l6 v0 v1 v2 v3 v4 v5), ra_N (g 26) cI 3200 cs, ra_I (g 31) cI 120 nw, ra_N (g 46) cI 9 pt, ra_J (g 86) cJ 1700 ql2, ra_I (g 20) cI 4 (l4 (nI l0) (nI l1) (nI dm) (nI l3)), ra_I (g 38) cI 90 ws_2, ra_I (g 36) cZ 900 yw2, ra_I (g 37) cZ 900 yo2, ra_J (g 43) cJ 90 be2, ra_J (g 44) cJ 90 bf2, ra_J (g 48) cJ 90 py2])) := by
  refine skM_of pf_X12_laysPay (Nat.le_of_ble_eq_true rfl) ?_
  intro p e s m below meth c A ls E hP hD hl
  refine skE_el E (fun hx hb hr hml hlocks hin hown hts hK hA => ?_)
  have hown : s.vm.findClass RX12 = some m.cls := hown
  have hS : va_S A s.heap s.heap [] := va_S.rf
  have hl : lv_has ls 6 [(0, .ref mm)] := hl
  refine lv_aload_n hx hb dX12_laysPay_0 rfl (lv_at hl 0 rfl) ?_
  refine sk_Vv (q0 := 0) (n := 0) (rest := []) (wr := fmR om_14_3ffe _) ⟨hx, hb, hml, hown, hts⟩ hl.1 (c_nm_laysAll l D cI cJ cC cZ cS mm g ta pa pe pd pb pp pf pg pn rt rn cd sn il tk am at_ aa wt wy 0 rm ud nu sd qn qw qo qb qp qa qi oc u0 u1 u2 u3 u4 u5 v0 v1 v2 v3 v4 v5 cs nw pt ql l0 l1 dm l3 ws_ yw yo be bf wn mN Ba We U ke lg L hdm hdm1 hLk hkl hmw0 hmw1 hB9 hW9 hwk hcs hnw hpt) w_7_189 w_7_191 w_0_82 w_1_14 w_7_192 hd_X12_laysAll_0 ⟨⟨(Nat.le_of_ble_eq_true rfl), (Nat.le_of_ble_eq_true rfl)⟩, (Nat.le_of_ble_eq_true rfl), (Nat.le_of_ble_eq_true rfl)⟩ hK hP hD hS hA (fmT om_14_3ffe 0) (fmF om_14_3ffe 0) (fm_C1 rfl rfl) (fm_R rfl rfl) (fm_nT om_14_3ffe 0) (fm_nF om_14_3ffe 0) (fm_di om_14_3ffe 0) rfl rfl rfl rfl (Nat.le_of_ble_eq_true rfl) dX12_laysPay_1 (fun u H locs hw hP hD hS => ?_)
  refine exE hw (fun tk2_1 hw1 => exE hw1 (fun qp2_2 hw2 => exE hw2 (fun am2_3 hw3 => exE hw3 (fun at_2_4 hw4 => exE hw4 (fun aa2_5 hw5 => exE hw5 (fun wy2_6 hw6 => exE hw6 (fun ql2_7 hw7 => exE hw7 (fun ws_2_8 hw8 => exE hw8 (fun yw2_9 hw9 => exE hw9 (fun yo2_10 hw10 => exE hw10 (fun be2_11 hw11 => exE hw11 (fun bf2_12 hw12 => anE hw12 (fun hbe_13 hw13 => anE hw13 (fun hcf_14 hw14 => anE hw14 (fun hwy_15 eu_16 => ?_)))))))))))))))
  clear hw hw1 hw2 hw3 hw4 hw5 hw6 hw7 hw8 hw9 hw10 hw11 hw12 hw13 hw14
  refine o_mgE (ws' := [ro_ mm 12 (mo g (nI ta) (nI pa) (nI pe) pd (nI pb) pp pf pg pn rt rn (nI cd) sn (nI il) tk2_1 am2_3 at_2_4 aa2_5 0 0 (-1) wt wy2_6 0 (nI rm) (nI ud) (nI nu) sd (nI qn) (nI qw) qo (nI qb) (nI qp2_2) qa (nI qi) (nI oc)), ra_I (g 24) cI 6 (l6 u0 u1 u2 u3 u4 u5), ra_I (g 25) cI 6 (l6 v0 v1 v2 v3 v4 v5), ra_N (g 26) cI 3200 cs, ra_I (g 31) cI 120 nw, ra_N (g 46) cI 9 pt, ra_J (g 86) cJ 1700 ql2_7, ra_I (g 20) cI 4 (l4 (nI l0) (nI l1) (nI dm) (nI l3)), ra_I (g 38) cI 90 ws_2_8, ra_I (g 36) cZ 900 yw2_9, ra_I (g 37) cZ 900 yo2_10, ra_J (g 43) cJ 90 be2_11, ra_J (g 44) cJ 90 bf2_12, ra_J (g 48) cJ 90 py]) eu_16 hP hD rfl (fun hP hD => ?_)
  have hWb := kwg_b (L := L) hLk hwk hB9 hW9 hdm
  refine lv_aload_n hx hb dX12_laysPay_4 rfl (lv_at hl 0 rfl) ?_
  refine sk_Vi (q0 := 0) (n := 0) (rest := []) (wr := fmR om_14_2040 _) ⟨hx, hb, hml, hown, hts⟩ hl.1 (c_m_dayMany l D cI cJ cC cZ cS mm g ta pa pe pd pb pp pf pg pn rt rn cd sn il tk2_1 am2_3 at_2_4 aa2_5 0 0 (-1) wt wy2_6 0 rm ud nu sd qn qw qo qb qp2_2 qa qi oc l0 l1 dm l3) w_7_98 w_7_100 w_0_69 w_1_14 w_7_101 hd_X12_dayMany_0 ⟨⟨(Nat.le_of_ble_eq_true rfl), (Nat.le_of_ble_eq_true rfl)⟩, (Nat.le_of_ble_eq_true rfl), (Nat.le_of_ble_eq_true rfl)⟩ hK hP hD hS hA (fmT om_14_2040 0) (fmF om_14_2040 0) (fm_C1 rfl rfl) (fm_R rfl rfl) (fm_nT om_14_2040 0) (fm_nF om_14_2040 0) (fm_di om_14_2040 0) rfl rfl rfl rfl (Nat.le_of_ble_eq_true rfl) dX12_laysPay_5 (fun r_17 u H locs hw hP hD hS => ?_)
  refine anE hw (fun er_19 eu_18 => ?_)
  clear hw
  subst er_19
  refine o_mgE (ws' := [ro_ mm 12 (mo g (nI ta) (nI pa) (nI pe) pd (nI pb) pp pf pg pn rt rn (nI cd) sn (nI il) tk2_1 am2_3 at_2_4 aa2_5 0 0 (-1) wt wy2_6 0 (nI rm) (nI ud) (nI nu) sd (nI qn) (nI qw) qo (nI qb) (nI qp2_2) qa (nI qi) (nI oc)), ra_I (g 24) cI 6 (l6 u0 u1 u2 u3 u4 u5), ra_I (g 25) cI 6 (l6 v0 v1 v2 v3 v4 v5), ra_N (g 26) cI 3200 cs, ra_I (g 31) cI 120 nw, ra_N (g 46) cI 9 pt, ra_J (g 86) cJ 1700 ql2_7, ra_I (g 20) cI 4 (l4 (nI l0) (nI l1) (nI dm) (nI l3)), ra_I (g 38) cI 90 ws_2_8, ra_I (g 36) cZ 900 yw2_9, ra_I (g 37) cZ 900 yo2_10, ra_J (g 43) cJ 90 be2_11, ra_J (g 44) cJ 90 bf2_12, ra_J (g 48) cJ 90 py]) eu_18 hP hD rfl (fun hP hD => ?_)
  refine lv_iconst (v := 1) hx hb dX12_laysPay_8 ic_1 ?_
  refine lv_isub hx hb dX12_laysPay_9 ?_
  refine lv_istore_n (lv' := [(1, .int (nI dm - 1)), (0, .ref mm)]) hx hb dX12_laysPay_10 rfl hl (by decide) rfl (fun ls hl => ?_)
  have lp_20 : ∀ (n_21 : Nat) (dd : Nat) (zama : Int32) (ztka : Int32) (zqpa : Nat) (zqa : Nat → Int64) (zpa : Nat → Int64) (H : Heap) (locs : List Loc) (ls : Array Slot), dd < n_21 → (dd ≤ dm) → (mpY (kcFo L wn Ba We U 0) (kWg L wn Ba We) dm dd zpa) → va_P D vwCl [ro_ mm 12 (mo g (nI ta) (nI pa) (nI pe) pd (nI pb) pp pf pg pn rt rn (nI cd) sn (nI il) ztka zama at_2_4 aa2_5 0 0 (-1) wt wy2_6 0 (nI rm) (nI ud) (nI nu) sd (nI qn) (nI qw) qo (nI qb) (nI zqpa) qa (nI qi) (nI oc)), ra_I (g 24) cI 6 (l6 u0 u1 u2 u3 u4 u5), ra_I (g 25) cI 6 (l6 v0 v1 v2 v3 v4 v5), ra_N (g 26) cI 3200 cs, ra_I (g 31) cI 120 nw, ra_N (g 46) cI 9 pt, ra_J (g 86) cJ 1700 zqa, ra_I (g 20) cI 4 (l4 (nI l0) (nI l1) (nI dm) (nI l3)), ra_I (g 38) cI 90 ws_2_8, ra_I (g 36) cZ 900 yw2_9, ra_I (g 37) cZ 900 yo2_10, ra_J (g 43) cJ 90 be2_11, ra_J (g 44) cJ 90 bf2_12, ra_J (g 48) cJ 90 zpa] H → va_D A [ro_ mm 12 (mo g (nI ta) (nI pa) (nI pe) pd (nI pb) pp pf pg pn rt rn (nI cd) sn (nI il) ztka zama at_2_4 aa2_5 0 0 (-1) wt wy2_6 0 (nI rm) (nI ud) (nI nu) sd (nI qn) (nI qw) qo (nI qb) (nI zqpa) qa (nI qi) (nI oc)), ra_I (g 24) cI 6 (l6 u0 u1 u2 u3 u4 u5), ra_I (g 25) cI 6 (l6 v0 v1 v2 v3 v4 v5), ra_N (g 26) cI 3200 cs, ra_I (g 31) cI 120 nw, ra_N (g 46) cI 9 pt, ra_J (g 86) cJ 1700 zqa, ra_I (g 20) cI 4 (l4 (nI l0) (nI l1) (nI dm) (nI l3)), ra_I (g 38) cI 90 ws_2_8, ra_I (g 36) cZ 900 yw2_9, ra_I (g 37) cZ 900 yo2_10, ra_J (g 43) cJ 90 be2_11, ra_J (g 44) cJ 90 bf2_12, ra_J (g 48) cJ 90 zpa] → va_S A s.heap H locs → lv_has ls 6 [(1, .int (nI dd - 1)), (0, .ref mm)] → W p l e { frames := 6, cells := 0, slots := 0, locals := 142 } s m ([.ref mm] : List Value).toArray below meth c H locs 0 0 (MQ below (skV D (skT cI cJ cC cZ cS) (fun (u : va_W) => ∃ (tk2 : Int32), ∃ (qp2 : Nat), ∃ (am2 : Int32), ∃ (at_2 : Int32), ∃ (aa2 : Int32), ∃ (wy2 : Int64), ∃ (ql2 : Nat → Int64), ∃ (ws_2 : Nat → Int32), ∃ (yw2 : Nat → Int32), ∃ (yo2 : Nat → Int32), ∃ (be2 : Nat → Int64), ∃ (bf2 : Nat → Int64), ∃ (py2 : Nat → Int64), mpY (kcFo L wn Ba We U 0) (kWg L wn Ba We) dm 0 py2 ∧ (∀ d, d < dm → ∀ a m, a < 10 → m < 10 → (cfN nw yw2 yo2 0) d a m = (kcFo L wn Ba We U 0) d a m) ∧ wy2 = Int64.ofNat (kcC (kcFo L wn Ba We U 0) dm 0 mN) ∧ u = [ro_ mm 12 (mo g (nI ta) (nI pa) (nI pe) pd (nI pb) pp pf pg pn rt rn (nI cd) sn (nI il) tk2 am2 at_2 aa2 0 0 (-1) wt wy2 0 (nI rm) (nI ud) (nI nu) sd (nI qn) (nI qw) qo (nI qb) (nI qp2) qa (nI qi) (nI oc)), ra_I (g 24) cI 6 (l6 u0 u1 u2 u3 u4 u5), ra_I (g 25) cI 6 (l6 v0 v1 v2 v3 v4 v5), ra_N (g 26) cI 3200 cs, ra_I (g 31) cI 120 nw, ra_N (g 46) cI 9 pt, ra_J (g 86) cJ 1700 ql2, ra_I (g 20) cI 4 (l4 (nI l0) (nI l1) (nI dm) (nI l3)), ra_I (g 38) cI 90 ws_2, ra_I (g 36) cZ 900 yw2, ra_I (g 37) cZ 900 yo2, ra_J (g 43) cJ 90 be2, ra_J (g 44) cJ 90 bf2, ra_J (g 48) cJ 90 py2]) A) ([.ref mm] : List Value).toArray s 0 0 A) (F0 m 11 ls []) := by
    intro n_21
    induction n_21 with
    | zero => intro dd zama ztka zqpa zqa zpa H locs ls hm; exact absurd hm (Nat.not_lt_zero _)
    | succ n_21 ih_lp_20 =>
      intro dd zama ztka zqpa zqa zpa H locs ls hm hdd hpy_ hP hD hS hl
      refine lv_iload_n hx hb dX12_laysPay_11 rfl (lv_at hl 0 rfl) ?_
      refine lv_if_lt (tgt := 159) hx hb dX12_laysPay_12 (by decide) (fun c_22 => ?_) (fun c_22 => ?_)
      · have c_22 : dd = 0 := npm0 dd (by omega) c_22
        exact sk_vret hx hb hr hlocks hK hP hD hS (⟨ztka, zqpa, zama, at_2_4, aa2_5, wy2_6, zqa, ws_2_8, yw2_9, yo2_10, be2_11, bf2_12, zpa, (mpY_z hpy_ (by omega)), hcf_14, hwy_15, rfl⟩) (Nat.le_of_ble_eq_true rfl) (Nat.le_of_ble_eq_true rfl) dX12_laysPay_159
      · have c_22 : 1 ≤ dd := npm1 dd c_22
        rw [npred dd (by omega)] at hl
        refine lv_iconst (v := 0) hx hb dX12_laysPay_15 ic_0 ?_
        refine lv_istore_n (lv' := [(2, .int 0), (1, .int (nI (dd - 1))), (0, .ref mm)]) hx hb dX12_laysPay_16 rfl hl (by decide) rfl (fun ls hl => ?_)
        have lp_23 : ∀ (n_24 : Nat) (jm : Nat) (zamb : Int32) (ztkb : Int32) (zqpb : Nat) (zqb : Nat → Int64) (zpb : Nat → Int64) (H : Heap) (locs : List Loc) (ls : Array Slot), 10 - jm < n_24 → (jm ≤ 10) → (mpJ (kcFo L wn Ba We U 0) (kWg L wn Ba We) dm (dd - 1) jm zpb) → va_P D vwCl [ro_ mm 12 (mo g (nI ta) (nI pa) (nI pe) pd (nI pb) pp pf pg pn rt rn (nI cd) sn (nI il) ztkb zamb at_2_4 aa2_5 0 0 (-1) wt wy2_6 0 (nI rm) (nI ud) (nI nu) sd (nI qn) (nI qw) qo (nI qb) (nI zqpb) qa (nI qi) (nI oc)), ra_I (g 24) cI 6 (l6 u0 u1 u2 u3 u4 u5), ra_I (g 25) cI 6 (l6 v0 v1 v2 v3 v4 v5), ra_N (g 26) cI 3200 cs, ra_I (g 31) cI 120 nw, ra_N (g 46) cI 9 pt, ra_J (g 86) cJ 1700 zqb, ra_I (g 20) cI 4 (l4 (nI l0) (nI l1) (nI dm) (nI l3)), ra_I (g 38) cI 90 ws_2_8, ra_I (g 36) cZ 900 yw2_9, ra_I (g 37) cZ 900 yo2_10, ra_J (g 43) cJ 90 be2_11, ra_J (g 44) cJ 90 bf2_12, ra_J (g 48) cJ 90 zpb] H → va_D A [ro_ mm 12 (mo g (nI ta) (nI pa) (nI pe) pd (nI pb) pp pf pg pn rt rn (nI cd) sn (nI il) ztkb zamb at_2_4 aa2_5 0 0 (-1) wt wy2_6 0 (nI rm) (nI ud) (nI nu) sd (nI qn) (nI qw) qo (nI qb) (nI zqpb) qa (nI qi) (nI oc)), ra_I (g 24) cI 6 (l6 u0 u1 u2 u3 u4 u5), ra_I (g 25) cI 6 (l6 v0 v1 v2 v3 v4 v5), ra_N (g 26) cI 3200 cs, ra_I (g 31) cI 120 nw, ra_N (g 46) cI 9 pt, ra_J (g 86) cJ 1700 zqb, ra_I (g 20) cI 4 (l4 (nI l0) (nI l1) (nI dm) (nI l3)), ra_I (g 38) cI 90 ws_2_8, ra_I (g 36) cZ 900 yw2_9, ra_I (g 37) cZ 900 yo2_10, ra_J (g 43) cJ 90 be2_11, ra_J (g 44) cJ 90 bf2_12, ra_J (g 48) cJ 90 zpb] → va_S A s.heap H locs → lv_has ls 6 [(2, .int (nI jm)), (1, .int (nI (dd - 1))), (0, .ref mm)] → W p l e { frames := 6, cells := 0, slots := 0, locals := 142 } s m ([.ref mm] : List Value).toArray below meth c H locs 0 0 (MQ below (skV D (skT cI cJ cC cZ cS) (fun (u : va_W) => ∃ (tk2 : Int32), ∃ (qp2 : Nat), ∃ (am2 : Int32), ∃ (at_2 : Int32), ∃ (aa2 : Int32), ∃ (wy2 : Int64), ∃ (ql2 : Nat → Int64), ∃ (ws_2 : Nat → Int32), ∃ (yw2 : Nat → Int32), ∃ (yo2 : Nat → Int32), ∃ (be2 : Nat → Int64), ∃ (bf2 : Nat → Int64), ∃ (py2 : Nat → Int64), mpY (kcFo L wn Ba We U 0) (kWg L wn Ba We) dm 0 py2 ∧ (∀ d, d < dm → ∀ a m, a < 10 → m < 10 → (cfN nw yw2 yo2 0) d a m = (kcFo L wn Ba We U 0) d a m) ∧ wy2 = Int64.ofNat (kcC (kcFo L wn Ba We U 0) dm 0 mN) ∧ u = [ro_ mm 12 (mo g (nI ta) (nI pa) (nI pe) pd (nI pb) pp pf pg pn rt rn (nI cd) sn (nI il) tk2 am2 at_2 aa2 0 0 (-1) wt wy2 0 (nI rm) (nI ud) (nI nu) sd (nI qn) (nI qw) qo (nI qb) (nI qp2) qa (nI qi) (nI oc)), ra_I (g 24) cI 6 (l6 u0 u1 u2 u3 u4 u5), ra_I (g 25) cI 6 (l6 v0 v1 v2 v3 v4 v5), ra_N (g 26) cI 3200 cs, ra_I (g 31) cI 120 nw, ra_N (g 46) cI 9 pt, ra_J (g 86) cJ 1700 ql2, ra_I (g 20) cI 4 (l4 (nI l0) (nI l1) (nI dm) (nI l3)), ra_I (g 38) cI 90 ws_2, ra_I (g 36) cZ 900 yw2, ra_I (g 37) cZ 900 yo2, ra_J (g 43) cJ 90 be2, ra_J (g 44) cJ 90 bf2, ra_J (g 48) cJ 90 py2]) A) ([.ref mm] : List Value).toArray s 0 0 A) (F0 m 17 ls []) := by
          intro n_24
          induction n_24 with
          | zero => intro jm zamb ztkb zqpb zqb zpb H locs ls hm; exact absurd hm (Nat.not_lt_zero _)
          | succ n_24 ih_lp_23 =>
            intro jm zamb ztkb zqpb zqb zpb H locs ls hm hjm hpj hP hD hS hl
            refine lv_iload_n hx hb dX12_laysPay_17 rfl (lv_at hl 0 rfl) ?_
            refine lv_bipush (v := 10) hx hb dX12_laysPay_18 (by decide) ?_
            refine lv_icmp_ge (tgt := 153) hx hb dX12_laysPay_20 (by decide) (fun c_25 => ?_) (fun c_25 => ?_)
            · have c_25 : 10 ≤ jm := (nle 10 jm (Nat.le_of_ble_eq_true rfl) (by omega)).mp c_25
              refine lv_iinc (v := nI (dd - 1) - 1) (lv' := [(1, .int (nI (dd - 1) - 1)), (2, .int (nI jm)), (0, .ref mm)]) hx hb dX12_laysPay_153 hl (k := 1) rfl (ndn _) (by decide) rfl (fun ls hl => ?_)
              refine lv_goto (tgt := 11) hx hb dX12_laysPay_156 (by decide) ?_
              exact ih_lp_20 (dd - 1) zamb ztkb zqpb zqb zpb _ _ _ (by omega) (by omega) (mpJ_10 (show mpJ (kcFo L wn Ba We U 0) (kWg L wn Ba We) dm (dd - 1) 10 zpb by rw [show 10 = jm by omega]; exact hpj)) hP hD hS (lv_sub hl [0, 2] rfl)
            · have c_25 : ¬ (10 ≤ jm) := fun h => c_25 ((nle 10 jm (Nat.le_of_ble_eq_true rfl) (by omega)).mpr h)
              refine lv_iload_n hx hb dX12_laysPay_23 rfl (lv_at hl 1 rfl) ?_
              refine lv_aload_n hx hb dX12_laysPay_24 rfl (lv_at hl 2 rfl) ?_
              refine sk_Vi (q0 := 0) (n := 0) (rest := [.int (nI (dd - 1))]) (wr := fmR om_14_2040 _) ⟨hx, hb, hml, hown, hts⟩ hl.1 (c_m_dayMany l D cI cJ cC cZ cS mm g ta pa pe pd pb pp pf pg pn rt rn cd sn il ztkb zamb at_2_4 aa2_5 0 0 (-1) wt wy2_6 0 rm ud nu sd qn qw qo qb zqpb qa qi oc l0 l1 dm l3) w_7_98 w_7_100 w_0_69 w_1_14 w_7_101 hd_X12_dayMany_0 ⟨⟨(Nat.le_of_ble_eq_true rfl), (Nat.le_of_ble_eq_true rfl)⟩, (Nat.le_of_ble_eq_true rfl), (Nat.le_of_ble_eq_true rfl)⟩ hK hP hD hS hA (fmT om_14_2040 0) (fmF om_14_2040 0) (fm_C1 rfl rfl) (fm_R rfl rfl) (fm_nT om_14_2040 0) (fm_nF om_14_2040 0) (fm_di om_14_2040 0) rfl rfl rfl rfl (Nat.le_of_ble_eq_true rfl) dX12_laysPay_25 (fun r_26 u H locs hw hP hD hS => ?_)
              refine anE hw (fun er_28 eu_27 => ?_)
              clear hw
              subst er_28
              refine o_mgE (ws' := [ro_ mm 12 (mo g (nI ta) (nI pa) (nI pe) pd (nI pb) pp pf pg pn rt rn (nI cd) sn (nI il) ztkb zamb at_2_4 aa2_5 0 0 (-1) wt wy2_6 0 (nI rm) (nI ud) (nI nu) sd (nI qn) (nI qw) qo (nI qb) (nI zqpb) qa (nI qi) (nI oc)), ra_I (g 24) cI 6 (l6 u0 u1 u2 u3 u4 u5), ra_I (g 25) cI 6 (l6 v0 v1 v2 v3 v4 v5), ra_N (g 26) cI 3200 cs, ra_I (g 31) cI 120 nw, ra_N (g 46) cI 9 pt, ra_J (g 86) cJ 1700 zqb, ra_I (g 20) cI 4 (l4 (nI l0) (nI l1) (nI dm) (nI l3)), ra_I (g 38) cI 90 ws_2_8, ra_I (g 36) cZ 900 yw2_9, ra_I (g 37) cZ 900 yo2_10, ra_J (g 43) cJ 90 be2_11, ra_J (g 44) cJ 90 bf2_12, ra_J (g 48) cJ 90 zpb]) eu_27 hP hD rfl (fun hP hD => ?_)
              refine lv_iconst (v := 1) hx hb dX12_laysPay_28 ic_1 ?_
              refine lv_isub hx hb dX12_laysPay_29 ?_
              refine sk_top (nI (dm - 1)) (nsub dm 1 (by omega)) ?_
              refine lv_icmp_ne (tgt := 37) hx hb dX12_laysPay_30 (by decide) (fun c_29 => ?_) (fun c_29 => ?_)
              · have c_29 : ¬ (dd - 1 = dm - 1) := fun h => c_29 ((neq (dd - 1) (dm - 1) (by omega) (by omega)).mpr h)
                refine lv_ldc2 (v := (-1000000000000000)) hx hb hown (hts _ w_7_184) dX12_laysPay_37 ?_
                refine lv_lstore_n (lv' := [(3, .long (-1000000000000000)), (2, .int (nI jm)), (1, .int (nI (dd - 1))), (0, .ref mm)]) hx hb dX12_laysPay_40 rfl hl (by decide) rfl (fun ls hl => ?_)
                refine lv_iconst (v := 0) hx hb dX12_laysPay_41 ic_0 ?_
                refine lv_istore (lv' := [(5, .int 0), (3, .long (-1000000000000000)), (2, .int (nI jm)), (1, .int (nI (dd - 1))), (0, .ref mm)]) hx hb dX12_laysPay_42 hl (by decide) rfl (fun ls hl => ?_)
                have lp_30 : ∀ (n_31 : Nat) (kk : Nat) (mo_ : Int64) (H : Heap) (locs : List Loc) (ls : Array Slot), 10 - kk < n_31 → (kk ≤ 10) → (mpM (kcFo L wn Ba We U 0) (kWg L wn Ba We) dm (dd - 1) jm kk mo_) → va_P D vwCl [ro_ mm 12 (mo g (nI ta) (nI pa) (nI pe) pd (nI pb) pp pf pg pn rt rn (nI cd) sn (nI il) ztkb zamb at_2_4 aa2_5 0 0 (-1) wt wy2_6 0 (nI rm) (nI ud) (nI nu) sd (nI qn) (nI qw) qo (nI qb) (nI zqpb) qa (nI qi) (nI oc)), ra_I (g 24) cI 6 (l6 u0 u1 u2 u3 u4 u5), ra_I (g 25) cI 6 (l6 v0 v1 v2 v3 v4 v5), ra_N (g 26) cI 3200 cs, ra_I (g 31) cI 120 nw, ra_N (g 46) cI 9 pt, ra_J (g 86) cJ 1700 zqb, ra_I (g 20) cI 4 (l4 (nI l0) (nI l1) (nI dm) (nI l3)), ra_I (g 38) cI 90 ws_2_8, ra_I (g 36) cZ 900 yw2_9, ra_I (g 37) cZ 900 yo2_10, ra_J (g 43) cJ 90 be2_11, ra_J (g 44) cJ 90 bf2_12, ra_J (g 48) cJ 90 zpb] H → va_D A [ro_ mm 12 (mo g (nI ta) (nI pa) (nI pe) pd (nI pb) pp pf pg pn rt rn (nI cd) sn (nI il) ztkb zamb at_2_4 aa2_5 0 0 (-1) wt wy2_6 0 (nI rm) (nI ud) (nI nu) sd (nI qn) (nI qw) qo (nI qb) (nI zqpb) qa (nI qi) (nI oc)), ra_I (g 24) cI 6 (l6 u0 u1 u2 u3 u4 u5), ra_I (g 25) cI 6 (l6 v0 v1 v2 v3 v4 v5), ra_N (g 26) cI 3200 cs, ra_I (g 31) cI 120 nw, ra_N (g 46) cI 9 pt, ra_J (g 86) cJ 1700 zqb, ra_I (g 20) cI 4 (l4 (nI l0) (nI l1) (nI dm) (nI l3)), ra_I (g 38) cI 90 ws_2_8, ra_I (g 36) cZ 900 yw2_9, ra_I (g 37) cZ 900 yo2_10, ra_J (g 43) cJ 90 be2_11, ra_J (g 44) cJ 90 bf2_12, ra_J (g 48) cJ 90 zpb] → va_S A s.heap H locs → lv_has ls 6 [(5, .int (nI kk)), (3, .long mo_), (2, .int (nI jm)), (1, .int (nI (dd - 1))), (0, .ref mm)] → W p l e { frames := 6, cells := 0, slots := 0, locals := 142 } s m ([.ref mm] : List Value).toArray below meth c H locs 0 0 (MQ below (skV D (skT cI cJ cC cZ cS) (fun (u : va_W) => ∃ (tk2 : Int32), ∃ (qp2 : Nat), ∃ (am2 : Int32), ∃ (at_2 : Int32), ∃ (aa2 : Int32), ∃ (wy2 : Int64), ∃ (ql2 : Nat → Int64), ∃ (ws_2 : Nat → Int32), ∃ (yw2 : Nat → Int32), ∃ (yo2 : Nat → Int32), ∃ (be2 : Nat → Int64), ∃ (bf2 : Nat → Int64), ∃ (py2 : Nat → Int64), mpY (kcFo L wn Ba We U 0) (kWg L wn Ba We) dm 0 py2 ∧ (∀ d, d < dm → ∀ a m, a < 10 → m < 10 → (cfN nw yw2 yo2 0) d a m = (kcFo L wn Ba We U 0) d a m) ∧ wy2 = Int64.ofNat (kcC (kcFo L wn Ba We U 0) dm 0 mN) ∧ u = [ro_ mm 12 (mo g (nI ta) (nI pa) (nI pe) pd (nI pb) pp pf pg pn rt rn (nI cd) sn (nI il) tk2 am2 at_2 aa2 0 0 (-1) wt wy2 0 (nI rm) (nI ud) (nI nu) sd (nI qn) (nI qw) qo (nI qb) (nI qp2) qa (nI qi) (nI oc)), ra_I (g 24) cI 6 (l6 u0 u1 u2 u3 u4 u5), ra_I (g 25) cI 6 (l6 v0 v1 v2 v3 v4 v5), ra_N (g 26) cI 3200 cs, ra_I (g 31) cI 120 nw, ra_N (g 46) cI 9 pt, ra_J (g 86) cJ 1700 ql2, ra_I (g 20) cI 4 (l4 (nI l0) (nI l1) (nI dm) (nI l3)), ra_I (g 38) cI 90 ws_2, ra_I (g 36) cZ 900 yw2, ra_I (g 37) cZ 900 yo2, ra_J (g 43) cJ 90 be2, ra_J (g 44) cJ 90 bf2, ra_J (g 48) cJ 90 py2]) A) ([.ref mm] : List Value).toArray s 0 0 A) (F0 m 44 ls []) := by
                  intro n_31
                  induction n_31 with
                  | zero => intro kk mo_ H locs ls hm; exact absurd hm (Nat.not_lt_zero _)
                  | succ n_31 ih_lp_30 =>
                    intro kk mo_ H locs ls hm hkk hmm hP hD hS hl
                    refine lv_iload hx hb dX12_laysPay_44 (lv_at hl 0 rfl) ?_
                    refine lv_bipush (v := 10) hx hb dX12_laysPay_46 (by decide) ?_
                    refine lv_icmp_ge (tgt := 114) hx hb dX12_laysPay_48 (by decide) (fun c_32 => ?_) (fun c_32 => ?_)
                    · have c_32 : 10 ≤ kk := (nle 10 kk (Nat.le_of_ble_eq_true rfl) (by omega)).mp c_32
                      have hme := mpM_e hmm (show dd - 1 < dm by omega) (by omega)
                      refine lv_aload_n hx hb dX12_laysPay_114 rfl (lv_at hl 4 rfl) ?_
                      refine sk_get (v := .ref (g 48)) (C := RX12) (T := TX12) (N := 92) hx hb hts inlX12 hown hK hP 0 rfl rfl 48 (Nat.le_of_ble_eq_true rfl) w_5_203 rfl dX12_laysPay_115 ?_
                      refine lv_bipush (v := 10) hx hb dX12_laysPay_118 (by decide) ?_
                      refine lv_iload_n hx hb dX12_laysPay_120 rfl (lv_at hl 3 rfl) ?_
                      refine lv_imul hx hb dX12_laysPay_121 ?_
                      refine sk_top (nI (10 * (dd - 1))) (nmul 10 (dd - 1)) ?_
                      refine lv_iload_n hx hb dX12_laysPay_122 rfl (lv_at hl 2 rfl) ?_
                      refine lv_iadd hx hb dX12_laysPay_123 ?_
                      refine sk_top (nI (10 * (dd - 1) + jm)) (nI_add (10 * (dd - 1)) jm) ?_
                      refine lv_lload_n hx hb dX12_laysPay_124 rfl (lv_at hl 1 rfl) ?_
                      refine lv_ldc2 (v := (-1000000000000000)) hx hb hown (hts _ w_7_184) dX12_laysPay_125 ?_
                      refine W.lcmp hx hb dX12_laysPay_128 ?_
                      refine lv_if_ne (tgt := 138) hx hb dX12_laysPay_129 (by decide) (fun c_33 => ?_) (fun c_33 => ?_)
                      · skip
                        refine lv_lload_n hx hb dX12_laysPay_138 rfl (lv_at hl 1 rfl) ?_
                        refine lv_aload_n hx hb dX12_laysPay_139 rfl (lv_at hl 4 rfl) ?_
                        refine lv_iload_n hx hb dX12_laysPay_140 rfl (lv_at hl 3 rfl) ?_
                        refine lv_iload_n hx hb dX12_laysPay_141 rfl (lv_at hl 2 rfl) ?_
                        refine sk_Vl (q0 := 0) (n := 2) (rest := [.long mo_, .int (nI (10 * (dd - 1) + jm)), .ref (g 48)]) (wr := fmR om_14_3f80 _) ⟨hx, hb, hml, hown, hts⟩ hl.1 (c_nm_wageOf l D cI cJ cC cZ cS mm g ta pa pe pd pb pp pf pg pn rt rn cd sn il ztkb zamb at_2_4 aa2_5 0 wt wy2_6 0 rm ud nu sd qn qw qo qb zqpb qa qi oc (dd - 1) jm u0 u1 u2 u3 u4 u5 v0 v1 v2 v3 v4 v5 cs nw pt zqb L wn (Ba (dd - 1)) (We (dd - 1)) (by omega) (by omega) hLk hkl (nwX_md hnw (by omega)) hwk (hB9 _) (hW9 _) hmw2 hcs (nwX_ok hnw) hpt) w_8_45 w_8_47 w_0_97 w_1_14 w_8_48 hd_X12_wageOf_2 ⟨⟨(Nat.le_of_ble_eq_true rfl), (Nat.le_of_ble_eq_true rfl)⟩, (Nat.le_of_ble_eq_true rfl), (Nat.le_of_ble_eq_true rfl)⟩ hK hP hD hS hA (fmT om_14_3f80 0) (fmF om_14_3f80 0) (fm_C1 rfl rfl) (fm_R rfl rfl) (fm_nT om_14_3f80 0) (fm_nF om_14_3f80 0) (fm_di om_14_3f80 0) rfl rfl rfl rfl (Nat.le_of_ble_eq_true rfl) dX12_laysPay_142 (fun r_38 u H locs hw hP hD hS => ?_)
                        refine exE hw (fun tk2_34 hw1 => exE hw1 (fun qp2_35 hw2 => exE hw2 (fun am2_36 hw3 => exE hw3 (fun ql2_37 hw4 => anE hw4 (fun hr_39 eu_40 => ?_)))))
                        clear hw hw1 hw2 hw3 hw4
                        refine o_mgE (ws' := [ro_ mm 12 (mo g (nI ta) (nI pa) (nI pe) pd (nI pb) pp pf pg pn rt rn (nI cd) sn (nI il) tk2_34 am2_36 at_2_4 aa2_5 0 0 (-1) wt wy2_6 0 (nI rm) (nI ud) (nI nu) sd (nI qn) (nI qw) qo (nI qb) (nI qp2_35) qa (nI qi) (nI oc)), ra_I (g 24) cI 6 (l6 u0 u1 u2 u3 u4 u5), ra_I (g 25) cI 6 (l6 v0 v1 v2 v3 v4 v5), ra_N (g 26) cI 3200 cs, ra_I (g 31) cI 120 nw, ra_N (g 46) cI 9 pt, ra_J (g 86) cJ 1700 ql2_37, ra_I (g 20) cI 4 (l4 (nI l0) (nI l1) (nI dm) (nI l3)), ra_I (g 38) cI 90 ws_2_8, ra_I (g 36) cZ 900 yw2_9, ra_I (g 37) cZ 900 yo2_10, ra_J (g 43) cJ 90 be2_11, ra_J (g 44) cJ 90 bf2_12, ra_J (g 48) cJ 90 zpb]) eu_40 hP hD rfl (fun hP hD => ?_)
                        subst hr_39
                        refine lv_ladd hx hb dX12_laysPay_145 ?_
                        refine sk_lastE (k := (10 * (dd - 1) + jm)) (ws' := fun f_41 => [ro_ mm 12 (mo g (nI ta) (nI pa) (nI pe) pd (nI pb) pp pf pg pn rt rn (nI cd) sn (nI il) tk2_34 am2_36 at_2_4 aa2_5 0 0 (-1) wt wy2_6 0 (nI rm) (nI ud) (nI nu) sd (nI qn) (nI qw) qo (nI qb) (nI qp2_35) qa (nI qi) (nI oc)), ra_I (g 24) cI 6 (l6 u0 u1 u2 u3 u4 u5), ra_I (g 25) cI 6 (l6 v0 v1 v2 v3 v4 v5), ra_N (g 26) cI 3200 cs, ra_I (g 31) cI 120 nw, ra_N (g 46) cI 9 pt, ra_J (g 86) cJ 1700 ql2_37, ra_I (g 20) cI 4 (l4 (nI l0) (nI l1) (nI dm) (nI l3)), ra_I (g 38) cI 90 ws_2_8, ra_I (g 36) cZ 900 yw2_9, ra_I (g 37) cZ 900 yo2_10, ra_J (g 43) cJ 90 be2_11, ra_J (g 44) cJ 90 bf2_12, ra_J (g 48) cJ 90 f_41]) hx hb hK hP hD hS 13 1 rfl rfl (by omega) (by omega) (fun _ => rfl) dX12_laysPay_146 (fun f_41 H locs ef_42 hP hD hS => ?_)
                        refine lv_iinc (v := nI (jm + 1)) (lv' := [(2, .int (nI (jm + 1))), (5, .int (nI kk)), (3, .long mo_), (1, .int (nI (dd - 1))), (0, .ref mm)]) hx hb dX12_laysPay_147 hl (k := 2) rfl (ninc jm 1 (by decide)) (by decide) rfl (fun ls hl => ?_)
                        refine lv_goto (tgt := 17) hx hb dX12_laysPay_150 (by decide) ?_
                        exact ih_lp_23 (jm + 1) am2_36 tk2_34 qp2_35 ql2_37 f_41 _ _ _ (by omega) (by omega) (mpJ_s hpj ef_42 (by omega) (mpV_y hme hWb hdm (by omega) (by omega) rfl c_33)) hP hD hS (lv_sub hl [0, 3, 4] rfl)
                      · skip
                        refine lv_ldc2 (v := (-1000000000000000)) hx hb hown (hts _ w_7_184) dX12_laysPay_132 ?_
                        refine lv_goto (tgt := 146) hx hb dX12_laysPay_135 (by decide) ?_
                        refine sk_lastE (k := (10 * (dd - 1) + jm)) (ws' := fun f_43 => [ro_ mm 12 (mo g (nI ta) (nI pa) (nI pe) pd (nI pb) pp pf pg pn rt rn (nI cd) sn (nI il) ztkb zamb at_2_4 aa2_5 0 0 (-1) wt wy2_6 0 (nI rm) (nI ud) (nI nu) sd (nI qn) (nI qw) qo (nI qb) (nI zqpb) qa (nI qi) (nI oc)), ra_I (g 24) cI 6 (l6 u0 u1 u2 u3 u4 u5), ra_I (g 25) cI 6 (l6 v0 v1 v2 v3 v4 v5), ra_N (g 26) cI 3200 cs, ra_I (g 31) cI 120 nw, ra_N (g 46) cI 9 pt, ra_J (g 86) cJ 1700 zqb, ra_I (g 20) cI 4 (l4 (nI l0) (nI l1) (nI dm) (nI l3)), ra_I (g 38) cI 90 ws_2_8, ra_I (g 36) cZ 900 yw2_9, ra_I (g 37) cZ 900 yo2_10, ra_J (g 43) cJ 90 be2_11, ra_J (g 44) cJ 90 bf2_12, ra_J (g 48) cJ 90 f_43]) hx hb hK hP hD hS 13 1 rfl rfl (by omega) (by omega) (fun _ => rfl) dX12_laysPay_146 (fun f_43 H locs ef_44 hP hD hS => ?_)
                        refine lv_iinc (v := nI (jm + 1)) (lv' := [(2, .int (nI (jm + 1))), (5, .int (nI kk)), (3, .long mo_), (1, .int (nI (dd - 1))), (0, .ref mm)]) hx hb dX12_laysPay_147 hl (k := 2) rfl (ninc jm 1 (by decide)) (by decide) rfl (fun ls hl => ?_)
                        refine lv_goto (tgt := 17) hx hb dX12_laysPay_150 (by decide) ?_
                        exact ih_lp_23 (jm + 1) zamb ztkb zqpb zqb f_43 _ _ _ (by omega) (by omega) (mpJ_s hpj ef_44 (by omega) (mpV_n hme hWb hdm (by omega) c_33)) hP hD hS (lv_sub hl [0, 3, 4] rfl)
                    · have c_32 : ¬ (10 ≤ kk) := fun h => c_32 ((nle 10 kk (Nat.le_of_ble_eq_true rfl) (by omega)).mpr h)
                      refine lv_iload_n hx hb dX12_laysPay_51 rfl (lv_at hl 3 rfl) ?_
                      refine lv_aload_n hx hb dX12_laysPay_52 rfl (lv_at hl 4 rfl) ?_
                      refine sk_Vi (q0 := 0) (n := 0) (rest := [.int (nI (dd - 1))]) (wr := fmR om_14_2040 _) ⟨hx, hb, hml, hown, hts⟩ hl.1 (c_m_dayMany l D cI cJ cC cZ cS mm g ta pa pe pd pb pp pf pg pn rt rn cd sn il ztkb zamb at_2_4 aa2_5 0 0 (-1) wt wy2_6 0 rm ud nu sd qn qw qo qb zqpb qa qi oc l0 l1 dm l3) w_7_98 w_7_100 w_0_69 w_1_14 w_7_101 hd_X12_dayMany_0 ⟨⟨(Nat.le_of_ble_eq_true rfl), (Nat.le_of_ble_eq_true rfl)⟩, (Nat.le_of_ble_eq_true rfl), (Nat.le_of_ble_eq_true rfl)⟩ hK hP hD hS hA (fmT om_14_2040 0) (fmF om_14_2040 0) (fm_C1 rfl rfl) (fm_R rfl rfl) (fm_nT om_14_2040 0) (fm_nF om_14_2040 0) (fm_di om_14_2040 0) rfl rfl rfl rfl (Nat.le_of_ble_eq_true rfl) dX12_laysPay_53 (fun r_45 u H locs hw hP hD hS => ?_)
                      refine anE hw (fun er_47 eu_46 => ?_)
                      clear hw
                      subst er_47
                      refine o_mgE (ws' := [ro_ mm 12 (mo g (nI ta) (nI pa) (nI pe) pd (nI pb) pp pf pg pn rt rn (nI cd) sn (nI il) ztkb zamb at_2_4 aa2_5 0 0 (-1) wt wy2_6 0 (nI rm) (nI ud) (nI nu) sd (nI qn) (nI qw) qo (nI qb) (nI zqpb) qa (nI qi) (nI oc)), ra_I (g 24) cI 6 (l6 u0 u1 u2 u3 u4 u5), ra_I (g 25) cI 6 (l6 v0 v1 v2 v3 v4 v5), ra_N (g 26) cI 3200 cs, ra_I (g 31) cI 120 nw, ra_N (g 46) cI 9 pt, ra_J (g 86) cJ 1700 zqb, ra_I (g 20) cI 4 (l4 (nI l0) (nI l1) (nI dm) (nI l3)), ra_I (g 38) cI 90 ws_2_8, ra_I (g 36) cZ 900 yw2_9, ra_I (g 37) cZ 900 yo2_10, ra_J (g 43) cJ 90 be2_11, ra_J (g 44) cJ 90 bf2_12, ra_J (g 48) cJ 90 zpb]) eu_46 hP hD rfl (fun hP hD => ?_)
                      refine lv_iconst (v := 1) hx hb dX12_laysPay_56 ic_1 ?_
                      refine lv_isub hx hb dX12_laysPay_57 ?_
                      refine sk_top (nI (dm - 1)) (nsub dm 1 (by omega)) ?_
                      refine lv_icmp_ge (tgt := 114) hx hb dX12_laysPay_58 (by decide) (fun c_48 => ?_) (fun c_48 => ?_)
                      · have c_48 : dm - 1 ≤ dd - 1 := (nle (dm - 1) (dd - 1) (by omega) (by omega)).mp c_48
                        have hme := mpM_e hmm (show dd - 1 < dm by omega) (by omega)
                        refine lv_aload_n hx hb dX12_laysPay_114 rfl (lv_at hl 4 rfl) ?_
                        refine sk_get (v := .ref (g 48)) (C := RX12) (T := TX12) (N := 92) hx hb hts inlX12 hown hK hP 0 rfl rfl 48 (Nat.le_of_ble_eq_true rfl) w_5_203 rfl dX12_laysPay_115 ?_
                        refine lv_bipush (v := 10) hx hb dX12_laysPay_118 (by decide) ?_
                        refine lv_iload_n hx hb dX12_laysPay_120 rfl (lv_at hl 3 rfl) ?_
                        refine lv_imul hx hb dX12_laysPay_121 ?_
                        refine sk_top (nI (10 * (dd - 1))) (nmul 10 (dd - 1)) ?_
                        refine lv_iload_n hx hb dX12_laysPay_122 rfl (lv_at hl 2 rfl) ?_
                        refine lv_iadd hx hb dX12_laysPay_123 ?_
                        refine sk_top (nI (10 * (dd - 1) + jm)) (nI_add (10 * (dd - 1)) jm) ?_
                        refine lv_lload_n hx hb dX12_laysPay_124 rfl (lv_at hl 1 rfl) ?_
                        refine lv_ldc2 (v := (-1000000000000000)) hx hb hown (hts _ w_7_184) dX12_laysPay_125 ?_
                        refine W.lcmp hx hb dX12_laysPay_128 ?_
                        refine lv_if_ne (tgt := 138) hx hb dX12_laysPay_129 (by decide) (fun c_49 => ?_) (fun c_49 => ?_)
                        · skip
                          refine lv_lload_n hx hb dX12_laysPay_138 rfl (lv_at hl 1 rfl) ?_
                          refine lv_aload_n hx hb dX12_laysPay_139 rfl (lv_at hl 4 rfl) ?_
                          refine lv_iload_n hx hb dX12_laysPay_140 rfl (lv_at hl 3 rfl) ?_
                          refine lv_iload_n hx hb dX12_laysPay_141 rfl (lv_at hl 2 rfl) ?_
                          refine sk_Vl (q0 := 0) (n := 2) (rest := [.long mo_, .int (nI (10 * (dd - 1) + jm)), .ref (g 48)]) (wr := fmR om_14_3f80 _) ⟨hx, hb, hml, hown, hts⟩ hl.1 (c_nm_wageOf l D cI cJ cC cZ cS mm g ta pa pe pd pb pp pf pg pn rt rn cd sn il ztkb zamb at_2_4 aa2_5 0 wt wy2_6 0 rm ud nu sd qn qw qo qb zqpb qa qi oc (dd - 1) jm u0 u1 u2 u3 u4 u5 v0 v1 v2 v3 v4 v5 cs nw pt zqb L wn (Ba (dd - 1)) (We (dd - 1)) (by omega) (by omega) hLk hkl (nwX_md hnw (by omega)) hwk (hB9 _) (hW9 _) hmw2 hcs (nwX_ok hnw) hpt) w_8_45 w_8_47 w_0_97 w_1_14 w_8_48 hd_X12_wageOf_2 ⟨⟨(Nat.le_of_ble_eq_true rfl), (Nat.le_of_ble_eq_true rfl)⟩, (Nat.le_of_ble_eq_true rfl), (Nat.le_of_ble_eq_true rfl)⟩ hK hP hD hS hA (fmT om_14_3f80 0) (fmF om_14_3f80 0) (fm_C1 rfl rfl) (fm_R rfl rfl) (fm_nT om_14_3f80 0) (fm_nF om_14_3f80 0) (fm_di om_14_3f80 0) rfl rfl rfl rfl (Nat.le_of_ble_eq_true rfl) dX12_laysPay_142 (fun r_54 u H locs hw hP hD hS => ?_)
                          refine exE hw (fun tk2_50 hw1 => exE hw1 (fun qp2_51 hw2 => exE hw2 (fun am2_52 hw3 => exE hw3 (fun ql2_53 hw4 => anE hw4 (fun hr_55 eu_56 => ?_)))))
                          clear hw hw1 hw2 hw3 hw4
                          refine o_mgE (ws' := [ro_ mm 12 (mo g (nI ta) (nI pa) (nI pe) pd (nI pb) pp pf pg pn rt rn (nI cd) sn (nI il) tk2_50 am2_52 at_2_4 aa2_5 0 0 (-1) wt wy2_6 0 (nI rm) (nI ud) (nI nu) sd (nI qn) (nI qw) qo (nI qb) (nI qp2_51) qa (nI qi) (nI oc)), ra_I (g 24) cI 6 (l6 u0 u1 u2 u3 u4 u5), ra_I (g 25) cI 6 (l6 v0 v1 v2 v3 v4 v5), ra_N (g 26) cI 3200 cs, ra_I (g 31) cI 120 nw, ra_N (g 46) cI 9 pt, ra_J (g 86) cJ 1700 ql2_53, ra_I (g 20) cI 4 (l4 (nI l0) (nI l1) (nI dm) (nI l3)), ra_I (g 38) cI 90 ws_2_8, ra_I (g 36) cZ 900 yw2_9, ra_I (g 37) cZ 900 yo2_10, ra_J (g 43) cJ 90 be2_11, ra_J (g 44) cJ 90 bf2_12, ra_J (g 48) cJ 90 zpb]) eu_56 hP hD rfl (fun hP hD => ?_)
                          subst hr_55
                          refine lv_ladd hx hb dX12_laysPay_145 ?_
                          refine sk_lastE (k := (10 * (dd - 1) + jm)) (ws' := fun f_57 => [ro_ mm 12 (mo g (nI ta) (nI pa) (nI pe) pd (nI pb) pp pf pg pn rt rn (nI cd) sn (nI il) tk2_50 am2_52 at_2_4 aa2_5 0 0 (-1) wt wy2_6 0 (nI rm) (nI ud) (nI nu) sd (nI qn) (nI qw) qo (nI qb) (nI qp2_51) qa (nI qi) (nI oc)), ra_I (g 24) cI 6 (l6 u0 u1 u2 u3 u4 u5), ra_I (g 25) cI 6 (l6 v0 v1 v2 v3 v4 v5), ra_N (g 26) cI 3200 cs, ra_I (g 31) cI 120 nw, ra_N (g 46) cI 9 pt, ra_J (g 86) cJ 1700 ql2_53, ra_I (g 20) cI 4 (l4 (nI l0) (nI l1) (nI dm) (nI l3)), ra_I (g 38) cI 90 ws_2_8, ra_I (g 36) cZ 900 yw2_9, ra_I (g 37) cZ 900 yo2_10, ra_J (g 43) cJ 90 be2_11, ra_J (g 44) cJ 90 bf2_12, ra_J (g 48) cJ 90 f_57]) hx hb hK hP hD hS 13 1 rfl rfl (by omega) (by omega) (fun _ => rfl) dX12_laysPay_146 (fun f_57 H locs ef_58 hP hD hS => ?_)
                          refine lv_iinc (v := nI (jm + 1)) (lv' := [(2, .int (nI (jm + 1))), (5, .int (nI kk)), (3, .long mo_), (1, .int (nI (dd - 1))), (0, .ref mm)]) hx hb dX12_laysPay_147 hl (k := 2) rfl (ninc jm 1 (by decide)) (by decide) rfl (fun ls hl => ?_)
                          refine lv_goto (tgt := 17) hx hb dX12_laysPay_150 (by decide) ?_
                          exact ih_lp_23 (jm + 1) am2_52 tk2_50 qp2_51 ql2_53 f_57 _ _ _ (by omega) (by omega) (mpJ_s hpj ef_58 (by omega) (mpV_y hme hWb hdm (by omega) (by omega) rfl c_49)) hP hD hS (lv_sub hl [0, 3, 4] rfl)
                        · skip
                          refine lv_ldc2 (v := (-1000000000000000)) hx hb hown (hts _ w_7_184) dX12_laysPay_132 ?_
                          refine lv_goto (tgt := 146) hx hb dX12_laysPay_135 (by decide) ?_
                          refine sk_lastE (k := (10 * (dd - 1) + jm)) (ws' := fun f_59 => [ro_ mm 12 (mo g (nI ta) (nI pa) (nI pe) pd (nI pb) pp pf pg pn rt rn (nI cd) sn (nI il) ztkb zamb at_2_4 aa2_5 0 0 (-1) wt wy2_6 0 (nI rm) (nI ud) (nI nu) sd (nI qn) (nI qw) qo (nI qb) (nI zqpb) qa (nI qi) (nI oc)), ra_I (g 24) cI 6 (l6 u0 u1 u2 u3 u4 u5), ra_I (g 25) cI 6 (l6 v0 v1 v2 v3 v4 v5), ra_N (g 26) cI 3200 cs, ra_I (g 31) cI 120 nw, ra_N (g 46) cI 9 pt, ra_J (g 86) cJ 1700 zqb, ra_I (g 20) cI 4 (l4 (nI l0) (nI l1) (nI dm) (nI l3)), ra_I (g 38) cI 90 ws_2_8, ra_I (g 36) cZ 900 yw2_9, ra_I (g 37) cZ 900 yo2_10, ra_J (g 43) cJ 90 be2_11, ra_J (g 44) cJ 90 bf2_12, ra_J (g 48) cJ 90 f_59]) hx hb hK hP hD hS 13 1 rfl rfl (by omega) (by omega) (fun _ => rfl) dX12_laysPay_146 (fun f_59 H locs ef_60 hP hD hS => ?_)
                          refine lv_iinc (v := nI (jm + 1)) (lv' := [(2, .int (nI (jm + 1))), (5, .int (nI kk)), (3, .long mo_), (1, .int (nI (dd - 1))), (0, .ref mm)]) hx hb dX12_laysPay_147 hl (k := 2) rfl (ninc jm 1 (by decide)) (by decide) rfl (fun ls hl => ?_)
                          refine lv_goto (tgt := 17) hx hb dX12_laysPay_150 (by decide) ?_
                          exact ih_lp_23 (jm + 1) zamb ztkb zqpb zqb f_59 _ _ _ (by omega) (by omega) (mpJ_s hpj ef_60 (by omega) (mpV_n hme hWb hdm (by omega) c_49)) hP hD hS (lv_sub hl [0, 3, 4] rfl)
                      · have c_48 : ¬ (dm - 1 ≤ dd - 1) := fun h => c_48 ((nle (dm - 1) (dd - 1) (by omega) (by omega)).mpr h)
                        refine lv_aload_n hx hb dX12_laysPay_61 rfl (lv_at hl 4 rfl) ?_
                        refine lv_iload_n hx hb dX12_laysPay_62 rfl (lv_at hl 3 rfl) ?_
                        refine lv_iconst (v := 1) hx hb dX12_laysPay_63 ic_1 ?_
                        refine lv_iadd hx hb dX12_laysPay_64 ?_
                        refine sk_top (nI (dd - 1 + 1)) (nI_add (dd - 1) 1) ?_
                        refine lv_iload_n hx hb dX12_laysPay_65 rfl (lv_at hl 2 rfl) ?_
                        refine lv_iload hx hb dX12_laysPay_66 (lv_at hl 0 rfl) ?_
                        refine sk_Vi (q0 := 0) (n := 3) (rest := []) (wr := fmR om_14_2218 _) ⟨hx, hb, hml, hown, hts⟩ hl.1 (c_m_canFollow0 l D cI cJ cC cZ cS mm g ta pa pe pd pb pp pf pg pn rt rn cd sn il ztkb zamb at_2_4 aa2_5 0 wt wy2_6 0 rm ud nu sd qn qw qo qb zqpb qa qi oc (dd - 1 + 1) jm kk nw yo2_10 yw2_9 (by omega) (by omega) (by omega) (nwX_ok hnw)) w_7_201 w_7_203 w_0_85 w_1_14 w_7_204 hd_X12_canFollow_3 ⟨⟨(Nat.le_of_ble_eq_true rfl), (Nat.le_of_ble_eq_true rfl)⟩, (Nat.le_of_ble_eq_true rfl), (Nat.le_of_ble_eq_true rfl)⟩ hK hP hD hS hA [0, 4, 10, 9] (fmF om_14_2218 0) rfl (fm_R rfl rfl) (by decide +kernel) (fm_nF om_14_2218 0) (by decide +kernel) rfl rfl rfl rfl (Nat.le_of_ble_eq_true rfl) dX12_laysPay_68 (fun r_62 u H locs hw hP hD hS => ?_)
                        refine exE hw (fun b_61 hw1 => anE hw1 (fun hb1_63 hw2 => anE hw2 (fun hb2_64 hw3 => anE hw3 (fun er_66 eu_65 => ?_))))
                        clear hw hw1 hw2 hw3
                        subst er_66
                        refine o_mgqE (ux := [ro_ mm 12 (mo g (nI ta) (nI pa) (nI pe) pd (nI pb) pp pf pg pn rt rn (nI cd) sn (nI il) ztkb zamb at_2_4 aa2_5 0 0 (-1) wt wy2_6 0 (nI rm) (nI ud) (nI nu) sd (nI qn) (nI qw) qo (nI qb) (nI zqpb) qa (nI qi) (nI oc)), ra_I (g 31) cI 120 nw, ra_I (g 36) cZ 900 yw2_9, ra_I (g 37) cZ 900 yo2_10]) (ws' := [ro_ mm 12 (mo g (nI ta) (nI pa) (nI pe) pd (nI pb) pp pf pg pn rt rn (nI cd) sn (nI il) ztkb zamb at_2_4 aa2_5 0 0 (-1) wt wy2_6 0 (nI rm) (nI ud) (nI nu) sd (nI qn) (nI qw) qo (nI qb) (nI zqpb) qa (nI qi) (nI oc)), ra_I (g 24) cI 6 (l6 u0 u1 u2 u3 u4 u5), ra_I (g 25) cI 6 (l6 v0 v1 v2 v3 v4 v5), ra_N (g 26) cI 3200 cs, ra_I (g 31) cI 120 nw, ra_N (g 46) cI 9 pt, ra_J (g 86) cJ 1700 zqb, ra_I (g 20) cI 4 (l4 (nI l0) (nI l1) (nI dm) (nI l3)), ra_I (g 38) cI 90 ws_2_8, ra_I (g 36) cZ 900 yw2_9, ra_I (g 37) cZ 900 yo2_10, ra_J (g 43) cJ 90 be2_11, ra_J (g 44) cJ 90 bf2_12, ra_J (g 48) cJ 90 zpb]) eu_65 [0, 1, 3, 2] (by decide +kernel) rfl hP hD rfl (fun hP hD => ?_)
                        refine lv_if_eq (tgt := 108) hx hb dX12_laysPay_71 (by decide) (fun c_67 => ?_) (fun c_67 => ?_)
                        · have c_67 : b_61 = 0 := (neq b_61 0 (by omega) (Nat.le_of_ble_eq_true rfl)).mp c_67
                          refine lv_iinc (v := nI (kk + 1)) (lv' := [(5, .int (nI (kk + 1))), (3, .long mo_), (2, .int (nI jm)), (1, .int (nI (dd - 1))), (0, .ref mm)]) hx hb dX12_laysPay_108 hl (k := 0) rfl (ninc kk 1 (by decide)) (by decide) rfl (fun ls hl => ?_)
                          refine lv_goto (tgt := 44) hx hb dX12_laysPay_111 (by decide) ?_
                          exact ih_lp_30 (kk + 1) mo_ _ _ _ (by omega) (by omega) (mpM_n hmm (by omega) (kgo_no (by rw [← hcf_14 (dd - 1 + 1) (by omega) jm kk (by omega) (by omega)]; exact or_0 hb1_63 (by omega)))) hP hD hS (lv_sub hl [0, 1, 2, 3, 4] rfl)
                        · have c_67 : ¬ (b_61 = 0) := fun h => c_67 ((neq b_61 0 (by omega) (Nat.le_of_ble_eq_true rfl)).mpr h)
                          refine lv_aload_n hx hb dX12_laysPay_74 rfl (lv_at hl 4 rfl) ?_
                          refine sk_get (v := .ref (g 48)) (C := RX12) (T := TX12) (N := 92) hx hb hts inlX12 hown hK hP 0 rfl rfl 48 (Nat.le_of_ble_eq_true rfl) w_5_203 rfl dX12_laysPay_75 ?_
                          refine lv_bipush (v := 10) hx hb dX12_laysPay_78 (by decide) ?_
                          refine lv_iload_n hx hb dX12_laysPay_80 rfl (lv_at hl 3 rfl) ?_
                          refine lv_iconst (v := 1) hx hb dX12_laysPay_81 ic_1 ?_
                          refine lv_iadd hx hb dX12_laysPay_82 ?_
                          refine sk_top (nI (dd - 1 + 1)) (nI_add (dd - 1) 1) ?_
                          refine lv_imul hx hb dX12_laysPay_83 ?_
                          refine sk_top (nI (10 * (dd - 1 + 1))) (nmul 10 (dd - 1 + 1)) ?_
                          refine lv_iload hx hb dX12_laysPay_84 (lv_at hl 0 rfl) ?_
                          refine lv_iadd hx hb dX12_laysPay_86 ?_
                          refine sk_top (nI (10 * (dd - 1 + 1) + kk)) (nI_add (10 * (dd - 1 + 1)) kk) ?_
                          refine va_lald hx hb hK.1 hP 13 1 rfl rfl (vin (10 * (dd - 1 + 1) + kk) 90 (by omega) (Nat.le_of_ble_eq_true rfl)) dX12_laysPay_87 ?_
                          have hv_68 := hpj.1 (dd - 1 + 1) (Nat.le_refl _) (by omega) kk (by omega)
                          refine sk_topl (zpb (10 * (dd - 1 + 1) + kk)) (by rw [nI_clamp (by omega)]) ?_
                          refine lv_lload_n hx hb dX12_laysPay_88 rfl (lv_at hl 1 rfl) ?_
                          refine W.lcmp hx hb dX12_laysPay_89 ?_
                          refine lv_if_le (tgt := 108) hx hb dX12_laysPay_90 (by decide) (fun c_69 => ?_) (fun c_69 => ?_)
                          · skip
                            refine lv_iinc (v := nI (kk + 1)) (lv' := [(5, .int (nI (kk + 1))), (3, .long mo_), (2, .int (nI jm)), (1, .int (nI (dd - 1))), (0, .ref mm)]) hx hb dX12_laysPay_108 hl (k := 0) rfl (ninc kk 1 (by decide)) (by decide) rfl (fun ls hl => ?_)
                            refine lv_goto (tgt := 44) hx hb dX12_laysPay_111 (by decide) ?_
                            exact ih_lp_30 (kk + 1) mo_ _ _ _ (by omega) (by omega) ((mpM_go hmm hWb hdm (by omega) (by omega) (by rw [← hcf_14 (dd - 1 + 1) (by omega) jm kk (by omega) (by omega)]; exact or_1 hb1_63 (by omega)) hv_68).1 c_69) hP hD hS (lv_sub hl [0, 1, 2, 3, 4] rfl)
                          · skip
                            refine lv_aload_n hx hb dX12_laysPay_93 rfl (lv_at hl 4 rfl) ?_
                            refine sk_get (v := .ref (g 48)) (C := RX12) (T := TX12) (N := 92) hx hb hts inlX12 hown hK hP 0 rfl rfl 48 (Nat.le_of_ble_eq_true rfl) w_5_203 rfl dX12_laysPay_94 ?_
                            refine lv_bipush (v := 10) hx hb dX12_laysPay_97 (by decide) ?_
                            refine lv_iload_n hx hb dX12_laysPay_99 rfl (lv_at hl 3 rfl) ?_
                            refine lv_iconst (v := 1) hx hb dX12_laysPay_100 ic_1 ?_
                            refine lv_iadd hx hb dX12_laysPay_101 ?_
                            refine sk_top (nI (dd - 1 + 1)) (nI_add (dd - 1) 1) ?_
                            refine lv_imul hx hb dX12_laysPay_102 ?_
                            refine sk_top (nI (10 * (dd - 1 + 1))) (nmul 10 (dd - 1 + 1)) ?_
                            refine lv_iload hx hb dX12_laysPay_103 (lv_at hl 0 rfl) ?_
                            refine lv_iadd hx hb dX12_laysPay_105 ?_
                            refine sk_top (nI (10 * (dd - 1 + 1) + kk)) (nI_add (10 * (dd - 1 + 1)) kk) ?_
                            refine va_lald hx hb hK.1 hP 13 1 rfl rfl (vin (10 * (dd - 1 + 1) + kk) 90 (by omega) (Nat.le_of_ble_eq_true rfl)) dX12_laysPay_106 ?_
                            refine sk_topl (zpb (10 * (dd - 1 + 1) + kk)) (by rw [nI_clamp (by omega)]) ?_
                            refine lv_lstore_n (lv' := [(3, .long (zpb (10 * (dd - 1 + 1) + kk))), (5, .int (nI kk)), (2, .int (nI jm)), (1, .int (nI (dd - 1))), (0, .ref mm)]) hx hb dX12_laysPay_107 rfl hl (by decide) rfl (fun ls hl => ?_)
                            refine lv_iinc (v := nI (kk + 1)) (lv' := [(5, .int (nI (kk + 1))), (3, .long (zpb (10 * (dd - 1 + 1) + kk))), (2, .int (nI jm)), (1, .int (nI (dd - 1))), (0, .ref mm)]) hx hb dX12_laysPay_108 hl (k := 1) rfl (ninc kk 1 (by decide)) (by decide) rfl (fun ls hl => ?_)
                            refine lv_goto (tgt := 44) hx hb dX12_laysPay_111 (by decide) ?_
                            exact ih_lp_30 (kk + 1) (zpb (10 * (dd - 1 + 1) + kk)) _ _ _ (by omega) (by omega) ((mpM_go hmm hWb hdm (by omega) (by omega) (by rw [← hcf_14 (dd - 1 + 1) (by omega) jm kk (by omega) (by omega)]; exact or_1 hb1_63 (by omega)) hv_68).2 c_69) hP hD hS (lv_sub hl [0, 1, 2, 3, 4] rfl)
                exact lp_30 (10 - 0 + 1) 0 (-1000000000000000) _ _ _ (Nat.lt_succ_self _) (by omega) (mpM_2 (by omega)) hP hD hS (lv_sub hl [0, 1, 2, 3, 4] rfl)
              · have c_29 : dd - 1 = dm - 1 := (neq (dd - 1) (dm - 1) (by omega) (by omega)).mp c_29
                refine lv_lconst (v := 0) hx hb dX12_laysPay_33 (by decide) ?_
                refine lv_goto (tgt := 40) hx hb dX12_laysPay_34 (by decide) ?_
                refine lv_lstore_n (lv' := [(3, .long 0), (2, .int (nI jm)), (1, .int (nI (dd - 1))), (0, .ref mm)]) hx hb dX12_laysPay_40 rfl hl (by decide) rfl (fun ls hl => ?_)
                refine lv_iconst (v := 0) hx hb dX12_laysPay_41 ic_0 ?_
                refine lv_istore (lv' := [(5, .int 0), (3, .long 0), (2, .int (nI jm)), (1, .int (nI (dd - 1))), (0, .ref mm)]) hx hb dX12_laysPay_42 hl (by decide) rfl (fun ls hl => ?_)
                have lp_70 : ∀ (n_71 : Nat) (kk : Nat) (mo_ : Int64) (H : Heap) (locs : List Loc) (ls : Array Slot), 10 - kk < n_71 → (kk ≤ 10) → (mpM (kcFo L wn Ba We U 0) (kWg L wn Ba We) dm (dd - 1) jm kk mo_) → va_P D vwCl [ro_ mm 12 (mo g (nI ta) (nI pa) (nI pe) pd (nI pb) pp pf pg pn rt rn (nI cd) sn (nI il) ztkb zamb at_2_4 aa2_5 0 0 (-1) wt wy2_6 0 (nI rm) (nI ud) (nI nu) sd (nI qn) (nI qw) qo (nI qb) (nI zqpb) qa (nI qi) (nI oc)), ra_I (g 24) cI 6 (l6 u0 u1 u2 u3 u4 u5), ra_I (g 25) cI 6 (l6 v0 v1 v2 v3 v4 v5), ra_N (g 26) cI 3200 cs, ra_I (g 31) cI 120 nw, ra_N (g 46) cI 9 pt, ra_J (g 86) cJ 1700 zqb, ra_I (g 20) cI 4 (l4 (nI l0) (nI l1) (nI dm) (nI l3)), ra_I (g 38) cI 90 ws_2_8, ra_I (g 36) cZ 900 yw2_9, ra_I (g 37) cZ 900 yo2_10, ra_J (g 43) cJ 90 be2_11, ra_J (g 44) cJ 90 bf2_12, ra_J (g 48) cJ 90 zpb] H → va_D A [ro_ mm 12 (mo g (nI ta) (nI pa) (nI pe) pd (nI pb) pp pf pg pn rt rn (nI cd) sn (nI il) ztkb zamb at_2_4 aa2_5 0 0 (-1) wt wy2_6 0 (nI rm) (nI ud) (nI nu) sd (nI qn) (nI qw) qo (nI qb) (nI zqpb) qa (nI qi) (nI oc)), ra_I (g 24) cI 6 (l6 u0 u1 u2 u3 u4 u5), ra_I (g 25) cI 6 (l6 v0 v1 v2 v3 v4 v5), ra_N (g 26) cI 3200 cs, ra_I (g 31) cI 120 nw, ra_N (g 46) cI 9 pt, ra_J (g 86) cJ 1700 zqb, ra_I (g 20) cI 4 (l4 (nI l0) (nI l1) (nI dm) (nI l3)), ra_I (g 38) cI 90 ws_2_8, ra_I (g 36) cZ 900 yw2_9, ra_I (g 37) cZ 900 yo2_10, ra_J (g 43) cJ 90 be2_11, ra_J (g 44) cJ 90 bf2_12, ra_J (g 48) cJ 90 zpb] → va_S A s.heap H locs → lv_has ls 6 [(5, .int (nI kk)), (3, .long mo_), (2, .int (nI jm)), (1, .int (nI (dd - 1))), (0, .ref mm)] → W p l e { frames := 6, cells := 0, slots := 0, locals := 142 } s m ([.ref mm] : List Value).toArray below meth c H locs 0 0 (MQ below (skV D (skT cI cJ cC cZ cS) (fun (u : va_W) => ∃ (tk2 : Int32), ∃ (qp2 : Nat), ∃ (am2 : Int32), ∃ (at_2 : Int32), ∃ (aa2 : Int32), ∃ (wy2 : Int64), ∃ (ql2 : Nat → Int64), ∃ (ws_2 : Nat → Int32), ∃ (yw2 : Nat → Int32), ∃ (yo2 : Nat → Int32), ∃ (be2 : Nat → Int64), ∃ (bf2 : Nat → Int64), ∃ (py2 : Nat → Int64), mpY (kcFo L wn Ba We U 0) (kWg L wn Ba We) dm 0 py2 ∧ (∀ d, d < dm → ∀ a m, a < 10 → m < 10 → (cfN nw yw2 yo2 0) d a m = (kcFo L wn Ba We U 0) d a m) ∧ wy2 = Int64.ofNat (kcC (kcFo L wn Ba We U 0) dm 0 mN) ∧ u = [ro_ mm 12 (mo g (nI ta) (nI pa) (nI pe) pd (nI pb) pp pf pg pn rt rn (nI cd) sn (nI il) tk2 am2 at_2 aa2 0 0 (-1) wt wy2 0 (nI rm) (nI ud) (nI nu) sd (nI qn) (nI qw) qo (nI qb) (nI qp2) qa (nI qi) (nI oc)), ra_I (g 24) cI 6 (l6 u0 u1 u2 u3 u4 u5), ra_I (g 25) cI 6 (l6 v0 v1 v2 v3 v4 v5), ra_N (g 26) cI 3200 cs, ra_I (g 31) cI 120 nw, ra_N (g 46) cI 9 pt, ra_J (g 86) cJ 1700 ql2, ra_I (g 20) cI 4 (l4 (nI l0) (nI l1) (nI dm) (nI l3)), ra_I (g 38) cI 90 ws_2, ra_I (g 36) cZ 900 yw2, ra_I (g 37) cZ 900 yo2, ra_J (g 43) cJ 90 be2, ra_J (g 44) cJ 90 bf2, ra_J (g 48) cJ 90 py2]) A) ([.ref mm] : List Value).toArray s 0 0 A) (F0 m 44 ls []) := by
                  intro n_71
                  induction n_71 with
                  | zero => intro kk mo_ H locs ls hm; exact absurd hm (Nat.not_lt_zero _)
                  | succ n_71 ih_lp_70 =>
                    intro kk mo_ H locs ls hm hkk hmm hP hD hS hl
                    refine lv_iload hx hb dX12_laysPay_44 (lv_at hl 0 rfl) ?_
                    refine lv_bipush (v := 10) hx hb dX12_laysPay_46 (by decide) ?_
                    refine lv_icmp_ge (tgt := 114) hx hb dX12_laysPay_48 (by decide) (fun c_72 => ?_) (fun c_72 => ?_)
                    · have c_72 : 10 ≤ kk := (nle 10 kk (Nat.le_of_ble_eq_true rfl) (by omega)).mp c_72
                      have hme := mpM_e hmm (show dd - 1 < dm by omega) (by omega)
                      refine lv_aload_n hx hb dX12_laysPay_114 rfl (lv_at hl 4 rfl) ?_
                      refine sk_get (v := .ref (g 48)) (C := RX12) (T := TX12) (N := 92) hx hb hts inlX12 hown hK hP 0 rfl rfl 48 (Nat.le_of_ble_eq_true rfl) w_5_203 rfl dX12_laysPay_115 ?_
                      refine lv_bipush (v := 10) hx hb dX12_laysPay_118 (by decide) ?_
                      refine lv_iload_n hx hb dX12_laysPay_120 rfl (lv_at hl 3 rfl) ?_
                      refine lv_imul hx hb dX12_laysPay_121 ?_
                      refine sk_top (nI (10 * (dd - 1))) (nmul 10 (dd - 1)) ?_
                      refine lv_iload_n hx hb dX12_laysPay_122 rfl (lv_at hl 2 rfl) ?_
                      refine lv_iadd hx hb dX12_laysPay_123 ?_
                      refine sk_top (nI (10 * (dd - 1) + jm)) (nI_add (10 * (dd - 1)) jm) ?_
                      refine lv_lload_n hx hb dX12_laysPay_124 rfl (lv_at hl 1 rfl) ?_
                      refine lv_ldc2 (v := (-1000000000000000)) hx hb hown (hts _ w_7_184) dX12_laysPay_125 ?_
                      refine W.lcmp hx hb dX12_laysPay_128 ?_
                      refine lv_if_ne (tgt := 138) hx hb dX12_laysPay_129 (by decide) (fun c_73 => ?_) (fun c_73 => ?_)
                      · skip
                        refine lv_lload_n hx hb dX12_laysPay_138 rfl (lv_at hl 1 rfl) ?_
                        refine lv_aload_n hx hb dX12_laysPay_139 rfl (lv_at hl 4 rfl) ?_
                        refine lv_iload_n hx hb dX12_laysPay_140 rfl (lv_at hl 3 rfl) ?_
                        refine lv_iload_n hx hb dX12_laysPay_141 rfl (lv_at hl 2 rfl) ?_
                        refine sk_Vl (q0 := 0) (n := 2) (rest := [.long mo_, .int (nI (10 * (dd - 1) + jm)), .ref (g 48)]) (wr := fmR om_14_3f80 _) ⟨hx, hb, hml, hown, hts⟩ hl.1 (c_nm_wageOf l D cI cJ cC cZ cS mm g ta pa pe pd pb pp pf pg pn rt rn cd sn il ztkb zamb at_2_4 aa2_5 0 wt wy2_6 0 rm ud nu sd qn qw qo qb zqpb qa qi oc (dd - 1) jm u0 u1 u2 u3 u4 u5 v0 v1 v2 v3 v4 v5 cs nw pt zqb L wn (Ba (dd - 1)) (We (dd - 1)) (by omega) (by omega) hLk hkl (nwX_md hnw (by omega)) hwk (hB9 _) (hW9 _) hmw2 hcs (nwX_ok hnw) hpt) w_8_45 w_8_47 w_0_97 w_1_14 w_8_48 hd_X12_wageOf_2 ⟨⟨(Nat.le_of_ble_eq_true rfl), (Nat.le_of_ble_eq_true rfl)⟩, (Nat.le_of_ble_eq_true rfl), (Nat.le_of_ble_eq_true rfl)⟩ hK hP hD hS hA (fmT om_14_3f80 0) (fmF om_14_3f80 0) (fm_C1 rfl rfl) (fm_R rfl rfl) (fm_nT om_14_3f80 0) (fm_nF om_14_3f80 0) (fm_di om_14_3f80 0) rfl rfl rfl rfl (Nat.le_of_ble_eq_true rfl) dX12_laysPay_142 (fun r_78 u H locs hw hP hD hS => ?_)
                        refine exE hw (fun tk2_74 hw1 => exE hw1 (fun qp2_75 hw2 => exE hw2 (fun am2_76 hw3 => exE hw3 (fun ql2_77 hw4 => anE hw4 (fun hr_79 eu_80 => ?_)))))
                        clear hw hw1 hw2 hw3 hw4
                        refine o_mgE (ws' := [ro_ mm 12 (mo g (nI ta) (nI pa) (nI pe) pd (nI pb) pp pf pg pn rt rn (nI cd) sn (nI il) tk2_74 am2_76 at_2_4 aa2_5 0 0 (-1) wt wy2_6 0 (nI rm) (nI ud) (nI nu) sd (nI qn) (nI qw) qo (nI qb) (nI qp2_75) qa (nI qi) (nI oc)), ra_I (g 24) cI 6 (l6 u0 u1 u2 u3 u4 u5), ra_I (g 25) cI 6 (l6 v0 v1 v2 v3 v4 v5), ra_N (g 26) cI 3200 cs, ra_I (g 31) cI 120 nw, ra_N (g 46) cI 9 pt, ra_J (g 86) cJ 1700 ql2_77, ra_I (g 20) cI 4 (l4 (nI l0) (nI l1) (nI dm) (nI l3)), ra_I (g 38) cI 90 ws_2_8, ra_I (g 36) cZ 900 yw2_9, ra_I (g 37) cZ 900 yo2_10, ra_J (g 43) cJ 90 be2_11, ra_J (g 44) cJ 90 bf2_12, ra_J (g 48) cJ 90 zpb]) eu_80 hP hD rfl (fun hP hD => ?_)
                        subst hr_79
                        refine lv_ladd hx hb dX12_laysPay_145 ?_
                        refine sk_lastE (k := (10 * (dd - 1) + jm)) (ws' := fun f_81 => [ro_ mm 12 (mo g (nI ta) (nI pa) (nI pe) pd (nI pb) pp pf pg pn rt rn (nI cd) sn (nI il) tk2_74 am2_76 at_2_4 aa2_5 0 0 (-1) wt wy2_6 0 (nI rm) (nI ud) (nI nu) sd (nI qn) (nI qw) qo (nI qb) (nI qp2_75) qa (nI qi) (nI oc)), ra_I (g 24) cI 6 (l6 u0 u1 u2 u3 u4 u5), ra_I (g 25) cI 6 (l6 v0 v1 v2 v3 v4 v5), ra_N (g 26) cI 3200 cs, ra_I (g 31) cI 120 nw, ra_N (g 46) cI 9 pt, ra_J (g 86) cJ 1700 ql2_77, ra_I (g 20) cI 4 (l4 (nI l0) (nI l1) (nI dm) (nI l3)), ra_I (g 38) cI 90 ws_2_8, ra_I (g 36) cZ 900 yw2_9, ra_I (g 37) cZ 900 yo2_10, ra_J (g 43) cJ 90 be2_11, ra_J (g 44) cJ 90 bf2_12, ra_J (g 48) cJ 90 f_81]) hx hb hK hP hD hS 13 1 rfl rfl (by omega) (by omega) (fun _ => rfl) dX12_laysPay_146 (fun f_81 H locs ef_82 hP hD hS => ?_)
                        refine lv_iinc (v := nI (jm + 1)) (lv' := [(2, .int (nI (jm + 1))), (5, .int (nI kk)), (3, .long mo_), (1, .int (nI (dd - 1))), (0, .ref mm)]) hx hb dX12_laysPay_147 hl (k := 2) rfl (ninc jm 1 (by decide)) (by decide) rfl (fun ls hl => ?_)
                        refine lv_goto (tgt := 17) hx hb dX12_laysPay_150 (by decide) ?_
                        exact ih_lp_23 (jm + 1) am2_76 tk2_74 qp2_75 ql2_77 f_81 _ _ _ (by omega) (by omega) (mpJ_s hpj ef_82 (by omega) (mpV_y hme hWb hdm (by omega) (by omega) rfl c_73)) hP hD hS (lv_sub hl [0, 3, 4] rfl)
                      · skip
                        refine lv_ldc2 (v := (-1000000000000000)) hx hb hown (hts _ w_7_184) dX12_laysPay_132 ?_
                        refine lv_goto (tgt := 146) hx hb dX12_laysPay_135 (by decide) ?_
                        refine sk_lastE (k := (10 * (dd - 1) + jm)) (ws' := fun f_83 => [ro_ mm 12 (mo g (nI ta) (nI pa) (nI pe) pd (nI pb) pp pf pg pn rt rn (nI cd) sn (nI il) ztkb zamb at_2_4 aa2_5 0 0 (-1) wt wy2_6 0 (nI rm) (nI ud) (nI nu) sd (nI qn) (nI qw) qo (nI qb) (nI zqpb) qa (nI qi) (nI oc)), ra_I (g 24) cI 6 (l6 u0 u1 u2 u3 u4 u5), ra_I (g 25) cI 6 (l6 v0 v1 v2 v3 v4 v5), ra_N (g 26) cI 3200 cs, ra_I (g 31) cI 120 nw, ra_N (g 46) cI 9 pt, ra_J (g 86) cJ 1700 zqb, ra_I (g 20) cI 4 (l4 (nI l0) (nI l1) (nI dm) (nI l3)), ra_I (g 38) cI 90 ws_2_8, ra_I (g 36) cZ 900 yw2_9, ra_I (g 37) cZ 900 yo2_10, ra_J (g 43) cJ 90 be2_11, ra_J (g 44) cJ 90 bf2_12, ra_J (g 48) cJ 90 f_83]) hx hb hK hP hD hS 13 1 rfl rfl (by omega) (by omega) (fun _ => rfl) dX12_laysPay_146 (fun f_83 H locs ef_84 hP hD hS => ?_)
                        refine lv_iinc (v := nI (jm + 1)) (lv' := [(2, .int (nI (jm + 1))), (5, .int (nI kk)), (3, .long mo_), (1, .int (nI (dd - 1))), (0, .ref mm)]) hx hb dX12_laysPay_147 hl (k := 2) rfl (ninc jm 1 (by decide)) (by decide) rfl (fun ls hl => ?_)
                        refine lv_goto (tgt := 17) hx hb dX12_laysPay_150 (by decide) ?_
                        exact ih_lp_23 (jm + 1) zamb ztkb zqpb zqb f_83 _ _ _ (by omega) (by omega) (mpJ_s hpj ef_84 (by omega) (mpV_n hme hWb hdm (by omega) c_73)) hP hD hS (lv_sub hl [0, 3, 4] rfl)
                    · have c_72 : ¬ (10 ≤ kk) := fun h => c_72 ((nle 10 kk (Nat.le_of_ble_eq_true rfl) (by omega)).mpr h)
                      refine lv_iload_n hx hb dX12_laysPay_51 rfl (lv_at hl 3 rfl) ?_
                      refine lv_aload_n hx hb dX12_laysPay_52 rfl (lv_at hl 4 rfl) ?_
                      refine sk_Vi (q0 := 0) (n := 0) (rest := [.int (nI (dd - 1))]) (wr := fmR om_14_2040 _) ⟨hx, hb, hml, hown, hts⟩ hl.1 (c_m_dayMany l D cI cJ cC cZ cS mm g ta pa pe pd pb pp pf pg pn rt rn cd sn il ztkb zamb at_2_4 aa2_5 0 0 (-1) wt wy2_6 0 rm ud nu sd qn qw qo qb zqpb qa qi oc l0 l1 dm l3) w_7_98 w_7_100 w_0_69 w_1_14 w_7_101 hd_X12_dayMany_0 ⟨⟨(Nat.le_of_ble_eq_true rfl), (Nat.le_of_ble_eq_true rfl)⟩, (Nat.le_of_ble_eq_true rfl), (Nat.le_of_ble_eq_true rfl)⟩ hK hP hD hS hA (fmT om_14_2040 0) (fmF om_14_2040 0) (fm_C1 rfl rfl) (fm_R rfl rfl) (fm_nT om_14_2040 0) (fm_nF om_14_2040 0) (fm_di om_14_2040 0) rfl rfl rfl rfl (Nat.le_of_ble_eq_true rfl) dX12_laysPay_53 (fun r_85 u H locs hw hP hD hS => ?_)
                      refine anE hw (fun er_87 eu_86 => ?_)
                      clear hw
                      subst er_87
                      refine o_mgE (ws' := [ro_ mm 12 (mo g (nI ta) (nI pa) (nI pe) pd (nI pb) pp pf pg pn rt rn (nI cd) sn (nI il) ztkb zamb at_2_4 aa2_5 0 0 (-1) wt wy2_6 0 (nI rm) (nI ud) (nI nu) sd (nI qn) (nI qw) qo (nI qb) (nI zqpb) qa (nI qi) (nI oc)), ra_I (g 24) cI 6 (l6 u0 u1 u2 u3 u4 u5), ra_I (g 25) cI 6 (l6 v0 v1 v2 v3 v4 v5), ra_N (g 26) cI 3200 cs, ra_I (g 31) cI 120 nw, ra_N (g 46) cI 9 pt, ra_J (g 86) cJ 1700 zqb, ra_I (g 20) cI 4 (l4 (nI l0) (nI l1) (nI dm) (nI l3)), ra_I (g 38) cI 90 ws_2_8, ra_I (g 36) cZ 900 yw2_9, ra_I (g 37) cZ 900 yo2_10, ra_J (g 43) cJ 90 be2_11, ra_J (g 44) cJ 90 bf2_12, ra_J (g 48) cJ 90 zpb]) eu_86 hP hD rfl (fun hP hD => ?_)
                      refine lv_iconst (v := 1) hx hb dX12_laysPay_56 ic_1 ?_
                      refine lv_isub hx hb dX12_laysPay_57 ?_
                      refine sk_top (nI (dm - 1)) (nsub dm 1 (by omega)) ?_
                      refine lv_icmp_ge (tgt := 114) hx hb dX12_laysPay_58 (by decide) (fun c_88 => ?_) (fun c_88 => ?_)
                      · have c_88 : dm - 1 ≤ dd - 1 := (nle (dm - 1) (dd - 1) (by omega) (by omega)).mp c_88
                        have hme := mpM_e hmm (show dd - 1 < dm by omega) (by omega)
                        refine lv_aload_n hx hb dX12_laysPay_114 rfl (lv_at hl 4 rfl) ?_
                        refine sk_get (v := .ref (g 48)) (C := RX12) (T := TX12) (N := 92) hx hb hts inlX12 hown hK hP 0 rfl rfl 48 (Nat.le_of_ble_eq_true rfl) w_5_203 rfl dX12_laysPay_115 ?_
                        refine lv_bipush (v := 10) hx hb dX12_laysPay_118 (by decide) ?_
                        refine lv_iload_n hx hb dX12_laysPay_120 rfl (lv_at hl 3 rfl) ?_
                        refine lv_imul hx hb dX12_laysPay_121 ?_
                        refine sk_top (nI (10 * (dd - 1))) (nmul 10 (dd - 1)) ?_
                        refine lv_iload_n hx hb dX12_laysPay_122 rfl (lv_at hl 2 rfl) ?_
                        refine lv_iadd hx hb dX12_laysPay_123 ?_
                        refine sk_top (nI (10 * (dd - 1) + jm)) (nI_add (10 * (dd - 1)) jm) ?_
                        refine lv_lload_n hx hb dX12_laysPay_124 rfl (lv_at hl 1 rfl) ?_
                        refine lv_ldc2 (v := (-1000000000000000)) hx hb hown (hts _ w_7_184) dX12_laysPay_125 ?_
                        refine W.lcmp hx hb dX12_laysPay_128 ?_
                        refine lv_if_ne (tgt := 138) hx hb dX12_laysPay_129 (by decide) (fun c_89 => ?_) (fun c_89 => ?_)
                        · skip
                          refine lv_lload_n hx hb dX12_laysPay_138 rfl (lv_at hl 1 rfl) ?_
                          refine lv_aload_n hx hb dX12_laysPay_139 rfl (lv_at hl 4 rfl) ?_
                          refine lv_iload_n hx hb dX12_laysPay_140 rfl (lv_at hl 3 rfl) ?_
                          refine lv_iload_n hx hb dX12_laysPay_141 rfl (lv_at hl 2 rfl) ?_
                          refine sk_Vl (q0 := 0) (n := 2) (rest := [.long mo_, .int (nI (10 * (dd - 1) + jm)), .ref (g 48)]) (wr := fmR om_14_3f80 _) ⟨hx, hb, hml, hown, hts⟩ hl.1 (c_nm_wageOf l D cI cJ cC cZ cS mm g ta pa pe pd pb pp pf pg pn rt rn cd sn il ztkb zamb at_2_4 aa2_5 0 wt wy2_6 0 rm ud nu sd qn qw qo qb zqpb qa qi oc (dd - 1) jm u0 u1 u2 u3 u4 u5 v0 v1 v2 v3 v4 v5 cs nw pt zqb L wn (Ba (dd - 1)) (We (dd - 1)) (by omega) (by omega) hLk hkl (nwX_md hnw (by omega)) hwk (hB9 _) (hW9 _) hmw2 hcs (nwX_ok hnw) hpt) w_8_45 w_8_47 w_0_97 w_1_14 w_8_48 hd_X12_wageOf_2 ⟨⟨(Nat.le_of_ble_eq_true rfl), (Nat.le_of_ble_eq_true rfl)⟩, (Nat.le_of_ble_eq_true rfl), (Nat.le_of_ble_eq_true rfl)⟩ hK hP hD hS hA (fmT om_14_3f80 0) (fmF om_14_3f80 0) (fm_C1 rfl rfl) (fm_R rfl rfl) (fm_nT om_14_3f80 0) (fm_nF om_14_3f80 0) (fm_di om_14_3f80 0) rfl rfl rfl rfl (Nat.le_of_ble_eq_true rfl) dX12_laysPay_142 (fun r_94 u H locs hw hP hD hS => ?_)
                          refine exE hw (fun tk2_90 hw1 => exE hw1 (fun qp2_91 hw2 => exE hw2 (fun am2_92 hw3 => exE hw3 (fun ql2_93 hw4 => anE hw4 (fun hr_95 eu_96 => ?_)))))
                          clear hw hw1 hw2 hw3 hw4
                          refine o_mgE (ws' := [ro_ mm 12 (mo g (nI ta) (nI pa) (nI pe) pd (nI pb) pp pf pg pn rt rn (nI cd) sn (nI il) tk2_90 am2_92 at_2_4 aa2_5 0 0 (-1) wt wy2_6 0 (nI rm) (nI ud) (nI nu) sd (nI qn) (nI qw) qo (nI qb) (nI qp2_91) qa (nI qi) (nI oc)), ra_I (g 24) cI 6 (l6 u0 u1 u2 u3 u4 u5), ra_I (g 25) cI 6 (l6 v0 v1 v2 v3 v4 v5), ra_N (g 26) cI 3200 cs, ra_I (g 31) cI 120 nw, ra_N (g 46) cI 9 pt, ra_J (g 86) cJ 1700 ql2_93, ra_I (g 20) cI 4 (l4 (nI l0) (nI l1) (nI dm) (nI l3)), ra_I (g 38) cI 90 ws_2_8, ra_I (g 36) cZ 900 yw2_9, ra_I (g 37) cZ 900 yo2_10, ra_J (g 43) cJ 90 be2_11, ra_J (g 44) cJ 90 bf2_12, ra_J (g 48) cJ 90 zpb]) eu_96 hP hD rfl (fun hP hD => ?_)
                          subst hr_95
                          refine lv_ladd hx hb dX12_laysPay_145 ?_
                          refine sk_lastE (k := (10 * (dd - 1) + jm)) (ws' := fun f_97 => [ro_ mm 12 (mo g (nI ta) (nI pa) (nI pe) pd (nI pb) pp pf pg pn rt rn (nI cd) sn (nI il) tk2_90 am2_92 at_2_4 aa2_5 0 0 (-1) wt wy2_6 0 (nI rm) (nI ud) (nI nu) sd (nI qn) (nI qw) qo (nI qb) (nI qp2_91) qa (nI qi) (nI oc)), ra_I (g 24) cI 6 (l6 u0 u1 u2 u3 u4 u5), ra_I (g 25) cI 6 (l6 v0 v1 v2 v3 v4 v5), ra_N (g 26) cI 3200 cs, ra_I (g 31) cI 120 nw, ra_N (g 46) cI 9 pt, ra_J (g 86) cJ 1700 ql2_93, ra_I (g 20) cI 4 (l4 (nI l0) (nI l1) (nI dm) (nI l3)), ra_I (g 38) cI 90 ws_2_8, ra_I (g 36) cZ 900 yw2_9, ra_I (g 37) cZ 900 yo2_10, ra_J (g 43) cJ 90 be2_11, ra_J (g 44) cJ 90 bf2_12, ra_J (g 48) cJ 90 f_97]) hx hb hK hP hD hS 13 1 rfl rfl (by omega) (by omega) (fun _ => rfl) dX12_laysPay_146 (fun f_97 H locs ef_98 hP hD hS => ?_)
                          refine lv_iinc (v := nI (jm + 1)) (lv' := [(2, .int (nI (jm + 1))), (5, .int (nI kk)), (3, .long mo_), (1, .int (nI (dd - 1))), (0, .ref mm)]) hx hb dX12_laysPay_147 hl (k := 2) rfl (ninc jm 1 (by decide)) (by decide) rfl (fun ls hl => ?_)
                          refine lv_goto (tgt := 17) hx hb dX12_laysPay_150 (by decide) ?_
                          exact ih_lp_23 (jm + 1) am2_92 tk2_90 qp2_91 ql2_93 f_97 _ _ _ (by omega) (by omega) (mpJ_s hpj ef_98 (by omega) (mpV_y hme hWb hdm (by omega) (by omega) rfl c_89)) hP hD hS (lv_sub hl [0, 3, 4] rfl)
                        · skip
                          refine lv_ldc2 (v := (-1000000000000000)) hx hb hown (hts _ w_7_184) dX12_laysPay_132 ?_
                          refine lv_goto (tgt := 146) hx hb dX12_laysPay_135 (by decide) ?_
                          refine sk_lastE (k := (10 * (dd - 1) + jm)) (ws' := fun f_99 => [ro_ mm 12 (mo g (nI ta) (nI pa) (nI pe) pd (nI pb) pp pf pg pn rt rn (nI cd) sn (nI il) ztkb zamb at_2_4 aa2_5 0 0 (-1) wt wy2_6 0 (nI rm) (nI ud) (nI nu) sd (nI qn) (nI qw) qo (nI qb) (nI zqpb) qa (nI qi) (nI oc)), ra_I (g 24) cI 6 (l6 u0 u1 u2 u3 u4 u5), ra_I (g 25) cI 6 (l6 v0 v1 v2 v3 v4 v5), ra_N (g 26) cI 3200 cs, ra_I (g 31) cI 120 nw, ra_N (g 46) cI 9 pt, ra_J (g 86) cJ 1700 zqb, ra_I (g 20) cI 4 (l4 (nI l0) (nI l1) (nI dm) (nI l3)), ra_I (g 38) cI 90 ws_2_8, ra_I (g 36) cZ 900 yw2_9, ra_I (g 37) cZ 900 yo2_10, ra_J (g 43) cJ 90 be2_11, ra_J (g 44) cJ 90 bf2_12, ra_J (g 48) cJ 90 f_99]) hx hb hK hP hD hS 13 1 rfl rfl (by omega) (by omega) (fun _ => rfl) dX12_laysPay_146 (fun f_99 H locs ef_100 hP hD hS => ?_)
                          refine lv_iinc (v := nI (jm + 1)) (lv' := [(2, .int (nI (jm + 1))), (5, .int (nI kk)), (3, .long mo_), (1, .int (nI (dd - 1))), (0, .ref mm)]) hx hb dX12_laysPay_147 hl (k := 2) rfl (ninc jm 1 (by decide)) (by decide) rfl (fun ls hl => ?_)
                          refine lv_goto (tgt := 17) hx hb dX12_laysPay_150 (by decide) ?_
                          exact ih_lp_23 (jm + 1) zamb ztkb zqpb zqb f_99 _ _ _ (by omega) (by omega) (mpJ_s hpj ef_100 (by omega) (mpV_n hme hWb hdm (by omega) c_89)) hP hD hS (lv_sub hl [0, 3, 4] rfl)
                      · have c_88 : ¬ (dm - 1 ≤ dd - 1) := fun h => c_88 ((nle (dm - 1) (dd - 1) (by omega) (by omega)).mpr h)
                        refine lv_aload_n hx hb dX12_laysPay_61 rfl (lv_at hl 4 rfl) ?_
                        refine lv_iload_n hx hb dX12_laysPay_62 rfl (lv_at hl 3 rfl) ?_
                        refine lv_iconst (v := 1) hx hb dX12_laysPay_63 ic_1 ?_
                        refine lv_iadd hx hb dX12_laysPay_64 ?_
                        refine sk_top (nI (dd - 1 + 1)) (nI_add (dd - 1) 1) ?_
                        refine lv_iload_n hx hb dX12_laysPay_65 rfl (lv_at hl 2 rfl) ?_
                        refine lv_iload hx hb dX12_laysPay_66 (lv_at hl 0 rfl) ?_
                        refine sk_Vi (q0 := 0) (n := 3) (rest := []) (wr := fmR om_14_2218 _) ⟨hx, hb, hml, hown, hts⟩ hl.1 (c_m_canFollow0 l D cI cJ cC cZ cS mm g ta pa pe pd pb pp pf pg pn rt rn cd sn il ztkb zamb at_2_4 aa2_5 0 wt wy2_6 0 rm ud nu sd qn qw qo qb zqpb qa qi oc (dd - 1 + 1) jm kk nw yo2_10 yw2_9 (by omega) (by omega) (by omega) (nwX_ok hnw)) w_7_201 w_7_203 w_0_85 w_1_14 w_7_204 hd_X12_canFollow_3 ⟨⟨(Nat.le_of_ble_eq_true rfl), (Nat.le_of_ble_eq_true rfl)⟩, (Nat.le_of_ble_eq_true rfl), (Nat.le_of_ble_eq_true rfl)⟩ hK hP hD hS hA [0, 4, 10, 9] (fmF om_14_2218 0) rfl (fm_R rfl rfl) (by decide +kernel) (fm_nF om_14_2218 0) (by decide +kernel) rfl rfl rfl rfl (Nat.le_of_ble_eq_true rfl) dX12_laysPay_68 (fun r_102 u H locs hw hP hD hS => ?_)
                        refine exE hw (fun b_101 hw1 => anE hw1 (fun hb1_103 hw2 => anE hw2 (fun hb2_104 hw3 => anE hw3 (fun er_106 eu_105 => ?_))))
                        clear hw hw1 hw2 hw3
                        subst er_106
                        refine o_mgqE (ux := [ro_ mm 12 (mo g (nI ta) (nI pa) (nI pe) pd (nI pb) pp pf pg pn rt rn (nI cd) sn (nI il) ztkb zamb at_2_4 aa2_5 0 0 (-1) wt wy2_6 0 (nI rm) (nI ud) (nI nu) sd (nI qn) (nI qw) qo (nI qb) (nI zqpb) qa (nI qi) (nI oc)), ra_I (g 31) cI 120 nw, ra_I (g 36) cZ 900 yw2_9, ra_I (g 37) cZ 900 yo2_10]) (ws' := [ro_ mm 12 (mo g (nI ta) (nI pa) (nI pe) pd (nI pb) pp pf pg pn rt rn (nI cd) sn (nI il) ztkb zamb at_2_4 aa2_5 0 0 (-1) wt wy2_6 0 (nI rm) (nI ud) (nI nu) sd (nI qn) (nI qw) qo (nI qb) (nI zqpb) qa (nI qi) (nI oc)), ra_I (g 24) cI 6 (l6 u0 u1 u2 u3 u4 u5), ra_I (g 25) cI 6 (l6 v0 v1 v2 v3 v4 v5), ra_N (g 26) cI 3200 cs, ra_I (g 31) cI 120 nw, ra_N (g 46) cI 9 pt, ra_J (g 86) cJ 1700 zqb, ra_I (g 20) cI 4 (l4 (nI l0) (nI l1) (nI dm) (nI l3)), ra_I (g 38) cI 90 ws_2_8, ra_I (g 36) cZ 900 yw2_9, ra_I (g 37) cZ 900 yo2_10, ra_J (g 43) cJ 90 be2_11, ra_J (g 44) cJ 90 bf2_12, ra_J (g 48) cJ 90 zpb]) eu_105 [0, 1, 3, 2] (by decide +kernel) rfl hP hD rfl (fun hP hD => ?_)
                        refine lv_if_eq (tgt := 108) hx hb dX12_laysPay_71 (by decide) (fun c_107 => ?_) (fun c_107 => ?_)
                        · have c_107 : b_101 = 0 := (neq b_101 0 (by omega) (Nat.le_of_ble_eq_true rfl)).mp c_107
                          refine lv_iinc (v := nI (kk + 1)) (lv' := [(5, .int (nI (kk + 1))), (3, .long mo_), (2, .int (nI jm)), (1, .int (nI (dd - 1))), (0, .ref mm)]) hx hb dX12_laysPay_108 hl (k := 0) rfl (ninc kk 1 (by decide)) (by decide) rfl (fun ls hl => ?_)
                          refine lv_goto (tgt := 44) hx hb dX12_laysPay_111 (by decide) ?_
                          exact ih_lp_70 (kk + 1) mo_ _ _ _ (by omega) (by omega) (mpM_n hmm (by omega) (kgo_no (by rw [← hcf_14 (dd - 1 + 1) (by omega) jm kk (by omega) (by omega)]; exact or_0 hb1_103 (by omega)))) hP hD hS (lv_sub hl [0, 1, 2, 3, 4] rfl)
                        · have c_107 : ¬ (b_101 = 0) := fun h => c_107 ((neq b_101 0 (by omega) (Nat.le_of_ble_eq_true rfl)).mpr h)
                          refine lv_aload_n hx hb dX12_laysPay_74 rfl (lv_at hl 4 rfl) ?_
                          refine sk_get (v := .ref (g 48)) (C := RX12) (T := TX12) (N := 92) hx hb hts inlX12 hown hK hP 0 rfl rfl 48 (Nat.le_of_ble_eq_true rfl) w_5_203 rfl dX12_laysPay_75 ?_
                          refine lv_bipush (v := 10) hx hb dX12_laysPay_78 (by decide) ?_
                          refine lv_iload_n hx hb dX12_laysPay_80 rfl (lv_at hl 3 rfl) ?_
                          refine lv_iconst (v := 1) hx hb dX12_laysPay_81 ic_1 ?_
                          refine lv_iadd hx hb dX12_laysPay_82 ?_
                          refine sk_top (nI (dd - 1 + 1)) (nI_add (dd - 1) 1) ?_
                          refine lv_imul hx hb dX12_laysPay_83 ?_
                          refine sk_top (nI (10 * (dd - 1 + 1))) (nmul 10 (dd - 1 + 1)) ?_
                          refine lv_iload hx hb dX12_laysPay_84 (lv_at hl 0 rfl) ?_
                          refine lv_iadd hx hb dX12_laysPay_86 ?_
                          refine sk_top (nI (10 * (dd - 1 + 1) + kk)) (nI_add (10 * (dd - 1 + 1)) kk) ?_
                          refine va_lald hx hb hK.1 hP 13 1 rfl rfl (vin (10 * (dd - 1 + 1) + kk) 90 (by omega) (Nat.le_of_ble_eq_true rfl)) dX12_laysPay_87 ?_
                          have hv_108 := hpj.1 (dd - 1 + 1) (Nat.le_refl _) (by omega) kk (by omega)
                          refine sk_topl (zpb (10 * (dd - 1 + 1) + kk)) (by rw [nI_clamp (by omega)]) ?_
                          refine lv_lload_n hx hb dX12_laysPay_88 rfl (lv_at hl 1 rfl) ?_
                          refine W.lcmp hx hb dX12_laysPay_89 ?_
                          refine lv_if_le (tgt := 108) hx hb dX12_laysPay_90 (by decide) (fun c_109 => ?_) (fun c_109 => ?_)
                          · skip
                            refine lv_iinc (v := nI (kk + 1)) (lv' := [(5, .int (nI (kk + 1))), (3, .long mo_), (2, .int (nI jm)), (1, .int (nI (dd - 1))), (0, .ref mm)]) hx hb dX12_laysPay_108 hl (k := 0) rfl (ninc kk 1 (by decide)) (by decide) rfl (fun ls hl => ?_)
                            refine lv_goto (tgt := 44) hx hb dX12_laysPay_111 (by decide) ?_
                            exact ih_lp_70 (kk + 1) mo_ _ _ _ (by omega) (by omega) ((mpM_go hmm hWb hdm (by omega) (by omega) (by rw [← hcf_14 (dd - 1 + 1) (by omega) jm kk (by omega) (by omega)]; exact or_1 hb1_103 (by omega)) hv_108).1 c_109) hP hD hS (lv_sub hl [0, 1, 2, 3, 4] rfl)
                          · skip
                            refine lv_aload_n hx hb dX12_laysPay_93 rfl (lv_at hl 4 rfl) ?_
                            refine sk_get (v := .ref (g 48)) (C := RX12) (T := TX12) (N := 92) hx hb hts inlX12 hown hK hP 0 rfl rfl 48 (Nat.le_of_ble_eq_true rfl) w_5_203 rfl dX12_laysPay_94 ?_
                            refine lv_bipush (v := 10) hx hb dX12_laysPay_97 (by decide) ?_
                            refine lv_iload_n hx hb dX12_laysPay_99 rfl (lv_at hl 3 rfl) ?_
                            refine lv_iconst (v := 1) hx hb dX12_laysPay_100 ic_1 ?_
                            refine lv_iadd hx hb dX12_laysPay_101 ?_
                            refine sk_top (nI (dd - 1 + 1)) (nI_add (dd - 1) 1) ?_
                            refine lv_imul hx hb dX12_laysPay_102 ?_
                            refine sk_top (nI (10 * (dd - 1 + 1))) (nmul 10 (dd - 1 + 1)) ?_
                            refine lv_iload hx hb dX12_laysPay_103 (lv_at hl 0 rfl) ?_
                            refine lv_iadd hx hb dX12_laysPay_105 ?_
                            refine sk_top (nI (10 * (dd - 1 + 1) + kk)) (nI_add (10 * (dd - 1 + 1)) kk) ?_
                            refine va_lald hx hb hK.1 hP 13 1 rfl rfl (vin (10 * (dd - 1 + 1) + kk) 90 (by omega) (Nat.le_of_ble_eq_true rfl)) dX12_laysPay_106 ?_
                            refine sk_topl (zpb (10 * (dd - 1 + 1) + kk)) (by rw [nI_clamp (by omega)]) ?_
                            refine lv_lstore_n (lv' := [(3, .long (zpb (10 * (dd - 1 + 1) + kk))), (5, .int (nI kk)), (2, .int (nI jm)), (1, .int (nI (dd - 1))), (0, .ref mm)]) hx hb dX12_laysPay_107 rfl hl (by decide) rfl (fun ls hl => ?_)
                            refine lv_iinc (v := nI (kk + 1)) (lv' := [(5, .int (nI (kk + 1))), (3, .long (zpb (10 * (dd - 1 + 1) + kk))), (2, .int (nI jm)), (1, .int (nI (dd - 1))), (0, .ref mm)]) hx hb dX12_laysPay_108 hl (k := 1) rfl (ninc kk 1 (by decide)) (by decide) rfl (fun ls hl => ?_)
                            refine lv_goto (tgt := 44) hx hb dX12_laysPay_111 (by decide) ?_
                            exact ih_lp_70 (kk + 1) (zpb (10 * (dd - 1 + 1) + kk)) _ _ _ (by omega) (by omega) ((mpM_go hmm hWb hdm (by omega) (by omega) (by rw [← hcf_14 (dd - 1 + 1) (by omega) jm kk (by omega) (by omega)]; exact or_1 hb1_103 (by omega)) hv_108).2 c_109) hP hD hS (lv_sub hl [0, 1, 2, 3, 4] rfl)
                exact lp_70 (10 - 0 + 1) 0 0 _ _ _ (Nat.lt_succ_self _) (by omega) (mpM_1 (by omega)) hP hD hS (lv_sub hl [0, 1, 2, 3, 4] rfl)
        exact lp_23 (10 - 0 + 1) 0 zama ztka zqpa zqa zpa _ _ _ (Nat.lt_succ_self _) (by omega) (mpJ_0 hpy_ (by omega)) hP hD hS (lv_sub hl [0, 1, 2] rfl)
  exact lp_20 (dm + 1) dm am2_3 tk2_1 qp2_2 ql2_7 py _ _ _ (Nat.lt_succ_self _) (by omega) (mpY_0 _ _ _ _) hP hD hS (lv_sub hl [0, 1] rfl)
theorem dg_X12_pay_0_0 : bqL cX12_pay 0 [(0, [42]), (1, [180, 1, 46]), (4, [154, 0, 7]), (11, [42]), (12, [182, 1, 186]), (15, [42]), (16, [3]), (17, [42]), (18, [180, 0, 63]), (21, [4]), (22, [46]), (23, [182, 1, 189]), (26, [60]), (27, [27]), (28, [2]), (29, [160, 0, 9]), (38, [42]), (39, [180, 0, 92]), (42, [27]), (43, [47]), (44, [173]), (32, [20, 1, 165]), (35, [167, 0, 9]), (7, [20, 1, 165]), (10, [173])] = true := by decide +kernel
theorem dX12_pay_0 : decode cX12_pay 0 = .ok (.aload_n 0, 1) := q_aload_n0 (bat_get dg_X12_pay_0_0 0 rfl rfl)
theorem dX12_pay_1 : decode cX12_pay 1 = .ok (.getfield 302, 3) := q_getfield (bat_get dg_X12_pay_0_0 1 rfl rfl) rfl
theorem dX12_pay_4 : decode cX12_pay 4 = .ok (.ifCond .ne 7, 3) := q_ifCond_ne (bat_get dg_X12_pay_0_0 2 rfl rfl) rfl
theorem dX12_pay_11 : decode cX12_pay 11 = .ok (.aload_n 0, 1) := q_aload_n0 (bat_get dg_X12_pay_0_0 3 rfl rfl)
theorem dX12_pay_12 : decode cX12_pay 12 = .ok (.invokevirtual 442, 3) := q_invokevirtual (bat_get dg_X12_pay_0_0 4 rfl rfl) rfl
theorem dX12_pay_15 : decode cX12_pay 15 = .ok (.aload_n 0, 1) := q_aload_n0 (bat_get dg_X12_pay_0_0 5 rfl rfl)
theorem dX12_pay_16 : decode cX12_pay 16 = .ok (.iconst 0, 1) := q_iconst0 (bat_get dg_X12_pay_0_0 6 rfl rfl)
theorem dX12_pay_17 : decode cX12_pay 17 = .ok (.aload_n 0, 1) := q_aload_n0 (bat_get dg_X12_pay_0_0 7 rfl rfl)
theorem dX12_pay_18 : decode cX12_pay 18 = .ok (.getfield 63, 3) := q_getfield (bat_get dg_X12_pay_0_0 8 rfl rfl) rfl
theorem dX12_pay_21 : decode cX12_pay 21 = .ok (.iconst 1, 1) := q_iconst1 (bat_get dg_X12_pay_0_0 9 rfl rfl)
theorem dX12_pay_22 : decode cX12_pay 22 = .ok (.iaload, 1) := q_iaload (bat_get dg_X12_pay_0_0 10 rfl rfl)
theorem dX12_pay_23 : decode cX12_pay 23 = .ok (.invokevirtual 445, 3) := q_invokevirtual (bat_get dg_X12_pay_0_0 11 rfl rfl) rfl
theorem dX12_pay_26 : decode cX12_pay 26 = .ok (.istore_n 1, 1) := q_istore_n1 (bat_get dg_X12_pay_0_0 12 rfl rfl)
theorem dX12_pay_27 : decode cX12_pay 27 = .ok (.iload_n 1, 1) := q_iload_n1 (bat_get dg_X12_pay_0_0 13 rfl rfl)
theorem dX12_pay_28 : decode cX12_pay 28 = .ok (.iconst (-1), 1) := q_iconstm1 (bat_get dg_X12_pay_0_0 14 rfl rfl)
theorem dX12_pay_29 : decode cX12_pay 29 = .ok (.if_icmp .ne 9, 3) := q_if_icmp_ne (bat_get dg_X12_pay_0_0 15 rfl rfl) rfl
theorem dX12_pay_38 : decode cX12_pay 38 = .ok (.aload_n 0, 1) := q_aload_n0 (bat_get dg_X12_pay_0_0 16 rfl rfl)
theorem dX12_pay_39 : decode cX12_pay 39 = .ok (.getfield 92, 3) := q_getfield (bat_get dg_X12_pay_0_0 17 rfl rfl) rfl
theorem dX12_pay_42 : decode cX12_pay 42 = .ok (.iload_n 1, 1) := q_iload_n1 (bat_get dg_X12_pay_0_0 18 rfl rfl)
theorem dX12_pay_43 : decode cX12_pay 43 = .ok (.laload, 1) := q_laload (bat_get dg_X12_pay_0_0 19 rfl rfl)
theorem dX12_pay_44 : decode cX12_pay 44 = .ok (.lreturn, 1) := q_lreturn (bat_get dg_X12_pay_0_0 20 rfl rfl)
theorem dX12_pay_32 : decode cX12_pay 32 = .ok (.ldc2_w 421, 3) := q_ldc2_w (bat_get dg_X12_pay_0_0 21 rfl rfl) rfl
theorem dX12_pay_35 : decode cX12_pay 35 = .ok (.goto 9, 3) := q_goto (bat_get dg_X12_pay_0_0 22 rfl rfl) rfl
theorem dX12_pay_7 : decode cX12_pay 7 = .ok (.ldc2_w 421, 3) := q_ldc2_w (bat_get dg_X12_pay_0_0 23 rfl rfl) rfl
theorem dX12_pay_10 : decode cX12_pay 10 = .ok (.lreturn, 1) := q_lreturn (bat_get dg_X12_pay_0_0 24 rfl rfl)
theorem w_8_41 : (Cond.methodLink RX12 442 yX12_laysPay) ∈ wsL_law := sk_mem (ck_8 _ (List.mem_of_getElem? (i := 41) rfl)) rfl
theorem w_8_43 : (Cond.instanceMethod yX12_laysPay) ∈ wsL_law := sk_mem (ck_8 _ (List.mem_of_getElem? (i := 43) rfl)) rfl
theorem w_0_96 : (Cond.selects RX12 yX12_laysPay yX12_laysPay) ∈ wsL_law := sk_mem (ck_0 _ (List.mem_of_getElem? (i := 96) rfl)) rfl
theorem w_8_49 : (Cond.methodLink RX12 445 yX12_bestBehind) ∈ wsL_law := sk_mem (ck_8 _ (List.mem_of_getElem? (i := 49) rfl)) rfl
theorem w_8_51 : (Cond.instanceMethod yX12_bestBehind) ∈ wsL_law := sk_mem (ck_8 _ (List.mem_of_getElem? (i := 51) rfl)) rfl
theorem w_0_98 : (Cond.selects RX12 yX12_bestBehind yX12_bestBehind) ∈ wsL_law := sk_mem (ck_0 _ (List.mem_of_getElem? (i := 98) rfl)) rfl
theorem w_8_40 : (Cond.code yX12_pay cX12_pay 2 (some .long)) ∈ wsL_law := sk_mem (ck_8 _ (List.mem_of_getElem? (i := 40) rfl)) rfl
def om_14_2219 : List Bool := true :: false :: false :: false :: true :: false :: false :: false :: false :: true :: true :: false :: false :: true :: []
theorem hd_X12_laysPay_0 : skD yX12_laysPay 0 := by decide +kernel
theorem hd_X12_bestBehind_2 : skD yX12_bestBehind 2 := by decide +kernel
set_option maxHeartbeats 4000000 in
set_option maxRecDepth 100000 in
theorem c_vm_pay (l : Launch) (D : va_G) (cI cJ cC cZ cS : ClassId) (mm : Nat) (g : Nat → Nat) (ta : Nat) (pa : Nat) (pe : Nat) (pd : Int32) (pb : Nat) (pp : Int32) (pf : Int32) (pg : Int32) (pn : Int32) (rt : Int32) (rn : Int32) (cd : Nat) (sn : Int32) (il : Nat) (tk : Int32) (am : Int32) (at_ : Int32) (aa : Int32) (wt : Int32) (wy : Int64) (rm : Nat) (ud : Nat) (nu : Nat) (sd : Int64) (qn : Nat) (qw : Nat) (qo : Int32) (qb : Nat) (qp : Nat) (qa : Int64) (qi : Nat) (oc : Nat) (u0 : Int32) (u1 : Int32) (u2 : Int32) (u3 : Int32) (u4 : Int32) (u5 : Int32) (v0 : Int32) (v1 : Int32) (v2 : Int32) (v3 : Int32) (v4 : Int32) (v5 : Int32) (cs : Nat → Nat) (nw : Nat → Int32) (pt : Nat → Nat) (ql : Nat → Int64) (l0 : Nat) (l1 : Nat) (dm : Nat) (l3 : Nat) (ws_ : Nat → Int32) (yw : Nat → Int32) (yo : Nat → Int32) (be : Nat → Int64) (bf : Nat → Int64) (py : Nat → Int64) (wn : Nat) (mN : Nat) (Ba : Nat → Nat) (We : Nat → Nat) (U : Nat → Bool) (ke : Nat) (lg : KLg) (L : LkS) (hil : il ≤ 1) (hild : il = 1 → 1 ≤ dm) (hilb : 1 ≤ dm → il = 1) (hdm : dm ≤ 9) (hLk : kcLk L) (hkl : (lK L).length ≤ 1600) (hmw0 : mwO L 0 u3 v3 cs) (hmw1 : mwO L 1 u4 v4 cs) (hB9 : ∀ j, Ba j ≤ 9) (hW9 : ∀ j, We j ≤ 9) (hwk : wn ≤ 999) (hmw2 : mwO L 2 u5 v5 cs) (hcs : ∀ j, cs j ≤ 20000) (hnw : nwX wn mN Ba We U ke lg nw) (hpt : ∀ j, pt j ≤ 9) : skM l yX12_pay cX12_pay 2 (some .long) 7 167 0 0 D (skT cI cJ cC cZ cS) [.ref mm] [ro_ mm 12 (mo g (nI ta) (nI pa) (nI pe) pd (nI pb) pp pf pg pn rt rn (nI cd) sn (nI il) tk am at_ aa 0 0 (-1) wt wy 0 (nI rm) (nI ud) (nI nu) sd (nI qn) (nI qw) qo (nI qb) (nI qp) qa (nI qi) (nI oc)), ra_I (g 24) cI 6 (l6 u0 u1 u2 u3 u4 u5), ra_I (g 25) cI 6 (l6 v0 v1 v2 v3 v4 v5), ra_N (g 26) cI 3200 cs, ra_I (g 31) cI 120 nw, ra_N (g 46) cI 9 pt, ra_J (g 86) cJ 1700 ql, ra_I (g 20) cI 4 (l4 (nI l0) (nI l1) (nI dm) (nI l3)), ra_I (g 38) cI 90 ws_, ra_I (g 36) cZ 900 yw, ra_I (g 37) cZ 900 yo, ra_J (g 43) cJ 90 be, ra_J (g 44) cJ 90 bf, ra_J (g 48) cJ 90 py] (skL D (skT cI cJ cC cZ cS) (fun (r : Int64) (u : va_W) => ∃ (tk2 : Int32), ∃ (qp2 : Nat), ∃ (am2 : Int32), ∃ (at_2 : Int32), ∃ (aa2 : Int32), ∃ (wy2 : Int64), ∃ (ql2 : Nat → Int64), ∃ (ws_2 : Nat → Int32), ∃ (yw2 : Nat → Int32), ∃ (yo2 : Nat → Int32), ∃ (be2 : Nat → Int64), ∃ (bf2 : Nat → Int64), ∃ (py2 : Nat → Int64), payR (kcFo L wn Ba We U 0) (kWg L wn Ba We) dm mN r ∧ u = [ro_ mm 12 (mo g (nI ta) (nI pa) (nI pe) pd (nI pb) pp pf pg pn rt rn (nI cd) sn (nI il) tk2 am2 at_2 aa2 0 0 (-1) wt wy2 0 (nI rm) (nI ud) (nI nu) sd (nI qn) (nI qw) qo (nI qb) (nI qp2) qa (nI qi) (nI oc)), ra_I (g 24) cI 6 (l6 u0 u1 u2 u3 u4 u5), ra_I (g 25) cI 6 (l6 v0 v1 v2 v3 v4 v5), ra_N (g 26) cI 3200 cs, ra_I (g 31) cI 120 nw, ra_N (g 46) cI 9 pt, ra_J (g 86) cJ 1700 ql2, ra_I (g 20) cI 4 (l4 (nI l0) (nI l1) (nI dm) (nI l3)), ra_I (g 38) cI 90 ws_2, ra_I (g 36) cZ 900 yw2, ra_I (g 37) cZ 900 yo2, ra_J (g 43) cJ 90 be2, ra_J (g 44) cJ 90 bf2, ra_J (g 48) cJ 90 py2])) := by
  refine skM_of pf_X12_pay (Nat.le_of_ble_eq_true rfl) ?_
  intro p e s m below meth c A ls E hP hD hl
  refine skE_el E (fun hx hb hr hml hlocks hin hown hts hK hA => ?_)
  have hown : s.vm.findClass RX12 = some m.cls := hown
  have hS : va_S A s.heap s.heap [] := va_S.rf
  have hl : lv_has ls 2 [(0, .ref mm)] := hl
  refine lv_aload_n hx hb dX12_pay_0 rfl (lv_at hl 0 rfl) ?_
  refine sk_get (v := .int (nI il)) (C := RX12) (T := TX12) (N := 92) hx hb hts inlX12 hown hK hP 0 rfl rfl 29 (Nat.le_of_ble_eq_true rfl) w_5_184 rfl dX12_pay_1 ?_
  refine lv_if_ne (tgt := 11) hx hb dX12_pay_4 (by decide) (fun c_1 => ?_) (fun c_1 => ?_)
  · have c_1 : ¬ (il = 0) := fun h => c_1 ((neq il 0 (by omega) (Nat.le_of_ble_eq_true rfl)).mpr h)
    refine lv_aload_n hx hb dX12_pay_11 rfl (lv_at hl 0 rfl) ?_
    refine sk_Vv (q0 := 0) (n := 0) (rest := []) (wr := fmR om_14_3fff _) ⟨hx, hb, hml, hown, hts⟩ hl.1 (c_vm_laysPayX l D cI cJ cC cZ cS mm g ta pa pe pd pb pp pf pg pn rt rn cd sn il tk am at_ aa wt wy rm ud nu sd qn qw qo qb qp qa qi oc u0 u1 u2 u3 u4 u5 v0 v1 v2 v3 v4 v5 cs nw pt ql l0 l1 dm l3 ws_ yw yo be bf py wn mN Ba We U ke lg L hdm (by omega) hLk hkl hmw0 hmw1 hB9 hW9 hwk hmw2 hcs hnw hpt) w_8_41 w_8_43 w_0_96 w_1_14 w_8_44 hd_X12_laysPay_0 ⟨⟨(Nat.le_of_ble_eq_true rfl), (Nat.le_of_ble_eq_true rfl)⟩, (Nat.le_of_ble_eq_true rfl), (Nat.le_of_ble_eq_true rfl)⟩ hK hP hD hS hA (fmT om_14_3fff 0) (fmF om_14_3fff 0) (fm_C1 rfl rfl) (fm_R rfl rfl) (fm_nT om_14_3fff 0) (fm_nF om_14_3fff 0) (fm_di om_14_3fff 0) rfl rfl rfl rfl (Nat.le_of_ble_eq_true rfl) dX12_pay_12 (fun u H locs hw hP hD hS => ?_)
    refine exE hw (fun tk2_2 hw1 => exE hw1 (fun qp2_3 hw2 => exE hw2 (fun am2_4 hw3 => exE hw3 (fun at_2_5 hw4 => exE hw4 (fun aa2_6 hw5 => exE hw5 (fun wy2_7 hw6 => exE hw6 (fun ql2_8 hw7 => exE hw7 (fun ws_2_9 hw8 => exE hw8 (fun yw2_10 hw9 => exE hw9 (fun yo2_11 hw10 => exE hw10 (fun be2_12 hw11 => exE hw11 (fun bf2_13 hw12 => exE hw12 (fun py2_14 hw13 => anE hw13 (fun hpy_15 hw14 => anE hw14 (fun hcf_16 hw15 => anE hw15 (fun hwy_17 eu_18 => ?_))))))))))))))))
    clear hw hw1 hw2 hw3 hw4 hw5 hw6 hw7 hw8 hw9 hw10 hw11 hw12 hw13 hw14 hw15
    refine o_mgE (ws' := [ro_ mm 12 (mo g (nI ta) (nI pa) (nI pe) pd (nI pb) pp pf pg pn rt rn (nI cd) sn (nI il) tk2_2 am2_4 at_2_5 aa2_6 0 0 (-1) wt wy2_7 0 (nI rm) (nI ud) (nI nu) sd (nI qn) (nI qw) qo (nI qb) (nI qp2_3) qa (nI qi) (nI oc)), ra_I (g 24) cI 6 (l6 u0 u1 u2 u3 u4 u5), ra_I (g 25) cI 6 (l6 v0 v1 v2 v3 v4 v5), ra_N (g 26) cI 3200 cs, ra_I (g 31) cI 120 nw, ra_N (g 46) cI 9 pt, ra_J (g 86) cJ 1700 ql2_8, ra_I (g 20) cI 4 (l4 (nI l0) (nI l1) (nI dm) (nI l3)), ra_I (g 38) cI 90 ws_2_9, ra_I (g 36) cZ 900 yw2_10, ra_I (g 37) cZ 900 yo2_11, ra_J (g 43) cJ 90 be2_12, ra_J (g 44) cJ 90 bf2_13, ra_J (g 48) cJ 90 py2_14]) eu_18 hP hD rfl (fun hP hD => ?_)
    have hWb := kwg_b (L := L) hLk hwk hB9 hW9 hdm
    refine lv_aload_n hx hb dX12_pay_15 rfl (lv_at hl 0 rfl) ?_
    refine lv_iconst (v := 0) hx hb dX12_pay_16 ic_0 ?_
    refine lv_aload_n hx hb dX12_pay_17 rfl (lv_at hl 0 rfl) ?_
    refine sk_get (v := .ref (g 31)) (C := RX12) (T := TX12) (N := 92) hx hb hts inlX12 hown hK hP 0 rfl rfl 31 (Nat.le_of_ble_eq_true rfl) w_5_186 rfl dX12_pay_18 ?_
    refine lv_iconst (v := 1) hx hb dX12_pay_21 ic_1 ?_
    refine va_iald hx hb hK.1 hP 4 0 rfl rfl (by unfold vp_in; decide) dX12_pay_22 ?_
    refine sk_top (nI mN) (nwX_1 hnw) ?_
    refine sk_Vi (q0 := 0) (n := 2) (rest := []) (wr := fmR om_14_2219 _) ⟨hx, hb, hml, hown, hts⟩ hl.1 (c_vm_bestBehindX l D cI cJ cC cZ cS mm g ta pa pe pd pb pp pf pg pn rt rn cd sn il tk2_2 am2_4 at_2_5 aa2_6 wt wy2_7 0 rm ud nu sd qn qw qo qb qp2_3 qa qi oc 0 mN nw yo2_11 yw2_10 py2_14 (kcFo L wn Ba We U 0) (kWg L wn Ba We) dm hdm (by omega) (by have := hnw.1; omega) hWb hpy_15 hcf_16 (nwX_ok hnw)) w_8_49 w_8_51 w_0_98 w_1_14 w_8_52 hd_X12_bestBehind_2 ⟨⟨(Nat.le_of_ble_eq_true rfl), (Nat.le_of_ble_eq_true rfl)⟩, (Nat.le_of_ble_eq_true rfl), (Nat.le_of_ble_eq_true rfl)⟩ hK hP hD hS hA [0, 4, 10, 9, 13] (fmF om_14_2219 0) rfl (fm_R rfl rfl) (by decide +kernel) (fm_nF om_14_2219 0) (by decide +kernel) rfl rfl rfl rfl (Nat.le_of_ble_eq_true rfl) dX12_pay_23 (fun r_19 u H locs hw hP hD hS => ?_)
    refine anE hw (fun hbb2_20 eu_21 => ?_)
    clear hw
    refine o_mgqE (ux := [ro_ mm 12 (mo g (nI ta) (nI pa) (nI pe) pd (nI pb) pp pf pg pn rt rn (nI cd) sn (nI il) tk2_2 am2_4 at_2_5 aa2_6 0 0 (-1) wt wy2_7 0 (nI rm) (nI ud) (nI nu) sd (nI qn) (nI qw) qo (nI qb) (nI qp2_3) qa (nI qi) (nI oc)), ra_I (g 31) cI 120 nw, ra_I (g 36) cZ 900 yw2_10, ra_I (g 37) cZ 900 yo2_11, ra_J (g 48) cJ 90 py2_14]) (ws' := [ro_ mm 12 (mo g (nI ta) (nI pa) (nI pe) pd (nI pb) pp pf pg pn rt rn (nI cd) sn (nI il) tk2_2 am2_4 at_2_5 aa2_6 0 0 (-1) wt wy2_7 0 (nI rm) (nI ud) (nI nu) sd (nI qn) (nI qw) qo (nI qb) (nI qp2_3) qa (nI qi) (nI oc)), ra_I (g 24) cI 6 (l6 u0 u1 u2 u3 u4 u5), ra_I (g 25) cI 6 (l6 v0 v1 v2 v3 v4 v5), ra_N (g 26) cI 3200 cs, ra_I (g 31) cI 120 nw, ra_N (g 46) cI 9 pt, ra_J (g 86) cJ 1700 ql2_8, ra_I (g 20) cI 4 (l4 (nI l0) (nI l1) (nI dm) (nI l3)), ra_I (g 38) cI 90 ws_2_9, ra_I (g 36) cZ 900 yw2_10, ra_I (g 37) cZ 900 yo2_11, ra_J (g 43) cJ 90 be2_12, ra_J (g 44) cJ 90 bf2_13, ra_J (g 48) cJ 90 py2_14]) eu_21 [0, 1, 3, 2, 4] (by decide +kernel) rfl hP hD rfl (fun hP hD => ?_)
    refine lv_istore_n (lv' := [(1, .int r_19), (0, .ref mm)]) hx hb dX12_pay_26 rfl hl (by decide) rfl (fun ls hl => ?_)
    refine lv_iload_n hx hb dX12_pay_27 rfl (lv_at hl 0 rfl) ?_
    refine lv_iconst (v := (-1)) hx hb dX12_pay_28 (by decide) ?_
    refine lv_icmp_ne (tgt := 38) hx hb dX12_pay_29 (by decide) (fun c_22 => ?_) (fun c_22 => ?_)
    · skip
      have hpos : 0 < kcC (kcFo L wn Ba We U 0) dm 0 mN := Nat.pos_of_ne_zero (fun hq => c_22 (bb_z hbb2_20 (Nat.le_refl 10) (by omega) hq))
      obtain ⟨hbb1, sb, hs1, hs2, hs3, hs4⟩ := bb_pf hbb2_20 rfl hWb hdm (show 0 < dm by omega) hpos
      subst hs2
      refine lv_aload_n hx hb dX12_pay_38 rfl (lv_at hl 1 rfl) ?_
      refine sk_get (v := .ref (g 48)) (C := RX12) (T := TX12) (N := 92) hx hb hts inlX12 hown hK hP 0 rfl rfl 48 (Nat.le_of_ble_eq_true rfl) w_5_203 rfl dX12_pay_39 ?_
      refine lv_iload_n hx hb dX12_pay_42 rfl (lv_at hl 0 rfl) ?_
      refine va_lald hx hb hK.1 hP 13 1 rfl rfl (vin sb 90 (by omega) (Nat.le_of_ble_eq_true rfl)) dX12_pay_43 ?_
      have hvs := ((hpy_15 0 (Nat.zero_le 0) (by omega) sb (by omega)).trans (kPv_s hs3)).trans hs4
      rw [Nat.mul_zero, Nat.zero_add] at hvs
      refine sk_topl (py2_14 sb) (by rw [nI_clamp (by omega)]) ?_
      exact sk_lret hx hb hr hlocks hK hP hD hS (⟨tk2_2, qp2_3, am2_4, at_2_5, aa2_6, wy2_7, ql2_8, ws_2_9, yw2_10, yo2_11, be2_12, bf2_13, py2_14, kB_1 ⟨by omega, hpos⟩ hvs, rfl⟩) (Nat.le_of_ble_eq_true rfl) (Nat.le_of_ble_eq_true rfl) dX12_pay_44
    · skip
      refine lv_ldc2 (v := (-1000000000000000)) hx hb hown (hts _ w_7_184) dX12_pay_32 ?_
      refine lv_goto (tgt := 44) hx hb dX12_pay_35 (by decide) ?_
      exact sk_lret hx hb hr hlocks hK hP hD hS (⟨tk2_2, qp2_3, am2_4, at_2_5, aa2_6, wy2_7, ql2_8, ws_2_9, yw2_10, yo2_11, be2_12, bf2_13, py2_14, kB_0 (fun hq => by obtain ⟨_, sb, hs1, hs2, _⟩ := bb_pf hbb2_20 rfl hWb hdm (show 0 < dm by omega) hq.2; exact nI_ne1 (v := sb) (by omega) (hs2.symm.trans c_22)) rfl, rfl⟩) (Nat.le_of_ble_eq_true rfl) (Nat.le_of_ble_eq_true rfl) dX12_pay_44
  · have c_1 : il = 0 := (neq il 0 (by omega) (Nat.le_of_ble_eq_true rfl)).mp c_1
    refine lv_ldc2 (v := (-1000000000000000)) hx hb hown (hts _ w_7_184) dX12_pay_7 ?_
    exact sk_lret hx hb hr hlocks hK hP hD hS (⟨tk, qp, am, at_, aa, wy, ql, ws_, yw, yo, be, bf, py, kB_0 (fun hq => absurd hq.1 (by omega)) rfl, rfl⟩) (Nat.le_of_ble_eq_true rfl) (Nat.le_of_ble_eq_true rfl) dX12_pay_10
theorem dg_X12_paid_0_0 : bqL cX12_paid 0 [(0, [42]), (1, [27]), (2, [182, 1, 157]), (5, [154, 0, 5]), (10, [42]), (11, [182, 1, 186]), (14, [42]), (15, [180, 1, 126]), (18, [9]), (19, [148]), (20, [154, 0, 5]), (25, [42]), (26, [180, 0, 63]), (29, [4]), (30, [46]), (31, [61]), (32, [3]), (33, [62]), (34, [29]), (35, [27]), (36, [163, 0, 16]), (52, [28]), (53, [172]), (39, [42]), (40, [29]), (41, [28]), (42, [182, 1, 189]), (45, [61]), (46, [132, 3, 1]), (49, [167, 255, 241]), (23, [2]), (24, [172]), (8, [2]), (9, [172])] = true := by decide +kernel
theorem dX12_paid_0 : decode cX12_paid 0 = .ok (.aload_n 0, 1) := q_aload_n0 (bat_get dg_X12_paid_0_0 0 rfl rfl)
theorem dX12_paid_1 : decode cX12_paid 1 = .ok (.iload_n 1, 1) := q_iload_n1 (bat_get dg_X12_paid_0_0 1 rfl rfl)
theorem dX12_paid_2 : decode cX12_paid 2 = .ok (.invokevirtual 413, 3) := q_invokevirtual (bat_get dg_X12_paid_0_0 2 rfl rfl) rfl
theorem dX12_paid_5 : decode cX12_paid 5 = .ok (.ifCond .ne 5, 3) := q_ifCond_ne (bat_get dg_X12_paid_0_0 3 rfl rfl) rfl
theorem dX12_paid_10 : decode cX12_paid 10 = .ok (.aload_n 0, 1) := q_aload_n0 (bat_get dg_X12_paid_0_0 4 rfl rfl)
theorem dX12_paid_11 : decode cX12_paid 11 = .ok (.invokevirtual 442, 3) := q_invokevirtual (bat_get dg_X12_paid_0_0 5 rfl rfl) rfl
theorem dX12_paid_14 : decode cX12_paid 14 = .ok (.aload_n 0, 1) := q_aload_n0 (bat_get dg_X12_paid_0_0 6 rfl rfl)
theorem dX12_paid_15 : decode cX12_paid 15 = .ok (.getfield 382, 3) := q_getfield (bat_get dg_X12_paid_0_0 7 rfl rfl) rfl
theorem dX12_paid_18 : decode cX12_paid 18 = .ok (.lconst 0, 1) := q_lconst0 (bat_get dg_X12_paid_0_0 8 rfl rfl)
theorem dX12_paid_19 : decode cX12_paid 19 = .ok (.lcmp, 1) := q_lcmp (bat_get dg_X12_paid_0_0 9 rfl rfl)
theorem dX12_paid_20 : decode cX12_paid 20 = .ok (.ifCond .ne 5, 3) := q_ifCond_ne (bat_get dg_X12_paid_0_0 10 rfl rfl) rfl
theorem dX12_paid_25 : decode cX12_paid 25 = .ok (.aload_n 0, 1) := q_aload_n0 (bat_get dg_X12_paid_0_0 11 rfl rfl)
theorem dX12_paid_26 : decode cX12_paid 26 = .ok (.getfield 63, 3) := q_getfield (bat_get dg_X12_paid_0_0 12 rfl rfl) rfl
theorem dX12_paid_29 : decode cX12_paid 29 = .ok (.iconst 1, 1) := q_iconst1 (bat_get dg_X12_paid_0_0 13 rfl rfl)
theorem dX12_paid_30 : decode cX12_paid 30 = .ok (.iaload, 1) := q_iaload (bat_get dg_X12_paid_0_0 14 rfl rfl)
theorem dX12_paid_31 : decode cX12_paid 31 = .ok (.istore_n 2, 1) := q_istore_n2 (bat_get dg_X12_paid_0_0 15 rfl rfl)
theorem dX12_paid_32 : decode cX12_paid 32 = .ok (.iconst 0, 1) := q_iconst0 (bat_get dg_X12_paid_0_0 16 rfl rfl)
theorem dX12_paid_33 : decode cX12_paid 33 = .ok (.istore_n 3, 1) := q_istore_n3 (bat_get dg_X12_paid_0_0 17 rfl rfl)
theorem dX12_paid_34 : decode cX12_paid 34 = .ok (.iload_n 3, 1) := q_iload_n3 (bat_get dg_X12_paid_0_0 18 rfl rfl)
theorem dX12_paid_35 : decode cX12_paid 35 = .ok (.iload_n 1, 1) := q_iload_n1 (bat_get dg_X12_paid_0_0 19 rfl rfl)
theorem dX12_paid_36 : decode cX12_paid 36 = .ok (.if_icmp .gt 16, 3) := q_if_icmp_gt (bat_get dg_X12_paid_0_0 20 rfl rfl) rfl
theorem dX12_paid_52 : decode cX12_paid 52 = .ok (.iload_n 2, 1) := q_iload_n2 (bat_get dg_X12_paid_0_0 21 rfl rfl)
theorem dX12_paid_53 : decode cX12_paid 53 = .ok (.ireturn, 1) := q_ireturn (bat_get dg_X12_paid_0_0 22 rfl rfl)
theorem dX12_paid_39 : decode cX12_paid 39 = .ok (.aload_n 0, 1) := q_aload_n0 (bat_get dg_X12_paid_0_0 23 rfl rfl)
theorem dX12_paid_40 : decode cX12_paid 40 = .ok (.iload_n 3, 1) := q_iload_n3 (bat_get dg_X12_paid_0_0 24 rfl rfl)
theorem dX12_paid_41 : decode cX12_paid 41 = .ok (.iload_n 2, 1) := q_iload_n2 (bat_get dg_X12_paid_0_0 25 rfl rfl)
theorem dX12_paid_42 : decode cX12_paid 42 = .ok (.invokevirtual 445, 3) := q_invokevirtual (bat_get dg_X12_paid_0_0 26 rfl rfl) rfl
theorem dX12_paid_45 : decode cX12_paid 45 = .ok (.istore_n 2, 1) := q_istore_n2 (bat_get dg_X12_paid_0_0 27 rfl rfl)
theorem dX12_paid_46 : decode cX12_paid 46 = .ok (.iinc 3 1, 3) := q_iinc (bat_get dg_X12_paid_0_0 28 rfl rfl) rfl
theorem dX12_paid_49 : decode cX12_paid 49 = .ok (.goto (-15), 3) := q_goto (bat_get dg_X12_paid_0_0 29 rfl rfl) rfl
theorem dX12_paid_23 : decode cX12_paid 23 = .ok (.iconst (-1), 1) := q_iconstm1 (bat_get dg_X12_paid_0_0 30 rfl rfl)
theorem dX12_paid_24 : decode cX12_paid 24 = .ok (.ireturn, 1) := q_ireturn (bat_get dg_X12_paid_0_0 31 rfl rfl)
theorem dX12_paid_8 : decode cX12_paid 8 = .ok (.iconst (-1), 1) := q_iconstm1 (bat_get dg_X12_paid_0_0 32 rfl rfl)
theorem dX12_paid_9 : decode cX12_paid 9 = .ok (.ireturn, 1) := q_ireturn (bat_get dg_X12_paid_0_0 33 rfl rfl)
theorem w_8_56 : (Cond.code yX12_paid cX12_paid 4 (some .int)) ∈ wsL_law := sk_mem (ck_8 _ (List.mem_of_getElem? (i := 56) rfl)) rfl
set_option maxHeartbeats 4000000 in
set_option maxRecDepth 100000 in
theorem c_vm_paid (l : Launch) (D : va_G) (cI cJ cC cZ cS : ClassId) (mm : Nat) (g : Nat → Nat) (ta : Nat) (pa : Nat) (pe : Nat) (pd : Int32) (pb : Nat) (pp : Int32) (pf : Int32) (pg : Int32) (pn : Int32) (rt : Int32) (rn : Int32) (cd : Nat) (sn : Int32) (il : Nat) (tk : Int32) (am : Int32) (at_ : Int32) (aa : Int32) (wt : Int32) (wy : Int64) (rm : Nat) (ud : Nat) (nu : Nat) (sd : Int64) (qn : Nat) (qw : Nat) (qo : Int32) (qb : Nat) (qp : Nat) (qa : Int64) (qi : Nat) (oc : Nat) (d : Int32) (u0 : Int32) (u1 : Int32) (u2 : Int32) (u3 : Int32) (u4 : Int32) (u5 : Int32) (v0 : Int32) (v1 : Int32) (v2 : Int32) (v3 : Int32) (v4 : Int32) (v5 : Int32) (cs : Nat → Nat) (nw : Nat → Int32) (pt : Nat → Nat) (ql : Nat → Int64) (l0 : Nat) (l1 : Nat) (dm : Nat) (l3 : Nat) (ws_ : Nat → Int32) (yw : Nat → Int32) (yo : Nat → Int32) (be : Nat → Int64) (bf : Nat → Int64) (py : Nat → Int64) (wn : Nat) (mN : Nat) (Ba : Nat → Nat) (We : Nat → Nat) (U : Nat → Bool) (ke : Nat) (lg : KLg) (L : LkS) (hil : il ≤ 1) (hild : il = 1 → 1 ≤ dm) (hilb : 1 ≤ dm → il = 1) (hdm : dm ≤ 9) (hLk : kcLk L) (hkl : (lK L).length ≤ 1600) (hmw0 : mwO L 0 u3 v3 cs) (hmw1 : mwO L 1 u4 v4 cs) (hB9 : ∀ j, Ba j ≤ 9) (hW9 : ∀ j, We j ≤ 9) (hwk : wn ≤ 999) (hmw2 : mwO L 2 u5 v5 cs) (hcs : ∀ j, cs j ≤ 20000) (hnw : nwX wn mN Ba We U ke lg nw) (hpt : ∀ j, pt j ≤ 9) : skM l yX12_paid cX12_paid 4 (some .int) 7 167 0 0 D (skT cI cJ cC cZ cS) [.ref mm, .int d] [ro_ mm 12 (mo g (nI ta) (nI pa) (nI pe) pd (nI pb) pp pf pg pn rt rn (nI cd) sn (nI il) tk am at_ aa 0 0 (-1) wt wy 0 (nI rm) (nI ud) (nI nu) sd (nI qn) (nI qw) qo (nI qb) (nI qp) qa (nI qi) (nI oc)), ra_I (g 24) cI 6 (l6 u0 u1 u2 u3 u4 u5), ra_I (g 25) cI 6 (l6 v0 v1 v2 v3 v4 v5), ra_N (g 26) cI 3200 cs, ra_I (g 31) cI 120 nw, ra_N (g 46) cI 9 pt, ra_J (g 86) cJ 1700 ql, ra_I (g 20) cI 4 (l4 (nI l0) (nI l1) (nI dm) (nI l3)), ra_I (g 38) cI 90 ws_, ra_I (g 36) cZ 900 yw, ra_I (g 37) cZ 900 yo, ra_J (g 43) cJ 90 be, ra_J (g 44) cJ 90 bf, ra_J (g 48) cJ 90 py] (skI D (skT cI cJ cC cZ cS) (fun (r : Int32) (u : va_W) => ∃ (tk2 : Int32), ∃ (qp2 : Nat), ∃ (am2 : Int32), ∃ (at_2 : Int32), ∃ (aa2 : Int32), ∃ (wy2 : Int64), ∃ (ql2 : Nat → Int64), ∃ (ws_2 : Nat → Int32), ∃ (yw2 : Nat → Int32), ∃ (yo2 : Nat → Int32), ∃ (be2 : Nat → Int64), ∃ (bf2 : Nat → Int64), ∃ (py2 : Nat → Int64), paidR (kcFo L wn Ba We U 0) (kWg L wn Ba We) dm mN d r ∧ u = [ro_ mm 12 (mo g (nI ta) (nI pa) (nI pe) pd (nI pb) pp pf pg pn rt rn (nI cd) sn (nI il) tk2 am2 at_2 aa2 0 0 (-1) wt wy2 0 (nI rm) (nI ud) (nI nu) sd (nI qn) (nI qw) qo (nI qb) (nI qp2) qa (nI qi) (nI oc)), ra_I (g 24) cI 6 (l6 u0 u1 u2 u3 u4 u5), ra_I (g 25) cI 6 (l6 v0 v1 v2 v3 v4 v5), ra_N (g 26) cI 3200 cs, ra_I (g 31) cI 120 nw, ra_N (g 46) cI 9 pt, ra_J (g 86) cJ 1700 ql2, ra_I (g 20) cI 4 (l4 (nI l0) (nI l1) (nI dm) (nI l3)), ra_I (g 38) cI 90 ws_2, ra_I (g 36) cZ 900 yw2, ra_I (g 37) cZ 900 yo2, ra_J (g 43) cJ 90 be2, ra_J (g 44) cJ 90 bf2, ra_J (g 48) cJ 90 py2])) := by
  refine skM_of pf_X12_paid (Nat.le_of_ble_eq_true rfl) ?_
  intro p e s m below meth c A ls E hP hD hl
  refine skE_el E (fun hx hb hr hml hlocks hin hown hts hK hA => ?_)
  have hown : s.vm.findClass RX12 = some m.cls := hown
  have hS : va_S A s.heap s.heap [] := va_S.rf
  have hl : lv_has ls 4 [(0, .ref mm), (1, .int d)] := hl
  refine lv_aload_n hx hb dX12_paid_0 rfl (lv_at hl 0 rfl) ?_
  refine lv_iload_n hx hb dX12_paid_1 rfl (lv_at hl 1 rfl) ?_
  refine sk_Vi (q0 := 0) (n := 1) (rest := []) (wr := fmR om_14_2040 _) ⟨hx, hb, hml, hown, hts⟩ hl.1 (c_nm_isDay l D cI cJ cC cZ cS mm g ta pa pe pd pb pp pf pg pn rt rn cd sn il tk am at_ aa wt wy rm ud nu sd qn qw qo qb qp qa qi oc d l0 l1 dm l3 hdm) w_7_117 w_7_119 w_0_72 w_1_14 w_7_120 hd_X12_isDay_1 ⟨⟨(Nat.le_of_ble_eq_true rfl), (Nat.le_of_ble_eq_true rfl)⟩, (Nat.le_of_ble_eq_true rfl), (Nat.le_of_ble_eq_true rfl)⟩ hK hP hD hS hA (fmT om_14_2040 0) (fmF om_14_2040 0) (fm_C1 rfl rfl) (fm_R rfl rfl) (fm_nT om_14_2040 0) (fm_nF om_14_2040 0) (fm_di om_14_2040 0) rfl rfl rfl rfl (Nat.le_of_ble_eq_true rfl) dX12_paid_2 (fun r_2 u H locs hw hP hD hS => ?_)
  refine exE hw (fun b_1 hw1 => anE hw1 (fun hb1_3 hw2 => anE hw2 (fun er_5 eu_4 => ?_)))
  clear hw hw1 hw2
  subst er_5
  refine o_mgE (ws' := [ro_ mm 12 (mo g (nI ta) (nI pa) (nI pe) pd (nI pb) pp pf pg pn rt rn (nI cd) sn (nI il) tk am at_ aa 0 0 (-1) wt wy 0 (nI rm) (nI ud) (nI nu) sd (nI qn) (nI qw) qo (nI qb) (nI qp) qa (nI qi) (nI oc)), ra_I (g 24) cI 6 (l6 u0 u1 u2 u3 u4 u5), ra_I (g 25) cI 6 (l6 v0 v1 v2 v3 v4 v5), ra_N (g 26) cI 3200 cs, ra_I (g 31) cI 120 nw, ra_N (g 46) cI 9 pt, ra_J (g 86) cJ 1700 ql, ra_I (g 20) cI 4 (l4 (nI l0) (nI l1) (nI dm) (nI l3)), ra_I (g 38) cI 90 ws_, ra_I (g 36) cZ 900 yw, ra_I (g 37) cZ 900 yo, ra_J (g 43) cJ 90 be, ra_J (g 44) cJ 90 bf, ra_J (g 48) cJ 90 py]) eu_4 hP hD rfl (fun hP hD => ?_)
  refine lv_if_ne (tgt := 10) hx hb dX12_paid_5 (by decide) (fun c_6 => ?_) (fun c_6 => ?_)
  · have c_6 : ¬ (b_1 = 0) := fun h => c_6 ((neq b_1 0 (by omega) (Nat.le_of_ble_eq_true rfl)).mpr h)
    obtain ⟨kd_7, hkd_7, rfl⟩ := rr_1 hb1_3 (by omega)
    refine lv_aload_n hx hb dX12_paid_10 rfl (lv_at hl 0 rfl) ?_
    refine sk_Vv (q0 := 0) (n := 0) (rest := []) (wr := fmR om_14_3fff _) ⟨hx, hb, hml, hown, hts⟩ hl.1 (c_vm_laysPayX l D cI cJ cC cZ cS mm g ta pa pe pd pb pp pf pg pn rt rn cd sn il tk am at_ aa wt wy rm ud nu sd qn qw qo qb qp qa qi oc u0 u1 u2 u3 u4 u5 v0 v1 v2 v3 v4 v5 cs nw pt ql l0 l1 dm l3 ws_ yw yo be bf py wn mN Ba We U ke lg L hdm (by omega) hLk hkl hmw0 hmw1 hB9 hW9 hwk hmw2 hcs hnw hpt) w_8_41 w_8_43 w_0_96 w_1_14 w_8_44 hd_X12_laysPay_0 ⟨⟨(Nat.le_of_ble_eq_true rfl), (Nat.le_of_ble_eq_true rfl)⟩, (Nat.le_of_ble_eq_true rfl), (Nat.le_of_ble_eq_true rfl)⟩ hK hP hD hS hA (fmT om_14_3fff 0) (fmF om_14_3fff 0) (fm_C1 rfl rfl) (fm_R rfl rfl) (fm_nT om_14_3fff 0) (fm_nF om_14_3fff 0) (fm_di om_14_3fff 0) rfl rfl rfl rfl (Nat.le_of_ble_eq_true rfl) dX12_paid_11 (fun u H locs hw hP hD hS => ?_)
    refine exE hw (fun tk2_8 hw1 => exE hw1 (fun qp2_9 hw2 => exE hw2 (fun am2_10 hw3 => exE hw3 (fun at_2_11 hw4 => exE hw4 (fun aa2_12 hw5 => exE hw5 (fun wy2_13 hw6 => exE hw6 (fun ql2_14 hw7 => exE hw7 (fun ws_2_15 hw8 => exE hw8 (fun yw2_16 hw9 => exE hw9 (fun yo2_17 hw10 => exE hw10 (fun be2_18 hw11 => exE hw11 (fun bf2_19 hw12 => exE hw12 (fun py2_20 hw13 => anE hw13 (fun hpy_21 hw14 => anE hw14 (fun hcf_22 hw15 => anE hw15 (fun hwy_23 eu_24 => ?_))))))))))))))))
    clear hw hw1 hw2 hw3 hw4 hw5 hw6 hw7 hw8 hw9 hw10 hw11 hw12 hw13 hw14 hw15
    refine o_mgE (ws' := [ro_ mm 12 (mo g (nI ta) (nI pa) (nI pe) pd (nI pb) pp pf pg pn rt rn (nI cd) sn (nI il) tk2_8 am2_10 at_2_11 aa2_12 0 0 (-1) wt wy2_13 0 (nI rm) (nI ud) (nI nu) sd (nI qn) (nI qw) qo (nI qb) (nI qp2_9) qa (nI qi) (nI oc)), ra_I (g 24) cI 6 (l6 u0 u1 u2 u3 u4 u5), ra_I (g 25) cI 6 (l6 v0 v1 v2 v3 v4 v5), ra_N (g 26) cI 3200 cs, ra_I (g 31) cI 120 nw, ra_N (g 46) cI 9 pt, ra_J (g 86) cJ 1700 ql2_14, ra_I (g 20) cI 4 (l4 (nI l0) (nI l1) (nI dm) (nI l3)), ra_I (g 38) cI 90 ws_2_15, ra_I (g 36) cZ 900 yw2_16, ra_I (g 37) cZ 900 yo2_17, ra_J (g 43) cJ 90 be2_18, ra_J (g 44) cJ 90 bf2_19, ra_J (g 48) cJ 90 py2_20]) eu_24 hP hD rfl (fun hP hD => ?_)
    have hWb := kwg_b (L := L) hLk hwk hB9 hW9 hdm
    refine lv_aload_n hx hb dX12_paid_14 rfl (lv_at hl 0 rfl) ?_
    refine sk_get (v := .long wy2_13) (C := RX12) (T := TX12) (N := 92) hx hb hts inlX12 hown hK hP 0 rfl rfl 45 (Nat.le_of_ble_eq_true rfl) w_5_200 rfl dX12_paid_15 ?_
    refine lv_lconst (v := 0) hx hb dX12_paid_18 (by decide) ?_
    refine W.lcmp hx hb dX12_paid_19 ?_
    refine lv_if_ne (tgt := 25) hx hb dX12_paid_20 (by decide) (fun c_25 => ?_) (fun c_25 => ?_)
    · have hpos : 0 < kcC (kcFo L wn Ba We U 0) dm 0 mN := Nat.pos_of_ne_zero (fun hq => c_25 (by rw [hwy_23, hq]; rfl))
      refine lv_aload_n hx hb dX12_paid_25 rfl (lv_at hl 0 rfl) ?_
      refine sk_get (v := .ref (g 31)) (C := RX12) (T := TX12) (N := 92) hx hb hts inlX12 hown hK hP 0 rfl rfl 31 (Nat.le_of_ble_eq_true rfl) w_5_186 rfl dX12_paid_26 ?_
      refine lv_iconst (v := 1) hx hb dX12_paid_29 ic_1 ?_
      refine va_iald hx hb hK.1 hP 4 0 rfl rfl (by unfold vp_in; decide) dX12_paid_30 ?_
      refine sk_top (nI mN) (nwX_1 hnw) ?_
      refine lv_istore_n (lv' := [(2, .int (nI mN)), (0, .ref mm), (1, .int (nI kd_7))]) hx hb dX12_paid_31 rfl hl (by decide) rfl (fun ls hl => ?_)
      refine lv_iconst (v := 0) hx hb dX12_paid_32 ic_0 ?_
      refine lv_istore_n (lv' := [(3, .int 0), (2, .int (nI mN)), (0, .ref mm), (1, .int (nI kd_7))]) hx hb dX12_paid_33 rfl hl (by decide) rfl (fun ls hl => ?_)
      have lp_26 : ∀ (n_27 : Nat) (i : Nat) (av : Nat) (H : Heap) (locs : List Loc) (ls : Array Slot), 10 - i < n_27 → (i ≤ kd_7 + 1) → (av = (kPa (kcFo L wn Ba We U 0) (kWg L wn Ba We) dm mN i)) → va_P D vwCl [ro_ mm 12 (mo g (nI ta) (nI pa) (nI pe) pd (nI pb) pp pf pg pn rt rn (nI cd) sn (nI il) tk2_8 am2_10 at_2_11 aa2_12 0 0 (-1) wt wy2_13 0 (nI rm) (nI ud) (nI nu) sd (nI qn) (nI qw) qo (nI qb) (nI qp2_9) qa (nI qi) (nI oc)), ra_I (g 24) cI 6 (l6 u0 u1 u2 u3 u4 u5), ra_I (g 25) cI 6 (l6 v0 v1 v2 v3 v4 v5), ra_N (g 26) cI 3200 cs, ra_I (g 31) cI 120 nw, ra_N (g 46) cI 9 pt, ra_J (g 86) cJ 1700 ql2_14, ra_I (g 20) cI 4 (l4 (nI l0) (nI l1) (nI dm) (nI l3)), ra_I (g 38) cI 90 ws_2_15, ra_I (g 36) cZ 900 yw2_16, ra_I (g 37) cZ 900 yo2_17, ra_J (g 43) cJ 90 be2_18, ra_J (g 44) cJ 90 bf2_19, ra_J (g 48) cJ 90 py2_20] H → va_D A [ro_ mm 12 (mo g (nI ta) (nI pa) (nI pe) pd (nI pb) pp pf pg pn rt rn (nI cd) sn (nI il) tk2_8 am2_10 at_2_11 aa2_12 0 0 (-1) wt wy2_13 0 (nI rm) (nI ud) (nI nu) sd (nI qn) (nI qw) qo (nI qb) (nI qp2_9) qa (nI qi) (nI oc)), ra_I (g 24) cI 6 (l6 u0 u1 u2 u3 u4 u5), ra_I (g 25) cI 6 (l6 v0 v1 v2 v3 v4 v5), ra_N (g 26) cI 3200 cs, ra_I (g 31) cI 120 nw, ra_N (g 46) cI 9 pt, ra_J (g 86) cJ 1700 ql2_14, ra_I (g 20) cI 4 (l4 (nI l0) (nI l1) (nI dm) (nI l3)), ra_I (g 38) cI 90 ws_2_15, ra_I (g 36) cZ 900 yw2_16, ra_I (g 37) cZ 900 yo2_17, ra_J (g 43) cJ 90 be2_18, ra_J (g 44) cJ 90 bf2_19, ra_J (g 48) cJ 90 py2_20] → va_S A s.heap H locs → lv_has ls 4 [(3, .int (nI i)), (2, .int (nI av)), (0, .ref mm), (1, .int (nI kd_7))] → W p l e { frames := 7, cells := 0, slots := 0, locals := 167 } s m ([.ref mm, .int (nI kd_7)] : List Value).toArray below meth c H locs 0 0 (MQ below (skI D (skT cI cJ cC cZ cS) (fun (r : Int32) (u : va_W) => ∃ (tk2 : Int32), ∃ (qp2 : Nat), ∃ (am2 : Int32), ∃ (at_2 : Int32), ∃ (aa2 : Int32), ∃ (wy2 : Int64), ∃ (ql2 : Nat → Int64), ∃ (ws_2 : Nat → Int32), ∃ (yw2 : Nat → Int32), ∃ (yo2 : Nat → Int32), ∃ (be2 : Nat → Int64), ∃ (bf2 : Nat → Int64), ∃ (py2 : Nat → Int64), paidR (kcFo L wn Ba We U 0) (kWg L wn Ba We) dm mN (nI kd_7) r ∧ u = [ro_ mm 12 (mo g (nI ta) (nI pa) (nI pe) pd (nI pb) pp pf pg pn rt rn (nI cd) sn (nI il) tk2 am2 at_2 aa2 0 0 (-1) wt wy2 0 (nI rm) (nI ud) (nI nu) sd (nI qn) (nI qw) qo (nI qb) (nI qp2) qa (nI qi) (nI oc)), ra_I (g 24) cI 6 (l6 u0 u1 u2 u3 u4 u5), ra_I (g 25) cI 6 (l6 v0 v1 v2 v3 v4 v5), ra_N (g 26) cI 3200 cs, ra_I (g 31) cI 120 nw, ra_N (g 46) cI 9 pt, ra_J (g 86) cJ 1700 ql2, ra_I (g 20) cI 4 (l4 (nI l0) (nI l1) (nI dm) (nI l3)), ra_I (g 38) cI 90 ws_2, ra_I (g 36) cZ 900 yw2, ra_I (g 37) cZ 900 yo2, ra_J (g 43) cJ 90 be2, ra_J (g 44) cJ 90 bf2, ra_J (g 48) cJ 90 py2]) A) ([.ref mm, .int (nI kd_7)] : List Value).toArray s 0 0 A) (F0 m 34 ls []) := by
        intro n_27
        induction n_27 with
        | zero => intro i av H locs ls hm; exact absurd hm (Nat.not_lt_zero _)
        | succ n_27 ih_lp_26 =>
          intro i av H locs ls hm hi hav hP hD hS hl
          refine lv_iload_n hx hb dX12_paid_34 rfl (lv_at hl 0 rfl) ?_
          refine lv_iload_n hx hb dX12_paid_35 rfl (lv_at hl 3 rfl) ?_
          refine lv_icmp_gt (tgt := 52) hx hb dX12_paid_36 (by decide) (fun c_28 => ?_) (fun c_28 => ?_)
          · have c_28 : kd_7 < i := (nlt kd_7 i (by omega) (by omega)).mp c_28
            refine lv_iload_n hx hb dX12_paid_52 rfl (lv_at hl 1 rfl) ?_
            exact sk_iret hx hb hr rfl hlocks hK hP hD hS (⟨tk2_8, qp2_9, am2_10, at_2_11, aa2_12, wy2_13, ql2_14, ws_2_15, yw2_16, yo2_17, be2_18, bf2_19, py2_20, pad_2 hkd_7 hpos (by rw [hav, show i = kd_7 + 1 by omega]), rfl⟩) (Nat.le_of_ble_eq_true rfl) (Nat.le_of_ble_eq_true rfl) dX12_paid_53
          · have c_28 : ¬ (kd_7 < i) := fun h => c_28 ((nlt kd_7 i (by omega) (by omega)).mpr h)
            have hok := kpa_ok hWb hdm (show mN < 10 by have := hnw.1; omega) hpos i (by omega)
            rw [← hav] at hok
            refine lv_aload_n hx hb dX12_paid_39 rfl (lv_at hl 2 rfl) ?_
            refine lv_iload_n hx hb dX12_paid_40 rfl (lv_at hl 0 rfl) ?_
            refine lv_iload_n hx hb dX12_paid_41 rfl (lv_at hl 1 rfl) ?_
            refine sk_Vi (q0 := 0) (n := 2) (rest := []) (wr := fmR om_14_2219 _) ⟨hx, hb, hml, hown, hts⟩ hl.1 (c_vm_bestBehindX l D cI cJ cC cZ cS mm g ta pa pe pd pb pp pf pg pn rt rn cd sn il tk2_8 am2_10 at_2_11 aa2_12 wt wy2_13 0 rm ud nu sd qn qw qo qb qp2_9 qa qi oc i av nw yo2_17 yw2_16 py2_20 (kcFo L wn Ba We U 0) (kWg L wn Ba We) dm hdm (by omega) (by have := hnw.1; omega) hWb hpy_21 hcf_22 (nwX_ok hnw)) w_8_49 w_8_51 w_0_98 w_1_14 w_8_52 hd_X12_bestBehind_2 ⟨⟨(Nat.le_of_ble_eq_true rfl), (Nat.le_of_ble_eq_true rfl)⟩, (Nat.le_of_ble_eq_true rfl), (Nat.le_of_ble_eq_true rfl)⟩ hK hP hD hS hA [0, 4, 10, 9, 13] (fmF om_14_2219 0) rfl (fm_R rfl rfl) (by decide +kernel) (fm_nF om_14_2219 0) (by decide +kernel) rfl rfl rfl rfl (Nat.le_of_ble_eq_true rfl) dX12_paid_42 (fun r_29 u H locs hw hP hD hS => ?_)
            refine anE hw (fun hbb2_30 eu_31 => ?_)
            clear hw
            refine o_mgqE (ux := [ro_ mm 12 (mo g (nI ta) (nI pa) (nI pe) pd (nI pb) pp pf pg pn rt rn (nI cd) sn (nI il) tk2_8 am2_10 at_2_11 aa2_12 0 0 (-1) wt wy2_13 0 (nI rm) (nI ud) (nI nu) sd (nI qn) (nI qw) qo (nI qb) (nI qp2_9) qa (nI qi) (nI oc)), ra_I (g 31) cI 120 nw, ra_I (g 36) cZ 900 yw2_16, ra_I (g 37) cZ 900 yo2_17, ra_J (g 48) cJ 90 py2_20]) (ws' := [ro_ mm 12 (mo g (nI ta) (nI pa) (nI pe) pd (nI pb) pp pf pg pn rt rn (nI cd) sn (nI il) tk2_8 am2_10 at_2_11 aa2_12 0 0 (-1) wt wy2_13 0 (nI rm) (nI ud) (nI nu) sd (nI qn) (nI qw) qo (nI qb) (nI qp2_9) qa (nI qi) (nI oc)), ra_I (g 24) cI 6 (l6 u0 u1 u2 u3 u4 u5), ra_I (g 25) cI 6 (l6 v0 v1 v2 v3 v4 v5), ra_N (g 26) cI 3200 cs, ra_I (g 31) cI 120 nw, ra_N (g 46) cI 9 pt, ra_J (g 86) cJ 1700 ql2_14, ra_I (g 20) cI 4 (l4 (nI l0) (nI l1) (nI dm) (nI l3)), ra_I (g 38) cI 90 ws_2_15, ra_I (g 36) cZ 900 yw2_16, ra_I (g 37) cZ 900 yo2_17, ra_J (g 43) cJ 90 be2_18, ra_J (g 44) cJ 90 bf2_19, ra_J (g 48) cJ 90 py2_20]) eu_31 [0, 1, 3, 2, 4] (by decide +kernel) rfl hP hD rfl (fun hP hD => ?_)
            have hbr := (bb_pf hbb2_30 rfl hWb hdm (show i < dm by omega) hok.2).1
            rw [hav, ← kpa_s] at hbr
            subst hbr
            refine lv_istore_n (lv' := [(2, .int (nI (kPa (kcFo L wn Ba We U 0) (kWg L wn Ba We) dm mN (i + 1)))), (3, .int (nI i)), (0, .ref mm), (1, .int (nI kd_7))]) hx hb dX12_paid_45 rfl hl (by decide) rfl (fun ls hl => ?_)
            refine lv_iinc (v := nI (i + 1)) (lv' := [(3, .int (nI (i + 1))), (2, .int (nI (kPa (kcFo L wn Ba We U 0) (kWg L wn Ba We) dm mN (i + 1)))), (0, .ref mm), (1, .int (nI kd_7))]) hx hb dX12_paid_46 hl (k := 1) rfl (ninc i 1 (by decide)) (by decide) rfl (fun ls hl => ?_)
            refine lv_goto (tgt := 34) hx hb dX12_paid_49 (by decide) ?_
            exact ih_lp_26 (i + 1) (kPa (kcFo L wn Ba We U 0) (kWg L wn Ba We) dm mN (i + 1)) _ _ _ (by omega) (by omega) rfl hP hD hS (lv_sub hl [0, 1, 2, 3] rfl)
      exact lp_26 (10 - 0 + 1) 0 mN _ _ _ (Nat.lt_succ_self _) (by omega) rfl hP hD hS (lv_sub hl [0, 1, 2, 3] rfl)
    · have hz0 : kcC (kcFo L wn Ba We U 0) dm 0 mN = 0 := kz_0 (by rw [← hwy_23]; exact c_25) (by have := kcC_9 (kcFo L wn Ba We U 0) (show dm ≤ 9 by omega) 0 mN; omega)
      refine lv_iconst (v := (-1)) hx hb dX12_paid_23 (by decide) ?_
      exact sk_iret hx hb hr rfl hlocks hK hP hD hS (⟨tk2_8, qp2_9, am2_10, at_2_11, aa2_12, wy2_13, ql2_14, ws_2_15, yw2_16, yo2_17, be2_18, bf2_19, py2_20, pad_1 hz0, rfl⟩) (Nat.le_of_ble_eq_true rfl) (Nat.le_of_ble_eq_true rfl) dX12_paid_24
  · have c_6 : b_1 = 0 := (neq b_1 0 (by omega) (Nat.le_of_ble_eq_true rfl)).mp c_6
    refine lv_iconst (v := (-1)) hx hb dX12_paid_8 (by decide) ?_
    exact sk_iret hx hb hr rfl hlocks hK hP hD hS (⟨tk, qp, am, at_, aa, wy, ql, ws_, yw, yo, be, bf, py, pad_0 (rr_0 hb1_3 (by omega)), rfl⟩) (Nat.le_of_ble_eq_true rfl) (Nat.le_of_ble_eq_true rfl) dX12_paid_9
/-! sets of days, the reference's search -/
def hsI (P : Nat → Prop) (i : Nat) (be : Int32) : Prop := (be = -1 ∧ ∀ t, t < i → ¬ P t) ∨ ∃ s, s < i ∧ s < 512 ∧ be = nI s ∧ P s ∧ ∀ t, t < i → P t → kpop s < kpop t ∨ (kpop s = kpop t ∧ s ≤ t)
theorem hsI_0 (P : Nat → Prop) : hsI P 0 (-1) := Or.inl ⟨rfl, fun t ht => absurd ht (Nat.not_lt_zero t)⟩
theorem nI_ne9 {v : Nat} (h : v < 512) : ¬ nI v = -1 := fun q => by
  have h1 : ∀ v, v < 512 → ¬ nI v = -1 := by decide +kernel
  exact h1 v h q
theorem hsI_n {P : Nat → Prop} {i : Nat} {be : Int32} (h : hsI P i be) (hn : ¬ P i) : hsI P (i + 1) be := by
  rcases h with ⟨h1, h2⟩ | ⟨s, h1, h2, h3, h4, h5⟩
  · refine Or.inl ⟨h1, fun t ht => ?_⟩
    by_cases e : t = i
    · subst e; exact hn
    · exact h2 t (by omega)
  · refine Or.inr ⟨s, by omega, h2, h3, h4, fun t ht hp => ?_⟩
    by_cases e : t = i
    · subst e; exact absurd hp hn
    · exact h5 t (by omega) hp
theorem hsI_1 {P : Nat → Prop} {i : Nat} {be : Int32} (h : hsI P i be) (hi : i < 512) (e : be = -1) (hp : P i) : hsI P (i + 1) (nI i) := by
  rcases h with ⟨h1, h2⟩ | ⟨s, h1, h2, h3, _⟩
  · refine Or.inr ⟨i, Nat.lt_succ_self i, hi, rfl, hp, fun t ht hq => ?_⟩
    by_cases c : t = i
    · subst c; exact Or.inr ⟨rfl, Nat.le_refl _⟩
    · exact absurd hq (h2 t (by omega))
  · exact absurd (h3.symm.trans e) (nI_ne9 h2)
theorem hs_k {P : Nat → Prop} {i : Nat} {be : Int32} (h : hsI P i be) (e : ¬ be = -1) : ∃ s, s < i ∧ s < 512 ∧ be = nI s ∧ P s ∧ ∀ t, t < i → P t → kpop s < kpop t ∨ (kpop s = kpop t ∧ s ≤ t) := by
  rcases h with ⟨h1, _⟩ | h
  · exact absurd h1 e
  · exact h
theorem hsI_k {P : Nat → Prop} {i s : Nat} (h1 : s < i) (h2 : s < 512) (h4 : P s) (h5 : ∀ t, t < i → P t → kpop s < kpop t ∨ (kpop s = kpop t ∧ s ≤ t)) : hsI P i (nI s) := Or.inr ⟨s, h1, h2, rfl, h4, h5⟩
theorem hsI_2 {P : Nat → Prop} {i s : Nat} (h1 : s < i) (hi : i < 512) (h5 : ∀ t, t < i → P t → kpop s < kpop t ∨ (kpop s = kpop t ∧ s ≤ t)) (hp : P i) (hc : kpop i < kpop s) : hsI P (i + 1) (nI i) := Or.inr ⟨i, Nat.lt_succ_self i, hi, rfl, hp, fun t ht hq => by
  by_cases c : t = i
  · subst c; exact Or.inr ⟨rfl, Nat.le_refl _⟩
  · have := h5 t (by omega) hq; omega⟩
theorem hsI_3 {P : Nat → Prop} {i s : Nat} (h1 : s < i) (h2 : s < 512) (h4 : P s) (h5 : ∀ t, t < i → P t → kpop s < kpop t ∨ (kpop s = kpop t ∧ s ≤ t)) (hc : kpop s ≤ kpop i) : hsI P (i + 1) (nI s) := Or.inr ⟨s, by omega, h2, rfl, h4, fun t ht hq => by
  by_cases c : t = i
  · subst c; omega
  · exact h5 t (by omega) hq⟩
theorem hs_e {P : Nat → Prop} {i dm : Nat} {be : Int32} (h : hsI P i be) (hi : i = 2 ^ dm) : fewR P dm be := by
  subst hi
  rcases h with ⟨h1, h2⟩ | ⟨s, h1, _, h3, h4, h5⟩
  · rw [h1]
    exact kR_0 (fun s q => h2 s q.1 q.2.1) rfl
  · rw [h3]
    exact kR_1 s ⟨h1, h4, h5⟩ rfl
theorem nL_eq {a b : Nat} (ha : a ≤ 1000000000) (hb : b ≤ 1000000000) : lg_cmp (nL a) (nL b) = 0 ↔ a = b := by
  rw [lg_cmp_eq]
  constructor
  · intro q
    have h1 := congrArg Int64.toInt q
    rw [nL_toInt (by omega), nL_toInt (by omega)] at h1
    omega
  · intro q
    rw [q]
/-! at rest -/
section LrI
variable (L : LkS) (dm wn mN : Nat) (Ba We : Nat → Nat) (U : Nat → Bool)
def lrI (i : Nat) (ag : Nat → Int32) (w : Nat → Int64) : Prop := ∀ t, t < i → (ag t = 1 ∧ svH L dm wn mN Ba We (kUs U t) ∧ ∀ d, d < dm → w (9 * t + d) = svG L dm wn mN Ba We (kUs U t) d) ∨ (ag t = 0 ∧ ¬ svH L dm wn mN Ba We (kUs U t))
end LrI
section LrI2
variable {L : LkS} {dm wn mN : Nat} {Ba We : Nat → Nat} {U : Nat → Bool}
theorem lrI_0 (ag : Nat → Int32) (w : Nat → Int64) : lrI L dm wn mN Ba We U 0 ag w := fun t ht => absurd ht (Nat.not_lt_zero t)
theorem lrI_ag {i : Nat} {ag ag2 : Nat → Int32} {w : Nat → Int64} {x : Int32} (h : lrI L dm wn mN Ba We U i ag w) (e : ag2 = upd ag i x) : lrI L dm wn mN Ba We U i ag2 w := fun t ht => by
  rw [kui_n e (by omega)]
  exact h t ht
theorem lrI_w {i jd : Nat} {ag : Nat → Int32} {w w2 : Nat → Int64} {x : Int64} (h : lrI L dm wn mN Ba We U i ag w) (e : w2 = vp_updL w (9 * i + jd) x) (h9 : dm ≤ 9) : lrI L dm wn mN Ba We U i ag w2 := fun t ht => by
  rcases h t ht with ⟨h1, h2, h3⟩ | h1
  · exact Or.inl ⟨h1, h2, fun d hd => by rw [kup_n e (by omega)]; exact h3 d hd⟩
  · exact Or.inr h1
theorem lrI_y {i : Nat} {ag : Nat → Int32} {w : Nat → Int64} (h : lrI L dm wn mN Ba We U i ag w) (h1 : ag i = 1) (h2 : svH L dm wn mN Ba We (kUs U i)) (h3 : ∀ d, d < dm → w (9 * i + d) = svG L dm wn mN Ba We (kUs U i) d) : lrI L dm wn mN Ba We U (i + 1) ag w := fun t ht => by
  by_cases e : t = i
  · subst e; exact Or.inl ⟨h1, h2, h3⟩
  · exact h t (by omega)
theorem lrI_n {i : Nat} {ag : Nat → Int32} {w : Nat → Int64} (h : lrI L dm wn mN Ba We U i ag w) (h1 : ag i = 0) (h2 : ¬ svH L dm wn mN Ba We (kUs U i)) : lrI L dm wn mN Ba We U (i + 1) ag w := fun t ht => by
  by_cases e : t = i
  · subst e; exact Or.inr ⟨h1, h2⟩
  · exact h t (by omega)
theorem lrw_s {i jd : Nat} {w w2 : Nat → Int64} {x : Int64} {V : Nat → Bool} (h : ∀ d, d < jd → w (9 * i + d) = svG L dm wn mN Ba We V d) (e : w2 = vp_updL w (9 * i + jd) x) (hx : x = svG L dm wn mN Ba We V jd) : ∀ d, d < jd + 1 → w2 (9 * i + d) = svG L dm wn mN Ba We V d := fun d hd => by
  by_cases q : d = jd
  · subst q; rw [kup_s e, hx]
  · rw [kup_n e (by omega)]; exact h d (by omega)
theorem lr_1 {i t : Nat} {ag : Nat → Int32} {w : Nat → Int64} (h : lrI L dm wn mN Ba We U i ag w) (ht : t < i) (e : ¬ ag t = 0) : svH L dm wn mN Ba We (kUs U t) ∧ ∀ d, d < dm → w (9 * t + d) = svG L dm wn mN Ba We (kUs U t) d := by
  rcases h t ht with ⟨_, h2⟩ | ⟨h1, _⟩
  · exact h2
  · exact absurd h1 e
theorem lr_0 {i t : Nat} {ag : Nat → Int32} {w : Nat → Int64} (h : lrI L dm wn mN Ba We U i ag w) (ht : t < i) (e : ag t = 0) : ¬ svH L dm wn mN Ba We (kUs U t) := by
  rcases h t ht with ⟨h1, _⟩ | ⟨_, h2⟩
  · exact absurd (h1.symm.trans e) (by decide)
  · exact h2
end LrI2
theorem kUs_x {U : Nat → Bool} {s d : Nat} (h : U d = false) : kUs U (s ^^^ 2 ^ d) = updG (kUs U s) d (!(kUs U s d)) := by
  funext j
  unfold updG kUs
  rw [Nat.testBit_xor, Nat.testBit_two_pow]
  by_cases e : j = d
  · subst e
    rw [if_pos rfl, h, decide_eq_true rfl, Bool.false_or, Bool.false_or, Bool.xor_true]
  · rw [if_neg e, decide_eq_false (fun q => e q.symm), Bool.xor_false]
theorem kxl {a d n : Nat} (ha : a < 2 ^ n) (hd : d < n) : a ^^^ 2 ^ d < 2 ^ n := Nat.xor_lt_two_pow ha (Nat.pow_lt_pow_right (a := 2) (by decide) hd)
theorem dg_X12_hushed_0_0 : bqL cX12_hushed 0 [(0, [42]), (1, [180, 1, 46]), (4, [154, 0, 5]), (9, [42]), (10, [3]), (11, [182, 1, 129]), (14, [2]), (15, [60]), (16, [3]), (17, [61]), (18, [28]), (19, [4]), (20, [42]), (21, [182, 1, 59]), (24, [120]), (25, [162, 0, 35]), (60, [27]), (61, [172]), (28, [27]), (29, [2]), (30, [159, 0, 14]), (44, [42]), (45, [28]), (46, [182, 1, 167]), (49, [153, 0, 5]), (54, [132, 2, 1]), (57, [167, 255, 217]), (52, [28]), (53, [60]), (33, [28]), (34, [184, 1, 153]), (37, [27]), (38, [184, 1, 153]), (41, [162, 0, 13]), (7, [2]), (8, [172])] = true := by decide +kernel
theorem dX12_hushed_0 : decode cX12_hushed 0 = .ok (.aload_n 0, 1) := q_aload_n0 (bat_get dg_X12_hushed_0_0 0 rfl rfl)
theorem dX12_hushed_1 : decode cX12_hushed 1 = .ok (.getfield 302, 3) := q_getfield (bat_get dg_X12_hushed_0_0 1 rfl rfl) rfl
theorem dX12_hushed_4 : decode cX12_hushed 4 = .ok (.ifCond .ne 5, 3) := q_ifCond_ne (bat_get dg_X12_hushed_0_0 2 rfl rfl) rfl
theorem dX12_hushed_9 : decode cX12_hushed 9 = .ok (.aload_n 0, 1) := q_aload_n0 (bat_get dg_X12_hushed_0_0 3 rfl rfl)
theorem dX12_hushed_10 : decode cX12_hushed 10 = .ok (.iconst 0, 1) := q_iconst0 (bat_get dg_X12_hushed_0_0 4 rfl rfl)
theorem dX12_hushed_11 : decode cX12_hushed 11 = .ok (.invokevirtual 385, 3) := q_invokevirtual (bat_get dg_X12_hushed_0_0 5 rfl rfl) rfl
theorem dX12_hushed_14 : decode cX12_hushed 14 = .ok (.iconst (-1), 1) := q_iconstm1 (bat_get dg_X12_hushed_0_0 6 rfl rfl)
theorem dX12_hushed_15 : decode cX12_hushed 15 = .ok (.istore_n 1, 1) := q_istore_n1 (bat_get dg_X12_hushed_0_0 7 rfl rfl)
theorem dX12_hushed_16 : decode cX12_hushed 16 = .ok (.iconst 0, 1) := q_iconst0 (bat_get dg_X12_hushed_0_0 8 rfl rfl)
theorem dX12_hushed_17 : decode cX12_hushed 17 = .ok (.istore_n 2, 1) := q_istore_n2 (bat_get dg_X12_hushed_0_0 9 rfl rfl)
theorem dX12_hushed_18 : decode cX12_hushed 18 = .ok (.iload_n 2, 1) := q_iload_n2 (bat_get dg_X12_hushed_0_0 10 rfl rfl)
theorem dX12_hushed_19 : decode cX12_hushed 19 = .ok (.iconst 1, 1) := q_iconst1 (bat_get dg_X12_hushed_0_0 11 rfl rfl)
theorem dX12_hushed_20 : decode cX12_hushed 20 = .ok (.aload_n 0, 1) := q_aload_n0 (bat_get dg_X12_hushed_0_0 12 rfl rfl)
theorem dX12_hushed_21 : decode cX12_hushed 21 = .ok (.invokevirtual 315, 3) := q_invokevirtual (bat_get dg_X12_hushed_0_0 13 rfl rfl) rfl
theorem dX12_hushed_24 : decode cX12_hushed 24 = .ok (.ishl, 1) := q_ishl (bat_get dg_X12_hushed_0_0 14 rfl rfl)
theorem dX12_hushed_25 : decode cX12_hushed 25 = .ok (.if_icmp .ge 35, 3) := q_if_icmp_ge (bat_get dg_X12_hushed_0_0 15 rfl rfl) rfl
theorem dX12_hushed_60 : decode cX12_hushed 60 = .ok (.iload_n 1, 1) := q_iload_n1 (bat_get dg_X12_hushed_0_0 16 rfl rfl)
theorem dX12_hushed_61 : decode cX12_hushed 61 = .ok (.ireturn, 1) := q_ireturn (bat_get dg_X12_hushed_0_0 17 rfl rfl)
theorem dX12_hushed_28 : decode cX12_hushed 28 = .ok (.iload_n 1, 1) := q_iload_n1 (bat_get dg_X12_hushed_0_0 18 rfl rfl)
theorem dX12_hushed_29 : decode cX12_hushed 29 = .ok (.iconst (-1), 1) := q_iconstm1 (bat_get dg_X12_hushed_0_0 19 rfl rfl)
theorem dX12_hushed_30 : decode cX12_hushed 30 = .ok (.if_icmp .eq 14, 3) := q_if_icmp_eq (bat_get dg_X12_hushed_0_0 20 rfl rfl) rfl
theorem dX12_hushed_44 : decode cX12_hushed 44 = .ok (.aload_n 0, 1) := q_aload_n0 (bat_get dg_X12_hushed_0_0 21 rfl rfl)
theorem dX12_hushed_45 : decode cX12_hushed 45 = .ok (.iload_n 2, 1) := q_iload_n2 (bat_get dg_X12_hushed_0_0 22 rfl rfl)
theorem dX12_hushed_46 : decode cX12_hushed 46 = .ok (.invokevirtual 423, 3) := q_invokevirtual (bat_get dg_X12_hushed_0_0 23 rfl rfl) rfl
theorem dX12_hushed_49 : decode cX12_hushed 49 = .ok (.ifCond .eq 5, 3) := q_ifCond_eq (bat_get dg_X12_hushed_0_0 24 rfl rfl) rfl
theorem dX12_hushed_54 : decode cX12_hushed 54 = .ok (.iinc 2 1, 3) := q_iinc (bat_get dg_X12_hushed_0_0 25 rfl rfl) rfl
theorem dX12_hushed_57 : decode cX12_hushed 57 = .ok (.goto (-39), 3) := q_goto (bat_get dg_X12_hushed_0_0 26 rfl rfl) rfl
theorem dX12_hushed_52 : decode cX12_hushed 52 = .ok (.iload_n 2, 1) := q_iload_n2 (bat_get dg_X12_hushed_0_0 27 rfl rfl)
theorem dX12_hushed_53 : decode cX12_hushed 53 = .ok (.istore_n 1, 1) := q_istore_n1 (bat_get dg_X12_hushed_0_0 28 rfl rfl)
theorem dX12_hushed_33 : decode cX12_hushed 33 = .ok (.iload_n 2, 1) := q_iload_n2 (bat_get dg_X12_hushed_0_0 29 rfl rfl)
theorem dX12_hushed_34 : decode cX12_hushed 34 = .ok (.invokestatic 409, 3) := q_invokestatic (bat_get dg_X12_hushed_0_0 30 rfl rfl) rfl
theorem dX12_hushed_37 : decode cX12_hushed 37 = .ok (.iload_n 1, 1) := q_iload_n1 (bat_get dg_X12_hushed_0_0 31 rfl rfl)
theorem dX12_hushed_38 : decode cX12_hushed 38 = .ok (.invokestatic 409, 3) := q_invokestatic (bat_get dg_X12_hushed_0_0 32 rfl rfl) rfl
theorem dX12_hushed_41 : decode cX12_hushed 41 = .ok (.if_icmp .ge 13, 3) := q_if_icmp_ge (bat_get dg_X12_hushed_0_0 33 rfl rfl) rfl
theorem dX12_hushed_7 : decode cX12_hushed 7 = .ok (.iconst (-1), 1) := q_iconstm1 (bat_get dg_X12_hushed_0_0 34 rfl rfl)
theorem dX12_hushed_8 : decode cX12_hushed 8 = .ok (.ireturn, 1) := q_ireturn (bat_get dg_X12_hushed_0_0 35 rfl rfl)
theorem w_7_228 : (Cond.code yX12_hushed cX12_hushed 3 (some .int)) ∈ wsL_law := sk_mem (ck_7 _ (List.mem_of_getElem? (i := 228) rfl)) rfl
set_option maxHeartbeats 4000000 in
set_option maxRecDepth 100000 in
theorem c_vm_hushed (l : Launch) (D : va_G) (cI cJ cC cZ cS : ClassId) (mm : Nat) (g : Nat → Nat) (ta : Nat) (pa : Nat) (pe : Nat) (pd : Int32) (pb : Nat) (pp : Int32) (pf : Int32) (pg : Int32) (pn : Int32) (rt : Int32) (rn : Int32) (cd : Nat) (sn : Int32) (il : Nat) (tk : Int32) (am : Int32) (at_ : Int32) (aa : Int32) (wt : Int32) (wy : Int64) (rm : Nat) (ud : Nat) (nu : Nat) (sd : Int64) (qn : Nat) (qw : Nat) (qo : Int32) (qb : Nat) (qp : Nat) (qa : Int64) (qi : Nat) (oc : Nat) (u0 : Int32) (u1 : Int32) (u2 : Int32) (u3 : Int32) (u4 : Int32) (u5 : Int32) (v0 : Int32) (v1 : Int32) (v2 : Int32) (v3 : Int32) (v4 : Int32) (v5 : Int32) (cs : Nat → Nat) (nw : Nat → Int32) (pt : Nat → Nat) (ql : Nat → Int64) (l0 : Nat) (l1 : Nat) (dm : Nat) (l3 : Nat) (ws_ : Nat → Int32) (yw : Nat → Int32) (yo : Nat → Int32) (be : Nat → Int64) (bf : Nat → Int64) (wn : Nat) (mN : Nat) (Ba : Nat → Nat) (We : Nat → Nat) (U : Nat → Bool) (ke : Nat) (lg : KLg) (L : LkS) (hil : il ≤ 1) (hild : il = 1 → 1 ≤ dm) (hilb : 1 ≤ dm → il = 1) (hdm : dm ≤ 9) (hLk : kcLk L) (hkl : (lK L).length ≤ 1600) (hmw0 : mwO L 0 u3 v3 cs) (hmw1 : mwO L 1 u4 v4 cs) (hB9 : ∀ j, Ba j ≤ 9) (hW9 : ∀ j, We j ≤ 9) (hwk : wn ≤ 999) (hcs : ∀ j, cs j ≤ 20000) (hnw : nwX wn mN Ba We U ke lg nw) (hpt : ∀ j, pt j ≤ 9) : skM l yX12_hushed cX12_hushed 3 (some .int) 5 122 0 0 D (skT cI cJ cC cZ cS) [.ref mm] [ro_ mm 12 (mo g (nI ta) (nI pa) (nI pe) pd (nI pb) pp pf pg pn rt rn (nI cd) sn (nI il) tk am at_ aa 0 0 (-1) wt wy 0 (nI rm) (nI ud) (nI nu) sd (nI qn) (nI qw) qo (nI qb) (nI qp) qa (nI qi) (nI oc)), ra_I (g 24) cI 6 (l6 u0 u1 u2 u3 u4 u5), ra_I (g 25) cI 6 (l6 v0 v1 v2 v3 v4 v5), ra_N (g 26) cI 3200 cs, ra_I (g 31) cI 120 nw, ra_N (g 46) cI 9 pt, ra_J (g 86) cJ 1700 ql, ra_I (g 20) cI 4 (l4 (nI l0) (nI l1) (nI dm) (nI l3)), ra_I (g 38) cI 90 ws_, ra_I (g 36) cZ 900 yw, ra_I (g 37) cZ 900 yo, ra_J (g 43) cJ 90 be, ra_J (g 44) cJ 90 bf] (skI D (skT cI cJ cC cZ cS) (fun (r : Int32) (u : va_W) => ∃ (tk2 : Int32), ∃ (qp2 : Nat), ∃ (am2 : Int32), ∃ (at_2 : Int32), ∃ (aa2 : Int32), ∃ (wy2 : Int64), ∃ (ql2 : Nat → Int64), ∃ (ws_2 : Nat → Int32), ∃ (yw2 : Nat → Int32), ∃ (yo2 : Nat → Int32), ∃ (be2 : Nat → Int64), ∃ (bf2 : Nat → Int64), hushR L dm wn mN Ba We U r ∧ u = [ro_ mm 12 (mo g (nI ta) (nI pa) (nI pe) pd (nI pb) pp pf pg pn rt rn (nI cd) sn (nI il) tk2 am2 at_2 aa2 0 0 (-1) wt wy2 0 (nI rm) (nI ud) (nI nu) sd (nI qn) (nI qw) qo (nI qb) (nI qp2) qa (nI qi) (nI oc)), ra_I (g 24) cI 6 (l6 u0 u1 u2 u3 u4 u5), ra_I (g 25) cI 6 (l6 v0 v1 v2 v3 v4 v5), ra_N (g 26) cI 3200 cs, ra_I (g 31) cI 120 nw, ra_N (g 46) cI 9 pt, ra_J (g 86) cJ 1700 ql2, ra_I (g 20) cI 4 (l4 (nI l0) (nI l1) (nI dm) (nI l3)), ra_I (g 38) cI 90 ws_2, ra_I (g 36) cZ 900 yw2, ra_I (g 37) cZ 900 yo2, ra_J (g 43) cJ 90 be2, ra_J (g 44) cJ 90 bf2])) := by
  refine skM_of pf_X12_hushed (Nat.le_of_ble_eq_true rfl) ?_
  intro p e s m below meth c A ls E hP hD hl
  refine skE_el E (fun hx hb hr hml hlocks hin hown hts hK hA => ?_)
  have hown : s.vm.findClass RX12 = some m.cls := hown
  have hS : va_S A s.heap s.heap [] := va_S.rf
  have hl : lv_has ls 3 [(0, .ref mm)] := hl
  refine lv_aload_n hx hb dX12_hushed_0 rfl (lv_at hl 0 rfl) ?_
  refine sk_get (v := .int (nI il)) (C := RX12) (T := TX12) (N := 92) hx hb hts inlX12 hown hK hP 0 rfl rfl 29 (Nat.le_of_ble_eq_true rfl) w_5_184 rfl dX12_hushed_1 ?_
  refine lv_if_ne (tgt := 9) hx hb dX12_hushed_4 (by decide) (fun c_1 => ?_) (fun c_1 => ?_)
  · have c_1 : ¬ (il = 0) := fun h => c_1 ((neq il 0 (by omega) (Nat.le_of_ble_eq_true rfl)).mpr h)
    refine lv_aload_n hx hb dX12_hushed_9 rfl (lv_at hl 0 rfl) ?_
    refine lv_iconst (v := 0) hx hb dX12_hushed_10 ic_0 ?_
    refine sk_Vv (q0 := 0) (n := 1) (rest := []) (wr := fmR om_13_1ffc _) ⟨hx, hb, hml, hown, hts⟩ hl.1 (c_nm_laysDays l D cI cJ cC cZ cS mm g ta pa pe pd pb pp pf pg pn rt rn cd sn il tk am at_ aa 0 wt wy 0 rm ud nu sd qn qw qo qb qp qa qi oc 0 u0 u1 u2 u3 u4 u5 v0 v1 v2 v3 v4 v5 cs nw pt ql l0 l1 dm l3 ws_ yw yo L wn Ba We hdm (by decide) hLk hkl hmw0 hmw1 hB9 hW9 hwk (fun d hd => nwX_md hnw (by omega)) hcs (nwX_ok hnw) hpt) w_7_193 w_7_195 w_0_83 w_1_14 w_7_196 hd_X12_laysDays_1 ⟨⟨(Nat.le_of_ble_eq_true rfl), (Nat.le_of_ble_eq_true rfl)⟩, (Nat.le_of_ble_eq_true rfl), (Nat.le_of_ble_eq_true rfl)⟩ hK hP hD hS hA (fmT om_13_1ffc 0) (fmF om_13_1ffc 0) (fm_C1 rfl rfl) (fm_R rfl rfl) (fm_nT om_13_1ffc 0) (fm_nF om_13_1ffc 0) (fm_di om_13_1ffc 0) rfl rfl rfl rfl (Nat.le_of_ble_eq_true rfl) dX12_hushed_11 (fun u H locs hw hP hD hS => ?_)
    refine exE hw (fun tk2_2 hw1 => exE hw1 (fun qp2_3 hw2 => exE hw2 (fun am2_4 hw3 => exE hw3 (fun at_2_5 hw4 => exE hw4 (fun aa2_6 hw5 => exE hw5 (fun ql2_7 hw6 => exE hw6 (fun ws_2_8 hw7 => exE hw7 (fun yw2_9 hw8 => exE hw8 (fun yo2_10 hw9 => anE hw9 (fun hld_11 eu_12 => ?_))))))))))
    clear hw hw1 hw2 hw3 hw4 hw5 hw6 hw7 hw8 hw9
    refine o_mgE (ws' := [ro_ mm 12 (mo g (nI ta) (nI pa) (nI pe) pd (nI pb) pp pf pg pn rt rn (nI cd) sn (nI il) tk2_2 am2_4 at_2_5 aa2_6 0 0 (-1) wt wy 0 (nI rm) (nI ud) (nI nu) sd (nI qn) (nI qw) qo (nI qb) (nI qp2_3) qa (nI qi) (nI oc)), ra_I (g 24) cI 6 (l6 u0 u1 u2 u3 u4 u5), ra_I (g 25) cI 6 (l6 v0 v1 v2 v3 v4 v5), ra_N (g 26) cI 3200 cs, ra_I (g 31) cI 120 nw, ra_N (g 46) cI 9 pt, ra_J (g 86) cJ 1700 ql2_7, ra_I (g 20) cI 4 (l4 (nI l0) (nI l1) (nI dm) (nI l3)), ra_I (g 38) cI 90 ws_2_8, ra_I (g 36) cZ 900 yw2_9, ra_I (g 37) cZ 900 yo2_10, ra_J (g 43) cJ 90 be, ra_J (g 44) cJ 90 bf]) eu_12 hP hD rfl (fun hP hD => ?_)
    have hp2 : 2 ^ dm ≤ 512 := Nat.pow_le_pow_right (n := 2) (by decide) hdm
    refine lv_iconst (v := (-1)) hx hb dX12_hushed_14 (by decide) ?_
    refine lv_istore_n (lv' := [(1, .int (-1)), (0, .ref mm)]) hx hb dX12_hushed_15 rfl hl (by decide) rfl (fun ls hl => ?_)
    refine lv_iconst (v := 0) hx hb dX12_hushed_16 ic_0 ?_
    refine lv_istore_n (lv' := [(2, .int 0), (1, .int (-1)), (0, .ref mm)]) hx hb dX12_hushed_17 rfl hl (by decide) rfl (fun ls hl => ?_)
    have lp_13 : ∀ (n_14 : Nat) (i : Nat) (be_ : Int32) (zwyh : Int64) (hb_ : Nat → Int64) (hf_ : Nat → Int64) (H : Heap) (locs : List Loc) (ls : Array Slot), 512 - i < n_14 → (i ≤ 2 ^ dm) → (hsI (fun s => svH L dm wn mN Ba We (kUs U s)) i be_) → va_P D vwCl [ro_ mm 12 (mo g (nI ta) (nI pa) (nI pe) pd (nI pb) pp pf pg pn rt rn (nI cd) sn (nI il) tk2_2 am2_4 at_2_5 aa2_6 0 0 (-1) wt zwyh 0 (nI rm) (nI ud) (nI nu) sd (nI qn) (nI qw) qo (nI qb) (nI qp2_3) qa (nI qi) (nI oc)), ra_I (g 24) cI 6 (l6 u0 u1 u2 u3 u4 u5), ra_I (g 25) cI 6 (l6 v0 v1 v2 v3 v4 v5), ra_N (g 26) cI 3200 cs, ra_I (g 31) cI 120 nw, ra_N (g 46) cI 9 pt, ra_J (g 86) cJ 1700 ql2_7, ra_I (g 20) cI 4 (l4 (nI l0) (nI l1) (nI dm) (nI l3)), ra_I (g 38) cI 90 ws_2_8, ra_I (g 36) cZ 900 yw2_9, ra_I (g 37) cZ 900 yo2_10, ra_J (g 43) cJ 90 hb_, ra_J (g 44) cJ 90 hf_] H → va_D A [ro_ mm 12 (mo g (nI ta) (nI pa) (nI pe) pd (nI pb) pp pf pg pn rt rn (nI cd) sn (nI il) tk2_2 am2_4 at_2_5 aa2_6 0 0 (-1) wt zwyh 0 (nI rm) (nI ud) (nI nu) sd (nI qn) (nI qw) qo (nI qb) (nI qp2_3) qa (nI qi) (nI oc)), ra_I (g 24) cI 6 (l6 u0 u1 u2 u3 u4 u5), ra_I (g 25) cI 6 (l6 v0 v1 v2 v3 v4 v5), ra_N (g 26) cI 3200 cs, ra_I (g 31) cI 120 nw, ra_N (g 46) cI 9 pt, ra_J (g 86) cJ 1700 ql2_7, ra_I (g 20) cI 4 (l4 (nI l0) (nI l1) (nI dm) (nI l3)), ra_I (g 38) cI 90 ws_2_8, ra_I (g 36) cZ 900 yw2_9, ra_I (g 37) cZ 900 yo2_10, ra_J (g 43) cJ 90 hb_, ra_J (g 44) cJ 90 hf_] → va_S A s.heap H locs → lv_has ls 3 [(2, .int (nI i)), (1, .int be_), (0, .ref mm)] → W p l e { frames := 5, cells := 0, slots := 0, locals := 122 } s m ([.ref mm] : List Value).toArray below meth c H locs 0 0 (MQ below (skI D (skT cI cJ cC cZ cS) (fun (r : Int32) (u : va_W) => ∃ (tk2 : Int32), ∃ (qp2 : Nat), ∃ (am2 : Int32), ∃ (at_2 : Int32), ∃ (aa2 : Int32), ∃ (wy2 : Int64), ∃ (ql2 : Nat → Int64), ∃ (ws_2 : Nat → Int32), ∃ (yw2 : Nat → Int32), ∃ (yo2 : Nat → Int32), ∃ (be2 : Nat → Int64), ∃ (bf2 : Nat → Int64), hushR L dm wn mN Ba We U r ∧ u = [ro_ mm 12 (mo g (nI ta) (nI pa) (nI pe) pd (nI pb) pp pf pg pn rt rn (nI cd) sn (nI il) tk2 am2 at_2 aa2 0 0 (-1) wt wy2 0 (nI rm) (nI ud) (nI nu) sd (nI qn) (nI qw) qo (nI qb) (nI qp2) qa (nI qi) (nI oc)), ra_I (g 24) cI 6 (l6 u0 u1 u2 u3 u4 u5), ra_I (g 25) cI 6 (l6 v0 v1 v2 v3 v4 v5), ra_N (g 26) cI 3200 cs, ra_I (g 31) cI 120 nw, ra_N (g 46) cI 9 pt, ra_J (g 86) cJ 1700 ql2, ra_I (g 20) cI 4 (l4 (nI l0) (nI l1) (nI dm) (nI l3)), ra_I (g 38) cI 90 ws_2, ra_I (g 36) cZ 900 yw2, ra_I (g 37) cZ 900 yo2, ra_J (g 43) cJ 90 be2, ra_J (g 44) cJ 90 bf2]) A) ([.ref mm] : List Value).toArray s 0 0 A) (F0 m 18 ls []) := by
      intro n_14
      induction n_14 with
      | zero => intro i be_ zwyh hb_ hf_ H locs ls hm; exact absurd hm (Nat.not_lt_zero _)
      | succ n_14 ih_lp_13 =>
        intro i be_ zwyh hb_ hf_ H locs ls hm hi hhs hP hD hS hl
        refine lv_iload_n hx hb dX12_hushed_18 rfl (lv_at hl 0 rfl) ?_
        refine lv_iconst (v := 1) hx hb dX12_hushed_19 ic_1 ?_
        refine lv_aload_n hx hb dX12_hushed_20 rfl (lv_at hl 2 rfl) ?_
        refine sk_Vi (q0 := 0) (n := 0) (rest := [.int 1, .int (nI i)]) (wr := fmR om_13_1020 _) ⟨hx, hb, hml, hown, hts⟩ hl.1 (c_m_dayMany l D cI cJ cC cZ cS mm g ta pa pe pd pb pp pf pg pn rt rn cd sn il tk2_2 am2_4 at_2_5 aa2_6 0 0 (-1) wt zwyh 0 rm ud nu sd qn qw qo qb qp2_3 qa qi oc l0 l1 dm l3) w_7_98 w_7_100 w_0_69 w_1_14 w_7_101 hd_X12_dayMany_0 ⟨⟨(Nat.le_of_ble_eq_true rfl), (Nat.le_of_ble_eq_true rfl)⟩, (Nat.le_of_ble_eq_true rfl), (Nat.le_of_ble_eq_true rfl)⟩ hK hP hD hS hA (fmT om_13_1020 0) (fmF om_13_1020 0) (fm_C1 rfl rfl) (fm_R rfl rfl) (fm_nT om_13_1020 0) (fm_nF om_13_1020 0) (fm_di om_13_1020 0) rfl rfl rfl rfl (Nat.le_of_ble_eq_true rfl) dX12_hushed_21 (fun r_15 u H locs hw hP hD hS => ?_)
        refine anE hw (fun er_17 eu_16 => ?_)
        clear hw
        subst er_17
        refine o_mgE (ws' := [ro_ mm 12 (mo g (nI ta) (nI pa) (nI pe) pd (nI pb) pp pf pg pn rt rn (nI cd) sn (nI il) tk2_2 am2_4 at_2_5 aa2_6 0 0 (-1) wt zwyh 0 (nI rm) (nI ud) (nI nu) sd (nI qn) (nI qw) qo (nI qb) (nI qp2_3) qa (nI qi) (nI oc)), ra_I (g 24) cI 6 (l6 u0 u1 u2 u3 u4 u5), ra_I (g 25) cI 6 (l6 v0 v1 v2 v3 v4 v5), ra_N (g 26) cI 3200 cs, ra_I (g 31) cI 120 nw, ra_N (g 46) cI 9 pt, ra_J (g 86) cJ 1700 ql2_7, ra_I (g 20) cI 4 (l4 (nI l0) (nI l1) (nI dm) (nI l3)), ra_I (g 38) cI 90 ws_2_8, ra_I (g 36) cZ 900 yw2_9, ra_I (g 37) cZ 900 yo2_10, ra_J (g 43) cJ 90 hb_, ra_J (g 44) cJ 90 hf_]) eu_16 hP hD rfl (fun hP hD => ?_)
        refine lv_ishl hx hb dX12_hushed_24 ?_
        refine sk_top (nI (2 ^ dm)) (kshl1 (show dm < 10 by omega)).1 ?_
        refine lv_icmp_ge (tgt := 60) hx hb dX12_hushed_25 (by decide) (fun c_18 => ?_) (fun c_18 => ?_)
        · have c_18 : 2 ^ dm ≤ i := (nle (2 ^ dm) i (by omega) (by omega)).mp c_18
          refine lv_iload_n hx hb dX12_hushed_60 rfl (lv_at hl 1 rfl) ?_
          exact sk_iret hx hb hr rfl hlocks hK hP hD hS (⟨tk2_2, qp2_3, am2_4, at_2_5, aa2_6, zwyh, ql2_7, ws_2_8, yw2_9, yo2_10, hb_, hf_, (kB_1 (by omega) (hs_e hhs (by omega))), rfl⟩) (Nat.le_of_ble_eq_true rfl) (Nat.le_of_ble_eq_true rfl) dX12_hushed_61
        · have c_18 : ¬ (2 ^ dm ≤ i) := fun h => c_18 ((nle (2 ^ dm) i (by omega) (by omega)).mpr h)
          refine lv_iload_n hx hb dX12_hushed_28 rfl (lv_at hl 1 rfl) ?_
          refine lv_iconst (v := (-1)) hx hb dX12_hushed_29 (by decide) ?_
          refine lv_icmp_eq (tgt := 44) hx hb dX12_hushed_30 (by decide) (fun c_19 => ?_) (fun c_19 => ?_)
          · skip
            refine lv_aload_n hx hb dX12_hushed_44 rfl (lv_at hl 2 rfl) ?_
            refine lv_iload_n hx hb dX12_hushed_45 rfl (lv_at hl 0 rfl) ?_
            refine sk_Vi (q0 := 0) (n := 1) (rest := []) (wr := fmR om_13_112f _) ⟨hx, hb, hml, hown, hts⟩ hl.1 (c_vm_doesAgreeF l D cI cJ cC cZ cS mm g ta pa pe pd pb pp pf pg pn rt rn cd sn il tk2_2 am2_4 at_2_5 aa2_6 wt zwyh rm ud nu sd qn qw qo qb qp2_3 qa qi oc i l0 l1 dm l3 nw yo2_10 yw2_9 hb_ hf_ wn mN Ba We U ke lg L ws_2_8 0 hdm (by omega) (by omega) hld_11 hnw) w_7_229 w_7_231 w_0_89 w_1_14 w_7_232 hd_X12_doesAgree_1 ⟨⟨(Nat.le_of_ble_eq_true rfl), (Nat.le_of_ble_eq_true rfl)⟩, (Nat.le_of_ble_eq_true rfl), (Nat.le_of_ble_eq_true rfl)⟩ hK hP hD hS hA [0, 7, 4, 10, 9, 11, 12] (fmF om_13_112f 0) rfl (fm_R rfl rfl) (by decide +kernel) (fm_nF om_13_112f 0) (by decide +kernel) rfl rfl rfl rfl (Nat.le_of_ble_eq_true rfl) dX12_hushed_46 (fun r_24 u H locs hw hP hD hS => ?_)
            refine exE hw (fun b_20 hw1 => exE hw1 (fun wy2_21 hw2 => exE hw2 (fun be2_22 hw3 => exE hw3 (fun bf2_23 hw4 => anE hw4 (fun hmw_25 hw5 => anE hw5 (fun hbe_26 hw6 => anE hw6 (fun hwy_27 hw7 => anE hw7 (fun hb1_28 hw8 => anE hw8 (fun er_30 eu_29 => ?_)))))))))
            clear hw hw1 hw2 hw3 hw4 hw5 hw6 hw7 hw8
            subst er_30
            refine o_mgqE (ux := [ro_ mm 12 (mo g (nI ta) (nI pa) (nI pe) pd (nI pb) pp pf pg pn rt rn (nI cd) sn (nI il) tk2_2 am2_4 at_2_5 aa2_6 0 0 (-1) wt wy2_21 0 (nI rm) (nI ud) (nI nu) sd (nI qn) (nI qw) qo (nI qb) (nI qp2_3) qa (nI qi) (nI oc)), ra_I (g 31) cI 120 nw, ra_I (g 20) cI 4 (l4 (nI l0) (nI l1) (nI dm) (nI l3)), ra_I (g 36) cZ 900 yw2_9, ra_I (g 37) cZ 900 yo2_10, ra_J (g 43) cJ 90 be2_22, ra_J (g 44) cJ 90 bf2_23]) (ws' := [ro_ mm 12 (mo g (nI ta) (nI pa) (nI pe) pd (nI pb) pp pf pg pn rt rn (nI cd) sn (nI il) tk2_2 am2_4 at_2_5 aa2_6 0 0 (-1) wt wy2_21 0 (nI rm) (nI ud) (nI nu) sd (nI qn) (nI qw) qo (nI qb) (nI qp2_3) qa (nI qi) (nI oc)), ra_I (g 24) cI 6 (l6 u0 u1 u2 u3 u4 u5), ra_I (g 25) cI 6 (l6 v0 v1 v2 v3 v4 v5), ra_N (g 26) cI 3200 cs, ra_I (g 31) cI 120 nw, ra_N (g 46) cI 9 pt, ra_J (g 86) cJ 1700 ql2_7, ra_I (g 20) cI 4 (l4 (nI l0) (nI l1) (nI dm) (nI l3)), ra_I (g 38) cI 90 ws_2_8, ra_I (g 36) cZ 900 yw2_9, ra_I (g 37) cZ 900 yo2_10, ra_J (g 43) cJ 90 be2_22, ra_J (g 44) cJ 90 bf2_23]) eu_29 [0, 2, 1, 4, 3, 5, 6] (by decide +kernel) rfl hP hD rfl (fun hP hD => ?_)
            refine lv_if_eq (tgt := 54) hx hb dX12_hushed_49 (by decide) (fun c_31 => ?_) (fun c_31 => ?_)
            · have c_31 : b_20 = 0 := (neq b_20 0 (by omega) (Nat.le_of_ble_eq_true rfl)).mp c_31
              refine lv_iinc (v := nI (i + 1)) (lv' := [(2, .int (nI (i + 1))), (1, .int be_), (0, .ref mm)]) hx hb dX12_hushed_54 hl (k := 0) rfl (ninc i 1 (by decide)) (by decide) rfl (fun ls hl => ?_)
              refine lv_goto (tgt := 18) hx hb dX12_hushed_57 (by decide) ?_
              exact ih_lp_13 (i + 1) be_ wy2_21 be2_22 bf2_23 _ _ _ (by omega) (by omega) (hsI_n hhs (fun q => absurd q (Nat.not_lt.mpr (Nat.le_of_eq (rr_0 hb1_28 (by omega)))))) hP hD hS (lv_sub hl [0, 1, 2] rfl)
            · have c_31 : ¬ (b_20 = 0) := fun h => c_31 ((neq b_20 0 (by omega) (Nat.le_of_ble_eq_true rfl)).mpr h)
              refine lv_iload_n hx hb dX12_hushed_52 rfl (lv_at hl 0 rfl) ?_
              refine lv_istore_n (lv' := [(1, .int (nI i)), (2, .int (nI i)), (0, .ref mm)]) hx hb dX12_hushed_53 rfl hl (by decide) rfl (fun ls hl => ?_)
              refine lv_iinc (v := nI (i + 1)) (lv' := [(2, .int (nI (i + 1))), (1, .int (nI i)), (0, .ref mm)]) hx hb dX12_hushed_54 hl (k := 1) rfl (ninc i 1 (by decide)) (by decide) rfl (fun ls hl => ?_)
              refine lv_goto (tgt := 18) hx hb dX12_hushed_57 (by decide) ?_
              exact ih_lp_13 (i + 1) (nI i) wy2_21 be2_22 bf2_23 _ _ _ (by omega) (by omega) (hsI_1 hhs (by omega) c_19 (rr_1 hb1_28 (by omega))) hP hD hS (lv_sub hl [0, 1, 2] rfl)
          · skip
            obtain ⟨sb, hs1, hs2, hs3, hs4, hs5⟩ := hs_k hhs c_19
            subst hs3
            refine lv_iload_n hx hb dX12_hushed_33 rfl (lv_at hl 0 rfl) ?_
            refine sk_Si (n := 1) (rest := []) (wr := [ro_ mm 12 (mo g (nI ta) (nI pa) (nI pe) pd (nI pb) pp pf pg pn rt rn (nI cd) sn (nI il) tk2_2 am2_4 at_2_5 aa2_6 0 0 (-1) wt zwyh 0 (nI rm) (nI ud) (nI nu) sd (nI qn) (nI qw) qo (nI qb) (nI qp2_3) qa (nI qi) (nI oc)), ra_I (g 24) cI 6 (l6 u0 u1 u2 u3 u4 u5), ra_I (g 25) cI 6 (l6 v0 v1 v2 v3 v4 v5), ra_N (g 26) cI 3200 cs, ra_I (g 31) cI 120 nw, ra_N (g 46) cI 9 pt, ra_J (g 86) cJ 1700 ql2_7, ra_I (g 20) cI 4 (l4 (nI l0) (nI l1) (nI dm) (nI l3)), ra_I (g 38) cI 90 ws_2_8, ra_I (g 36) cZ 900 yw2_9, ra_I (g 37) cZ 900 yo2_10, ra_J (g 43) cJ 90 hb_, ra_J (g 44) cJ 90 hf_]) ⟨hx, hb, hml, hown, hts⟩ hl.1 (c_nm_bitsX l D cI cJ cC cZ cS i (by omega)) w_7_110 w_7_111 w_1_14 w_7_112 hd_X12_bits_1 ⟨⟨(Nat.le_of_ble_eq_true rfl), (Nat.le_of_ble_eq_true rfl)⟩, (Nat.le_of_ble_eq_true rfl), (Nat.le_of_ble_eq_true rfl)⟩ hK hP hD hS hA [] [0, 1, 2, 3, 4, 5, 6, 7, 8, 9, 10, 11, 12] rfl rfl (by decide +kernel) (by decide +kernel) (by decide +kernel) rfl rfl (Nat.le_of_ble_eq_true rfl) dX12_hushed_34 (fun r_32 u H locs hw hP hD hS => ?_)
            obtain ⟨hr_33, rfl⟩ := hw
            refine o_re (ws' := [ro_ mm 12 (mo g (nI ta) (nI pa) (nI pe) pd (nI pb) pp pf pg pn rt rn (nI cd) sn (nI il) tk2_2 am2_4 at_2_5 aa2_6 0 0 (-1) wt zwyh 0 (nI rm) (nI ud) (nI nu) sd (nI qn) (nI qw) qo (nI qb) (nI qp2_3) qa (nI qi) (nI oc)), ra_I (g 24) cI 6 (l6 u0 u1 u2 u3 u4 u5), ra_I (g 25) cI 6 (l6 v0 v1 v2 v3 v4 v5), ra_N (g 26) cI 3200 cs, ra_I (g 31) cI 120 nw, ra_N (g 46) cI 9 pt, ra_J (g 86) cJ 1700 ql2_7, ra_I (g 20) cI 4 (l4 (nI l0) (nI l1) (nI dm) (nI l3)), ra_I (g 38) cI 90 ws_2_8, ra_I (g 36) cZ 900 yw2_9, ra_I (g 37) cZ 900 yo2_10, ra_J (g 43) cJ 90 hb_, ra_J (g 44) cJ 90 hf_]) hP hD rfl (fun hP hD => ?_)
            have hk9_34 := kpop_9 i (by omega)
            subst hr_33
            refine lv_iload_n hx hb dX12_hushed_37 rfl (lv_at hl 1 rfl) ?_
            refine sk_Si (n := 1) (rest := [.int (nI (kpop i))]) (wr := [ro_ mm 12 (mo g (nI ta) (nI pa) (nI pe) pd (nI pb) pp pf pg pn rt rn (nI cd) sn (nI il) tk2_2 am2_4 at_2_5 aa2_6 0 0 (-1) wt zwyh 0 (nI rm) (nI ud) (nI nu) sd (nI qn) (nI qw) qo (nI qb) (nI qp2_3) qa (nI qi) (nI oc)), ra_I (g 24) cI 6 (l6 u0 u1 u2 u3 u4 u5), ra_I (g 25) cI 6 (l6 v0 v1 v2 v3 v4 v5), ra_N (g 26) cI 3200 cs, ra_I (g 31) cI 120 nw, ra_N (g 46) cI 9 pt, ra_J (g 86) cJ 1700 ql2_7, ra_I (g 20) cI 4 (l4 (nI l0) (nI l1) (nI dm) (nI l3)), ra_I (g 38) cI 90 ws_2_8, ra_I (g 36) cZ 900 yw2_9, ra_I (g 37) cZ 900 yo2_10, ra_J (g 43) cJ 90 hb_, ra_J (g 44) cJ 90 hf_]) ⟨hx, hb, hml, hown, hts⟩ hl.1 (c_nm_bitsX l D cI cJ cC cZ cS sb (by omega)) w_7_110 w_7_111 w_1_14 w_7_112 hd_X12_bits_1 ⟨⟨(Nat.le_of_ble_eq_true rfl), (Nat.le_of_ble_eq_true rfl)⟩, (Nat.le_of_ble_eq_true rfl), (Nat.le_of_ble_eq_true rfl)⟩ hK hP hD hS hA [] [0, 1, 2, 3, 4, 5, 6, 7, 8, 9, 10, 11, 12] rfl rfl (by decide +kernel) (by decide +kernel) (by decide +kernel) rfl rfl (Nat.le_of_ble_eq_true rfl) dX12_hushed_38 (fun r_35 u H locs hw hP hD hS => ?_)
            obtain ⟨hr_36, rfl⟩ := hw
            refine o_re (ws' := [ro_ mm 12 (mo g (nI ta) (nI pa) (nI pe) pd (nI pb) pp pf pg pn rt rn (nI cd) sn (nI il) tk2_2 am2_4 at_2_5 aa2_6 0 0 (-1) wt zwyh 0 (nI rm) (nI ud) (nI nu) sd (nI qn) (nI qw) qo (nI qb) (nI qp2_3) qa (nI qi) (nI oc)), ra_I (g 24) cI 6 (l6 u0 u1 u2 u3 u4 u5), ra_I (g 25) cI 6 (l6 v0 v1 v2 v3 v4 v5), ra_N (g 26) cI 3200 cs, ra_I (g 31) cI 120 nw, ra_N (g 46) cI 9 pt, ra_J (g 86) cJ 1700 ql2_7, ra_I (g 20) cI 4 (l4 (nI l0) (nI l1) (nI dm) (nI l3)), ra_I (g 38) cI 90 ws_2_8, ra_I (g 36) cZ 900 yw2_9, ra_I (g 37) cZ 900 yo2_10, ra_J (g 43) cJ 90 hb_, ra_J (g 44) cJ 90 hf_]) hP hD rfl (fun hP hD => ?_)
            have hk9_37 := kpop_9 sb (by omega)
            subst hr_36
            refine lv_icmp_ge (tgt := 54) hx hb dX12_hushed_41 (by decide) (fun c_38 => ?_) (fun c_38 => ?_)
            · have hge_ : kpop sb ≤ kpop i := (nle (kpop sb) (kpop i) (by omega) (by omega)).mp c_38
              refine lv_iinc (v := nI (i + 1)) (lv' := [(2, .int (nI (i + 1))), (1, .int (nI sb)), (0, .ref mm)]) hx hb dX12_hushed_54 hl (k := 0) rfl (ninc i 1 (by decide)) (by decide) rfl (fun ls hl => ?_)
              refine lv_goto (tgt := 18) hx hb dX12_hushed_57 (by decide) ?_
              exact ih_lp_13 (i + 1) (nI sb) zwyh hb_ hf_ _ _ _ (by omega) (by omega) (hsI_3 hs1 hs2 hs4 hs5 (by omega)) hP hD hS (lv_sub hl [0, 1, 2] rfl)
            · have hlt_ : kpop i < kpop sb := Nat.lt_of_not_le (fun hq => c_38 ((nle (kpop sb) (kpop i) (by omega) (by omega)).mpr hq))
              refine lv_aload_n hx hb dX12_hushed_44 rfl (lv_at hl 2 rfl) ?_
              refine lv_iload_n hx hb dX12_hushed_45 rfl (lv_at hl 0 rfl) ?_
              refine sk_Vi (q0 := 0) (n := 1) (rest := []) (wr := fmR om_13_112f _) ⟨hx, hb, hml, hown, hts⟩ hl.1 (c_vm_doesAgreeF l D cI cJ cC cZ cS mm g ta pa pe pd pb pp pf pg pn rt rn cd sn il tk2_2 am2_4 at_2_5 aa2_6 wt zwyh rm ud nu sd qn qw qo qb qp2_3 qa qi oc i l0 l1 dm l3 nw yo2_10 yw2_9 hb_ hf_ wn mN Ba We U ke lg L ws_2_8 0 hdm (by omega) (by omega) hld_11 hnw) w_7_229 w_7_231 w_0_89 w_1_14 w_7_232 hd_X12_doesAgree_1 ⟨⟨(Nat.le_of_ble_eq_true rfl), (Nat.le_of_ble_eq_true rfl)⟩, (Nat.le_of_ble_eq_true rfl), (Nat.le_of_ble_eq_true rfl)⟩ hK hP hD hS hA [0, 7, 4, 10, 9, 11, 12] (fmF om_13_112f 0) rfl (fm_R rfl rfl) (by decide +kernel) (fm_nF om_13_112f 0) (by decide +kernel) rfl rfl rfl rfl (Nat.le_of_ble_eq_true rfl) dX12_hushed_46 (fun r_43 u H locs hw hP hD hS => ?_)
              refine exE hw (fun b_39 hw1 => exE hw1 (fun wy2_40 hw2 => exE hw2 (fun be2_41 hw3 => exE hw3 (fun bf2_42 hw4 => anE hw4 (fun hmw_44 hw5 => anE hw5 (fun hbe_45 hw6 => anE hw6 (fun hwy_46 hw7 => anE hw7 (fun hb1_47 hw8 => anE hw8 (fun er_49 eu_48 => ?_)))))))))
              clear hw hw1 hw2 hw3 hw4 hw5 hw6 hw7 hw8
              subst er_49
              refine o_mgqE (ux := [ro_ mm 12 (mo g (nI ta) (nI pa) (nI pe) pd (nI pb) pp pf pg pn rt rn (nI cd) sn (nI il) tk2_2 am2_4 at_2_5 aa2_6 0 0 (-1) wt wy2_40 0 (nI rm) (nI ud) (nI nu) sd (nI qn) (nI qw) qo (nI qb) (nI qp2_3) qa (nI qi) (nI oc)), ra_I (g 31) cI 120 nw, ra_I (g 20) cI 4 (l4 (nI l0) (nI l1) (nI dm) (nI l3)), ra_I (g 36) cZ 900 yw2_9, ra_I (g 37) cZ 900 yo2_10, ra_J (g 43) cJ 90 be2_41, ra_J (g 44) cJ 90 bf2_42]) (ws' := [ro_ mm 12 (mo g (nI ta) (nI pa) (nI pe) pd (nI pb) pp pf pg pn rt rn (nI cd) sn (nI il) tk2_2 am2_4 at_2_5 aa2_6 0 0 (-1) wt wy2_40 0 (nI rm) (nI ud) (nI nu) sd (nI qn) (nI qw) qo (nI qb) (nI qp2_3) qa (nI qi) (nI oc)), ra_I (g 24) cI 6 (l6 u0 u1 u2 u3 u4 u5), ra_I (g 25) cI 6 (l6 v0 v1 v2 v3 v4 v5), ra_N (g 26) cI 3200 cs, ra_I (g 31) cI 120 nw, ra_N (g 46) cI 9 pt, ra_J (g 86) cJ 1700 ql2_7, ra_I (g 20) cI 4 (l4 (nI l0) (nI l1) (nI dm) (nI l3)), ra_I (g 38) cI 90 ws_2_8, ra_I (g 36) cZ 900 yw2_9, ra_I (g 37) cZ 900 yo2_10, ra_J (g 43) cJ 90 be2_41, ra_J (g 44) cJ 90 bf2_42]) eu_48 [0, 2, 1, 4, 3, 5, 6] (by decide +kernel) rfl hP hD rfl (fun hP hD => ?_)
              refine lv_if_eq (tgt := 54) hx hb dX12_hushed_49 (by decide) (fun c_50 => ?_) (fun c_50 => ?_)
              · have c_50 : b_39 = 0 := (neq b_39 0 (by omega) (Nat.le_of_ble_eq_true rfl)).mp c_50
                refine lv_iinc (v := nI (i + 1)) (lv' := [(2, .int (nI (i + 1))), (1, .int (nI sb)), (0, .ref mm)]) hx hb dX12_hushed_54 hl (k := 0) rfl (ninc i 1 (by decide)) (by decide) rfl (fun ls hl => ?_)
                refine lv_goto (tgt := 18) hx hb dX12_hushed_57 (by decide) ?_
                exact ih_lp_13 (i + 1) (nI sb) wy2_40 be2_41 bf2_42 _ _ _ (by omega) (by omega) (hsI_n (hsI_k hs1 hs2 hs4 hs5) (fun q => absurd q (Nat.not_lt.mpr (Nat.le_of_eq (rr_0 hb1_47 (by omega)))))) hP hD hS (lv_sub hl [0, 1, 2] rfl)
              · have c_50 : ¬ (b_39 = 0) := fun h => c_50 ((neq b_39 0 (by omega) (Nat.le_of_ble_eq_true rfl)).mpr h)
                refine lv_iload_n hx hb dX12_hushed_52 rfl (lv_at hl 0 rfl) ?_
                refine lv_istore_n (lv' := [(1, .int (nI i)), (2, .int (nI i)), (0, .ref mm)]) hx hb dX12_hushed_53 rfl hl (by decide) rfl (fun ls hl => ?_)
                refine lv_iinc (v := nI (i + 1)) (lv' := [(2, .int (nI (i + 1))), (1, .int (nI i)), (0, .ref mm)]) hx hb dX12_hushed_54 hl (k := 1) rfl (ninc i 1 (by decide)) (by decide) rfl (fun ls hl => ?_)
                refine lv_goto (tgt := 18) hx hb dX12_hushed_57 (by decide) ?_
                exact ih_lp_13 (i + 1) (nI i) wy2_40 be2_41 bf2_42 _ _ _ (by omega) (by omega) (hsI_2 hs1 (by omega) hs5 (rr_1 hb1_47 (by omega)) (by omega)) hP hD hS (lv_sub hl [0, 1, 2] rfl)
    exact lp_13 (512 - 0 + 1) 0 (-1) wy be bf _ _ _ (Nat.lt_succ_self _) (Nat.zero_le _) (hsI_0 _) hP hD hS (lv_sub hl [0, 1, 2] rfl)
  · have c_1 : il = 0 := (neq il 0 (by omega) (Nat.le_of_ble_eq_true rfl)).mp c_1
    refine lv_iconst (v := (-1)) hx hb dX12_hushed_7 (by decide) ?_
    exact sk_iret hx hb hr rfl hlocks hK hP hD hS (⟨tk, qp, am, at_, aa, wy, ql, ws_, yw, yo, be, bf, (kB_0 (by omega) rfl), rfl⟩) (Nat.le_of_ble_eq_true rfl) (Nat.le_of_ble_eq_true rfl) dX12_hushed_8
theorem dg_X12_wished_0_0 : bqL cX12_wished 0 [(0, [42]), (1, [27]), (2, [182, 1, 157]), (5, [153, 0, 11]), (16, [2]), (17, [172]), (8, [42]), (9, [28]), (10, [182, 1, 162]), (13, [154, 0, 5]), (18, [42]), (19, [3]), (20, [182, 1, 129]), (23, [2]), (24, [62]), (25, [3]), (26, [54, 4]), (28, [21, 4]), (30, [4]), (31, [42]), (32, [182, 1, 59]), (35, [120]), (36, [162, 0, 72]), (108, [29]), (109, [172]), (39, [29]), (40, [2]), (41, [159, 0, 15]), (56, [42]), (57, [21, 4]), (59, [182, 1, 167]), (62, [154, 0, 6]), (68, [42]), (69, [180, 0, 86]), (72, [16, 10]), (74, [27]), (75, [104]), (76, [28]), (77, [96]), (78, [47])] = true := by decide +kernel
theorem dX12_wished_0 : decode cX12_wished 0 = .ok (.aload_n 0, 1) := q_aload_n0 (bat_get dg_X12_wished_0_0 0 rfl rfl)
theorem dX12_wished_1 : decode cX12_wished 1 = .ok (.iload_n 1, 1) := q_iload_n1 (bat_get dg_X12_wished_0_0 1 rfl rfl)
theorem dX12_wished_2 : decode cX12_wished 2 = .ok (.invokevirtual 413, 3) := q_invokevirtual (bat_get dg_X12_wished_0_0 2 rfl rfl) rfl
theorem dX12_wished_5 : decode cX12_wished 5 = .ok (.ifCond .eq 11, 3) := q_ifCond_eq (bat_get dg_X12_wished_0_0 3 rfl rfl) rfl
theorem dX12_wished_16 : decode cX12_wished 16 = .ok (.iconst (-1), 1) := q_iconstm1 (bat_get dg_X12_wished_0_0 4 rfl rfl)
theorem dX12_wished_17 : decode cX12_wished 17 = .ok (.ireturn, 1) := q_ireturn (bat_get dg_X12_wished_0_0 5 rfl rfl)
theorem dX12_wished_8 : decode cX12_wished 8 = .ok (.aload_n 0, 1) := q_aload_n0 (bat_get dg_X12_wished_0_0 6 rfl rfl)
theorem dX12_wished_9 : decode cX12_wished 9 = .ok (.iload_n 2, 1) := q_iload_n2 (bat_get dg_X12_wished_0_0 7 rfl rfl)
theorem dX12_wished_10 : decode cX12_wished 10 = .ok (.invokevirtual 418, 3) := q_invokevirtual (bat_get dg_X12_wished_0_0 8 rfl rfl) rfl
theorem dX12_wished_13 : decode cX12_wished 13 = .ok (.ifCond .ne 5, 3) := q_ifCond_ne (bat_get dg_X12_wished_0_0 9 rfl rfl) rfl
theorem dX12_wished_18 : decode cX12_wished 18 = .ok (.aload_n 0, 1) := q_aload_n0 (bat_get dg_X12_wished_0_0 10 rfl rfl)
theorem dX12_wished_19 : decode cX12_wished 19 = .ok (.iconst 0, 1) := q_iconst0 (bat_get dg_X12_wished_0_0 11 rfl rfl)
theorem dX12_wished_20 : decode cX12_wished 20 = .ok (.invokevirtual 385, 3) := q_invokevirtual (bat_get dg_X12_wished_0_0 12 rfl rfl) rfl
theorem dX12_wished_23 : decode cX12_wished 23 = .ok (.iconst (-1), 1) := q_iconstm1 (bat_get dg_X12_wished_0_0 13 rfl rfl)
theorem dX12_wished_24 : decode cX12_wished 24 = .ok (.istore_n 3, 1) := q_istore_n3 (bat_get dg_X12_wished_0_0 14 rfl rfl)
theorem dX12_wished_25 : decode cX12_wished 25 = .ok (.iconst 0, 1) := q_iconst0 (bat_get dg_X12_wished_0_0 15 rfl rfl)
theorem dX12_wished_26 : decode cX12_wished 26 = .ok (.istore 4, 2) := q_istore (bat_get dg_X12_wished_0_0 16 rfl rfl)
theorem dX12_wished_28 : decode cX12_wished 28 = .ok (.iload 4, 2) := q_iload (bat_get dg_X12_wished_0_0 17 rfl rfl)
theorem dX12_wished_30 : decode cX12_wished 30 = .ok (.iconst 1, 1) := q_iconst1 (bat_get dg_X12_wished_0_0 18 rfl rfl)
theorem dX12_wished_31 : decode cX12_wished 31 = .ok (.aload_n 0, 1) := q_aload_n0 (bat_get dg_X12_wished_0_0 19 rfl rfl)
theorem dX12_wished_32 : decode cX12_wished 32 = .ok (.invokevirtual 315, 3) := q_invokevirtual (bat_get dg_X12_wished_0_0 20 rfl rfl) rfl
theorem dX12_wished_35 : decode cX12_wished 35 = .ok (.ishl, 1) := q_ishl (bat_get dg_X12_wished_0_0 21 rfl rfl)
theorem dX12_wished_36 : decode cX12_wished 36 = .ok (.if_icmp .ge 72, 3) := q_if_icmp_ge (bat_get dg_X12_wished_0_0 22 rfl rfl) rfl
theorem dX12_wished_108 : decode cX12_wished 108 = .ok (.iload_n 3, 1) := q_iload_n3 (bat_get dg_X12_wished_0_0 23 rfl rfl)
theorem dX12_wished_109 : decode cX12_wished 109 = .ok (.ireturn, 1) := q_ireturn (bat_get dg_X12_wished_0_0 24 rfl rfl)
theorem dX12_wished_39 : decode cX12_wished 39 = .ok (.iload_n 3, 1) := q_iload_n3 (bat_get dg_X12_wished_0_0 25 rfl rfl)
theorem dX12_wished_40 : decode cX12_wished 40 = .ok (.iconst (-1), 1) := q_iconstm1 (bat_get dg_X12_wished_0_0 26 rfl rfl)
theorem dX12_wished_41 : decode cX12_wished 41 = .ok (.if_icmp .eq 15, 3) := q_if_icmp_eq (bat_get dg_X12_wished_0_0 27 rfl rfl) rfl
theorem dX12_wished_56 : decode cX12_wished 56 = .ok (.aload_n 0, 1) := q_aload_n0 (bat_get dg_X12_wished_0_0 28 rfl rfl)
theorem dX12_wished_57 : decode cX12_wished 57 = .ok (.iload 4, 2) := q_iload (bat_get dg_X12_wished_0_0 29 rfl rfl)
theorem dX12_wished_59 : decode cX12_wished 59 = .ok (.invokevirtual 423, 3) := q_invokevirtual (bat_get dg_X12_wished_0_0 30 rfl rfl) rfl
theorem dX12_wished_62 : decode cX12_wished 62 = .ok (.ifCond .ne 6, 3) := q_ifCond_ne (bat_get dg_X12_wished_0_0 31 rfl rfl) rfl
theorem dX12_wished_68 : decode cX12_wished 68 = .ok (.aload_n 0, 1) := q_aload_n0 (bat_get dg_X12_wished_0_0 32 rfl rfl)
theorem dX12_wished_69 : decode cX12_wished 69 = .ok (.getfield 86, 3) := q_getfield (bat_get dg_X12_wished_0_0 33 rfl rfl) rfl
theorem dX12_wished_72 : decode cX12_wished 72 = .ok (.bipush 10, 2) := q_bipush (bat_get dg_X12_wished_0_0 34 rfl rfl) rfl
theorem dX12_wished_74 : decode cX12_wished 74 = .ok (.iload_n 1, 1) := q_iload_n1 (bat_get dg_X12_wished_0_0 35 rfl rfl)
theorem dX12_wished_75 : decode cX12_wished 75 = .ok (.imul, 1) := q_imul (bat_get dg_X12_wished_0_0 36 rfl rfl)
theorem dX12_wished_76 : decode cX12_wished 76 = .ok (.iload_n 2, 1) := q_iload_n2 (bat_get dg_X12_wished_0_0 37 rfl rfl)
theorem dX12_wished_77 : decode cX12_wished 77 = .ok (.iadd, 1) := q_iadd (bat_get dg_X12_wished_0_0 38 rfl rfl)
theorem dX12_wished_78 : decode cX12_wished 78 = .ok (.laload, 1) := q_laload (bat_get dg_X12_wished_0_0 39 rfl rfl)
theorem dg_X12_wished_44_79 : bqL cX12_wished 44 [(35, [42]), (36, [180, 0, 82]), (39, [16, 10]), (41, [27]), (42, [104]), (43, [28]), (44, [96]), (45, [47]), (46, [105]), (47, [42]), (48, [180, 1, 126]), (51, [148]), (52, [154, 0, 6]), (58, [132, 4, 1]), (61, [167, 255, 179]), (55, [21, 4]), (57, [62]), (21, [167, 0, 37]), (0, [21, 4]), (2, [184, 1, 153]), (5, [29]), (6, [184, 1, 153]), (9, [162, 0, 49])] = true := by decide +kernel
theorem dX12_wished_79 : decode cX12_wished 79 = .ok (.aload_n 0, 1) := q_aload_n0 (bat_get dg_X12_wished_44_79 0 rfl rfl)
theorem dX12_wished_80 : decode cX12_wished 80 = .ok (.getfield 82, 3) := q_getfield (bat_get dg_X12_wished_44_79 1 rfl rfl) rfl
theorem dX12_wished_83 : decode cX12_wished 83 = .ok (.bipush 10, 2) := q_bipush (bat_get dg_X12_wished_44_79 2 rfl rfl) rfl
theorem dX12_wished_85 : decode cX12_wished 85 = .ok (.iload_n 1, 1) := q_iload_n1 (bat_get dg_X12_wished_44_79 3 rfl rfl)
theorem dX12_wished_86 : decode cX12_wished 86 = .ok (.imul, 1) := q_imul (bat_get dg_X12_wished_44_79 4 rfl rfl)
theorem dX12_wished_87 : decode cX12_wished 87 = .ok (.iload_n 2, 1) := q_iload_n2 (bat_get dg_X12_wished_44_79 5 rfl rfl)
theorem dX12_wished_88 : decode cX12_wished 88 = .ok (.iadd, 1) := q_iadd (bat_get dg_X12_wished_44_79 6 rfl rfl)
theorem dX12_wished_89 : decode cX12_wished 89 = .ok (.laload, 1) := q_laload (bat_get dg_X12_wished_44_79 7 rfl rfl)
theorem dX12_wished_90 : decode cX12_wished 90 = .ok (.lmul, 1) := q_lmul (bat_get dg_X12_wished_44_79 8 rfl rfl)
theorem dX12_wished_91 : decode cX12_wished 91 = .ok (.aload_n 0, 1) := q_aload_n0 (bat_get dg_X12_wished_44_79 9 rfl rfl)
theorem dX12_wished_92 : decode cX12_wished 92 = .ok (.getfield 382, 3) := q_getfield (bat_get dg_X12_wished_44_79 10 rfl rfl) rfl
theorem dX12_wished_95 : decode cX12_wished 95 = .ok (.lcmp, 1) := q_lcmp (bat_get dg_X12_wished_44_79 11 rfl rfl)
theorem dX12_wished_96 : decode cX12_wished 96 = .ok (.ifCond .ne 6, 3) := q_ifCond_ne (bat_get dg_X12_wished_44_79 12 rfl rfl) rfl
theorem dX12_wished_102 : decode cX12_wished 102 = .ok (.iinc 4 1, 3) := q_iinc (bat_get dg_X12_wished_44_79 13 rfl rfl) rfl
theorem dX12_wished_105 : decode cX12_wished 105 = .ok (.goto (-77), 3) := q_goto (bat_get dg_X12_wished_44_79 14 rfl rfl) rfl
theorem dX12_wished_99 : decode cX12_wished 99 = .ok (.iload 4, 2) := q_iload (bat_get dg_X12_wished_44_79 15 rfl rfl)
theorem dX12_wished_101 : decode cX12_wished 101 = .ok (.istore_n 3, 1) := q_istore_n3 (bat_get dg_X12_wished_44_79 16 rfl rfl)
theorem dX12_wished_65 : decode cX12_wished 65 = .ok (.goto 37, 3) := q_goto (bat_get dg_X12_wished_44_79 17 rfl rfl) rfl
theorem dX12_wished_44 : decode cX12_wished 44 = .ok (.iload 4, 2) := q_iload (bat_get dg_X12_wished_44_79 18 rfl rfl)
theorem dX12_wished_46 : decode cX12_wished 46 = .ok (.invokestatic 409, 3) := q_invokestatic (bat_get dg_X12_wished_44_79 19 rfl rfl) rfl
theorem dX12_wished_49 : decode cX12_wished 49 = .ok (.iload_n 3, 1) := q_iload_n3 (bat_get dg_X12_wished_44_79 20 rfl rfl)
theorem dX12_wished_50 : decode cX12_wished 50 = .ok (.invokestatic 409, 3) := q_invokestatic (bat_get dg_X12_wished_44_79 21 rfl rfl) rfl
theorem dX12_wished_53 : decode cX12_wished 53 = .ok (.if_icmp .ge 49, 3) := q_if_icmp_ge (bat_get dg_X12_wished_44_79 22 rfl rfl) rfl
theorem w_7_236 : (Cond.code yX12_wished cX12_wished 5 (some .int)) ∈ wsL_law := sk_mem (ck_7 _ (List.mem_of_getElem? (i := 236) rfl)) rfl
set_option maxHeartbeats 4000000 in
set_option maxRecDepth 100000 in
theorem c_vm_wished (l : Launch) (D : va_G) (cI cJ cC cZ cS : ClassId) (mm : Nat) (g : Nat → Nat) (ta : Nat) (pa : Nat) (pe : Nat) (pd : Int32) (pb : Nat) (pp : Int32) (pf : Int32) (pg : Int32) (pn : Int32) (rt : Int32) (rn : Int32) (cd : Nat) (sn : Int32) (il : Nat) (tk : Int32) (am : Int32) (at_ : Int32) (aa : Int32) (wt : Int32) (wy : Int64) (rm : Nat) (ud : Nat) (nu : Nat) (sd : Int64) (qn : Nat) (qw : Nat) (qo : Int32) (qb : Nat) (qp : Nat) (qa : Int64) (qi : Nat) (oc : Nat) (d : Int32) (o : Int32) (u0 : Int32) (u1 : Int32) (u2 : Int32) (u3 : Int32) (u4 : Int32) (u5 : Int32) (v0 : Int32) (v1 : Int32) (v2 : Int32) (v3 : Int32) (v4 : Int32) (v5 : Int32) (cs : Nat → Nat) (nw : Nat → Int32) (pt : Nat → Nat) (ql : Nat → Int64) (l0 : Nat) (l1 : Nat) (dm : Nat) (l3 : Nat) (ws_ : Nat → Int32) (yw : Nat → Int32) (yo : Nat → Int32) (be : Nat → Int64) (bf : Nat → Int64) (wn : Nat) (mN : Nat) (Ba : Nat → Nat) (We : Nat → Nat) (U : Nat → Bool) (ke : Nat) (lg : KLg) (L : LkS) (hil : il ≤ 1) (hild : il = 1 → 1 ≤ dm) (hilb : 1 ≤ dm → il = 1) (hdm : dm ≤ 9) (hLk : kcLk L) (hkl : (lK L).length ≤ 1600) (hmw0 : mwO L 0 u3 v3 cs) (hmw1 : mwO L 1 u4 v4 cs) (hB9 : ∀ j, Ba j ≤ 9) (hW9 : ∀ j, We j ≤ 9) (hwk : wn ≤ 999) (hcs : ∀ j, cs j ≤ 20000) (hnw : nwX wn mN Ba We U ke lg nw) (hpt : ∀ j, pt j ≤ 9) : skM l yX12_wished cX12_wished 5 (some .int) 5 122 0 0 D (skT cI cJ cC cZ cS) [.ref mm, .int d, .int o] [ro_ mm 12 (mo g (nI ta) (nI pa) (nI pe) pd (nI pb) pp pf pg pn rt rn (nI cd) sn (nI il) tk am at_ aa 0 0 (-1) wt wy 0 (nI rm) (nI ud) (nI nu) sd (nI qn) (nI qw) qo (nI qb) (nI qp) qa (nI qi) (nI oc)), ra_I (g 24) cI 6 (l6 u0 u1 u2 u3 u4 u5), ra_I (g 25) cI 6 (l6 v0 v1 v2 v3 v4 v5), ra_N (g 26) cI 3200 cs, ra_I (g 31) cI 120 nw, ra_N (g 46) cI 9 pt, ra_J (g 86) cJ 1700 ql, ra_I (g 20) cI 4 (l4 (nI l0) (nI l1) (nI dm) (nI l3)), ra_I (g 38) cI 90 ws_, ra_I (g 36) cZ 900 yw, ra_I (g 37) cZ 900 yo, ra_J (g 43) cJ 90 be, ra_J (g 44) cJ 90 bf] (skI D (skT cI cJ cC cZ cS) (fun (r : Int32) (u : va_W) => ∃ (tk2 : Int32), ∃ (qp2 : Nat), ∃ (am2 : Int32), ∃ (at_2 : Int32), ∃ (aa2 : Int32), ∃ (wy2 : Int64), ∃ (ql2 : Nat → Int64), ∃ (ws_2 : Nat → Int32), ∃ (yw2 : Nat → Int32), ∃ (yo2 : Nat → Int32), ∃ (be2 : Nat → Int64), ∃ (bf2 : Nat → Int64), wishR L dm wn mN Ba We U d o r ∧ u = [ro_ mm 12 (mo g (nI ta) (nI pa) (nI pe) pd (nI pb) pp pf pg pn rt rn (nI cd) sn (nI il) tk2 am2 at_2 aa2 0 0 (-1) wt wy2 0 (nI rm) (nI ud) (nI nu) sd (nI qn) (nI qw) qo (nI qb) (nI qp2) qa (nI qi) (nI oc)), ra_I (g 24) cI 6 (l6 u0 u1 u2 u3 u4 u5), ra_I (g 25) cI 6 (l6 v0 v1 v2 v3 v4 v5), ra_N (g 26) cI 3200 cs, ra_I (g 31) cI 120 nw, ra_N (g 46) cI 9 pt, ra_J (g 86) cJ 1700 ql2, ra_I (g 20) cI 4 (l4 (nI l0) (nI l1) (nI dm) (nI l3)), ra_I (g 38) cI 90 ws_2, ra_I (g 36) cZ 900 yw2, ra_I (g 37) cZ 900 yo2, ra_J (g 43) cJ 90 be2, ra_J (g 44) cJ 90 bf2])) := by
  refine skM_of pf_X12_wished (Nat.le_of_ble_eq_true rfl) ?_
  intro p e s m below meth c A ls E hP hD hl
  refine skE_el E (fun hx hb hr hml hlocks hin hown hts hK hA => ?_)
  have hown : s.vm.findClass RX12 = some m.cls := hown
  have hS : va_S A s.heap s.heap [] := va_S.rf
  have hl : lv_has ls 5 [(0, .ref mm), (1, .int d), (2, .int o)] := hl
  refine lv_aload_n hx hb dX12_wished_0 rfl (lv_at hl 0 rfl) ?_
  refine lv_iload_n hx hb dX12_wished_1 rfl (lv_at hl 1 rfl) ?_
  refine sk_Vi (q0 := 0) (n := 1) (rest := []) (wr := fmR om_13_1020 _) ⟨hx, hb, hml, hown, hts⟩ hl.1 (c_nm_isDay l D cI cJ cC cZ cS mm g ta pa pe pd pb pp pf pg pn rt rn cd sn il tk am at_ aa wt wy rm ud nu sd qn qw qo qb qp qa qi oc d l0 l1 dm l3 hdm) w_7_117 w_7_119 w_0_72 w_1_14 w_7_120 hd_X12_isDay_1 ⟨⟨(Nat.le_of_ble_eq_true rfl), (Nat.le_of_ble_eq_true rfl)⟩, (Nat.le_of_ble_eq_true rfl), (Nat.le_of_ble_eq_true rfl)⟩ hK hP hD hS hA (fmT om_13_1020 0) (fmF om_13_1020 0) (fm_C1 rfl rfl) (fm_R rfl rfl) (fm_nT om_13_1020 0) (fm_nF om_13_1020 0) (fm_di om_13_1020 0) rfl rfl rfl rfl (Nat.le_of_ble_eq_true rfl) dX12_wished_2 (fun r_2 u H locs hw hP hD hS => ?_)
  refine exE hw (fun b_1 hw1 => anE hw1 (fun hb1_3 hw2 => anE hw2 (fun er_5 eu_4 => ?_)))
  clear hw hw1 hw2
  subst er_5
  refine o_mgE (ws' := [ro_ mm 12 (mo g (nI ta) (nI pa) (nI pe) pd (nI pb) pp pf pg pn rt rn (nI cd) sn (nI il) tk am at_ aa 0 0 (-1) wt wy 0 (nI rm) (nI ud) (nI nu) sd (nI qn) (nI qw) qo (nI qb) (nI qp) qa (nI qi) (nI oc)), ra_I (g 24) cI 6 (l6 u0 u1 u2 u3 u4 u5), ra_I (g 25) cI 6 (l6 v0 v1 v2 v3 v4 v5), ra_N (g 26) cI 3200 cs, ra_I (g 31) cI 120 nw, ra_N (g 46) cI 9 pt, ra_J (g 86) cJ 1700 ql, ra_I (g 20) cI 4 (l4 (nI l0) (nI l1) (nI dm) (nI l3)), ra_I (g 38) cI 90 ws_, ra_I (g 36) cZ 900 yw, ra_I (g 37) cZ 900 yo, ra_J (g 43) cJ 90 be, ra_J (g 44) cJ 90 bf]) eu_4 hP hD rfl (fun hP hD => ?_)
  refine lv_if_eq (tgt := 16) hx hb dX12_wished_5 (by decide) (fun c_6 => ?_) (fun c_6 => ?_)
  · have c_6 : b_1 = 0 := (neq b_1 0 (by omega) (Nat.le_of_ble_eq_true rfl)).mp c_6
    refine lv_iconst (v := (-1)) hx hb dX12_wished_16 (by decide) ?_
    exact sk_iret hx hb hr rfl hlocks hK hP hD hS (⟨tk, qp, am, at_, aa, wy, ql, ws_, yw, yo, be, bf, wis_0 (rr_0 hb1_3 (by omega)), rfl⟩) (Nat.le_of_ble_eq_true rfl) (Nat.le_of_ble_eq_true rfl) dX12_wished_17
  · have c_6 : ¬ (b_1 = 0) := fun h => c_6 ((neq b_1 0 (by omega) (Nat.le_of_ble_eq_true rfl)).mpr h)
    obtain ⟨kd_7, hkd_7, rfl⟩ := rr_1 hb1_3 (by omega)
    refine lv_aload_n hx hb dX12_wished_8 rfl (lv_at hl 0 rfl) ?_
    refine lv_iload_n hx hb dX12_wished_9 rfl (lv_at hl 2 rfl) ?_
    refine sk_Vi (q0 := 0) (n := 1) (rest := []) (wr := fmR om_13_1000 _) ⟨hx, hb, hml, hown, hts⟩ hl.1 (c_nm_isMood l D cI cJ cC cZ cS mm g ta pa pe pd pb pp pf pg pn rt rn cd sn il tk am at_ aa wt wy rm ud nu sd qn qw qo qb qp qa qi oc o) w_7_126 w_7_128 w_0_73 w_1_14 w_7_129 hd_X12_isMood_1 ⟨⟨(Nat.le_of_ble_eq_true rfl), (Nat.le_of_ble_eq_true rfl)⟩, (Nat.le_of_ble_eq_true rfl), (Nat.le_of_ble_eq_true rfl)⟩ hK hP hD hS hA (fmT om_13_1000 0) (fmF om_13_1000 0) (fm_C1 rfl rfl) (fm_R rfl rfl) (fm_nT om_13_1000 0) (fm_nF om_13_1000 0) (fm_di om_13_1000 0) rfl rfl rfl rfl (Nat.le_of_ble_eq_true rfl) dX12_wished_10 (fun r_9 u H locs hw hP hD hS => ?_)
    refine exE hw (fun b_8 hw1 => anE hw1 (fun hb1_10 hw2 => anE hw2 (fun er_12 eu_11 => ?_)))
    clear hw hw1 hw2
    subst er_12
    refine o_mgE (ws' := [ro_ mm 12 (mo g (nI ta) (nI pa) (nI pe) pd (nI pb) pp pf pg pn rt rn (nI cd) sn (nI il) tk am at_ aa 0 0 (-1) wt wy 0 (nI rm) (nI ud) (nI nu) sd (nI qn) (nI qw) qo (nI qb) (nI qp) qa (nI qi) (nI oc)), ra_I (g 24) cI 6 (l6 u0 u1 u2 u3 u4 u5), ra_I (g 25) cI 6 (l6 v0 v1 v2 v3 v4 v5), ra_N (g 26) cI 3200 cs, ra_I (g 31) cI 120 nw, ra_N (g 46) cI 9 pt, ra_J (g 86) cJ 1700 ql, ra_I (g 20) cI 4 (l4 (nI l0) (nI l1) (nI dm) (nI l3)), ra_I (g 38) cI 90 ws_, ra_I (g 36) cZ 900 yw, ra_I (g 37) cZ 900 yo, ra_J (g 43) cJ 90 be, ra_J (g 44) cJ 90 bf]) eu_11 hP hD rfl (fun hP hD => ?_)
    refine lv_if_ne (tgt := 18) hx hb dX12_wished_13 (by decide) (fun c_13 => ?_) (fun c_13 => ?_)
    · have c_13 : ¬ (b_8 = 0) := fun h => c_13 ((neq b_8 0 (by omega) (Nat.le_of_ble_eq_true rfl)).mpr h)
      obtain ⟨kd_14, hkd_14, rfl⟩ := rr_1 hb1_10 (by omega)
      refine lv_aload_n hx hb dX12_wished_18 rfl (lv_at hl 0 rfl) ?_
      refine lv_iconst (v := 0) hx hb dX12_wished_19 ic_0 ?_
      refine sk_Vv (q0 := 0) (n := 1) (rest := []) (wr := fmR om_13_1ffc _) ⟨hx, hb, hml, hown, hts⟩ hl.1 (c_nm_laysDays l D cI cJ cC cZ cS mm g ta pa pe pd pb pp pf pg pn rt rn cd sn il tk am at_ aa 0 wt wy 0 rm ud nu sd qn qw qo qb qp qa qi oc 0 u0 u1 u2 u3 u4 u5 v0 v1 v2 v3 v4 v5 cs nw pt ql l0 l1 dm l3 ws_ yw yo L wn Ba We hdm (by decide) hLk hkl hmw0 hmw1 hB9 hW9 hwk (fun d hd => nwX_md hnw (by omega)) hcs (nwX_ok hnw) hpt) w_7_193 w_7_195 w_0_83 w_1_14 w_7_196 hd_X12_laysDays_1 ⟨⟨(Nat.le_of_ble_eq_true rfl), (Nat.le_of_ble_eq_true rfl)⟩, (Nat.le_of_ble_eq_true rfl), (Nat.le_of_ble_eq_true rfl)⟩ hK hP hD hS hA (fmT om_13_1ffc 0) (fmF om_13_1ffc 0) (fm_C1 rfl rfl) (fm_R rfl rfl) (fm_nT om_13_1ffc 0) (fm_nF om_13_1ffc 0) (fm_di om_13_1ffc 0) rfl rfl rfl rfl (Nat.le_of_ble_eq_true rfl) dX12_wished_20 (fun u H locs hw hP hD hS => ?_)
      refine exE hw (fun tk2_15 hw1 => exE hw1 (fun qp2_16 hw2 => exE hw2 (fun am2_17 hw3 => exE hw3 (fun at_2_18 hw4 => exE hw4 (fun aa2_19 hw5 => exE hw5 (fun ql2_20 hw6 => exE hw6 (fun ws_2_21 hw7 => exE hw7 (fun yw2_22 hw8 => exE hw8 (fun yo2_23 hw9 => anE hw9 (fun hld_24 eu_25 => ?_))))))))))
      clear hw hw1 hw2 hw3 hw4 hw5 hw6 hw7 hw8 hw9
      refine o_mgE (ws' := [ro_ mm 12 (mo g (nI ta) (nI pa) (nI pe) pd (nI pb) pp pf pg pn rt rn (nI cd) sn (nI il) tk2_15 am2_17 at_2_18 aa2_19 0 0 (-1) wt wy 0 (nI rm) (nI ud) (nI nu) sd (nI qn) (nI qw) qo (nI qb) (nI qp2_16) qa (nI qi) (nI oc)), ra_I (g 24) cI 6 (l6 u0 u1 u2 u3 u4 u5), ra_I (g 25) cI 6 (l6 v0 v1 v2 v3 v4 v5), ra_N (g 26) cI 3200 cs, ra_I (g 31) cI 120 nw, ra_N (g 46) cI 9 pt, ra_J (g 86) cJ 1700 ql2_20, ra_I (g 20) cI 4 (l4 (nI l0) (nI l1) (nI dm) (nI l3)), ra_I (g 38) cI 90 ws_2_21, ra_I (g 36) cZ 900 yw2_22, ra_I (g 37) cZ 900 yo2_23, ra_J (g 43) cJ 90 be, ra_J (g 44) cJ 90 bf]) eu_25 hP hD rfl (fun hP hD => ?_)
      have hp2 : 2 ^ dm ≤ 512 := Nat.pow_le_pow_right (n := 2) (by decide) hdm
      refine lv_iconst (v := (-1)) hx hb dX12_wished_23 (by decide) ?_
      refine lv_istore_n (lv' := [(3, .int (-1)), (0, .ref mm), (1, .int (nI kd_7)), (2, .int (nI kd_14))]) hx hb dX12_wished_24 rfl hl (by decide) rfl (fun ls hl => ?_)
      refine lv_iconst (v := 0) hx hb dX12_wished_25 ic_0 ?_
      refine lv_istore (lv' := [(4, .int 0), (3, .int (-1)), (0, .ref mm), (1, .int (nI kd_7)), (2, .int (nI kd_14))]) hx hb dX12_wished_26 hl (by decide) rfl (fun ls hl => ?_)
      have lp_26 : ∀ (n_27 : Nat) (i : Nat) (be_ : Int32) (zwyh : Int64) (hb_ : Nat → Int64) (hf_ : Nat → Int64) (H : Heap) (locs : List Loc) (ls : Array Slot), 512 - i < n_27 → (i ≤ 2 ^ dm) → (hsI (fun s => svW L dm wn mN Ba We kd_7 kd_14 (kUs U s)) i be_) → va_P D vwCl [ro_ mm 12 (mo g (nI ta) (nI pa) (nI pe) pd (nI pb) pp pf pg pn rt rn (nI cd) sn (nI il) tk2_15 am2_17 at_2_18 aa2_19 0 0 (-1) wt zwyh 0 (nI rm) (nI ud) (nI nu) sd (nI qn) (nI qw) qo (nI qb) (nI qp2_16) qa (nI qi) (nI oc)), ra_I (g 24) cI 6 (l6 u0 u1 u2 u3 u4 u5), ra_I (g 25) cI 6 (l6 v0 v1 v2 v3 v4 v5), ra_N (g 26) cI 3200 cs, ra_I (g 31) cI 120 nw, ra_N (g 46) cI 9 pt, ra_J (g 86) cJ 1700 ql2_20, ra_I (g 20) cI 4 (l4 (nI l0) (nI l1) (nI dm) (nI l3)), ra_I (g 38) cI 90 ws_2_21, ra_I (g 36) cZ 900 yw2_22, ra_I (g 37) cZ 900 yo2_23, ra_J (g 43) cJ 90 hb_, ra_J (g 44) cJ 90 hf_] H → va_D A [ro_ mm 12 (mo g (nI ta) (nI pa) (nI pe) pd (nI pb) pp pf pg pn rt rn (nI cd) sn (nI il) tk2_15 am2_17 at_2_18 aa2_19 0 0 (-1) wt zwyh 0 (nI rm) (nI ud) (nI nu) sd (nI qn) (nI qw) qo (nI qb) (nI qp2_16) qa (nI qi) (nI oc)), ra_I (g 24) cI 6 (l6 u0 u1 u2 u3 u4 u5), ra_I (g 25) cI 6 (l6 v0 v1 v2 v3 v4 v5), ra_N (g 26) cI 3200 cs, ra_I (g 31) cI 120 nw, ra_N (g 46) cI 9 pt, ra_J (g 86) cJ 1700 ql2_20, ra_I (g 20) cI 4 (l4 (nI l0) (nI l1) (nI dm) (nI l3)), ra_I (g 38) cI 90 ws_2_21, ra_I (g 36) cZ 900 yw2_22, ra_I (g 37) cZ 900 yo2_23, ra_J (g 43) cJ 90 hb_, ra_J (g 44) cJ 90 hf_] → va_S A s.heap H locs → lv_has ls 5 [(4, .int (nI i)), (3, .int be_), (0, .ref mm), (1, .int (nI kd_7)), (2, .int (nI kd_14))] → W p l e { frames := 5, cells := 0, slots := 0, locals := 122 } s m ([.ref mm, .int (nI kd_7), .int (nI kd_14)] : List Value).toArray below meth c H locs 0 0 (MQ below (skI D (skT cI cJ cC cZ cS) (fun (r : Int32) (u : va_W) => ∃ (tk2 : Int32), ∃ (qp2 : Nat), ∃ (am2 : Int32), ∃ (at_2 : Int32), ∃ (aa2 : Int32), ∃ (wy2 : Int64), ∃ (ql2 : Nat → Int64), ∃ (ws_2 : Nat → Int32), ∃ (yw2 : Nat → Int32), ∃ (yo2 : Nat → Int32), ∃ (be2 : Nat → Int64), ∃ (bf2 : Nat → Int64), wishR L dm wn mN Ba We U (nI kd_7) (nI kd_14) r ∧ u = [ro_ mm 12 (mo g (nI ta) (nI pa) (nI pe) pd (nI pb) pp pf pg pn rt rn (nI cd) sn (nI il) tk2 am2 at_2 aa2 0 0 (-1) wt wy2 0 (nI rm) (nI ud) (nI nu) sd (nI qn) (nI qw) qo (nI qb) (nI qp2) qa (nI qi) (nI oc)), ra_I (g 24) cI 6 (l6 u0 u1 u2 u3 u4 u5), ra_I (g 25) cI 6 (l6 v0 v1 v2 v3 v4 v5), ra_N (g 26) cI 3200 cs, ra_I (g 31) cI 120 nw, ra_N (g 46) cI 9 pt, ra_J (g 86) cJ 1700 ql2, ra_I (g 20) cI 4 (l4 (nI l0) (nI l1) (nI dm) (nI l3)), ra_I (g 38) cI 90 ws_2, ra_I (g 36) cZ 900 yw2, ra_I (g 37) cZ 900 yo2, ra_J (g 43) cJ 90 be2, ra_J (g 44) cJ 90 bf2]) A) ([.ref mm, .int (nI kd_7), .int (nI kd_14)] : List Value).toArray s 0 0 A) (F0 m 28 ls []) := by
        intro n_27
        induction n_27 with
        | zero => intro i be_ zwyh hb_ hf_ H locs ls hm; exact absurd hm (Nat.not_lt_zero _)
        | succ n_27 ih_lp_26 =>
          intro i be_ zwyh hb_ hf_ H locs ls hm hi hhs hP hD hS hl
          refine lv_iload hx hb dX12_wished_28 (lv_at hl 0 rfl) ?_
          refine lv_iconst (v := 1) hx hb dX12_wished_30 ic_1 ?_
          refine lv_aload_n hx hb dX12_wished_31 rfl (lv_at hl 2 rfl) ?_
          refine sk_Vi (q0 := 0) (n := 0) (rest := [.int 1, .int (nI i)]) (wr := fmR om_13_1020 _) ⟨hx, hb, hml, hown, hts⟩ hl.1 (c_m_dayMany l D cI cJ cC cZ cS mm g ta pa pe pd pb pp pf pg pn rt rn cd sn il tk2_15 am2_17 at_2_18 aa2_19 0 0 (-1) wt zwyh 0 rm ud nu sd qn qw qo qb qp2_16 qa qi oc l0 l1 dm l3) w_7_98 w_7_100 w_0_69 w_1_14 w_7_101 hd_X12_dayMany_0 ⟨⟨(Nat.le_of_ble_eq_true rfl), (Nat.le_of_ble_eq_true rfl)⟩, (Nat.le_of_ble_eq_true rfl), (Nat.le_of_ble_eq_true rfl)⟩ hK hP hD hS hA (fmT om_13_1020 0) (fmF om_13_1020 0) (fm_C1 rfl rfl) (fm_R rfl rfl) (fm_nT om_13_1020 0) (fm_nF om_13_1020 0) (fm_di om_13_1020 0) rfl rfl rfl rfl (Nat.le_of_ble_eq_true rfl) dX12_wished_32 (fun r_28 u H locs hw hP hD hS => ?_)
          refine anE hw (fun er_30 eu_29 => ?_)
          clear hw
          subst er_30
          refine o_mgE (ws' := [ro_ mm 12 (mo g (nI ta) (nI pa) (nI pe) pd (nI pb) pp pf pg pn rt rn (nI cd) sn (nI il) tk2_15 am2_17 at_2_18 aa2_19 0 0 (-1) wt zwyh 0 (nI rm) (nI ud) (nI nu) sd (nI qn) (nI qw) qo (nI qb) (nI qp2_16) qa (nI qi) (nI oc)), ra_I (g 24) cI 6 (l6 u0 u1 u2 u3 u4 u5), ra_I (g 25) cI 6 (l6 v0 v1 v2 v3 v4 v5), ra_N (g 26) cI 3200 cs, ra_I (g 31) cI 120 nw, ra_N (g 46) cI 9 pt, ra_J (g 86) cJ 1700 ql2_20, ra_I (g 20) cI 4 (l4 (nI l0) (nI l1) (nI dm) (nI l3)), ra_I (g 38) cI 90 ws_2_21, ra_I (g 36) cZ 900 yw2_22, ra_I (g 37) cZ 900 yo2_23, ra_J (g 43) cJ 90 hb_, ra_J (g 44) cJ 90 hf_]) eu_29 hP hD rfl (fun hP hD => ?_)
          refine lv_ishl hx hb dX12_wished_35 ?_
          refine sk_top (nI (2 ^ dm)) (kshl1 (show dm < 10 by omega)).1 ?_
          refine lv_icmp_ge (tgt := 108) hx hb dX12_wished_36 (by decide) (fun c_31 => ?_) (fun c_31 => ?_)
          · have c_31 : 2 ^ dm ≤ i := (nle (2 ^ dm) i (by omega) (by omega)).mp c_31
            refine lv_iload_n hx hb dX12_wished_108 rfl (lv_at hl 1 rfl) ?_
            exact sk_iret hx hb hr rfl hlocks hK hP hD hS (⟨tk2_15, qp2_16, am2_17, at_2_18, aa2_19, zwyh, ql2_20, ws_2_21, yw2_22, yo2_23, hb_, hf_, wis_2 hkd_7 hkd_14 (hs_e hhs (by omega)), rfl⟩) (Nat.le_of_ble_eq_true rfl) (Nat.le_of_ble_eq_true rfl) dX12_wished_109
          · have c_31 : ¬ (2 ^ dm ≤ i) := fun h => c_31 ((nle (2 ^ dm) i (by omega) (by omega)).mpr h)
            refine lv_iload_n hx hb dX12_wished_39 rfl (lv_at hl 1 rfl) ?_
            refine lv_iconst (v := (-1)) hx hb dX12_wished_40 (by decide) ?_
            refine lv_icmp_eq (tgt := 56) hx hb dX12_wished_41 (by decide) (fun c_32 => ?_) (fun c_32 => ?_)
            · skip
              refine lv_aload_n hx hb dX12_wished_56 rfl (lv_at hl 2 rfl) ?_
              refine lv_iload hx hb dX12_wished_57 (lv_at hl 0 rfl) ?_
              refine sk_Vi (q0 := 0) (n := 1) (rest := []) (wr := fmR om_13_112f _) ⟨hx, hb, hml, hown, hts⟩ hl.1 (c_vm_doesAgreeF l D cI cJ cC cZ cS mm g ta pa pe pd pb pp pf pg pn rt rn cd sn il tk2_15 am2_17 at_2_18 aa2_19 wt zwyh rm ud nu sd qn qw qo qb qp2_16 qa qi oc i l0 l1 dm l3 nw yo2_23 yw2_22 hb_ hf_ wn mN Ba We U ke lg L ws_2_21 0 hdm (by omega) (by omega) hld_24 hnw) w_7_229 w_7_231 w_0_89 w_1_14 w_7_232 hd_X12_doesAgree_1 ⟨⟨(Nat.le_of_ble_eq_true rfl), (Nat.le_of_ble_eq_true rfl)⟩, (Nat.le_of_ble_eq_true rfl), (Nat.le_of_ble_eq_true rfl)⟩ hK hP hD hS hA [0, 7, 4, 10, 9, 11, 12] (fmF om_13_112f 0) rfl (fm_R rfl rfl) (by decide +kernel) (fm_nF om_13_112f 0) (by decide +kernel) rfl rfl rfl rfl (Nat.le_of_ble_eq_true rfl) dX12_wished_59 (fun r_37 u H locs hw hP hD hS => ?_)
              refine exE hw (fun b_33 hw1 => exE hw1 (fun wy2_34 hw2 => exE hw2 (fun be2_35 hw3 => exE hw3 (fun bf2_36 hw4 => anE hw4 (fun hmw_38 hw5 => anE hw5 (fun hbe_39 hw6 => anE hw6 (fun hwy_40 hw7 => anE hw7 (fun hb1_41 hw8 => anE hw8 (fun er_43 eu_42 => ?_)))))))))
              clear hw hw1 hw2 hw3 hw4 hw5 hw6 hw7 hw8
              subst er_43
              refine o_mgqE (ux := [ro_ mm 12 (mo g (nI ta) (nI pa) (nI pe) pd (nI pb) pp pf pg pn rt rn (nI cd) sn (nI il) tk2_15 am2_17 at_2_18 aa2_19 0 0 (-1) wt wy2_34 0 (nI rm) (nI ud) (nI nu) sd (nI qn) (nI qw) qo (nI qb) (nI qp2_16) qa (nI qi) (nI oc)), ra_I (g 31) cI 120 nw, ra_I (g 20) cI 4 (l4 (nI l0) (nI l1) (nI dm) (nI l3)), ra_I (g 36) cZ 900 yw2_22, ra_I (g 37) cZ 900 yo2_23, ra_J (g 43) cJ 90 be2_35, ra_J (g 44) cJ 90 bf2_36]) (ws' := [ro_ mm 12 (mo g (nI ta) (nI pa) (nI pe) pd (nI pb) pp pf pg pn rt rn (nI cd) sn (nI il) tk2_15 am2_17 at_2_18 aa2_19 0 0 (-1) wt wy2_34 0 (nI rm) (nI ud) (nI nu) sd (nI qn) (nI qw) qo (nI qb) (nI qp2_16) qa (nI qi) (nI oc)), ra_I (g 24) cI 6 (l6 u0 u1 u2 u3 u4 u5), ra_I (g 25) cI 6 (l6 v0 v1 v2 v3 v4 v5), ra_N (g 26) cI 3200 cs, ra_I (g 31) cI 120 nw, ra_N (g 46) cI 9 pt, ra_J (g 86) cJ 1700 ql2_20, ra_I (g 20) cI 4 (l4 (nI l0) (nI l1) (nI dm) (nI l3)), ra_I (g 38) cI 90 ws_2_21, ra_I (g 36) cZ 900 yw2_22, ra_I (g 37) cZ 900 yo2_23, ra_J (g 43) cJ 90 be2_35, ra_J (g 44) cJ 90 bf2_36]) eu_42 [0, 2, 1, 4, 3, 5, 6] (by decide +kernel) rfl hP hD rfl (fun hP hD => ?_)
              refine lv_if_ne (tgt := 68) hx hb dX12_wished_62 (by decide) (fun c_44 => ?_) (fun c_44 => ?_)
              · have c_44 : ¬ (b_33 = 0) := fun h => c_44 ((neq b_33 0 (by omega) (Nat.le_of_ble_eq_true rfl)).mpr h)
                refine lv_aload_n hx hb dX12_wished_68 rfl (lv_at hl 2 rfl) ?_
                refine sk_get (v := .ref (g 44)) (C := RX12) (T := TX12) (N := 92) hx hb hts inlX12 hown hK hP 0 rfl rfl 44 (Nat.le_of_ble_eq_true rfl) w_5_199 rfl dX12_wished_69 ?_
                refine lv_bipush (v := 10) hx hb dX12_wished_72 (by decide) ?_
                refine lv_iload_n hx hb dX12_wished_74 rfl (lv_at hl 3 rfl) ?_
                refine lv_imul hx hb dX12_wished_75 ?_
                refine sk_top (nI (10 * kd_7)) (nmul 10 kd_7) ?_
                refine lv_iload_n hx hb dX12_wished_76 rfl (lv_at hl 4 rfl) ?_
                refine lv_iadd hx hb dX12_wished_77 ?_
                refine sk_top (nI (10 * kd_7 + kd_14)) (nI_add (10 * kd_7) kd_14) ?_
                refine va_lald hx hb hK.1 hP 12 1 rfl rfl (vin (10 * kd_7 + kd_14) 90 (by omega) (Nat.le_of_ble_eq_true rfl)) dX12_wished_78 ?_
                refine sk_topl (bf2_36 (10 * kd_7 + kd_14)) (by rw [nI_clamp (by omega)]) ?_
                refine lv_aload_n hx hb dX12_wished_79 rfl (lv_at hl 2 rfl) ?_
                refine sk_get (v := .ref (g 43)) (C := RX12) (T := TX12) (N := 92) hx hb hts inlX12 hown hK hP 0 rfl rfl 43 (Nat.le_of_ble_eq_true rfl) w_5_198 rfl dX12_wished_80 ?_
                refine lv_bipush (v := 10) hx hb dX12_wished_83 (by decide) ?_
                refine lv_iload_n hx hb dX12_wished_85 rfl (lv_at hl 3 rfl) ?_
                refine lv_imul hx hb dX12_wished_86 ?_
                refine sk_top (nI (10 * kd_7)) (nmul 10 kd_7) ?_
                refine lv_iload_n hx hb dX12_wished_87 rfl (lv_at hl 4 rfl) ?_
                refine lv_iadd hx hb dX12_wished_88 ?_
                refine sk_top (nI (10 * kd_7 + kd_14)) (nI_add (10 * kd_7) kd_14) ?_
                refine va_lald hx hb hK.1 hP 11 1 rfl rfl (vin (10 * kd_7 + kd_14) 90 (by omega) (Nat.le_of_ble_eq_true rfl)) dX12_wished_89 ?_
                refine sk_topl (be2_35 (10 * kd_7 + kd_14)) (by rw [nI_clamp (by omega)]) ?_
                refine lv_lmul hx hb dX12_wished_90 ?_
                refine sk_topl (nL (kcT2 (kcFo L wn Ba We (kUs U i) 0) dm mN kd_7 kd_14)) (mw_p hmw_38 hkd_7 hkd_14) ?_
                have hb1_ := kt2_b (kcFo L wn Ba We (kUs U i) 0) (a0 := mN) hdm hkd_7 hkd_14
                have hb2_ := kcC_9 (kcFo L wn Ba We (kUs U i) 0) hdm 0 mN
                have hwyS := hwy_40
                subst hwyS
                refine lv_aload_n hx hb dX12_wished_91 rfl (lv_at hl 2 rfl) ?_
                refine sk_get (v := .long (nL (kcC (kcFo L wn Ba We (kUs U i) 0) dm 0 mN))) (C := RX12) (T := TX12) (N := 92) hx hb hts inlX12 hown hK hP 0 rfl rfl 45 (Nat.le_of_ble_eq_true rfl) w_5_200 rfl dX12_wished_92 ?_
                refine W.lcmp hx hb dX12_wished_95 ?_
                refine lv_if_ne (tgt := 102) hx hb dX12_wished_96 (by decide) (fun c_45 => ?_) (fun c_45 => ?_)
                · skip
                  refine lv_iinc (v := nI (i + 1)) (lv' := [(4, .int (nI (i + 1))), (3, .int be_), (0, .ref mm), (1, .int (nI kd_7)), (2, .int (nI kd_14))]) hx hb dX12_wished_102 hl (k := 0) rfl (ninc i 1 (by decide)) (by decide) rfl (fun ls hl => ?_)
                  refine lv_goto (tgt := 28) hx hb dX12_wished_105 (by decide) ?_
                  exact ih_lp_26 (i + 1) be_ (nL (kcC (kcFo L wn Ba We (kUs U i) 0) dm 0 mN)) be2_35 bf2_36 _ _ _ (by omega) (by omega) (hsI_n hhs (fun q => c_45 ((nL_eq hb1_ hb2_).mpr q.2))) hP hD hS (lv_sub hl [0, 1, 2, 3, 4] rfl)
                · skip
                  refine lv_iload hx hb dX12_wished_99 (lv_at hl 0 rfl) ?_
                  refine lv_istore_n (lv' := [(3, .int (nI i)), (4, .int (nI i)), (0, .ref mm), (1, .int (nI kd_7)), (2, .int (nI kd_14))]) hx hb dX12_wished_101 rfl hl (by decide) rfl (fun ls hl => ?_)
                  refine lv_iinc (v := nI (i + 1)) (lv' := [(4, .int (nI (i + 1))), (3, .int (nI i)), (0, .ref mm), (1, .int (nI kd_7)), (2, .int (nI kd_14))]) hx hb dX12_wished_102 hl (k := 1) rfl (ninc i 1 (by decide)) (by decide) rfl (fun ls hl => ?_)
                  refine lv_goto (tgt := 28) hx hb dX12_wished_105 (by decide) ?_
                  exact ih_lp_26 (i + 1) (nI i) (nL (kcC (kcFo L wn Ba We (kUs U i) 0) dm 0 mN)) be2_35 bf2_36 _ _ _ (by omega) (by omega) (hsI_1 hhs (by omega) c_32 ⟨rr_1 hb1_41 (by omega), (nL_eq hb1_ hb2_).mp c_45⟩) hP hD hS (lv_sub hl [0, 1, 2, 3, 4] rfl)
              · have c_44 : b_33 = 0 := (neq b_33 0 (by omega) (Nat.le_of_ble_eq_true rfl)).mp c_44
                refine lv_goto (tgt := 102) hx hb dX12_wished_65 (by decide) ?_
                refine lv_iinc (v := nI (i + 1)) (lv' := [(4, .int (nI (i + 1))), (3, .int be_), (0, .ref mm), (1, .int (nI kd_7)), (2, .int (nI kd_14))]) hx hb dX12_wished_102 hl (k := 0) rfl (ninc i 1 (by decide)) (by decide) rfl (fun ls hl => ?_)
                refine lv_goto (tgt := 28) hx hb dX12_wished_105 (by decide) ?_
                exact ih_lp_26 (i + 1) be_ wy2_34 be2_35 bf2_36 _ _ _ (by omega) (by omega) (hsI_n hhs (fun q => absurd q.1 (Nat.not_lt.mpr (Nat.le_of_eq (rr_0 hb1_41 (by omega)))))) hP hD hS (lv_sub hl [0, 1, 2, 3, 4] rfl)
            · skip
              obtain ⟨sb, hs1, hs2, hs3, hs4, hs5⟩ := hs_k hhs c_32
              subst hs3
              refine lv_iload hx hb dX12_wished_44 (lv_at hl 0 rfl) ?_
              refine sk_Si (n := 1) (rest := []) (wr := [ro_ mm 12 (mo g (nI ta) (nI pa) (nI pe) pd (nI pb) pp pf pg pn rt rn (nI cd) sn (nI il) tk2_15 am2_17 at_2_18 aa2_19 0 0 (-1) wt zwyh 0 (nI rm) (nI ud) (nI nu) sd (nI qn) (nI qw) qo (nI qb) (nI qp2_16) qa (nI qi) (nI oc)), ra_I (g 24) cI 6 (l6 u0 u1 u2 u3 u4 u5), ra_I (g 25) cI 6 (l6 v0 v1 v2 v3 v4 v5), ra_N (g 26) cI 3200 cs, ra_I (g 31) cI 120 nw, ra_N (g 46) cI 9 pt, ra_J (g 86) cJ 1700 ql2_20, ra_I (g 20) cI 4 (l4 (nI l0) (nI l1) (nI dm) (nI l3)), ra_I (g 38) cI 90 ws_2_21, ra_I (g 36) cZ 900 yw2_22, ra_I (g 37) cZ 900 yo2_23, ra_J (g 43) cJ 90 hb_, ra_J (g 44) cJ 90 hf_]) ⟨hx, hb, hml, hown, hts⟩ hl.1 (c_nm_bitsX l D cI cJ cC cZ cS i (by omega)) w_7_110 w_7_111 w_1_14 w_7_112 hd_X12_bits_1 ⟨⟨(Nat.le_of_ble_eq_true rfl), (Nat.le_of_ble_eq_true rfl)⟩, (Nat.le_of_ble_eq_true rfl), (Nat.le_of_ble_eq_true rfl)⟩ hK hP hD hS hA [] [0, 1, 2, 3, 4, 5, 6, 7, 8, 9, 10, 11, 12] rfl rfl (by decide +kernel) (by decide +kernel) (by decide +kernel) rfl rfl (Nat.le_of_ble_eq_true rfl) dX12_wished_46 (fun r_46 u H locs hw hP hD hS => ?_)
              obtain ⟨hr_47, rfl⟩ := hw
              refine o_re (ws' := [ro_ mm 12 (mo g (nI ta) (nI pa) (nI pe) pd (nI pb) pp pf pg pn rt rn (nI cd) sn (nI il) tk2_15 am2_17 at_2_18 aa2_19 0 0 (-1) wt zwyh 0 (nI rm) (nI ud) (nI nu) sd (nI qn) (nI qw) qo (nI qb) (nI qp2_16) qa (nI qi) (nI oc)), ra_I (g 24) cI 6 (l6 u0 u1 u2 u3 u4 u5), ra_I (g 25) cI 6 (l6 v0 v1 v2 v3 v4 v5), ra_N (g 26) cI 3200 cs, ra_I (g 31) cI 120 nw, ra_N (g 46) cI 9 pt, ra_J (g 86) cJ 1700 ql2_20, ra_I (g 20) cI 4 (l4 (nI l0) (nI l1) (nI dm) (nI l3)), ra_I (g 38) cI 90 ws_2_21, ra_I (g 36) cZ 900 yw2_22, ra_I (g 37) cZ 900 yo2_23, ra_J (g 43) cJ 90 hb_, ra_J (g 44) cJ 90 hf_]) hP hD rfl (fun hP hD => ?_)
              have hk9_48 := kpop_9 i (by omega)
              subst hr_47
              refine lv_iload_n hx hb dX12_wished_49 rfl (lv_at hl 1 rfl) ?_
              refine sk_Si (n := 1) (rest := [.int (nI (kpop i))]) (wr := [ro_ mm 12 (mo g (nI ta) (nI pa) (nI pe) pd (nI pb) pp pf pg pn rt rn (nI cd) sn (nI il) tk2_15 am2_17 at_2_18 aa2_19 0 0 (-1) wt zwyh 0 (nI rm) (nI ud) (nI nu) sd (nI qn) (nI qw) qo (nI qb) (nI qp2_16) qa (nI qi) (nI oc)), ra_I (g 24) cI 6 (l6 u0 u1 u2 u3 u4 u5), ra_I (g 25) cI 6 (l6 v0 v1 v2 v3 v4 v5), ra_N (g 26) cI 3200 cs, ra_I (g 31) cI 120 nw, ra_N (g 46) cI 9 pt, ra_J (g 86) cJ 1700 ql2_20, ra_I (g 20) cI 4 (l4 (nI l0) (nI l1) (nI dm) (nI l3)), ra_I (g 38) cI 90 ws_2_21, ra_I (g 36) cZ 900 yw2_22, ra_I (g 37) cZ 900 yo2_23, ra_J (g 43) cJ 90 hb_, ra_J (g 44) cJ 90 hf_]) ⟨hx, hb, hml, hown, hts⟩ hl.1 (c_nm_bitsX l D cI cJ cC cZ cS sb (by omega)) w_7_110 w_7_111 w_1_14 w_7_112 hd_X12_bits_1 ⟨⟨(Nat.le_of_ble_eq_true rfl), (Nat.le_of_ble_eq_true rfl)⟩, (Nat.le_of_ble_eq_true rfl), (Nat.le_of_ble_eq_true rfl)⟩ hK hP hD hS hA [] [0, 1, 2, 3, 4, 5, 6, 7, 8, 9, 10, 11, 12] rfl rfl (by decide +kernel) (by decide +kernel) (by decide +kernel) rfl rfl (Nat.le_of_ble_eq_true rfl) dX12_wished_50 (fun r_49 u H locs hw hP hD hS => ?_)
              obtain ⟨hr_50, rfl⟩ := hw
              refine o_re (ws' := [ro_ mm 12 (mo g (nI ta) (nI pa) (nI pe) pd (nI pb) pp pf pg pn rt rn (nI cd) sn (nI il) tk2_15 am2_17 at_2_18 aa2_19 0 0 (-1) wt zwyh 0 (nI rm) (nI ud) (nI nu) sd (nI qn) (nI qw) qo (nI qb) (nI qp2_16) qa (nI qi) (nI oc)), ra_I (g 24) cI 6 (l6 u0 u1 u2 u3 u4 u5), ra_I (g 25) cI 6 (l6 v0 v1 v2 v3 v4 v5), ra_N (g 26) cI 3200 cs, ra_I (g 31) cI 120 nw, ra_N (g 46) cI 9 pt, ra_J (g 86) cJ 1700 ql2_20, ra_I (g 20) cI 4 (l4 (nI l0) (nI l1) (nI dm) (nI l3)), ra_I (g 38) cI 90 ws_2_21, ra_I (g 36) cZ 900 yw2_22, ra_I (g 37) cZ 900 yo2_23, ra_J (g 43) cJ 90 hb_, ra_J (g 44) cJ 90 hf_]) hP hD rfl (fun hP hD => ?_)
              have hk9_51 := kpop_9 sb (by omega)
              subst hr_50
              refine lv_icmp_ge (tgt := 102) hx hb dX12_wished_53 (by decide) (fun c_52 => ?_) (fun c_52 => ?_)
              · have hge_ : kpop sb ≤ kpop i := (nle (kpop sb) (kpop i) (by omega) (by omega)).mp c_52
                refine lv_iinc (v := nI (i + 1)) (lv' := [(4, .int (nI (i + 1))), (3, .int (nI sb)), (0, .ref mm), (1, .int (nI kd_7)), (2, .int (nI kd_14))]) hx hb dX12_wished_102 hl (k := 0) rfl (ninc i 1 (by decide)) (by decide) rfl (fun ls hl => ?_)
                refine lv_goto (tgt := 28) hx hb dX12_wished_105 (by decide) ?_
                exact ih_lp_26 (i + 1) (nI sb) zwyh hb_ hf_ _ _ _ (by omega) (by omega) (hsI_3 hs1 hs2 hs4 hs5 (by omega)) hP hD hS (lv_sub hl [0, 1, 2, 3, 4] rfl)
              · have hlt_ : kpop i < kpop sb := Nat.lt_of_not_le (fun hq => c_52 ((nle (kpop sb) (kpop i) (by omega) (by omega)).mpr hq))
                refine lv_aload_n hx hb dX12_wished_56 rfl (lv_at hl 2 rfl) ?_
                refine lv_iload hx hb dX12_wished_57 (lv_at hl 0 rfl) ?_
                refine sk_Vi (q0 := 0) (n := 1) (rest := []) (wr := fmR om_13_112f _) ⟨hx, hb, hml, hown, hts⟩ hl.1 (c_vm_doesAgreeF l D cI cJ cC cZ cS mm g ta pa pe pd pb pp pf pg pn rt rn cd sn il tk2_15 am2_17 at_2_18 aa2_19 wt zwyh rm ud nu sd qn qw qo qb qp2_16 qa qi oc i l0 l1 dm l3 nw yo2_23 yw2_22 hb_ hf_ wn mN Ba We U ke lg L ws_2_21 0 hdm (by omega) (by omega) hld_24 hnw) w_7_229 w_7_231 w_0_89 w_1_14 w_7_232 hd_X12_doesAgree_1 ⟨⟨(Nat.le_of_ble_eq_true rfl), (Nat.le_of_ble_eq_true rfl)⟩, (Nat.le_of_ble_eq_true rfl), (Nat.le_of_ble_eq_true rfl)⟩ hK hP hD hS hA [0, 7, 4, 10, 9, 11, 12] (fmF om_13_112f 0) rfl (fm_R rfl rfl) (by decide +kernel) (fm_nF om_13_112f 0) (by decide +kernel) rfl rfl rfl rfl (Nat.le_of_ble_eq_true rfl) dX12_wished_59 (fun r_57 u H locs hw hP hD hS => ?_)
                refine exE hw (fun b_53 hw1 => exE hw1 (fun wy2_54 hw2 => exE hw2 (fun be2_55 hw3 => exE hw3 (fun bf2_56 hw4 => anE hw4 (fun hmw_58 hw5 => anE hw5 (fun hbe_59 hw6 => anE hw6 (fun hwy_60 hw7 => anE hw7 (fun hb1_61 hw8 => anE hw8 (fun er_63 eu_62 => ?_)))))))))
                clear hw hw1 hw2 hw3 hw4 hw5 hw6 hw7 hw8
                subst er_63
                refine o_mgqE (ux := [ro_ mm 12 (mo g (nI ta) (nI pa) (nI pe) pd (nI pb) pp pf pg pn rt rn (nI cd) sn (nI il) tk2_15 am2_17 at_2_18 aa2_19 0 0 (-1) wt wy2_54 0 (nI rm) (nI ud) (nI nu) sd (nI qn) (nI qw) qo (nI qb) (nI qp2_16) qa (nI qi) (nI oc)), ra_I (g 31) cI 120 nw, ra_I (g 20) cI 4 (l4 (nI l0) (nI l1) (nI dm) (nI l3)), ra_I (g 36) cZ 900 yw2_22, ra_I (g 37) cZ 900 yo2_23, ra_J (g 43) cJ 90 be2_55, ra_J (g 44) cJ 90 bf2_56]) (ws' := [ro_ mm 12 (mo g (nI ta) (nI pa) (nI pe) pd (nI pb) pp pf pg pn rt rn (nI cd) sn (nI il) tk2_15 am2_17 at_2_18 aa2_19 0 0 (-1) wt wy2_54 0 (nI rm) (nI ud) (nI nu) sd (nI qn) (nI qw) qo (nI qb) (nI qp2_16) qa (nI qi) (nI oc)), ra_I (g 24) cI 6 (l6 u0 u1 u2 u3 u4 u5), ra_I (g 25) cI 6 (l6 v0 v1 v2 v3 v4 v5), ra_N (g 26) cI 3200 cs, ra_I (g 31) cI 120 nw, ra_N (g 46) cI 9 pt, ra_J (g 86) cJ 1700 ql2_20, ra_I (g 20) cI 4 (l4 (nI l0) (nI l1) (nI dm) (nI l3)), ra_I (g 38) cI 90 ws_2_21, ra_I (g 36) cZ 900 yw2_22, ra_I (g 37) cZ 900 yo2_23, ra_J (g 43) cJ 90 be2_55, ra_J (g 44) cJ 90 bf2_56]) eu_62 [0, 2, 1, 4, 3, 5, 6] (by decide +kernel) rfl hP hD rfl (fun hP hD => ?_)
                refine lv_if_ne (tgt := 68) hx hb dX12_wished_62 (by decide) (fun c_64 => ?_) (fun c_64 => ?_)
                · have c_64 : ¬ (b_53 = 0) := fun h => c_64 ((neq b_53 0 (by omega) (Nat.le_of_ble_eq_true rfl)).mpr h)
                  refine lv_aload_n hx hb dX12_wished_68 rfl (lv_at hl 2 rfl) ?_
                  refine sk_get (v := .ref (g 44)) (C := RX12) (T := TX12) (N := 92) hx hb hts inlX12 hown hK hP 0 rfl rfl 44 (Nat.le_of_ble_eq_true rfl) w_5_199 rfl dX12_wished_69 ?_
                  refine lv_bipush (v := 10) hx hb dX12_wished_72 (by decide) ?_
                  refine lv_iload_n hx hb dX12_wished_74 rfl (lv_at hl 3 rfl) ?_
                  refine lv_imul hx hb dX12_wished_75 ?_
                  refine sk_top (nI (10 * kd_7)) (nmul 10 kd_7) ?_
                  refine lv_iload_n hx hb dX12_wished_76 rfl (lv_at hl 4 rfl) ?_
                  refine lv_iadd hx hb dX12_wished_77 ?_
                  refine sk_top (nI (10 * kd_7 + kd_14)) (nI_add (10 * kd_7) kd_14) ?_
                  refine va_lald hx hb hK.1 hP 12 1 rfl rfl (vin (10 * kd_7 + kd_14) 90 (by omega) (Nat.le_of_ble_eq_true rfl)) dX12_wished_78 ?_
                  refine sk_topl (bf2_56 (10 * kd_7 + kd_14)) (by rw [nI_clamp (by omega)]) ?_
                  refine lv_aload_n hx hb dX12_wished_79 rfl (lv_at hl 2 rfl) ?_
                  refine sk_get (v := .ref (g 43)) (C := RX12) (T := TX12) (N := 92) hx hb hts inlX12 hown hK hP 0 rfl rfl 43 (Nat.le_of_ble_eq_true rfl) w_5_198 rfl dX12_wished_80 ?_
                  refine lv_bipush (v := 10) hx hb dX12_wished_83 (by decide) ?_
                  refine lv_iload_n hx hb dX12_wished_85 rfl (lv_at hl 3 rfl) ?_
                  refine lv_imul hx hb dX12_wished_86 ?_
                  refine sk_top (nI (10 * kd_7)) (nmul 10 kd_7) ?_
                  refine lv_iload_n hx hb dX12_wished_87 rfl (lv_at hl 4 rfl) ?_
                  refine lv_iadd hx hb dX12_wished_88 ?_
                  refine sk_top (nI (10 * kd_7 + kd_14)) (nI_add (10 * kd_7) kd_14) ?_
                  refine va_lald hx hb hK.1 hP 11 1 rfl rfl (vin (10 * kd_7 + kd_14) 90 (by omega) (Nat.le_of_ble_eq_true rfl)) dX12_wished_89 ?_
                  refine sk_topl (be2_55 (10 * kd_7 + kd_14)) (by rw [nI_clamp (by omega)]) ?_
                  refine lv_lmul hx hb dX12_wished_90 ?_
                  refine sk_topl (nL (kcT2 (kcFo L wn Ba We (kUs U i) 0) dm mN kd_7 kd_14)) (mw_p hmw_58 hkd_7 hkd_14) ?_
                  have hb1_ := kt2_b (kcFo L wn Ba We (kUs U i) 0) (a0 := mN) hdm hkd_7 hkd_14
                  have hb2_ := kcC_9 (kcFo L wn Ba We (kUs U i) 0) hdm 0 mN
                  have hwyS := hwy_60
                  subst hwyS
                  refine lv_aload_n hx hb dX12_wished_91 rfl (lv_at hl 2 rfl) ?_
                  refine sk_get (v := .long (nL (kcC (kcFo L wn Ba We (kUs U i) 0) dm 0 mN))) (C := RX12) (T := TX12) (N := 92) hx hb hts inlX12 hown hK hP 0 rfl rfl 45 (Nat.le_of_ble_eq_true rfl) w_5_200 rfl dX12_wished_92 ?_
                  refine W.lcmp hx hb dX12_wished_95 ?_
                  refine lv_if_ne (tgt := 102) hx hb dX12_wished_96 (by decide) (fun c_65 => ?_) (fun c_65 => ?_)
                  · skip
                    refine lv_iinc (v := nI (i + 1)) (lv' := [(4, .int (nI (i + 1))), (3, .int (nI sb)), (0, .ref mm), (1, .int (nI kd_7)), (2, .int (nI kd_14))]) hx hb dX12_wished_102 hl (k := 0) rfl (ninc i 1 (by decide)) (by decide) rfl (fun ls hl => ?_)
                    refine lv_goto (tgt := 28) hx hb dX12_wished_105 (by decide) ?_
                    exact ih_lp_26 (i + 1) (nI sb) (nL (kcC (kcFo L wn Ba We (kUs U i) 0) dm 0 mN)) be2_55 bf2_56 _ _ _ (by omega) (by omega) (hsI_n (hsI_k hs1 hs2 hs4 hs5) (fun q => c_65 ((nL_eq hb1_ hb2_).mpr q.2))) hP hD hS (lv_sub hl [0, 1, 2, 3, 4] rfl)
                  · skip
                    refine lv_iload hx hb dX12_wished_99 (lv_at hl 0 rfl) ?_
                    refine lv_istore_n (lv' := [(3, .int (nI i)), (4, .int (nI i)), (0, .ref mm), (1, .int (nI kd_7)), (2, .int (nI kd_14))]) hx hb dX12_wished_101 rfl hl (by decide) rfl (fun ls hl => ?_)
                    refine lv_iinc (v := nI (i + 1)) (lv' := [(4, .int (nI (i + 1))), (3, .int (nI i)), (0, .ref mm), (1, .int (nI kd_7)), (2, .int (nI kd_14))]) hx hb dX12_wished_102 hl (k := 1) rfl (ninc i 1 (by decide)) (by decide) rfl (fun ls hl => ?_)
                    refine lv_goto (tgt := 28) hx hb dX12_wished_105 (by decide) ?_
                    exact ih_lp_26 (i + 1) (nI i) (nL (kcC (kcFo L wn Ba We (kUs U i) 0) dm 0 mN)) be2_55 bf2_56 _ _ _ (by omega) (by omega) (hsI_2 hs1 (by omega) hs5 ⟨rr_1 hb1_61 (by omega), (nL_eq hb1_ hb2_).mp c_65⟩ (by omega)) hP hD hS (lv_sub hl [0, 1, 2, 3, 4] rfl)
                · have c_64 : b_53 = 0 := (neq b_53 0 (by omega) (Nat.le_of_ble_eq_true rfl)).mp c_64
                  refine lv_goto (tgt := 102) hx hb dX12_wished_65 (by decide) ?_
                  refine lv_iinc (v := nI (i + 1)) (lv' := [(4, .int (nI (i + 1))), (3, .int (nI sb)), (0, .ref mm), (1, .int (nI kd_7)), (2, .int (nI kd_14))]) hx hb dX12_wished_102 hl (k := 0) rfl (ninc i 1 (by decide)) (by decide) rfl (fun ls hl => ?_)
                  refine lv_goto (tgt := 28) hx hb dX12_wished_105 (by decide) ?_
                  exact ih_lp_26 (i + 1) (nI sb) wy2_54 be2_55 bf2_56 _ _ _ (by omega) (by omega) (hsI_n (hsI_k hs1 hs2 hs4 hs5) (fun q => absurd q.1 (Nat.not_lt.mpr (Nat.le_of_eq (rr_0 hb1_61 (by omega)))))) hP hD hS (lv_sub hl [0, 1, 2, 3, 4] rfl)
      exact lp_26 (512 - 0 + 1) 0 (-1) wy be bf _ _ _ (Nat.lt_succ_self _) (Nat.zero_le _) (hsI_0 _) hP hD hS (lv_sub hl [0, 1, 2, 3, 4] rfl)
    · have c_13 : b_8 = 0 := (neq b_8 0 (by omega) (Nat.le_of_ble_eq_true rfl)).mp c_13
      refine lv_iconst (v := (-1)) hx hb dX12_wished_16 (by decide) ?_
      exact sk_iret hx hb hr rfl hlocks hK hP hD hS (⟨tk, qp, am, at_, aa, wy, ql, ws_, yw, yo, be, bf, wis_1 (rr_0 hb1_10 (by omega)), rfl⟩) (Nat.le_of_ble_eq_true rfl) (Nat.le_of_ble_eq_true rfl) dX12_wished_17
