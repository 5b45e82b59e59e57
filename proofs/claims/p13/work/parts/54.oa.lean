theorem dg_X12_laysRest_0_0 : bqL cX12_laysRest 0 [(0, [42]), (1, [3]), (2, [182, 1, 129]), (5, [3]), (6, [60]), (7, [27]), (8, [4]), (9, [42]), (10, [182, 1, 59]), (13, [120]), (14, [162, 0, 85]), (99, [177]), (17, [42]), (18, [180, 0, 98]), (21, [27]), (22, [42]), (23, [27]), (24, [182, 1, 167]), (27, [84]), (28, [42]), (29, [180, 0, 98]), (32, [27]), (33, [51]), (34, [154, 0, 6]), (40, [42]), (41, [27]), (42, [181, 1, 106]), (45, [42]), (46, [9]), (47, [182, 1, 138]), (50, [42]), (51, [3]), (52, [181, 1, 106]), (55, [3]), (56, [61]), (57, [28]), (58, [42]), (59, [182, 1, 59]), (62, [162, 0, 31]), (93, [132, 1, 1])] = true := by decide +kernel
theorem dX12_laysRest_0 : decode cX12_laysRest 0 = .ok (.aload_n 0, 1) := q_aload_n0 (bat_get dg_X12_laysRest_0_0 0 rfl rfl)
theorem dX12_laysRest_1 : decode cX12_laysRest 1 = .ok (.iconst 0, 1) := q_iconst0 (bat_get dg_X12_laysRest_0_0 1 rfl rfl)
theorem dX12_laysRest_2 : decode cX12_laysRest 2 = .ok (.invokevirtual 385, 3) := q_invokevirtual (bat_get dg_X12_laysRest_0_0 2 rfl rfl) rfl
theorem dX12_laysRest_5 : decode cX12_laysRest 5 = .ok (.iconst 0, 1) := q_iconst0 (bat_get dg_X12_laysRest_0_0 3 rfl rfl)
theorem dX12_laysRest_6 : decode cX12_laysRest 6 = .ok (.istore_n 1, 1) := q_istore_n1 (bat_get dg_X12_laysRest_0_0 4 rfl rfl)
theorem dX12_laysRest_7 : decode cX12_laysRest 7 = .ok (.iload_n 1, 1) := q_iload_n1 (bat_get dg_X12_laysRest_0_0 5 rfl rfl)
theorem dX12_laysRest_8 : decode cX12_laysRest 8 = .ok (.iconst 1, 1) := q_iconst1 (bat_get dg_X12_laysRest_0_0 6 rfl rfl)
theorem dX12_laysRest_9 : decode cX12_laysRest 9 = .ok (.aload_n 0, 1) := q_aload_n0 (bat_get dg_X12_laysRest_0_0 7 rfl rfl)
theorem dX12_laysRest_10 : decode cX12_laysRest 10 = .ok (.invokevirtual 315, 3) := q_invokevirtual (bat_get dg_X12_laysRest_0_0 8 rfl rfl) rfl
theorem dX12_laysRest_13 : decode cX12_laysRest 13 = .ok (.ishl, 1) := q_ishl (bat_get dg_X12_laysRest_0_0 9 rfl rfl)
theorem dX12_laysRest_14 : decode cX12_laysRest 14 = .ok (.if_icmp .ge 85, 3) := q_if_icmp_ge (bat_get dg_X12_laysRest_0_0 10 rfl rfl) rfl
theorem dX12_laysRest_99 : decode cX12_laysRest 99 = .ok (.return_, 1) := q_return_ (bat_get dg_X12_laysRest_0_0 11 rfl rfl)
theorem dX12_laysRest_17 : decode cX12_laysRest 17 = .ok (.aload_n 0, 1) := q_aload_n0 (bat_get dg_X12_laysRest_0_0 12 rfl rfl)
theorem dX12_laysRest_18 : decode cX12_laysRest 18 = .ok (.getfield 98, 3) := q_getfield (bat_get dg_X12_laysRest_0_0 13 rfl rfl) rfl
theorem dX12_laysRest_21 : decode cX12_laysRest 21 = .ok (.iload_n 1, 1) := q_iload_n1 (bat_get dg_X12_laysRest_0_0 14 rfl rfl)
theorem dX12_laysRest_22 : decode cX12_laysRest 22 = .ok (.aload_n 0, 1) := q_aload_n0 (bat_get dg_X12_laysRest_0_0 15 rfl rfl)
theorem dX12_laysRest_23 : decode cX12_laysRest 23 = .ok (.iload_n 1, 1) := q_iload_n1 (bat_get dg_X12_laysRest_0_0 16 rfl rfl)
theorem dX12_laysRest_24 : decode cX12_laysRest 24 = .ok (.invokevirtual 423, 3) := q_invokevirtual (bat_get dg_X12_laysRest_0_0 17 rfl rfl) rfl
theorem dX12_laysRest_27 : decode cX12_laysRest 27 = .ok (.bastore, 1) := q_bastore (bat_get dg_X12_laysRest_0_0 18 rfl rfl)
theorem dX12_laysRest_28 : decode cX12_laysRest 28 = .ok (.aload_n 0, 1) := q_aload_n0 (bat_get dg_X12_laysRest_0_0 19 rfl rfl)
theorem dX12_laysRest_29 : decode cX12_laysRest 29 = .ok (.getfield 98, 3) := q_getfield (bat_get dg_X12_laysRest_0_0 20 rfl rfl) rfl
theorem dX12_laysRest_32 : decode cX12_laysRest 32 = .ok (.iload_n 1, 1) := q_iload_n1 (bat_get dg_X12_laysRest_0_0 21 rfl rfl)
theorem dX12_laysRest_33 : decode cX12_laysRest 33 = .ok (.baload, 1) := q_baload (bat_get dg_X12_laysRest_0_0 22 rfl rfl)
theorem dX12_laysRest_34 : decode cX12_laysRest 34 = .ok (.ifCond .ne 6, 3) := q_ifCond_ne (bat_get dg_X12_laysRest_0_0 23 rfl rfl) rfl
theorem dX12_laysRest_40 : decode cX12_laysRest 40 = .ok (.aload_n 0, 1) := q_aload_n0 (bat_get dg_X12_laysRest_0_0 24 rfl rfl)
theorem dX12_laysRest_41 : decode cX12_laysRest 41 = .ok (.iload_n 1, 1) := q_iload_n1 (bat_get dg_X12_laysRest_0_0 25 rfl rfl)
theorem dX12_laysRest_42 : decode cX12_laysRest 42 = .ok (.putfield 362, 3) := q_putfield (bat_get dg_X12_laysRest_0_0 26 rfl rfl) rfl
theorem dX12_laysRest_45 : decode cX12_laysRest 45 = .ok (.aload_n 0, 1) := q_aload_n0 (bat_get dg_X12_laysRest_0_0 27 rfl rfl)
theorem dX12_laysRest_46 : decode cX12_laysRest 46 = .ok (.lconst 0, 1) := q_lconst0 (bat_get dg_X12_laysRest_0_0 28 rfl rfl)
theorem dX12_laysRest_47 : decode cX12_laysRest 47 = .ok (.invokevirtual 394, 3) := q_invokevirtual (bat_get dg_X12_laysRest_0_0 29 rfl rfl) rfl
theorem dX12_laysRest_50 : decode cX12_laysRest 50 = .ok (.aload_n 0, 1) := q_aload_n0 (bat_get dg_X12_laysRest_0_0 30 rfl rfl)
theorem dX12_laysRest_51 : decode cX12_laysRest 51 = .ok (.iconst 0, 1) := q_iconst0 (bat_get dg_X12_laysRest_0_0 31 rfl rfl)
theorem dX12_laysRest_52 : decode cX12_laysRest 52 = .ok (.putfield 362, 3) := q_putfield (bat_get dg_X12_laysRest_0_0 32 rfl rfl) rfl
theorem dX12_laysRest_55 : decode cX12_laysRest 55 = .ok (.iconst 0, 1) := q_iconst0 (bat_get dg_X12_laysRest_0_0 33 rfl rfl)
theorem dX12_laysRest_56 : decode cX12_laysRest 56 = .ok (.istore_n 2, 1) := q_istore_n2 (bat_get dg_X12_laysRest_0_0 34 rfl rfl)
theorem dX12_laysRest_57 : decode cX12_laysRest 57 = .ok (.iload_n 2, 1) := q_iload_n2 (bat_get dg_X12_laysRest_0_0 35 rfl rfl)
theorem dX12_laysRest_58 : decode cX12_laysRest 58 = .ok (.aload_n 0, 1) := q_aload_n0 (bat_get dg_X12_laysRest_0_0 36 rfl rfl)
theorem dX12_laysRest_59 : decode cX12_laysRest 59 = .ok (.invokevirtual 315, 3) := q_invokevirtual (bat_get dg_X12_laysRest_0_0 37 rfl rfl) rfl
theorem dX12_laysRest_62 : decode cX12_laysRest 62 = .ok (.if_icmp .ge 31, 3) := q_if_icmp_ge (bat_get dg_X12_laysRest_0_0 38 rfl rfl) rfl
theorem dX12_laysRest_93 : decode cX12_laysRest 93 = .ok (.iinc 1 1, 3) := q_iinc (bat_get dg_X12_laysRest_0_0 39 rfl rfl) rfl
theorem dg_X12_laysRest_37_96 : bqL cX12_laysRest 37 [(59, [167, 255, 167]), (28, [42]), (29, [180, 0, 95]), (32, [16, 9]), (34, [27]), (35, [104]), (36, [28]), (37, [96]), (38, [42]), (39, [28]), (40, [42]), (41, [180, 0, 89]), (44, [28]), (45, [46]), (46, [182, 1, 183]), (49, [80]), (50, [132, 2, 1]), (53, [167, 255, 223]), (0, [167, 0, 56])] = true := by decide +kernel
theorem dX12_laysRest_96 : decode cX12_laysRest 96 = .ok (.goto (-89), 3) := q_goto (bat_get dg_X12_laysRest_37_96 0 rfl rfl) rfl
theorem dX12_laysRest_65 : decode cX12_laysRest 65 = .ok (.aload_n 0, 1) := q_aload_n0 (bat_get dg_X12_laysRest_37_96 1 rfl rfl)
theorem dX12_laysRest_66 : decode cX12_laysRest 66 = .ok (.getfield 95, 3) := q_getfield (bat_get dg_X12_laysRest_37_96 2 rfl rfl) rfl
theorem dX12_laysRest_69 : decode cX12_laysRest 69 = .ok (.bipush 9, 2) := q_bipush (bat_get dg_X12_laysRest_37_96 3 rfl rfl) rfl
theorem dX12_laysRest_71 : decode cX12_laysRest 71 = .ok (.iload_n 1, 1) := q_iload_n1 (bat_get dg_X12_laysRest_37_96 4 rfl rfl)
theorem dX12_laysRest_72 : decode cX12_laysRest 72 = .ok (.imul, 1) := q_imul (bat_get dg_X12_laysRest_37_96 5 rfl rfl)
theorem dX12_laysRest_73 : decode cX12_laysRest 73 = .ok (.iload_n 2, 1) := q_iload_n2 (bat_get dg_X12_laysRest_37_96 6 rfl rfl)
theorem dX12_laysRest_74 : decode cX12_laysRest 74 = .ok (.iadd, 1) := q_iadd (bat_get dg_X12_laysRest_37_96 7 rfl rfl)
theorem dX12_laysRest_75 : decode cX12_laysRest 75 = .ok (.aload_n 0, 1) := q_aload_n0 (bat_get dg_X12_laysRest_37_96 8 rfl rfl)
theorem dX12_laysRest_76 : decode cX12_laysRest 76 = .ok (.iload_n 2, 1) := q_iload_n2 (bat_get dg_X12_laysRest_37_96 9 rfl rfl)
theorem dX12_laysRest_77 : decode cX12_laysRest 77 = .ok (.aload_n 0, 1) := q_aload_n0 (bat_get dg_X12_laysRest_37_96 10 rfl rfl)
theorem dX12_laysRest_78 : decode cX12_laysRest 78 = .ok (.getfield 89, 3) := q_getfield (bat_get dg_X12_laysRest_37_96 11 rfl rfl) rfl
theorem dX12_laysRest_81 : decode cX12_laysRest 81 = .ok (.iload_n 2, 1) := q_iload_n2 (bat_get dg_X12_laysRest_37_96 12 rfl rfl)
theorem dX12_laysRest_82 : decode cX12_laysRest 82 = .ok (.iaload, 1) := q_iaload (bat_get dg_X12_laysRest_37_96 13 rfl rfl)
theorem dX12_laysRest_83 : decode cX12_laysRest 83 = .ok (.invokevirtual 439, 3) := q_invokevirtual (bat_get dg_X12_laysRest_37_96 14 rfl rfl) rfl
theorem dX12_laysRest_86 : decode cX12_laysRest 86 = .ok (.lastore, 1) := q_lastore (bat_get dg_X12_laysRest_37_96 15 rfl rfl)
theorem dX12_laysRest_87 : decode cX12_laysRest 87 = .ok (.iinc 2 1, 3) := q_iinc (bat_get dg_X12_laysRest_37_96 16 rfl rfl) rfl
theorem dX12_laysRest_90 : decode cX12_laysRest 90 = .ok (.goto (-33), 3) := q_goto (bat_get dg_X12_laysRest_37_96 17 rfl rfl) rfl
theorem dX12_laysRest_37 : decode cX12_laysRest 37 = .ok (.goto 56, 3) := q_goto (bat_get dg_X12_laysRest_37_96 18 rfl rfl) rfl
theorem w_5_205 : (Cond.fieldLink RX12 98 "SameKeeperModel" "agrees0" "[Z") ∈ wsL_law := sk_mem (ck_5 _ (List.mem_of_getElem? (i := 205) rfl)) rfl
theorem w_5_204 : (Cond.fieldLink RX12 95 "SameKeeperModel" "wages" "[J") ∈ wsL_law := sk_mem (ck_5 _ (List.mem_of_getElem? (i := 204) rfl)) rfl
theorem w_8_64 : (Cond.code yX12_laysRest cX12_laysRest 3 none) ∈ wsL_law := sk_mem (ck_8 _ (List.mem_of_getElem? (i := 64) rfl)) rfl
def om_15_7ff0 : List Bool := true :: true :: true :: true :: true :: true :: true :: true :: true :: true :: true :: false :: false :: false :: false :: []
def om_15_4080 : List Bool := true :: false :: false :: false :: false :: false :: false :: true :: false :: false :: false :: false :: false :: false :: false :: []
def om_15_44bc : List Bool := true :: false :: false :: false :: true :: false :: false :: true :: false :: true :: true :: true :: true :: false :: false :: []
def om_15_7f00 : List Bool := true :: true :: true :: true :: true :: true :: true :: false :: false :: false :: false :: false :: false :: false :: false :: []
set_option maxHeartbeats 4000000 in
set_option maxRecDepth 100000 in
theorem c_vm_laysRestX (l : Launch) (D : va_G) (cI cJ cC cZ cS : ClassId) (mm : Nat) (g : Nat → Nat) (ta : Nat) (pa : Nat) (pe : Nat) (pd : Int32) (pb : Nat) (pp : Int32) (pf : Int32) (pg : Int32) (pn : Int32) (rt : Int32) (rn : Int32) (cd : Nat) (sn : Int32) (il : Nat) (tk : Int32) (am : Int32) (at_ : Int32) (aa : Int32) (wt : Int32) (wy : Int64) (rm : Nat) (ud : Nat) (nu : Nat) (sd : Int64) (qn : Nat) (qw : Nat) (qo : Int32) (qb : Nat) (qp : Nat) (qa : Int64) (qi : Nat) (oc : Nat) (u0 : Int32) (u1 : Int32) (u2 : Int32) (u3 : Int32) (u4 : Int32) (u5 : Int32) (v0 : Int32) (v1 : Int32) (v2 : Int32) (v3 : Int32) (v4 : Int32) (v5 : Int32) (cs : Nat → Nat) (nw : Nat → Int32) (pt : Nat → Nat) (ql : Nat → Int64) (l0 : Nat) (l1 : Nat) (dm : Nat) (l3 : Nat) (ws_ : Nat → Int32) (yw : Nat → Int32) (yo : Nat → Int32) (be : Nat → Int64) (bf : Nat → Int64) (ag : Nat → Int32) (wg : Nat → Int64) (wn : Nat) (mN : Nat) (Ba : Nat → Nat) (We : Nat → Nat) (U : Nat → Bool) (ke : Nat) (lg : KLg) (L : LkS) (hdm : dm ≤ 9) (hdm1 : 1 ≤ dm) (hLk : kcLk L) (hkl : (lK L).length ≤ 1600) (hmw0 : mwO L 0 u3 v3 cs) (hmw1 : mwO L 1 u4 v4 cs) (hB9 : ∀ j, Ba j ≤ 9) (hW9 : ∀ j, We j ≤ 9) (hwk : wn ≤ 999) (hmw2 : mwO L 2 u5 v5 cs) (hcs : ∀ j, cs j ≤ 20000) (hnw : nwX wn mN Ba We U ke lg nw) (hpt : ∀ j, pt j ≤ 9) : skM l yX12_laysRest cX12_laysRest 3 none 5 122 0 0 D (skT cI cJ cC cZ cS) [.ref mm] [ro_ mm 12 (mo g (nI ta) (nI pa) (nI pe) pd (nI pb) pp pf pg pn rt rn (nI cd) sn (nI il) tk am at_ aa 0 0 (-1) wt wy 0 (nI rm) (nI ud) (nI nu) sd (nI qn) (nI qw) qo (nI qb) (nI qp) qa (nI qi) (nI oc)), ra_I (g 24) cI 6 (l6 u0 u1 u2 u3 u4 u5), ra_I (g 25) cI 6 (l6 v0 v1 v2 v3 v4 v5), ra_N (g 26) cI 3200 cs, ra_I (g 31) cI 120 nw, ra_N (g 46) cI 9 pt, ra_J (g 86) cJ 1700 ql, ra_I (g 20) cI 4 (l4 (nI l0) (nI l1) (nI dm) (nI l3)), ra_I (g 38) cI 90 ws_, ra_I (g 36) cZ 900 yw, ra_I (g 37) cZ 900 yo, ra_J (g 43) cJ 90 be, ra_J (g 44) cJ 90 bf, ra_I (g 50) cZ 512 ag, ra_J (g 49) cJ 4608 wg] (skV D (skT cI cJ cC cZ cS) (fun (u : va_W) => ∃ (tk2 : Int32), ∃ (qp2 : Nat), ∃ (am2 : Int32), ∃ (at_2 : Int32), ∃ (aa2 : Int32), ∃ (wy2 : Int64), ∃ (pt2 : Nat → Nat), ∃ (ql2 : Nat → Int64), ∃ (ws_2 : Nat → Int32), ∃ (yw2 : Nat → Int32), ∃ (yo2 : Nat → Int32), ∃ (be2 : Nat → Int64), ∃ (bf2 : Nat → Int64), ∃ (ag2 : Nat → Int32), ∃ (wg2 : Nat → Int64), lrI L dm wn mN Ba We U (2 ^ dm) ag2 wg2 ∧ (∀ j, pt2 j ≤ 9) ∧ u = [ro_ mm 12 (mo g (nI ta) (nI pa) (nI pe) pd (nI pb) pp pf pg pn rt rn (nI cd) sn (nI il) tk2 am2 at_2 aa2 0 0 (-1) wt wy2 0 (nI rm) (nI ud) (nI nu) sd (nI qn) (nI qw) qo (nI qb) (nI qp2) qa (nI qi) (nI oc)), ra_I (g 24) cI 6 (l6 u0 u1 u2 u3 u4 u5), ra_I (g 25) cI 6 (l6 v0 v1 v2 v3 v4 v5), ra_N (g 26) cI 3200 cs, ra_I (g 31) cI 120 nw, ra_N (g 46) cI 9 pt2, ra_J (g 86) cJ 1700 ql2, ra_I (g 20) cI 4 (l4 (nI l0) (nI l1) (nI dm) (nI l3)), ra_I (g 38) cI 90 ws_2, ra_I (g 36) cZ 900 yw2, ra_I (g 37) cZ 900 yo2, ra_J (g 43) cJ 90 be2, ra_J (g 44) cJ 90 bf2, ra_I (g 50) cZ 512 ag2, ra_J (g 49) cJ 4608 wg2])) := by
  refine skM_of pf_X12_laysRest (Nat.le_of_ble_eq_true rfl) ?_
  intro p e s m below meth c A ls E hP hD hl
  refine skE_el E (fun hx hb hr hml hlocks hin hown hts hK hA => ?_)
  have hown : s.vm.findClass RX12 = some m.cls := hown
  have hS : va_S A s.heap s.heap [] := va_S.rf
  have hl : lv_has ls 3 [(0, .ref mm)] := hl
  refine lv_aload_n hx hb dX12_laysRest_0 rfl (lv_at hl 0 rfl) ?_
  refine lv_iconst (v := 0) hx hb dX12_laysRest_1 ic_0 ?_
  refine sk_Vv (q0 := 0) (n := 1) (rest := []) (wr := fmR om_15_7ff0 _) ⟨hx, hb, hml, hown, hts⟩ hl.1 (c_nm_laysDays l D cI cJ cC cZ cS mm g ta pa pe pd pb pp pf pg pn rt rn cd sn il tk am at_ aa 0 wt wy 0 rm ud nu sd qn qw qo qb qp qa qi oc 0 u0 u1 u2 u3 u4 u5 v0 v1 v2 v3 v4 v5 cs nw pt ql l0 l1 dm l3 ws_ yw yo L wn Ba We hdm (by decide) hLk hkl hmw0 hmw1 hB9 hW9 hwk (fun d hd => nwX_md hnw (by omega)) hcs (nwX_ok hnw) hpt) w_7_193 w_7_195 w_0_83 w_1_14 w_7_196 hd_X12_laysDays_1 ⟨⟨(Nat.le_of_ble_eq_true rfl), (Nat.le_of_ble_eq_true rfl)⟩, (Nat.le_of_ble_eq_true rfl), (Nat.le_of_ble_eq_true rfl)⟩ hK hP hD hS hA (fmT om_15_7ff0 0) (fmF om_15_7ff0 0) (fm_C1 rfl rfl) (fm_R rfl rfl) (fm_nT om_15_7ff0 0) (fm_nF om_15_7ff0 0) (fm_di om_15_7ff0 0) rfl rfl rfl rfl (Nat.le_of_ble_eq_true rfl) dX12_laysRest_2 (fun u H locs hw hP hD hS => ?_)
  refine exE hw (fun tk2_1 hw1 => exE hw1 (fun qp2_2 hw2 => exE hw2 (fun am2_3 hw3 => exE hw3 (fun at_2_4 hw4 => exE hw4 (fun aa2_5 hw5 => exE hw5 (fun ql2_6 hw6 => exE hw6 (fun ws_2_7 hw7 => exE hw7 (fun yw2_8 hw8 => exE hw8 (fun yo2_9 hw9 => anE hw9 (fun hld_10 eu_11 => ?_))))))))))
  clear hw hw1 hw2 hw3 hw4 hw5 hw6 hw7 hw8 hw9
  refine o_mgE (ws' := [ro_ mm 12 (mo g (nI ta) (nI pa) (nI pe) pd (nI pb) pp pf pg pn rt rn (nI cd) sn (nI il) tk2_1 am2_3 at_2_4 aa2_5 0 0 (-1) wt wy 0 (nI rm) (nI ud) (nI nu) sd (nI qn) (nI qw) qo (nI qb) (nI qp2_2) qa (nI qi) (nI oc)), ra_I (g 24) cI 6 (l6 u0 u1 u2 u3 u4 u5), ra_I (g 25) cI 6 (l6 v0 v1 v2 v3 v4 v5), ra_N (g 26) cI 3200 cs, ra_I (g 31) cI 120 nw, ra_N (g 46) cI 9 pt, ra_J (g 86) cJ 1700 ql2_6, ra_I (g 20) cI 4 (l4 (nI l0) (nI l1) (nI dm) (nI l3)), ra_I (g 38) cI 90 ws_2_7, ra_I (g 36) cZ 900 yw2_8, ra_I (g 37) cZ 900 yo2_9, ra_J (g 43) cJ 90 be, ra_J (g 44) cJ 90 bf, ra_I (g 50) cZ 512 ag, ra_J (g 49) cJ 4608 wg]) eu_11 hP hD rfl (fun hP hD => ?_)
  have hp2 : 2 ^ dm ≤ 512 := Nat.pow_le_pow_right (n := 2) (by decide) hdm
  refine lv_iconst (v := 0) hx hb dX12_laysRest_5 ic_0 ?_
  refine lv_istore_n (lv' := [(1, .int 0), (0, .ref mm)]) hx hb dX12_laysRest_6 rfl hl (by decide) rfl (fun ls hl => ?_)
  have lp_12 : ∀ (n_13 : Nat) (i : Nat) (zama : Int32) (ztka : Int32) (zqpa : Nat) (zwya : Int64) (y46a : Nat → Nat) (y86a : Nat → Int64) (y43a : Nat → Int64) (y44a : Nat → Int64) (y50a : Nat → Int32) (y49a : Nat → Int64) (H : Heap) (locs : List Loc) (ls : Array Slot), 512 - i < n_13 → (∀ j, y46a j ≤ 9) → (i ≤ 2 ^ dm) → (lrI L dm wn mN Ba We U i y50a y49a) → va_P D vwCl [ro_ mm 12 (mo g (nI ta) (nI pa) (nI pe) pd (nI pb) pp pf pg pn rt rn (nI cd) sn (nI il) ztka zama at_2_4 aa2_5 0 0 (-1) wt zwya 0 (nI rm) (nI ud) (nI nu) sd (nI qn) (nI qw) qo (nI qb) (nI zqpa) qa (nI qi) (nI oc)), ra_I (g 24) cI 6 (l6 u0 u1 u2 u3 u4 u5), ra_I (g 25) cI 6 (l6 v0 v1 v2 v3 v4 v5), ra_N (g 26) cI 3200 cs, ra_I (g 31) cI 120 nw, ra_N (g 46) cI 9 y46a, ra_J (g 86) cJ 1700 y86a, ra_I (g 20) cI 4 (l4 (nI l0) (nI l1) (nI dm) (nI l3)), ra_I (g 38) cI 90 ws_2_7, ra_I (g 36) cZ 900 yw2_8, ra_I (g 37) cZ 900 yo2_9, ra_J (g 43) cJ 90 y43a, ra_J (g 44) cJ 90 y44a, ra_I (g 50) cZ 512 y50a, ra_J (g 49) cJ 4608 y49a] H → va_D A [ro_ mm 12 (mo g (nI ta) (nI pa) (nI pe) pd (nI pb) pp pf pg pn rt rn (nI cd) sn (nI il) ztka zama at_2_4 aa2_5 0 0 (-1) wt zwya 0 (nI rm) (nI ud) (nI nu) sd (nI qn) (nI qw) qo (nI qb) (nI zqpa) qa (nI qi) (nI oc)), ra_I (g 24) cI 6 (l6 u0 u1 u2 u3 u4 u5), ra_I (g 25) cI 6 (l6 v0 v1 v2 v3 v4 v5), ra_N (g 26) cI 3200 cs, ra_I (g 31) cI 120 nw, ra_N (g 46) cI 9 y46a, ra_J (g 86) cJ 1700 y86a, ra_I (g 20) cI 4 (l4 (nI l0) (nI l1) (nI dm) (nI l3)), ra_I (g 38) cI 90 ws_2_7, ra_I (g 36) cZ 900 yw2_8, ra_I (g 37) cZ 900 yo2_9, ra_J (g 43) cJ 90 y43a, ra_J (g 44) cJ 90 y44a, ra_I (g 50) cZ 512 y50a, ra_J (g 49) cJ 4608 y49a] → va_S A s.heap H locs → lv_has ls 3 [(1, .int (nI i)), (0, .ref mm)] → W p l e { frames := 5, cells := 0, slots := 0, locals := 122 } s m ([.ref mm] : List Value).toArray below meth c H locs 0 0 (MQ below (skV D (skT cI cJ cC cZ cS) (fun (u : va_W) => ∃ (tk2 : Int32), ∃ (qp2 : Nat), ∃ (am2 : Int32), ∃ (at_2 : Int32), ∃ (aa2 : Int32), ∃ (wy2 : Int64), ∃ (pt2 : Nat → Nat), ∃ (ql2 : Nat → Int64), ∃ (ws_2 : Nat → Int32), ∃ (yw2 : Nat → Int32), ∃ (yo2 : Nat → Int32), ∃ (be2 : Nat → Int64), ∃ (bf2 : Nat → Int64), ∃ (ag2 : Nat → Int32), ∃ (wg2 : Nat → Int64), lrI L dm wn mN Ba We U (2 ^ dm) ag2 wg2 ∧ (∀ j, pt2 j ≤ 9) ∧ u = [ro_ mm 12 (mo g (nI ta) (nI pa) (nI pe) pd (nI pb) pp pf pg pn rt rn (nI cd) sn (nI il) tk2 am2 at_2 aa2 0 0 (-1) wt wy2 0 (nI rm) (nI ud) (nI nu) sd (nI qn) (nI qw) qo (nI qb) (nI qp2) qa (nI qi) (nI oc)), ra_I (g 24) cI 6 (l6 u0 u1 u2 u3 u4 u5), ra_I (g 25) cI 6 (l6 v0 v1 v2 v3 v4 v5), ra_N (g 26) cI 3200 cs, ra_I (g 31) cI 120 nw, ra_N (g 46) cI 9 pt2, ra_J (g 86) cJ 1700 ql2, ra_I (g 20) cI 4 (l4 (nI l0) (nI l1) (nI dm) (nI l3)), ra_I (g 38) cI 90 ws_2, ra_I (g 36) cZ 900 yw2, ra_I (g 37) cZ 900 yo2, ra_J (g 43) cJ 90 be2, ra_J (g 44) cJ 90 bf2, ra_I (g 50) cZ 512 ag2, ra_J (g 49) cJ 4608 wg2]) A) ([.ref mm] : List Value).toArray s 0 0 A) (F0 m 7 ls []) := by
    intro n_13
    induction n_13 with
    | zero => intro i zama ztka zqpa zwya y46a y86a y43a y44a y50a y49a H locs ls hm; exact absurd hm (Nat.not_lt_zero _)
    | succ n_13 ih_lp_12 =>
      intro i zama ztka zqpa zwya y46a y86a y43a y44a y50a y49a H locs ls hm hy46a hi hlr hP hD hS hl
      refine lv_iload_n hx hb dX12_laysRest_7 rfl (lv_at hl 0 rfl) ?_
      refine lv_iconst (v := 1) hx hb dX12_laysRest_8 ic_1 ?_
      refine lv_aload_n hx hb dX12_laysRest_9 rfl (lv_at hl 1 rfl) ?_
      refine sk_Vi (q0 := 0) (n := 0) (rest := [.int 1, .int (nI i)]) (wr := fmR om_15_4080 _) ⟨hx, hb, hml, hown, hts⟩ hl.1 (c_m_dayMany l D cI cJ cC cZ cS mm g ta pa pe pd pb pp pf pg pn rt rn cd sn il ztka zama at_2_4 aa2_5 0 0 (-1) wt zwya 0 rm ud nu sd qn qw qo qb zqpa qa qi oc l0 l1 dm l3) w_7_98 w_7_100 w_0_69 w_1_14 w_7_101 hd_X12_dayMany_0 ⟨⟨(Nat.le_of_ble_eq_true rfl), (Nat.le_of_ble_eq_true rfl)⟩, (Nat.le_of_ble_eq_true rfl), (Nat.le_of_ble_eq_true rfl)⟩ hK hP hD hS hA (fmT om_15_4080 0) (fmF om_15_4080 0) (fm_C1 rfl rfl) (fm_R rfl rfl) (fm_nT om_15_4080 0) (fm_nF om_15_4080 0) (fm_di om_15_4080 0) rfl rfl rfl rfl (Nat.le_of_ble_eq_true rfl) dX12_laysRest_10 (fun r_14 u H locs hw hP hD hS => ?_)
      refine anE hw (fun er_16 eu_15 => ?_)
      clear hw
      subst er_16
      refine o_mgE (ws' := [ro_ mm 12 (mo g (nI ta) (nI pa) (nI pe) pd (nI pb) pp pf pg pn rt rn (nI cd) sn (nI il) ztka zama at_2_4 aa2_5 0 0 (-1) wt zwya 0 (nI rm) (nI ud) (nI nu) sd (nI qn) (nI qw) qo (nI qb) (nI zqpa) qa (nI qi) (nI oc)), ra_I (g 24) cI 6 (l6 u0 u1 u2 u3 u4 u5), ra_I (g 25) cI 6 (l6 v0 v1 v2 v3 v4 v5), ra_N (g 26) cI 3200 cs, ra_I (g 31) cI 120 nw, ra_N (g 46) cI 9 y46a, ra_J (g 86) cJ 1700 y86a, ra_I (g 20) cI 4 (l4 (nI l0) (nI l1) (nI dm) (nI l3)), ra_I (g 38) cI 90 ws_2_7, ra_I (g 36) cZ 900 yw2_8, ra_I (g 37) cZ 900 yo2_9, ra_J (g 43) cJ 90 y43a, ra_J (g 44) cJ 90 y44a, ra_I (g 50) cZ 512 y50a, ra_J (g 49) cJ 4608 y49a]) eu_15 hP hD rfl (fun hP hD => ?_)
      refine lv_ishl hx hb dX12_laysRest_13 ?_
      refine sk_top (nI (2 ^ dm)) (kshl1 (show dm < 10 by omega)).1 ?_
      refine lv_icmp_ge (tgt := 99) hx hb dX12_laysRest_14 (by decide) (fun c_17 => ?_) (fun c_17 => ?_)
      · have c_17 : 2 ^ dm ≤ i := (nle (2 ^ dm) i (by omega) (by omega)).mp c_17
        exact sk_vret hx hb hr hlocks hK hP hD hS (⟨ztka, zqpa, zama, at_2_4, aa2_5, zwya, y46a, y86a, ws_2_7, yw2_8, yo2_9, y43a, y44a, y50a, y49a, (by have h9 := hlr; rw [show i = 2 ^ dm by omega] at h9; exact h9), hy46a, rfl⟩) (Nat.le_of_ble_eq_true rfl) (Nat.le_of_ble_eq_true rfl) dX12_laysRest_99
      · have c_17 : ¬ (2 ^ dm ≤ i) := fun h => c_17 ((nle (2 ^ dm) i (by omega) (by omega)).mpr h)
        refine lv_aload_n hx hb dX12_laysRest_17 rfl (lv_at hl 1 rfl) ?_
        refine sk_get (v := .ref (g 50)) (C := RX12) (T := TX12) (N := 92) hx hb hts inlX12 hown hK hP 0 rfl rfl 50 (Nat.le_of_ble_eq_true rfl) w_5_205 rfl dX12_laysRest_18 ?_
        refine lv_iload_n hx hb dX12_laysRest_21 rfl (lv_at hl 0 rfl) ?_
        refine lv_aload_n hx hb dX12_laysRest_22 rfl (lv_at hl 1 rfl) ?_
        refine lv_iload_n hx hb dX12_laysRest_23 rfl (lv_at hl 0 rfl) ?_
        refine sk_Vi (q0 := 0) (n := 1) (rest := [.int (nI i), .ref (g 50)]) (wr := fmR om_15_44bc _) ⟨hx, hb, hml, hown, hts⟩ hl.1 (c_vm_doesAgreeF l D cI cJ cC cZ cS mm g ta pa pe pd pb pp pf pg pn rt rn cd sn il ztka zama at_2_4 aa2_5 wt zwya rm ud nu sd qn qw qo qb zqpa qa qi oc i l0 l1 dm l3 nw yo2_9 yw2_8 y43a y44a wn mN Ba We U ke lg L ws_2_7 0 hdm hdm1 (by omega) hld_10 hnw) w_7_229 w_7_231 w_0_89 w_1_14 w_7_232 hd_X12_doesAgree_1 ⟨⟨(Nat.le_of_ble_eq_true rfl), (Nat.le_of_ble_eq_true rfl)⟩, (Nat.le_of_ble_eq_true rfl), (Nat.le_of_ble_eq_true rfl)⟩ hK hP hD hS hA [0, 7, 4, 10, 9, 11, 12] (fmF om_15_44bc 0) rfl (fm_R rfl rfl) (by decide +kernel) (fm_nF om_15_44bc 0) (by decide +kernel) rfl rfl rfl rfl (Nat.le_of_ble_eq_true rfl) dX12_laysRest_24 (fun r_22 u H locs hw hP hD hS => ?_)
        refine exE hw (fun b_18 hw1 => exE hw1 (fun wy2_19 hw2 => exE hw2 (fun be2_20 hw3 => exE hw3 (fun bf2_21 hw4 => anE hw4 (fun hmw_23 hw5 => anE hw5 (fun hbe_24 hw6 => anE hw6 (fun hwy_25 hw7 => anE hw7 (fun hb1_26 hw8 => anE hw8 (fun er_28 eu_27 => ?_)))))))))
        clear hw hw1 hw2 hw3 hw4 hw5 hw6 hw7 hw8
        subst er_28
        refine o_mgqE (ux := [ro_ mm 12 (mo g (nI ta) (nI pa) (nI pe) pd (nI pb) pp pf pg pn rt rn (nI cd) sn (nI il) ztka zama at_2_4 aa2_5 0 0 (-1) wt wy2_19 0 (nI rm) (nI ud) (nI nu) sd (nI qn) (nI qw) qo (nI qb) (nI zqpa) qa (nI qi) (nI oc)), ra_I (g 31) cI 120 nw, ra_I (g 20) cI 4 (l4 (nI l0) (nI l1) (nI dm) (nI l3)), ra_I (g 36) cZ 900 yw2_8, ra_I (g 37) cZ 900 yo2_9, ra_J (g 43) cJ 90 be2_20, ra_J (g 44) cJ 90 bf2_21]) (ws' := [ro_ mm 12 (mo g (nI ta) (nI pa) (nI pe) pd (nI pb) pp pf pg pn rt rn (nI cd) sn (nI il) ztka zama at_2_4 aa2_5 0 0 (-1) wt wy2_19 0 (nI rm) (nI ud) (nI nu) sd (nI qn) (nI qw) qo (nI qb) (nI zqpa) qa (nI qi) (nI oc)), ra_I (g 24) cI 6 (l6 u0 u1 u2 u3 u4 u5), ra_I (g 25) cI 6 (l6 v0 v1 v2 v3 v4 v5), ra_N (g 26) cI 3200 cs, ra_I (g 31) cI 120 nw, ra_N (g 46) cI 9 y46a, ra_J (g 86) cJ 1700 y86a, ra_I (g 20) cI 4 (l4 (nI l0) (nI l1) (nI dm) (nI l3)), ra_I (g 38) cI 90 ws_2_7, ra_I (g 36) cZ 900 yw2_8, ra_I (g 37) cZ 900 yo2_9, ra_J (g 43) cJ 90 be2_20, ra_J (g 44) cJ 90 bf2_21, ra_I (g 50) cZ 512 y50a, ra_J (g 49) cJ 4608 y49a]) eu_27 [0, 2, 1, 4, 3, 5, 6] (by decide +kernel) rfl hP hD rfl (fun hP hD => ?_)
        refine sk_zastE (k := i) (y := (nI b_18)) (ws' := fun f_29 => [ro_ mm 12 (mo g (nI ta) (nI pa) (nI pe) pd (nI pb) pp pf pg pn rt rn (nI cd) sn (nI il) ztka zama at_2_4 aa2_5 0 0 (-1) wt wy2_19 0 (nI rm) (nI ud) (nI nu) sd (nI qn) (nI qw) qo (nI qb) (nI zqpa) qa (nI qi) (nI oc)), ra_I (g 24) cI 6 (l6 u0 u1 u2 u3 u4 u5), ra_I (g 25) cI 6 (l6 v0 v1 v2 v3 v4 v5), ra_N (g 26) cI 3200 cs, ra_I (g 31) cI 120 nw, ra_N (g 46) cI 9 y46a, ra_J (g 86) cJ 1700 y86a, ra_I (g 20) cI 4 (l4 (nI l0) (nI l1) (nI dm) (nI l3)), ra_I (g 38) cI 90 ws_2_7, ra_I (g 36) cZ 900 yw2_8, ra_I (g 37) cZ 900 yo2_9, ra_J (g 43) cJ 90 be2_20, ra_J (g 44) cJ 90 bf2_21, ra_I (g 50) cZ 512 f_29, ra_J (g 49) cJ 4608 y49a]) hx hb hK hP hD hS 13 3 rfl rfl (by omega) (by omega) (fun _ => rfl) (nar_b _ (by omega)) dX12_laysRest_27 (fun f_29 H locs ef_30 hP hD hS => ?_)
        refine lv_aload_n hx hb dX12_laysRest_28 rfl (lv_at hl 1 rfl) ?_
        refine sk_get (v := .ref (g 50)) (C := RX12) (T := TX12) (N := 92) hx hb hts inlX12 hown hK hP 0 rfl rfl 50 (Nat.le_of_ble_eq_true rfl) w_5_205 rfl dX12_laysRest_29 ?_
        refine lv_iload_n hx hb dX12_laysRest_32 rfl (lv_at hl 0 rfl) ?_
        refine va_zald hx hb hK.1 hP 13 3 rfl rfl (vin i 512 (by omega) (Nat.le_of_ble_eq_true rfl)) dX12_laysRest_33 ?_
        refine sk_top (nI b_18) (by rw [nI_clamp (by omega)]; exact kui_s ef_30) ?_
        refine lv_if_ne (tgt := 40) hx hb dX12_laysRest_34 (by decide) (fun c_31 => ?_) (fun c_31 => ?_)
        · have c_31 : ¬ (b_18 = 0) := fun h => c_31 ((neq b_18 0 (by omega) (Nat.le_of_ble_eq_true rfl)).mpr h)
          have hgoS := rr_1 hb1_26 (by omega)
          refine lv_aload_n hx hb dX12_laysRest_40 rfl (lv_at hl 1 rfl) ?_
          refine lv_iload_n hx hb dX12_laysRest_41 rfl (lv_at hl 0 rfl) ?_
          refine sk_put (ws' := [ro_ mm 12 (mo g (nI ta) (nI pa) (nI pe) pd (nI pb) pp pf pg pn rt rn (nI cd) sn (nI il) ztka zama at_2_4 aa2_5 (nI i) 0 (-1) wt wy2_19 0 (nI rm) (nI ud) (nI nu) sd (nI qn) (nI qw) qo (nI qb) (nI zqpa) qa (nI qi) (nI oc)), ra_I (g 24) cI 6 (l6 u0 u1 u2 u3 u4 u5), ra_I (g 25) cI 6 (l6 v0 v1 v2 v3 v4 v5), ra_N (g 26) cI 3200 cs, ra_I (g 31) cI 120 nw, ra_N (g 46) cI 9 y46a, ra_J (g 86) cJ 1700 y86a, ra_I (g 20) cI 4 (l4 (nI l0) (nI l1) (nI dm) (nI l3)), ra_I (g 38) cI 90 ws_2_7, ra_I (g 36) cZ 900 yw2_8, ra_I (g 37) cZ 900 yo2_9, ra_J (g 43) cJ 90 be2_20, ra_J (g 44) cJ 90 bf2_21, ra_I (g 50) cZ 512 f_29, ra_J (g 49) cJ 4608 y49a]) (C := RX12) (T := TX12) (N := 92) (v := .int (nI i)) hx hb hts inlX12 tyX12 tyX12_ok nmX12 hown hK hP hD hS 0 rfl rfl 39 (Nat.le_of_ble_eq_true rfl) w_5_194 rfl rfl rfl (Nat.le_of_ble_eq_true rfl) rfl dX12_laysRest_42 (fun H locs hP hD hS => ?_)
          refine lv_aload_n hx hb dX12_laysRest_45 rfl (lv_at hl 1 rfl) ?_
          refine lv_lconst (v := 0) hx hb dX12_laysRest_46 (by decide) ?_
          refine sk_topl (nL 0) rfl ?_
          refine sk_Vv (q0 := 0) (n := 1) (rest := []) (wr := fmR om_15_46b8 _) ⟨hx, hb, hml, hown, hts⟩ hl.1 (c_nm_walksTo l D cI cJ cC cZ cS mm g ta pa pe pd pb pp pf pg pn rt rn cd sn il ztka zama at_2_4 aa2_5 (nI i) wt wy2_19 0 rm ud nu sd qn qw qo qb zqpa qa qi oc l0 l1 dm l3 nw yo2_9 yw2_8 be2_20 y46a 0 hdm hdm1 hbe_24 (nuX (cfS hnw hld_10 hdm (show i < 512 by omega)) (nwX_a0 hnw) hnw.1 hgoS) (nwX_ok hnw) hy46a) w_7_217 w_7_219 w_0_88 w_1_14 w_7_220 hd_X12_walksTo_1 ⟨⟨(Nat.le_of_ble_eq_true rfl), (Nat.le_of_ble_eq_true rfl)⟩, (Nat.le_of_ble_eq_true rfl), (Nat.le_of_ble_eq_true rfl)⟩ hK hP hD hS hA [0, 7, 4, 10, 9, 11, 5] (fmF om_15_46b8 0) rfl (fm_R rfl rfl) (by decide +kernel) (fm_nF om_15_46b8 0) (by decide +kernel) rfl rfl rfl rfl (Nat.le_of_ble_eq_true rfl) dX12_laysRest_47 (fun u H locs hw hP hD hS => ?_)
          refine exE hw (fun pt2_32 hw1 => anE hw1 (fun hpw_33 hw2 => anE hw2 (fun hpt2_34 eu_35 => ?_)))
          clear hw hw1 hw2
          refine o_mgqE (ux := [ro_ mm 12 (mo g (nI ta) (nI pa) (nI pe) pd (nI pb) pp pf pg pn rt rn (nI cd) sn (nI il) ztka zama at_2_4 aa2_5 (nI i) 0 (-1) wt wy2_19 0 (nI rm) (nI ud) (nI nu) sd (nI qn) (nI qw) qo (nI qb) (nI zqpa) qa (nI qi) (nI oc)), ra_I (g 31) cI 120 nw, ra_N (g 46) cI 9 pt2_32, ra_I (g 20) cI 4 (l4 (nI l0) (nI l1) (nI dm) (nI l3)), ra_I (g 36) cZ 900 yw2_8, ra_I (g 37) cZ 900 yo2_9, ra_J (g 43) cJ 90 be2_20]) (ws' := [ro_ mm 12 (mo g (nI ta) (nI pa) (nI pe) pd (nI pb) pp pf pg pn rt rn (nI cd) sn (nI il) ztka zama at_2_4 aa2_5 (nI i) 0 (-1) wt wy2_19 0 (nI rm) (nI ud) (nI nu) sd (nI qn) (nI qw) qo (nI qb) (nI zqpa) qa (nI qi) (nI oc)), ra_I (g 24) cI 6 (l6 u0 u1 u2 u3 u4 u5), ra_I (g 25) cI 6 (l6 v0 v1 v2 v3 v4 v5), ra_N (g 26) cI 3200 cs, ra_I (g 31) cI 120 nw, ra_N (g 46) cI 9 pt2_32, ra_J (g 86) cJ 1700 y86a, ra_I (g 20) cI 4 (l4 (nI l0) (nI l1) (nI dm) (nI l3)), ra_I (g 38) cI 90 ws_2_7, ra_I (g 36) cZ 900 yw2_8, ra_I (g 37) cZ 900 yo2_9, ra_J (g 43) cJ 90 be2_20, ra_J (g 44) cJ 90 bf2_21, ra_I (g 50) cZ 512 f_29, ra_J (g 49) cJ 4608 y49a]) eu_35 [0, 2, 6, 1, 4, 3, 5] (by decide +kernel) rfl hP hD rfl (fun hP hD => ?_)
          have hpx := mpX (cfS hnw hld_10 hdm (show i < 512 by omega)) (nwX_a0 hnw) hnw.1 hgoS hpw_33
          refine lv_aload_n hx hb dX12_laysRest_50 rfl (lv_at hl 1 rfl) ?_
          refine lv_iconst (v := 0) hx hb dX12_laysRest_51 ic_0 ?_
          refine sk_put (ws' := [ro_ mm 12 (mo g (nI ta) (nI pa) (nI pe) pd (nI pb) pp pf pg pn rt rn (nI cd) sn (nI il) ztka zama at_2_4 aa2_5 0 0 (-1) wt wy2_19 0 (nI rm) (nI ud) (nI nu) sd (nI qn) (nI qw) qo (nI qb) (nI zqpa) qa (nI qi) (nI oc)), ra_I (g 24) cI 6 (l6 u0 u1 u2 u3 u4 u5), ra_I (g 25) cI 6 (l6 v0 v1 v2 v3 v4 v5), ra_N (g 26) cI 3200 cs, ra_I (g 31) cI 120 nw, ra_N (g 46) cI 9 pt2_32, ra_J (g 86) cJ 1700 y86a, ra_I (g 20) cI 4 (l4 (nI l0) (nI l1) (nI dm) (nI l3)), ra_I (g 38) cI 90 ws_2_7, ra_I (g 36) cZ 900 yw2_8, ra_I (g 37) cZ 900 yo2_9, ra_J (g 43) cJ 90 be2_20, ra_J (g 44) cJ 90 bf2_21, ra_I (g 50) cZ 512 f_29, ra_J (g 49) cJ 4608 y49a]) (C := RX12) (T := TX12) (N := 92) (v := .int 0) hx hb hts inlX12 tyX12 tyX12_ok nmX12 hown hK hP hD hS 0 rfl rfl 39 (Nat.le_of_ble_eq_true rfl) w_5_194 rfl rfl rfl (Nat.le_of_ble_eq_true rfl) rfl dX12_laysRest_52 (fun H locs hP hD hS => ?_)
          refine lv_iconst (v := 0) hx hb dX12_laysRest_55 ic_0 ?_
          refine lv_istore_n (lv' := [(2, .int 0), (1, .int (nI i)), (0, .ref mm)]) hx hb dX12_laysRest_56 rfl hl (by decide) rfl (fun ls hl => ?_)
          have lp_36 : ∀ (n_37 : Nat) (jd : Nat) (zamb : Int32) (ztkb : Int32) (zqpb : Nat) (y86b : Nat → Int64) (y49b : Nat → Int64) (H : Heap) (locs : List Loc) (ls : Array Slot), dm - jd < n_37 → (jd ≤ dm) → (lrI L dm wn mN Ba We U i f_29 y49b) → (∀ d, d < jd → y49b (9 * i + d) = svG L dm wn mN Ba We (kUs U i) d) → va_P D vwCl [ro_ mm 12 (mo g (nI ta) (nI pa) (nI pe) pd (nI pb) pp pf pg pn rt rn (nI cd) sn (nI il) ztkb zamb at_2_4 aa2_5 0 0 (-1) wt wy2_19 0 (nI rm) (nI ud) (nI nu) sd (nI qn) (nI qw) qo (nI qb) (nI zqpb) qa (nI qi) (nI oc)), ra_I (g 24) cI 6 (l6 u0 u1 u2 u3 u4 u5), ra_I (g 25) cI 6 (l6 v0 v1 v2 v3 v4 v5), ra_N (g 26) cI 3200 cs, ra_I (g 31) cI 120 nw, ra_N (g 46) cI 9 pt2_32, ra_J (g 86) cJ 1700 y86b, ra_I (g 20) cI 4 (l4 (nI l0) (nI l1) (nI dm) (nI l3)), ra_I (g 38) cI 90 ws_2_7, ra_I (g 36) cZ 900 yw2_8, ra_I (g 37) cZ 900 yo2_9, ra_J (g 43) cJ 90 be2_20, ra_J (g 44) cJ 90 bf2_21, ra_I (g 50) cZ 512 f_29, ra_J (g 49) cJ 4608 y49b] H → va_D A [ro_ mm 12 (mo g (nI ta) (nI pa) (nI pe) pd (nI pb) pp pf pg pn rt rn (nI cd) sn (nI il) ztkb zamb at_2_4 aa2_5 0 0 (-1) wt wy2_19 0 (nI rm) (nI ud) (nI nu) sd (nI qn) (nI qw) qo (nI qb) (nI zqpb) qa (nI qi) (nI oc)), ra_I (g 24) cI 6 (l6 u0 u1 u2 u3 u4 u5), ra_I (g 25) cI 6 (l6 v0 v1 v2 v3 v4 v5), ra_N (g 26) cI 3200 cs, ra_I (g 31) cI 120 nw, ra_N (g 46) cI 9 pt2_32, ra_J (g 86) cJ 1700 y86b, ra_I (g 20) cI 4 (l4 (nI l0) (nI l1) (nI dm) (nI l3)), ra_I (g 38) cI 90 ws_2_7, ra_I (g 36) cZ 900 yw2_8, ra_I (g 37) cZ 900 yo2_9, ra_J (g 43) cJ 90 be2_20, ra_J (g 44) cJ 90 bf2_21, ra_I (g 50) cZ 512 f_29, ra_J (g 49) cJ 4608 y49b] → va_S A s.heap H locs → lv_has ls 3 [(2, .int (nI jd)), (1, .int (nI i)), (0, .ref mm)] → W p l e { frames := 5, cells := 0, slots := 0, locals := 122 } s m ([.ref mm] : List Value).toArray below meth c H locs 0 0 (MQ below (skV D (skT cI cJ cC cZ cS) (fun (u : va_W) => ∃ (tk2 : Int32), ∃ (qp2 : Nat), ∃ (am2 : Int32), ∃ (at_2 : Int32), ∃ (aa2 : Int32), ∃ (wy2 : Int64), ∃ (pt2 : Nat → Nat), ∃ (ql2 : Nat → Int64), ∃ (ws_2 : Nat → Int32), ∃ (yw2 : Nat → Int32), ∃ (yo2 : Nat → Int32), ∃ (be2 : Nat → Int64), ∃ (bf2 : Nat → Int64), ∃ (ag2 : Nat → Int32), ∃ (wg2 : Nat → Int64), lrI L dm wn mN Ba We U (2 ^ dm) ag2 wg2 ∧ (∀ j, pt2 j ≤ 9) ∧ u = [ro_ mm 12 (mo g (nI ta) (nI pa) (nI pe) pd (nI pb) pp pf pg pn rt rn (nI cd) sn (nI il) tk2 am2 at_2 aa2 0 0 (-1) wt wy2 0 (nI rm) (nI ud) (nI nu) sd (nI qn) (nI qw) qo (nI qb) (nI qp2) qa (nI qi) (nI oc)), ra_I (g 24) cI 6 (l6 u0 u1 u2 u3 u4 u5), ra_I (g 25) cI 6 (l6 v0 v1 v2 v3 v4 v5), ra_N (g 26) cI 3200 cs, ra_I (g 31) cI 120 nw, ra_N (g 46) cI 9 pt2, ra_J (g 86) cJ 1700 ql2, ra_I (g 20) cI 4 (l4 (nI l0) (nI l1) (nI dm) (nI l3)), ra_I (g 38) cI 90 ws_2, ra_I (g 36) cZ 900 yw2, ra_I (g 37) cZ 900 yo2, ra_J (g 43) cJ 90 be2, ra_J (g 44) cJ 90 bf2, ra_I (g 50) cZ 512 ag2, ra_J (g 49) cJ 4608 wg2]) A) ([.ref mm] : List Value).toArray s 0 0 A) (F0 m 57 ls []) := by
            intro n_37
            induction n_37 with
            | zero => intro jd zamb ztkb zqpb y86b y49b H locs ls hm; exact absurd hm (Nat.not_lt_zero _)
            | succ n_37 ih_lp_36 =>
              intro jd zamb ztkb zqpb y86b y49b H locs ls hm hjd hlr1 hlr2 hP hD hS hl
              refine lv_iload_n hx hb dX12_laysRest_57 rfl (lv_at hl 0 rfl) ?_
              refine lv_aload_n hx hb dX12_laysRest_58 rfl (lv_at hl 2 rfl) ?_
              refine sk_Vi (q0 := 0) (n := 0) (rest := [.int (nI jd)]) (wr := fmR om_15_4080 _) ⟨hx, hb, hml, hown, hts⟩ hl.1 (c_m_dayMany l D cI cJ cC cZ cS mm g ta pa pe pd pb pp pf pg pn rt rn cd sn il ztkb zamb at_2_4 aa2_5 0 0 (-1) wt wy2_19 0 rm ud nu sd qn qw qo qb zqpb qa qi oc l0 l1 dm l3) w_7_98 w_7_100 w_0_69 w_1_14 w_7_101 hd_X12_dayMany_0 ⟨⟨(Nat.le_of_ble_eq_true rfl), (Nat.le_of_ble_eq_true rfl)⟩, (Nat.le_of_ble_eq_true rfl), (Nat.le_of_ble_eq_true rfl)⟩ hK hP hD hS hA (fmT om_15_4080 0) (fmF om_15_4080 0) (fm_C1 rfl rfl) (fm_R rfl rfl) (fm_nT om_15_4080 0) (fm_nF om_15_4080 0) (fm_di om_15_4080 0) rfl rfl rfl rfl (Nat.le_of_ble_eq_true rfl) dX12_laysRest_59 (fun r_38 u H locs hw hP hD hS => ?_)
              refine anE hw (fun er_40 eu_39 => ?_)
              clear hw
              subst er_40
              refine o_mgE (ws' := [ro_ mm 12 (mo g (nI ta) (nI pa) (nI pe) pd (nI pb) pp pf pg pn rt rn (nI cd) sn (nI il) ztkb zamb at_2_4 aa2_5 0 0 (-1) wt wy2_19 0 (nI rm) (nI ud) (nI nu) sd (nI qn) (nI qw) qo (nI qb) (nI zqpb) qa (nI qi) (nI oc)), ra_I (g 24) cI 6 (l6 u0 u1 u2 u3 u4 u5), ra_I (g 25) cI 6 (l6 v0 v1 v2 v3 v4 v5), ra_N (g 26) cI 3200 cs, ra_I (g 31) cI 120 nw, ra_N (g 46) cI 9 pt2_32, ra_J (g 86) cJ 1700 y86b, ra_I (g 20) cI 4 (l4 (nI l0) (nI l1) (nI dm) (nI l3)), ra_I (g 38) cI 90 ws_2_7, ra_I (g 36) cZ 900 yw2_8, ra_I (g 37) cZ 900 yo2_9, ra_J (g 43) cJ 90 be2_20, ra_J (g 44) cJ 90 bf2_21, ra_I (g 50) cZ 512 f_29, ra_J (g 49) cJ 4608 y49b]) eu_39 hP hD rfl (fun hP hD => ?_)
              refine lv_icmp_ge (tgt := 93) hx hb dX12_laysRest_62 (by decide) (fun c_41 => ?_) (fun c_41 => ?_)
              · have c_41 : dm ≤ jd := (nle dm jd (by omega) (by omega)).mp c_41
                refine lv_iinc (v := nI (i + 1)) (lv' := [(1, .int (nI (i + 1))), (2, .int (nI jd)), (0, .ref mm)]) hx hb dX12_laysRest_93 hl (k := 1) rfl (ninc i 1 (by decide)) (by decide) rfl (fun ls hl => ?_)
                refine lv_goto (tgt := 7) hx hb dX12_laysRest_96 (by decide) ?_
                exact ih_lp_12 (i + 1) zamb ztkb zqpb wy2_19 pt2_32 y86b be2_20 bf2_21 f_29 y49b _ _ _ (by omega) hpt2_34 (by omega) (lrI_y hlr1 ((kui_s ef_30).trans (congrArg nI (show b_18 = 1 by omega))) hgoS (fun d hd => hlr2 d (by omega))) hP hD hS (lv_sub hl [0, 2] rfl)
              · have c_41 : ¬ (dm ≤ jd) := fun h => c_41 ((nle dm jd (by omega) (by omega)).mpr h)
                refine lv_aload_n hx hb dX12_laysRest_65 rfl (lv_at hl 2 rfl) ?_
                refine sk_get (v := .ref (g 49)) (C := RX12) (T := TX12) (N := 92) hx hb hts inlX12 hown hK hP 0 rfl rfl 49 (Nat.le_of_ble_eq_true rfl) w_5_204 rfl dX12_laysRest_66 ?_
                refine lv_bipush (v := 9) hx hb dX12_laysRest_69 (by decide) ?_
                refine lv_iload_n hx hb dX12_laysRest_71 rfl (lv_at hl 1 rfl) ?_
                refine lv_imul hx hb dX12_laysRest_72 ?_
                refine sk_top (nI (9 * i)) (nmul 9 i) ?_
                refine lv_iload_n hx hb dX12_laysRest_73 rfl (lv_at hl 0 rfl) ?_
                refine lv_iadd hx hb dX12_laysRest_74 ?_
                refine sk_top (nI (9 * i + jd)) (nI_add (9 * i) jd) ?_
                refine lv_aload_n hx hb dX12_laysRest_75 rfl (lv_at hl 2 rfl) ?_
                refine lv_iload_n hx hb dX12_laysRest_76 rfl (lv_at hl 0 rfl) ?_
                refine lv_aload_n hx hb dX12_laysRest_77 rfl (lv_at hl 2 rfl) ?_
                refine sk_get (v := .ref (g 46)) (C := RX12) (T := TX12) (N := 92) hx hb hts inlX12 hown hK hP 0 rfl rfl 46 (Nat.le_of_ble_eq_true rfl) w_5_201 rfl dX12_laysRest_78 ?_
                refine lv_iload_n hx hb dX12_laysRest_81 rfl (lv_at hl 0 rfl) ?_
                refine va_iald hx hb hK.1 hP 5 0 rfl rfl (vin jd 9 (by omega) (Nat.le_of_ble_eq_true rfl)) dX12_laysRest_82 ?_
                refine sk_top (nI (pt2_32 jd)) (nrd pt2_32 jd (by omega)) ?_
                have hb_42 := hpt2_34 jd
                have hm10 := kcM_10 (E := (kcFo L wn Ba We (kUs U i) 0)) (d := jd) (show mN < 10 by have := hnw.1; omega) hgoS (by omega)
                refine sk_top (nI (kcM (kcFo L wn Ba We (kUs U i) 0) dm mN 0 jd)) (congrArg nI (hpx jd (by omega))) ?_
                refine sk_Vl (q0 := 0) (n := 2) (rest := [.int (nI (9 * i + jd)), .ref (g 49)]) (wr := fmR om_15_7f00 _) ⟨hx, hb, hml, hown, hts⟩ hl.1 (c_nm_wageOf l D cI cJ cC cZ cS mm g ta pa pe pd pb pp pf pg pn rt rn cd sn il ztkb zamb at_2_4 aa2_5 0 wt wy2_19 0 rm ud nu sd qn qw qo qb zqpb qa qi oc jd (kcM (kcFo L wn Ba We (kUs U i) 0) dm mN 0 jd) u0 u1 u2 u3 u4 u5 v0 v1 v2 v3 v4 v5 cs nw pt2_32 y86b L wn (Ba jd) (We jd) (by omega) (by omega) hLk hkl (nwX_md hnw (by omega)) hwk (hB9 _) (hW9 _) hmw2 hcs (nwX_ok hnw) hpt2_34) w_8_45 w_8_47 w_0_97 w_1_14 w_8_48 hd_X12_wageOf_2 ⟨⟨(Nat.le_of_ble_eq_true rfl), (Nat.le_of_ble_eq_true rfl)⟩, (Nat.le_of_ble_eq_true rfl), (Nat.le_of_ble_eq_true rfl)⟩ hK hP hD hS hA (fmT om_15_7f00 0) (fmF om_15_7f00 0) (fm_C1 rfl rfl) (fm_R rfl rfl) (fm_nT om_15_7f00 0) (fm_nF om_15_7f00 0) (fm_di om_15_7f00 0) rfl rfl rfl rfl (Nat.le_of_ble_eq_true rfl) dX12_laysRest_83 (fun r_47 u H locs hw hP hD hS => ?_)
                refine exE hw (fun tk2_43 hw1 => exE hw1 (fun qp2_44 hw2 => exE hw2 (fun am2_45 hw3 => exE hw3 (fun ql2_46 hw4 => anE hw4 (fun hr_48 eu_49 => ?_)))))
                clear hw hw1 hw2 hw3 hw4
                refine o_mgE (ws' := [ro_ mm 12 (mo g (nI ta) (nI pa) (nI pe) pd (nI pb) pp pf pg pn rt rn (nI cd) sn (nI il) tk2_43 am2_45 at_2_4 aa2_5 0 0 (-1) wt wy2_19 0 (nI rm) (nI ud) (nI nu) sd (nI qn) (nI qw) qo (nI qb) (nI qp2_44) qa (nI qi) (nI oc)), ra_I (g 24) cI 6 (l6 u0 u1 u2 u3 u4 u5), ra_I (g 25) cI 6 (l6 v0 v1 v2 v3 v4 v5), ra_N (g 26) cI 3200 cs, ra_I (g 31) cI 120 nw, ra_N (g 46) cI 9 pt2_32, ra_J (g 86) cJ 1700 ql2_46, ra_I (g 20) cI 4 (l4 (nI l0) (nI l1) (nI dm) (nI l3)), ra_I (g 38) cI 90 ws_2_7, ra_I (g 36) cZ 900 yw2_8, ra_I (g 37) cZ 900 yo2_9, ra_J (g 43) cJ 90 be2_20, ra_J (g 44) cJ 90 bf2_21, ra_I (g 50) cZ 512 f_29, ra_J (g 49) cJ 4608 y49b]) eu_49 hP hD rfl (fun hP hD => ?_)
                subst hr_48
                refine sk_lastE (k := (9 * i + jd)) (ws' := fun f_50 => [ro_ mm 12 (mo g (nI ta) (nI pa) (nI pe) pd (nI pb) pp pf pg pn rt rn (nI cd) sn (nI il) tk2_43 am2_45 at_2_4 aa2_5 0 0 (-1) wt wy2_19 0 (nI rm) (nI ud) (nI nu) sd (nI qn) (nI qw) qo (nI qb) (nI qp2_44) qa (nI qi) (nI oc)), ra_I (g 24) cI 6 (l6 u0 u1 u2 u3 u4 u5), ra_I (g 25) cI 6 (l6 v0 v1 v2 v3 v4 v5), ra_N (g 26) cI 3200 cs, ra_I (g 31) cI 120 nw, ra_N (g 46) cI 9 pt2_32, ra_J (g 86) cJ 1700 ql2_46, ra_I (g 20) cI 4 (l4 (nI l0) (nI l1) (nI dm) (nI l3)), ra_I (g 38) cI 90 ws_2_7, ra_I (g 36) cZ 900 yw2_8, ra_I (g 37) cZ 900 yo2_9, ra_J (g 43) cJ 90 be2_20, ra_J (g 44) cJ 90 bf2_21, ra_I (g 50) cZ 512 f_29, ra_J (g 49) cJ 4608 f_50]) hx hb hK hP hD hS 14 1 rfl rfl (by omega) (by omega) (fun _ => rfl) dX12_laysRest_86 (fun f_50 H locs ef_51 hP hD hS => ?_)
                refine lv_iinc (v := nI (jd + 1)) (lv' := [(2, .int (nI (jd + 1))), (1, .int (nI i)), (0, .ref mm)]) hx hb dX12_laysRest_87 hl (k := 0) rfl (ninc jd 1 (by decide)) (by decide) rfl (fun ls hl => ?_)
                refine lv_goto (tgt := 57) hx hb dX12_laysRest_90 (by decide) ?_
                exact ih_lp_36 (jd + 1) am2_45 tk2_43 qp2_44 ql2_46 f_50 _ _ _ (by omega) (by omega) (lrI_w hlr1 ef_51 hdm) (lrw_s hlr2 ef_51 rfl) hP hD hS (lv_sub hl [0, 1, 2] rfl)
          exact lp_36 (dm - 0 + 1) 0 zama ztka zqpa y86a y49a _ _ _ (Nat.lt_succ_self _) (by omega) (lrI_ag hlr ef_30) (fun d hd => absurd hd (Nat.not_lt_zero d)) hP hD hS (lv_sub hl [0, 1, 2] rfl)
        · have c_31 : b_18 = 0 := (neq b_18 0 (by omega) (Nat.le_of_ble_eq_true rfl)).mp c_31
          refine lv_goto (tgt := 93) hx hb dX12_laysRest_37 (by decide) ?_
          refine lv_iinc (v := nI (i + 1)) (lv' := [(1, .int (nI (i + 1))), (0, .ref mm)]) hx hb dX12_laysRest_93 hl (k := 0) rfl (ninc i 1 (by decide)) (by decide) rfl (fun ls hl => ?_)
          refine lv_goto (tgt := 7) hx hb dX12_laysRest_96 (by decide) ?_
          exact ih_lp_12 (i + 1) zama ztka zqpa wy2_19 y46a y86a be2_20 bf2_21 f_29 y49a _ _ _ (by omega) hy46a (by omega) (lrI_n (lrI_ag hlr ef_30) ((kui_s ef_30).trans (congrArg nI (show b_18 = 0 by omega))) (fun q => absurd q (Nat.not_lt.mpr (Nat.le_of_eq (rr_0 hb1_26 (by omega)))))) hP hD hS (lv_sub hl [0, 1] rfl)
  exact lp_12 (512 - 0 + 1) 0 am2_3 tk2_1 qp2_2 wy pt ql2_6 be bf ag wg _ _ _ (Nat.lt_succ_self _) hpt (Nat.zero_le _) (lrI_0 _ _) hP hD hS (lv_sub hl [0, 1] rfl)
theorem nxor9 {a b : Nat} (ha : a < 512) (hb : b < 512) : nI a ^^^ nI b = nI (a ^^^ b) := by
  have h3 : a ^^^ b < 2 ^ 9 := Nat.xor_lt_two_pow (n := 9) ha hb
  refine Int32.toBitVec_inj.mp ?_
  rw [Int32.toBitVec_xor]
  show BitVec.ofNat 32 a ^^^ BitVec.ofNat 32 b = BitVec.ofNat 32 (a ^^^ b)
  refine BitVec.eq_of_toNat_eq ?_
  rw [BitVec.toNat_xor, BitVec.toNat_ofNat, BitVec.toNat_ofNat, BitVec.toNat_ofNat, Nat.mod_eq_of_lt (show a < 2 ^ 32 by omega), Nat.mod_eq_of_lt (show b < 2 ^ 32 by omega), Nat.mod_eq_of_lt (show a ^^^ b < 2 ^ 32 by omega)]
theorem dg_X12_isRest_0_0 : bqL cX12_isRest 0 [(0, [42]), (1, [180, 0, 98]), (4, [27]), (5, [51]), (6, [154, 0, 5]), (11, [3]), (12, [61]), (13, [28]), (14, [42]), (15, [182, 1, 59]), (18, [162, 0, 60]), (78, [4]), (79, [172]), (21, [27]), (22, [4]), (23, [28]), (24, [120]), (25, [130]), (26, [62]), (27, [42]), (28, [28]), (29, [182, 1, 103]), (32, [154, 0, 40]), (72, [132, 2, 1]), (75, [167, 255, 194]), (35, [42]), (36, [180, 0, 98]), (39, [29]), (40, [51]), (41, [153, 0, 31]), (44, [42]), (45, [180, 0, 95]), (48, [16, 9]), (50, [29]), (51, [104]), (52, [28]), (53, [96]), (54, [47]), (55, [42]), (56, [180, 0, 95])] = true := by decide +kernel
theorem dX12_isRest_0 : decode cX12_isRest 0 = .ok (.aload_n 0, 1) := q_aload_n0 (bat_get dg_X12_isRest_0_0 0 rfl rfl)
theorem dX12_isRest_1 : decode cX12_isRest 1 = .ok (.getfield 98, 3) := q_getfield (bat_get dg_X12_isRest_0_0 1 rfl rfl) rfl
theorem dX12_isRest_4 : decode cX12_isRest 4 = .ok (.iload_n 1, 1) := q_iload_n1 (bat_get dg_X12_isRest_0_0 2 rfl rfl)
theorem dX12_isRest_5 : decode cX12_isRest 5 = .ok (.baload, 1) := q_baload (bat_get dg_X12_isRest_0_0 3 rfl rfl)
theorem dX12_isRest_6 : decode cX12_isRest 6 = .ok (.ifCond .ne 5, 3) := q_ifCond_ne (bat_get dg_X12_isRest_0_0 4 rfl rfl) rfl
theorem dX12_isRest_11 : decode cX12_isRest 11 = .ok (.iconst 0, 1) := q_iconst0 (bat_get dg_X12_isRest_0_0 5 rfl rfl)
theorem dX12_isRest_12 : decode cX12_isRest 12 = .ok (.istore_n 2, 1) := q_istore_n2 (bat_get dg_X12_isRest_0_0 6 rfl rfl)
theorem dX12_isRest_13 : decode cX12_isRest 13 = .ok (.iload_n 2, 1) := q_iload_n2 (bat_get dg_X12_isRest_0_0 7 rfl rfl)
theorem dX12_isRest_14 : decode cX12_isRest 14 = .ok (.aload_n 0, 1) := q_aload_n0 (bat_get dg_X12_isRest_0_0 8 rfl rfl)
theorem dX12_isRest_15 : decode cX12_isRest 15 = .ok (.invokevirtual 315, 3) := q_invokevirtual (bat_get dg_X12_isRest_0_0 9 rfl rfl) rfl
theorem dX12_isRest_18 : decode cX12_isRest 18 = .ok (.if_icmp .ge 60, 3) := q_if_icmp_ge (bat_get dg_X12_isRest_0_0 10 rfl rfl) rfl
theorem dX12_isRest_78 : decode cX12_isRest 78 = .ok (.iconst 1, 1) := q_iconst1 (bat_get dg_X12_isRest_0_0 11 rfl rfl)
theorem dX12_isRest_79 : decode cX12_isRest 79 = .ok (.ireturn, 1) := q_ireturn (bat_get dg_X12_isRest_0_0 12 rfl rfl)
theorem dX12_isRest_21 : decode cX12_isRest 21 = .ok (.iload_n 1, 1) := q_iload_n1 (bat_get dg_X12_isRest_0_0 13 rfl rfl)
theorem dX12_isRest_22 : decode cX12_isRest 22 = .ok (.iconst 1, 1) := q_iconst1 (bat_get dg_X12_isRest_0_0 14 rfl rfl)
theorem dX12_isRest_23 : decode cX12_isRest 23 = .ok (.iload_n 2, 1) := q_iload_n2 (bat_get dg_X12_isRest_0_0 15 rfl rfl)
theorem dX12_isRest_24 : decode cX12_isRest 24 = .ok (.ishl, 1) := q_ishl (bat_get dg_X12_isRest_0_0 16 rfl rfl)
theorem dX12_isRest_25 : decode cX12_isRest 25 = .ok (.ixor, 1) := q_ixor (bat_get dg_X12_isRest_0_0 17 rfl rfl)
theorem dX12_isRest_26 : decode cX12_isRest 26 = .ok (.istore_n 3, 1) := q_istore_n3 (bat_get dg_X12_isRest_0_0 18 rfl rfl)
theorem dX12_isRest_27 : decode cX12_isRest 27 = .ok (.aload_n 0, 1) := q_aload_n0 (bat_get dg_X12_isRest_0_0 19 rfl rfl)
theorem dX12_isRest_28 : decode cX12_isRest 28 = .ok (.iload_n 2, 1) := q_iload_n2 (bat_get dg_X12_isRest_0_0 20 rfl rfl)
theorem dX12_isRest_29 : decode cX12_isRest 29 = .ok (.invokevirtual 359, 3) := q_invokevirtual (bat_get dg_X12_isRest_0_0 21 rfl rfl) rfl
theorem dX12_isRest_32 : decode cX12_isRest 32 = .ok (.ifCond .ne 40, 3) := q_ifCond_ne (bat_get dg_X12_isRest_0_0 22 rfl rfl) rfl
theorem dX12_isRest_72 : decode cX12_isRest 72 = .ok (.iinc 2 1, 3) := q_iinc (bat_get dg_X12_isRest_0_0 23 rfl rfl) rfl
theorem dX12_isRest_75 : decode cX12_isRest 75 = .ok (.goto (-62), 3) := q_goto (bat_get dg_X12_isRest_0_0 24 rfl rfl) rfl
theorem dX12_isRest_35 : decode cX12_isRest 35 = .ok (.aload_n 0, 1) := q_aload_n0 (bat_get dg_X12_isRest_0_0 25 rfl rfl)
theorem dX12_isRest_36 : decode cX12_isRest 36 = .ok (.getfield 98, 3) := q_getfield (bat_get dg_X12_isRest_0_0 26 rfl rfl) rfl
theorem dX12_isRest_39 : decode cX12_isRest 39 = .ok (.iload_n 3, 1) := q_iload_n3 (bat_get dg_X12_isRest_0_0 27 rfl rfl)
theorem dX12_isRest_40 : decode cX12_isRest 40 = .ok (.baload, 1) := q_baload (bat_get dg_X12_isRest_0_0 28 rfl rfl)
theorem dX12_isRest_41 : decode cX12_isRest 41 = .ok (.ifCond .eq 31, 3) := q_ifCond_eq (bat_get dg_X12_isRest_0_0 29 rfl rfl) rfl
theorem dX12_isRest_44 : decode cX12_isRest 44 = .ok (.aload_n 0, 1) := q_aload_n0 (bat_get dg_X12_isRest_0_0 30 rfl rfl)
theorem dX12_isRest_45 : decode cX12_isRest 45 = .ok (.getfield 95, 3) := q_getfield (bat_get dg_X12_isRest_0_0 31 rfl rfl) rfl
theorem dX12_isRest_48 : decode cX12_isRest 48 = .ok (.bipush 9, 2) := q_bipush (bat_get dg_X12_isRest_0_0 32 rfl rfl) rfl
theorem dX12_isRest_50 : decode cX12_isRest 50 = .ok (.iload_n 3, 1) := q_iload_n3 (bat_get dg_X12_isRest_0_0 33 rfl rfl)
theorem dX12_isRest_51 : decode cX12_isRest 51 = .ok (.imul, 1) := q_imul (bat_get dg_X12_isRest_0_0 34 rfl rfl)
theorem dX12_isRest_52 : decode cX12_isRest 52 = .ok (.iload_n 2, 1) := q_iload_n2 (bat_get dg_X12_isRest_0_0 35 rfl rfl)
theorem dX12_isRest_53 : decode cX12_isRest 53 = .ok (.iadd, 1) := q_iadd (bat_get dg_X12_isRest_0_0 36 rfl rfl)
theorem dX12_isRest_54 : decode cX12_isRest 54 = .ok (.laload, 1) := q_laload (bat_get dg_X12_isRest_0_0 37 rfl rfl)
theorem dX12_isRest_55 : decode cX12_isRest 55 = .ok (.aload_n 0, 1) := q_aload_n0 (bat_get dg_X12_isRest_0_0 38 rfl rfl)
theorem dX12_isRest_56 : decode cX12_isRest 56 = .ok (.getfield 95, 3) := q_getfield (bat_get dg_X12_isRest_0_0 39 rfl rfl) rfl
theorem dg_X12_isRest_9_59 : bqL cX12_isRest 9 [(50, [16, 9]), (52, [27]), (53, [104]), (54, [28]), (55, [96]), (56, [47]), (57, [148]), (58, [158, 0, 5]), (61, [3]), (62, [172]), (0, [3]), (1, [172])] = true := by decide +kernel
theorem dX12_isRest_59 : decode cX12_isRest 59 = .ok (.bipush 9, 2) := q_bipush (bat_get dg_X12_isRest_9_59 0 rfl rfl) rfl
theorem dX12_isRest_61 : decode cX12_isRest 61 = .ok (.iload_n 1, 1) := q_iload_n1 (bat_get dg_X12_isRest_9_59 1 rfl rfl)
theorem dX12_isRest_62 : decode cX12_isRest 62 = .ok (.imul, 1) := q_imul (bat_get dg_X12_isRest_9_59 2 rfl rfl)
theorem dX12_isRest_63 : decode cX12_isRest 63 = .ok (.iload_n 2, 1) := q_iload_n2 (bat_get dg_X12_isRest_9_59 3 rfl rfl)
theorem dX12_isRest_64 : decode cX12_isRest 64 = .ok (.iadd, 1) := q_iadd (bat_get dg_X12_isRest_9_59 4 rfl rfl)
theorem dX12_isRest_65 : decode cX12_isRest 65 = .ok (.laload, 1) := q_laload (bat_get dg_X12_isRest_9_59 5 rfl rfl)
theorem dX12_isRest_66 : decode cX12_isRest 66 = .ok (.lcmp, 1) := q_lcmp (bat_get dg_X12_isRest_9_59 6 rfl rfl)
theorem dX12_isRest_67 : decode cX12_isRest 67 = .ok (.ifCond .le 5, 3) := q_ifCond_le (bat_get dg_X12_isRest_9_59 7 rfl rfl) rfl
theorem dX12_isRest_70 : decode cX12_isRest 70 = .ok (.iconst 0, 1) := q_iconst0 (bat_get dg_X12_isRest_9_59 8 rfl rfl)
theorem dX12_isRest_71 : decode cX12_isRest 71 = .ok (.ireturn, 1) := q_ireturn (bat_get dg_X12_isRest_9_59 9 rfl rfl)
theorem dX12_isRest_9 : decode cX12_isRest 9 = .ok (.iconst 0, 1) := q_iconst0 (bat_get dg_X12_isRest_9_59 10 rfl rfl)
theorem dX12_isRest_10 : decode cX12_isRest 10 = .ok (.ireturn, 1) := q_ireturn (bat_get dg_X12_isRest_9_59 11 rfl rfl)
theorem w_8_68 : (Cond.code yX12_isRest cX12_isRest 4 (some .boolean)) ∈ wsL_law := sk_mem (ck_8 _ (List.mem_of_getElem? (i := 68) rfl)) rfl
set_option maxHeartbeats 4000000 in
set_option maxRecDepth 100000 in
theorem c_vm_isRestX (l : Launch) (D : va_G) (cI cJ cC cZ cS : ClassId) (mm : Nat) (g : Nat → Nat) (ta : Nat) (pa : Nat) (pe : Nat) (pd : Int32) (pb : Nat) (pp : Int32) (pf : Int32) (pg : Int32) (pn : Int32) (rt : Int32) (rn : Int32) (cd : Nat) (sn : Int32) (il : Nat) (tk : Int32) (am : Int32) (at_ : Int32) (aa : Int32) (wt : Int32) (wy : Int64) (rm : Nat) (ud : Nat) (nu : Nat) (sd : Int64) (qn : Nat) (qw : Nat) (qo : Int32) (qb : Nat) (qp : Nat) (qa : Int64) (qi : Nat) (oc : Nat) (so : Nat) (l0 : Nat) (l1 : Nat) (dm : Nat) (l3 : Nat) (nw : Nat → Int32) (ag : Nat → Int32) (wg : Nat → Int64) (wn : Nat) (mN : Nat) (Ba : Nat → Nat) (We : Nat → Nat) (U : Nat → Bool) (ke : Nat) (lg : KLg) (L : LkS) (hdm : dm ≤ 9) (hso : so < 2 ^ dm) (hp2 : 2 ^ dm ≤ 512) (hlr : lrI L dm wn mN Ba We U (2 ^ dm) ag wg) (hnw : nwX wn mN Ba We U ke lg nw) : skM l yX12_isRest cX12_isRest 4 (some .boolean) 1 21 0 0 D (skT cI cJ cC cZ cS) [.ref mm, .int (nI so)] [ro_ mm 12 (mo g (nI ta) (nI pa) (nI pe) pd (nI pb) pp pf pg pn rt rn (nI cd) sn (nI il) tk am at_ aa 0 0 (-1) wt wy 0 (nI rm) (nI ud) (nI nu) sd (nI qn) (nI qw) qo (nI qb) (nI qp) qa (nI qi) (nI oc)), ra_I (g 20) cI 4 (l4 (nI l0) (nI l1) (nI dm) (nI l3)), ra_I (g 31) cI 120 nw, ra_I (g 50) cZ 512 ag, ra_J (g 49) cJ 4608 wg] (skI D (skT cI cJ cC cZ cS) (fun (r : Int32) (u : va_W) => ∃ (b : Nat), ((b = 0 ∧ ¬ svR L dm wn mN Ba We U (kUs U so)) ∨ (b = 1 ∧ svR L dm wn mN Ba We U (kUs U so))) ∧ r = nI b ∧ u = [ro_ mm 12 (mo g (nI ta) (nI pa) (nI pe) pd (nI pb) pp pf pg pn rt rn (nI cd) sn (nI il) tk am at_ aa 0 0 (-1) wt wy 0 (nI rm) (nI ud) (nI nu) sd (nI qn) (nI qw) qo (nI qb) (nI qp) qa (nI qi) (nI oc)), ra_I (g 20) cI 4 (l4 (nI l0) (nI l1) (nI dm) (nI l3)), ra_I (g 31) cI 120 nw, ra_I (g 50) cZ 512 ag, ra_J (g 49) cJ 4608 wg])) := by
  refine skM_of pf_X12_isRest (Nat.le_of_ble_eq_true rfl) ?_
  intro p e s m below meth c A ls E hP hD hl
  refine skE_el E (fun hx hb hr hml hlocks hin hown hts hK hA => ?_)
  have hown : s.vm.findClass RX12 = some m.cls := hown
  have hS : va_S A s.heap s.heap [] := va_S.rf
  have hl : lv_has ls 4 [(0, .ref mm), (1, .int (nI so))] := hl
  refine lv_aload_n hx hb dX12_isRest_0 rfl (lv_at hl 0 rfl) ?_
  refine sk_get (v := .ref (g 50)) (C := RX12) (T := TX12) (N := 92) hx hb hts inlX12 hown hK hP 0 rfl rfl 50 (Nat.le_of_ble_eq_true rfl) w_5_205 rfl dX12_isRest_1 ?_
  refine lv_iload_n hx hb dX12_isRest_4 rfl (lv_at hl 1 rfl) ?_
  refine va_zald hx hb hK.1 hP 3 3 rfl rfl (vin so 512 (by omega) (Nat.le_of_ble_eq_true rfl)) dX12_isRest_5 ?_
  refine sk_top (ag so) (by rw [nI_clamp (by omega)]) ?_
  refine lv_if_ne (tgt := 11) hx hb dX12_isRest_6 (by decide) (fun c_1 => ?_) (fun c_1 => ?_)
  · have hso1 := lr_1 hlr hso c_1
    refine lv_iconst (v := 0) hx hb dX12_isRest_11 ic_0 ?_
    refine lv_istore_n (lv' := [(2, .int 0), (0, .ref mm), (1, .int (nI so))]) hx hb dX12_isRest_12 rfl hl (by decide) rfl (fun ls hl => ?_)
    have lp_2 : ∀ (n_3 : Nat) (i : Nat) (H : Heap) (locs : List Loc) (ls : Array Slot), dm - i < n_3 → (i ≤ dm) → (∀ j, j < i → ¬ svB L dm wn mN Ba We U (kUs U so) j) → va_P D vwCl [ro_ mm 12 (mo g (nI ta) (nI pa) (nI pe) pd (nI pb) pp pf pg pn rt rn (nI cd) sn (nI il) tk am at_ aa 0 0 (-1) wt wy 0 (nI rm) (nI ud) (nI nu) sd (nI qn) (nI qw) qo (nI qb) (nI qp) qa (nI qi) (nI oc)), ra_I (g 20) cI 4 (l4 (nI l0) (nI l1) (nI dm) (nI l3)), ra_I (g 31) cI 120 nw, ra_I (g 50) cZ 512 ag, ra_J (g 49) cJ 4608 wg] H → va_D A [ro_ mm 12 (mo g (nI ta) (nI pa) (nI pe) pd (nI pb) pp pf pg pn rt rn (nI cd) sn (nI il) tk am at_ aa 0 0 (-1) wt wy 0 (nI rm) (nI ud) (nI nu) sd (nI qn) (nI qw) qo (nI qb) (nI qp) qa (nI qi) (nI oc)), ra_I (g 20) cI 4 (l4 (nI l0) (nI l1) (nI dm) (nI l3)), ra_I (g 31) cI 120 nw, ra_I (g 50) cZ 512 ag, ra_J (g 49) cJ 4608 wg] → va_S A s.heap H locs → lv_has ls 4 [(2, .int (nI i)), (0, .ref mm), (1, .int (nI so))] → W p l e { frames := 1, cells := 0, slots := 0, locals := 21 } s m ([.ref mm, .int (nI so)] : List Value).toArray below meth c H locs 0 0 (MQ below (skI D (skT cI cJ cC cZ cS) (fun (r : Int32) (u : va_W) => ∃ (b : Nat), ((b = 0 ∧ ¬ svR L dm wn mN Ba We U (kUs U so)) ∨ (b = 1 ∧ svR L dm wn mN Ba We U (kUs U so))) ∧ r = nI b ∧ u = [ro_ mm 12 (mo g (nI ta) (nI pa) (nI pe) pd (nI pb) pp pf pg pn rt rn (nI cd) sn (nI il) tk am at_ aa 0 0 (-1) wt wy 0 (nI rm) (nI ud) (nI nu) sd (nI qn) (nI qw) qo (nI qb) (nI qp) qa (nI qi) (nI oc)), ra_I (g 20) cI 4 (l4 (nI l0) (nI l1) (nI dm) (nI l3)), ra_I (g 31) cI 120 nw, ra_I (g 50) cZ 512 ag, ra_J (g 49) cJ 4608 wg]) A) ([.ref mm, .int (nI so)] : List Value).toArray s 0 0 A) (F0 m 13 ls []) := by
      intro n_3
      induction n_3 with
      | zero => intro i H locs ls hm; exact absurd hm (Nat.not_lt_zero _)
      | succ n_3 ih_lp_2 =>
        intro i H locs ls hm hi hrs hP hD hS hl
        refine lv_iload_n hx hb dX12_isRest_13 rfl (lv_at hl 0 rfl) ?_
        refine lv_aload_n hx hb dX12_isRest_14 rfl (lv_at hl 1 rfl) ?_
        refine sk_Vi (q0 := 0) (n := 0) (rest := [.int (nI i)]) (wr := fmR om_5_18 _) ⟨hx, hb, hml, hown, hts⟩ hl.1 (c_m_dayMany l D cI cJ cC cZ cS mm g ta pa pe pd pb pp pf pg pn rt rn cd sn il tk am at_ aa 0 0 (-1) wt wy 0 rm ud nu sd qn qw qo qb qp qa qi oc l0 l1 dm l3) w_7_98 w_7_100 w_0_69 w_1_14 w_7_101 hd_X12_dayMany_0 ⟨⟨(Nat.le_of_ble_eq_true rfl), (Nat.le_of_ble_eq_true rfl)⟩, (Nat.le_of_ble_eq_true rfl), (Nat.le_of_ble_eq_true rfl)⟩ hK hP hD hS hA (fmT om_5_18 0) (fmF om_5_18 0) (fm_C1 rfl rfl) (fm_R rfl rfl) (fm_nT om_5_18 0) (fm_nF om_5_18 0) (fm_di om_5_18 0) rfl rfl rfl rfl (Nat.le_of_ble_eq_true rfl) dX12_isRest_15 (fun r_4 u H locs hw hP hD hS => ?_)
        refine anE hw (fun er_6 eu_5 => ?_)
        clear hw
        subst er_6
        refine o_mgE (ws' := [ro_ mm 12 (mo g (nI ta) (nI pa) (nI pe) pd (nI pb) pp pf pg pn rt rn (nI cd) sn (nI il) tk am at_ aa 0 0 (-1) wt wy 0 (nI rm) (nI ud) (nI nu) sd (nI qn) (nI qw) qo (nI qb) (nI qp) qa (nI qi) (nI oc)), ra_I (g 20) cI 4 (l4 (nI l0) (nI l1) (nI dm) (nI l3)), ra_I (g 31) cI 120 nw, ra_I (g 50) cZ 512 ag, ra_J (g 49) cJ 4608 wg]) eu_5 hP hD rfl (fun hP hD => ?_)
        refine lv_icmp_ge (tgt := 78) hx hb dX12_isRest_18 (by decide) (fun c_7 => ?_) (fun c_7 => ?_)
        · have c_7 : dm ≤ i := (nle dm i (by omega) (by omega)).mp c_7
          refine lv_iconst (v := 1) hx hb dX12_isRest_78 ic_1 ?_
          exact sk_iret hx hb hr rfl hlocks hK hP hD hS (⟨1, Or.inr ⟨rfl, hso1.1, fun d hd => hrs d (by omega)⟩, rfl, rfl⟩) (Nat.le_of_ble_eq_true rfl) (Nat.le_of_ble_eq_true rfl) dX12_isRest_79
        · have c_7 : ¬ (dm ≤ i) := fun h => c_7 ((nle dm i (by omega) (by omega)).mpr h)
          refine lv_iload_n hx hb dX12_isRest_21 rfl (lv_at hl 2 rfl) ?_
          refine lv_iconst (v := 1) hx hb dX12_isRest_22 ic_1 ?_
          refine lv_iload_n hx hb dX12_isRest_23 rfl (lv_at hl 0 rfl) ?_
          refine lv_ishl hx hb dX12_isRest_24 ?_
          refine sk_top (nI (2 ^ i)) (kshl1 (by omega)).1 ?_
          have hpi : 2 ^ i < 2 ^ dm := Nat.pow_lt_pow_right (a := 2) (by decide) (by omega)
          refine lv_ixor hx hb dX12_isRest_25 ?_
          have hxl := kxl (n := dm) (d := i) hso (by omega)
          refine sk_top (nI (so ^^^ 2 ^ i)) (nxor9 (by omega) (by omega)) ?_
          refine lv_istore_n (lv' := [(3, .int (nI (so ^^^ 2 ^ i))), (2, .int (nI i)), (0, .ref mm), (1, .int (nI so))]) hx hb dX12_isRest_26 rfl hl (by decide) rfl (fun ls hl => ?_)
          refine lv_aload_n hx hb dX12_isRest_27 rfl (lv_at hl 2 rfl) ?_
          refine lv_iload_n hx hb dX12_isRest_28 rfl (lv_at hl 1 rfl) ?_
          refine sk_Vi (q0 := 0) (n := 1) (rest := []) (wr := fmR om_5_14 _) ⟨hx, hb, hml, hown, hts⟩ hl.1 (c_nm_isMute l D cI cJ cC cZ cS mm g ta pa pe pd pb pp pf pg pn rt rn cd sn il tk am at_ aa wt wy rm ud nu sd qn qw qo qb qp qa qi oc i nw wn mN Ba We U ke lg (by omega) hnw) w_7_106 w_7_108 w_0_71 w_1_14 w_7_109 hd_X12_isMute_1 ⟨⟨(Nat.le_of_ble_eq_true rfl), (Nat.le_of_ble_eq_true rfl)⟩, (Nat.le_of_ble_eq_true rfl), (Nat.le_of_ble_eq_true rfl)⟩ hK hP hD hS hA (fmT om_5_14 0) (fmF om_5_14 0) (fm_C1 rfl rfl) (fm_R rfl rfl) (fm_nT om_5_14 0) (fm_nF om_5_14 0) (fm_di om_5_14 0) rfl rfl rfl rfl (Nat.le_of_ble_eq_true rfl) dX12_isRest_29 (fun r_9 u H locs hw hP hD hS => ?_)
          refine exE hw (fun b_8 hw1 => anE hw1 (fun hb1_10 hw2 => anE hw2 (fun er_12 eu_11 => ?_)))
          clear hw hw1 hw2
          subst er_12
          refine o_mgE (ws' := [ro_ mm 12 (mo g (nI ta) (nI pa) (nI pe) pd (nI pb) pp pf pg pn rt rn (nI cd) sn (nI il) tk am at_ aa 0 0 (-1) wt wy 0 (nI rm) (nI ud) (nI nu) sd (nI qn) (nI qw) qo (nI qb) (nI qp) qa (nI qi) (nI oc)), ra_I (g 20) cI 4 (l4 (nI l0) (nI l1) (nI dm) (nI l3)), ra_I (g 31) cI 120 nw, ra_I (g 50) cZ 512 ag, ra_J (g 49) cJ 4608 wg]) eu_11 hP hD rfl (fun hP hD => ?_)
          refine lv_if_ne (tgt := 72) hx hb dX12_isRest_32 (by decide) (fun c_13 => ?_) (fun c_13 => ?_)
          · have c_13 : ¬ (b_8 = 0) := fun h => c_13 ((neq b_8 0 (by omega) (Nat.le_of_ble_eq_true rfl)).mpr h)
            refine lv_iinc (v := nI (i + 1)) (lv' := [(2, .int (nI (i + 1))), (3, .int (nI (so ^^^ 2 ^ i))), (0, .ref mm), (1, .int (nI so))]) hx hb dX12_isRest_72 hl (k := 1) rfl (ninc i 1 (by decide)) (by decide) rfl (fun ls hl => ?_)
            refine lv_goto (tgt := 13) hx hb dX12_isRest_75 (by decide) ?_
            exact ih_lp_2 (i + 1) _ _ _ (by omega) (by omega) (krs_nx hrs (fun q => absurd q.1 (by rw [km_1 hb1_10 (by omega)]; decide))) hP hD hS (lv_sub hl [0, 2, 3] rfl)
          · have c_13 : b_8 = 0 := (neq b_8 0 (by omega) (Nat.le_of_ble_eq_true rfl)).mp c_13
            refine lv_aload_n hx hb dX12_isRest_35 rfl (lv_at hl 2 rfl) ?_
            refine sk_get (v := .ref (g 50)) (C := RX12) (T := TX12) (N := 92) hx hb hts inlX12 hown hK hP 0 rfl rfl 50 (Nat.le_of_ble_eq_true rfl) w_5_205 rfl dX12_isRest_36 ?_
            refine lv_iload_n hx hb dX12_isRest_39 rfl (lv_at hl 0 rfl) ?_
            refine va_zald hx hb hK.1 hP 3 3 rfl rfl (vin (so ^^^ 2 ^ i) 512 (by omega) (Nat.le_of_ble_eq_true rfl)) dX12_isRest_40 ?_
            refine sk_top (ag (so ^^^ 2 ^ i)) (by rw [nI_clamp (by omega)]) ?_
            refine lv_if_eq (tgt := 72) hx hb dX12_isRest_41 (by decide) (fun c_14 => ?_) (fun c_14 => ?_)
            · have hox := lr_0 hlr hxl c_14
              rw [kUs_x (Bool.eq_false_iff.mpr (km_0 hb1_10 (by omega)))] at hox
              refine lv_iinc (v := nI (i + 1)) (lv' := [(2, .int (nI (i + 1))), (3, .int (nI (so ^^^ 2 ^ i))), (0, .ref mm), (1, .int (nI so))]) hx hb dX12_isRest_72 hl (k := 1) rfl (ninc i 1 (by decide)) (by decide) rfl (fun ls hl => ?_)
              refine lv_goto (tgt := 13) hx hb dX12_isRest_75 (by decide) ?_
              exact ih_lp_2 (i + 1) _ _ _ (by omega) (by omega) (krs_nx hrs (fun q => hox q.2.1)) hP hD hS (lv_sub hl [0, 2, 3] rfl)
            · have hox := lr_1 hlr hxl c_14
              rw [kUs_x (Bool.eq_false_iff.mpr (km_0 hb1_10 (by omega)))] at hox
              refine lv_aload_n hx hb dX12_isRest_44 rfl (lv_at hl 2 rfl) ?_
              refine sk_get (v := .ref (g 49)) (C := RX12) (T := TX12) (N := 92) hx hb hts inlX12 hown hK hP 0 rfl rfl 49 (Nat.le_of_ble_eq_true rfl) w_5_204 rfl dX12_isRest_45 ?_
              refine lv_bipush (v := 9) hx hb dX12_isRest_48 (by decide) ?_
              refine lv_iload_n hx hb dX12_isRest_50 rfl (lv_at hl 0 rfl) ?_
              refine lv_imul hx hb dX12_isRest_51 ?_
              refine sk_top (nI (9 * (so ^^^ 2 ^ i))) (nmul 9 (so ^^^ 2 ^ i)) ?_
              refine lv_iload_n hx hb dX12_isRest_52 rfl (lv_at hl 1 rfl) ?_
              refine lv_iadd hx hb dX12_isRest_53 ?_
              refine sk_top (nI (9 * (so ^^^ 2 ^ i) + i)) (nI_add (9 * (so ^^^ 2 ^ i)) i) ?_
              refine va_lald hx hb hK.1 hP 4 1 rfl rfl (vin (9 * (so ^^^ 2 ^ i) + i) 4608 (by omega) (Nat.le_of_ble_eq_true rfl)) dX12_isRest_54 ?_
              refine sk_topl (svG L dm wn mN Ba We (updG (kUs U so) i (!(kUs U so i))) i) (by rw [nI_clamp (by omega)]; exact hox.2 i (by omega)) ?_
              refine lv_aload_n hx hb dX12_isRest_55 rfl (lv_at hl 2 rfl) ?_
              refine sk_get (v := .ref (g 49)) (C := RX12) (T := TX12) (N := 92) hx hb hts inlX12 hown hK hP 0 rfl rfl 49 (Nat.le_of_ble_eq_true rfl) w_5_204 rfl dX12_isRest_56 ?_
              refine lv_bipush (v := 9) hx hb dX12_isRest_59 (by decide) ?_
              refine lv_iload_n hx hb dX12_isRest_61 rfl (lv_at hl 3 rfl) ?_
              refine lv_imul hx hb dX12_isRest_62 ?_
              refine sk_top (nI (9 * so)) (nmul 9 so) ?_
              refine lv_iload_n hx hb dX12_isRest_63 rfl (lv_at hl 1 rfl) ?_
              refine lv_iadd hx hb dX12_isRest_64 ?_
              refine sk_top (nI (9 * so + i)) (nI_add (9 * so) i) ?_
              refine va_lald hx hb hK.1 hP 4 1 rfl rfl (vin (9 * so + i) 4608 (by omega) (Nat.le_of_ble_eq_true rfl)) dX12_isRest_65 ?_
              refine sk_topl (svG L dm wn mN Ba We (kUs U so) i) (by rw [nI_clamp (by omega)]; exact hso1.2 i (by omega)) ?_
              refine W.lcmp hx hb dX12_isRest_66 ?_
              refine lv_if_le (tgt := 72) hx hb dX12_isRest_67 (by decide) (fun c_15 => ?_) (fun c_15 => ?_)
              · skip
                refine lv_iinc (v := nI (i + 1)) (lv' := [(2, .int (nI (i + 1))), (3, .int (nI (so ^^^ 2 ^ i))), (0, .ref mm), (1, .int (nI so))]) hx hb dX12_isRest_72 hl (k := 1) rfl (ninc i 1 (by decide)) (by decide) rfl (fun ls hl => ?_)
                refine lv_goto (tgt := 13) hx hb dX12_isRest_75 (by decide) ?_
                exact ih_lp_2 (i + 1) _ _ _ (by omega) (by omega) (krs_nx hrs (fun q => Int32.not_le.mpr ((lg_cmp_gt _ _).mpr q.2.2) c_15)) hP hD hS (lv_sub hl [0, 2, 3] rfl)
              · skip
                refine lv_iconst (v := 0) hx hb dX12_isRest_70 ic_0 ?_
                exact sk_iret hx hb hr rfl hlocks hK hP hD hS (⟨0, Or.inl ⟨rfl, fun q => q.2 i (by omega) ⟨Bool.eq_false_iff.mpr (km_0 hb1_10 (by omega)), hox.1, (lg_cmp_gt _ _).mp (Int32.not_le.mp c_15)⟩⟩, rfl, rfl⟩) (Nat.le_of_ble_eq_true rfl) (Nat.le_of_ble_eq_true rfl) dX12_isRest_71
    exact lp_2 (dm - 0 + 1) 0 _ _ _ (Nat.lt_succ_self _) (by omega) (fun j hj => absurd hj (Nat.not_lt_zero j)) hP hD hS (lv_sub hl [0, 1, 2] rfl)
  · skip
    refine lv_iconst (v := 0) hx hb dX12_isRest_9 ic_0 ?_
    exact sk_iret hx hb hr rfl hlocks hK hP hD hS (⟨0, Or.inl ⟨rfl, fun q => lr_0 hlr hso c_1 q.1⟩, rfl, rfl⟩) (Nat.le_of_ble_eq_true rfl) (Nat.le_of_ble_eq_true rfl) dX12_isRest_10
theorem dg_X12_rest_0_0 : bqL cX12_rest 0 [(0, [42]), (1, [180, 1, 46]), (4, [154, 0, 5]), (9, [42]), (10, [182, 1, 192]), (13, [2]), (14, [60]), (15, [3]), (16, [61]), (17, [28]), (18, [4]), (19, [42]), (20, [182, 1, 59]), (23, [120]), (24, [162, 0, 35]), (59, [27]), (60, [172]), (27, [27]), (28, [2]), (29, [159, 0, 14]), (43, [42]), (44, [28]), (45, [182, 1, 195]), (48, [153, 0, 5]), (53, [132, 2, 1]), (56, [167, 255, 217]), (51, [28]), (52, [60]), (32, [28]), (33, [184, 1, 153]), (36, [27]), (37, [184, 1, 153]), (40, [162, 0, 13]), (7, [2]), (8, [172])] = true := by decide +kernel
theorem dX12_rest_0 : decode cX12_rest 0 = .ok (.aload_n 0, 1) := q_aload_n0 (bat_get dg_X12_rest_0_0 0 rfl rfl)
theorem dX12_rest_1 : decode cX12_rest 1 = .ok (.getfield 302, 3) := q_getfield (bat_get dg_X12_rest_0_0 1 rfl rfl) rfl
theorem dX12_rest_4 : decode cX12_rest 4 = .ok (.ifCond .ne 5, 3) := q_ifCond_ne (bat_get dg_X12_rest_0_0 2 rfl rfl) rfl
theorem dX12_rest_9 : decode cX12_rest 9 = .ok (.aload_n 0, 1) := q_aload_n0 (bat_get dg_X12_rest_0_0 3 rfl rfl)
theorem dX12_rest_10 : decode cX12_rest 10 = .ok (.invokevirtual 448, 3) := q_invokevirtual (bat_get dg_X12_rest_0_0 4 rfl rfl) rfl
theorem dX12_rest_13 : decode cX12_rest 13 = .ok (.iconst (-1), 1) := q_iconstm1 (bat_get dg_X12_rest_0_0 5 rfl rfl)
theorem dX12_rest_14 : decode cX12_rest 14 = .ok (.istore_n 1, 1) := q_istore_n1 (bat_get dg_X12_rest_0_0 6 rfl rfl)
theorem dX12_rest_15 : decode cX12_rest 15 = .ok (.iconst 0, 1) := q_iconst0 (bat_get dg_X12_rest_0_0 7 rfl rfl)
theorem dX12_rest_16 : decode cX12_rest 16 = .ok (.istore_n 2, 1) := q_istore_n2 (bat_get dg_X12_rest_0_0 8 rfl rfl)
theorem dX12_rest_17 : decode cX12_rest 17 = .ok (.iload_n 2, 1) := q_iload_n2 (bat_get dg_X12_rest_0_0 9 rfl rfl)
theorem dX12_rest_18 : decode cX12_rest 18 = .ok (.iconst 1, 1) := q_iconst1 (bat_get dg_X12_rest_0_0 10 rfl rfl)
theorem dX12_rest_19 : decode cX12_rest 19 = .ok (.aload_n 0, 1) := q_aload_n0 (bat_get dg_X12_rest_0_0 11 rfl rfl)
theorem dX12_rest_20 : decode cX12_rest 20 = .ok (.invokevirtual 315, 3) := q_invokevirtual (bat_get dg_X12_rest_0_0 12 rfl rfl) rfl
theorem dX12_rest_23 : decode cX12_rest 23 = .ok (.ishl, 1) := q_ishl (bat_get dg_X12_rest_0_0 13 rfl rfl)
theorem dX12_rest_24 : decode cX12_rest 24 = .ok (.if_icmp .ge 35, 3) := q_if_icmp_ge (bat_get dg_X12_rest_0_0 14 rfl rfl) rfl
theorem dX12_rest_59 : decode cX12_rest 59 = .ok (.iload_n 1, 1) := q_iload_n1 (bat_get dg_X12_rest_0_0 15 rfl rfl)
theorem dX12_rest_60 : decode cX12_rest 60 = .ok (.ireturn, 1) := q_ireturn (bat_get dg_X12_rest_0_0 16 rfl rfl)
theorem dX12_rest_27 : decode cX12_rest 27 = .ok (.iload_n 1, 1) := q_iload_n1 (bat_get dg_X12_rest_0_0 17 rfl rfl)
theorem dX12_rest_28 : decode cX12_rest 28 = .ok (.iconst (-1), 1) := q_iconstm1 (bat_get dg_X12_rest_0_0 18 rfl rfl)
theorem dX12_rest_29 : decode cX12_rest 29 = .ok (.if_icmp .eq 14, 3) := q_if_icmp_eq (bat_get dg_X12_rest_0_0 19 rfl rfl) rfl
theorem dX12_rest_43 : decode cX12_rest 43 = .ok (.aload_n 0, 1) := q_aload_n0 (bat_get dg_X12_rest_0_0 20 rfl rfl)
theorem dX12_rest_44 : decode cX12_rest 44 = .ok (.iload_n 2, 1) := q_iload_n2 (bat_get dg_X12_rest_0_0 21 rfl rfl)
theorem dX12_rest_45 : decode cX12_rest 45 = .ok (.invokevirtual 451, 3) := q_invokevirtual (bat_get dg_X12_rest_0_0 22 rfl rfl) rfl
theorem dX12_rest_48 : decode cX12_rest 48 = .ok (.ifCond .eq 5, 3) := q_ifCond_eq (bat_get dg_X12_rest_0_0 23 rfl rfl) rfl
theorem dX12_rest_53 : decode cX12_rest 53 = .ok (.iinc 2 1, 3) := q_iinc (bat_get dg_X12_rest_0_0 24 rfl rfl) rfl
theorem dX12_rest_56 : decode cX12_rest 56 = .ok (.goto (-39), 3) := q_goto (bat_get dg_X12_rest_0_0 25 rfl rfl) rfl
theorem dX12_rest_51 : decode cX12_rest 51 = .ok (.iload_n 2, 1) := q_iload_n2 (bat_get dg_X12_rest_0_0 26 rfl rfl)
theorem dX12_rest_52 : decode cX12_rest 52 = .ok (.istore_n 1, 1) := q_istore_n1 (bat_get dg_X12_rest_0_0 27 rfl rfl)
theorem dX12_rest_32 : decode cX12_rest 32 = .ok (.iload_n 2, 1) := q_iload_n2 (bat_get dg_X12_rest_0_0 28 rfl rfl)
theorem dX12_rest_33 : decode cX12_rest 33 = .ok (.invokestatic 409, 3) := q_invokestatic (bat_get dg_X12_rest_0_0 29 rfl rfl) rfl
theorem dX12_rest_36 : decode cX12_rest 36 = .ok (.iload_n 1, 1) := q_iload_n1 (bat_get dg_X12_rest_0_0 30 rfl rfl)
theorem dX12_rest_37 : decode cX12_rest 37 = .ok (.invokestatic 409, 3) := q_invokestatic (bat_get dg_X12_rest_0_0 31 rfl rfl) rfl
theorem dX12_rest_40 : decode cX12_rest 40 = .ok (.if_icmp .ge 13, 3) := q_if_icmp_ge (bat_get dg_X12_rest_0_0 32 rfl rfl) rfl
theorem dX12_rest_7 : decode cX12_rest 7 = .ok (.iconst (-1), 1) := q_iconstm1 (bat_get dg_X12_rest_0_0 33 rfl rfl)
theorem dX12_rest_8 : decode cX12_rest 8 = .ok (.ireturn, 1) := q_ireturn (bat_get dg_X12_rest_0_0 34 rfl rfl)
theorem w_8_61 : (Cond.methodLink RX12 448 yX12_laysRest) ∈ wsL_law := sk_mem (ck_8 _ (List.mem_of_getElem? (i := 61) rfl)) rfl
theorem w_8_63 : (Cond.instanceMethod yX12_laysRest) ∈ wsL_law := sk_mem (ck_8 _ (List.mem_of_getElem? (i := 63) rfl)) rfl
theorem w_0_99 : (Cond.selects RX12 yX12_laysRest yX12_laysRest) ∈ wsL_law := sk_mem (ck_0 _ (List.mem_of_getElem? (i := 99) rfl)) rfl
theorem w_8_65 : (Cond.methodLink RX12 451 yX12_isRest) ∈ wsL_law := sk_mem (ck_8 _ (List.mem_of_getElem? (i := 65) rfl)) rfl
theorem w_8_67 : (Cond.instanceMethod yX12_isRest) ∈ wsL_law := sk_mem (ck_8 _ (List.mem_of_getElem? (i := 67) rfl)) rfl
theorem w_0_100 : (Cond.selects RX12 yX12_isRest yX12_isRest) ∈ wsL_law := sk_mem (ck_0 _ (List.mem_of_getElem? (i := 100) rfl)) rfl
theorem w_8_60 : (Cond.code yX12_rest cX12_rest 3 (some .int)) ∈ wsL_law := sk_mem (ck_8 _ (List.mem_of_getElem? (i := 60) rfl)) rfl
def om_15_7fff : List Bool := true :: true :: true :: true :: true :: true :: true :: true :: true :: true :: true :: true :: true :: true :: true :: []
def om_15_4483 : List Bool := true :: false :: false :: false :: true :: false :: false :: true :: false :: false :: false :: false :: false :: true :: true :: []
theorem hd_X12_laysRest_0 : skD yX12_laysRest 0 := by decide +kernel
theorem hd_X12_isRest_1 : skD yX12_isRest 1 := by decide +kernel
set_option maxHeartbeats 4000000 in
set_option maxRecDepth 100000 in
theorem c_vm_rest (l : Launch) (D : va_G) (cI cJ cC cZ cS : ClassId) (mm : Nat) (g : Nat → Nat) (ta : Nat) (pa : Nat) (pe : Nat) (pd : Int32) (pb : Nat) (pp : Int32) (pf : Int32) (pg : Int32) (pn : Int32) (rt : Int32) (rn : Int32) (cd : Nat) (sn : Int32) (il : Nat) (tk : Int32) (am : Int32) (at_ : Int32) (aa : Int32) (wt : Int32) (wy : Int64) (rm : Nat) (ud : Nat) (nu : Nat) (sd : Int64) (qn : Nat) (qw : Nat) (qo : Int32) (qb : Nat) (qp : Nat) (qa : Int64) (qi : Nat) (oc : Nat) (u0 : Int32) (u1 : Int32) (u2 : Int32) (u3 : Int32) (u4 : Int32) (u5 : Int32) (v0 : Int32) (v1 : Int32) (v2 : Int32) (v3 : Int32) (v4 : Int32) (v5 : Int32) (cs : Nat → Nat) (nw : Nat → Int32) (pt : Nat → Nat) (ql : Nat → Int64) (l0 : Nat) (l1 : Nat) (dm : Nat) (l3 : Nat) (ws_ : Nat → Int32) (yw : Nat → Int32) (yo : Nat → Int32) (be : Nat → Int64) (bf : Nat → Int64) (ag : Nat → Int32) (wg : Nat → Int64) (wn : Nat) (mN : Nat) (Ba : Nat → Nat) (We : Nat → Nat) (U : Nat → Bool) (ke : Nat) (lg : KLg) (L : LkS) (hil : il ≤ 1) (hild : il = 1 → 1 ≤ dm) (hilb : 1 ≤ dm → il = 1) (hdm : dm ≤ 9) (hLk : kcLk L) (hkl : (lK L).length ≤ 1600) (hmw0 : mwO L 0 u3 v3 cs) (hmw1 : mwO L 1 u4 v4 cs) (hB9 : ∀ j, Ba j ≤ 9) (hW9 : ∀ j, We j ≤ 9) (hwk : wn ≤ 999) (hmw2 : mwO L 2 u5 v5 cs) (hcs : ∀ j, cs j ≤ 20000) (hnw : nwX wn mN Ba We U ke lg nw) (hpt : ∀ j, pt j ≤ 9) : skM l yX12_rest cX12_rest 3 (some .int) 6 144 0 0 D (skT cI cJ cC cZ cS) [.ref mm] [ro_ mm 12 (mo g (nI ta) (nI pa) (nI pe) pd (nI pb) pp pf pg pn rt rn (nI cd) sn (nI il) tk am at_ aa 0 0 (-1) wt wy 0 (nI rm) (nI ud) (nI nu) sd (nI qn) (nI qw) qo (nI qb) (nI qp) qa (nI qi) (nI oc)), ra_I (g 24) cI 6 (l6 u0 u1 u2 u3 u4 u5), ra_I (g 25) cI 6 (l6 v0 v1 v2 v3 v4 v5), ra_N (g 26) cI 3200 cs, ra_I (g 31) cI 120 nw, ra_N (g 46) cI 9 pt, ra_J (g 86) cJ 1700 ql, ra_I (g 20) cI 4 (l4 (nI l0) (nI l1) (nI dm) (nI l3)), ra_I (g 38) cI 90 ws_, ra_I (g 36) cZ 900 yw, ra_I (g 37) cZ 900 yo, ra_J (g 43) cJ 90 be, ra_J (g 44) cJ 90 bf, ra_I (g 50) cZ 512 ag, ra_J (g 49) cJ 4608 wg] (skI D (skT cI cJ cC cZ cS) (fun (r : Int32) (u : va_W) => ∃ (tk2 : Int32), ∃ (qp2 : Nat), ∃ (am2 : Int32), ∃ (at_2 : Int32), ∃ (aa2 : Int32), ∃ (wy2 : Int64), ∃ (pt2 : Nat → Nat), ∃ (ql2 : Nat → Int64), ∃ (ws_2 : Nat → Int32), ∃ (yw2 : Nat → Int32), ∃ (yo2 : Nat → Int32), ∃ (be2 : Nat → Int64), ∃ (bf2 : Nat → Int64), ∃ (ag2 : Nat → Int32), ∃ (wg2 : Nat → Int64), restR L dm wn mN Ba We U r ∧ (∀ j, pt2 j ≤ 9) ∧ u = [ro_ mm 12 (mo g (nI ta) (nI pa) (nI pe) pd (nI pb) pp pf pg pn rt rn (nI cd) sn (nI il) tk2 am2 at_2 aa2 0 0 (-1) wt wy2 0 (nI rm) (nI ud) (nI nu) sd (nI qn) (nI qw) qo (nI qb) (nI qp2) qa (nI qi) (nI oc)), ra_I (g 24) cI 6 (l6 u0 u1 u2 u3 u4 u5), ra_I (g 25) cI 6 (l6 v0 v1 v2 v3 v4 v5), ra_N (g 26) cI 3200 cs, ra_I (g 31) cI 120 nw, ra_N (g 46) cI 9 pt2, ra_J (g 86) cJ 1700 ql2, ra_I (g 20) cI 4 (l4 (nI l0) (nI l1) (nI dm) (nI l3)), ra_I (g 38) cI 90 ws_2, ra_I (g 36) cZ 900 yw2, ra_I (g 37) cZ 900 yo2, ra_J (g 43) cJ 90 be2, ra_J (g 44) cJ 90 bf2, ra_I (g 50) cZ 512 ag2, ra_J (g 49) cJ 4608 wg2])) := by
  refine skM_of pf_X12_rest (Nat.le_of_ble_eq_true rfl) ?_
  intro p e s m below meth c A ls E hP hD hl
  refine skE_el E (fun hx hb hr hml hlocks hin hown hts hK hA => ?_)
  have hown : s.vm.findClass RX12 = some m.cls := hown
  have hS : va_S A s.heap s.heap [] := va_S.rf
  have hl : lv_has ls 3 [(0, .ref mm)] := hl
  refine lv_aload_n hx hb dX12_rest_0 rfl (lv_at hl 0 rfl) ?_
  refine sk_get (v := .int (nI il)) (C := RX12) (T := TX12) (N := 92) hx hb hts inlX12 hown hK hP 0 rfl rfl 29 (Nat.le_of_ble_eq_true rfl) w_5_184 rfl dX12_rest_1 ?_
  refine lv_if_ne (tgt := 9) hx hb dX12_rest_4 (by decide) (fun c_1 => ?_) (fun c_1 => ?_)
  · have c_1 : ¬ (il = 0) := fun h => c_1 ((neq il 0 (by omega) (Nat.le_of_ble_eq_true rfl)).mpr h)
    refine lv_aload_n hx hb dX12_rest_9 rfl (lv_at hl 0 rfl) ?_
    refine sk_Vv (q0 := 0) (n := 0) (rest := []) (wr := fmR om_15_7fff _) ⟨hx, hb, hml, hown, hts⟩ hl.1 (c_vm_laysRestX l D cI cJ cC cZ cS mm g ta pa pe pd pb pp pf pg pn rt rn cd sn il tk am at_ aa wt wy rm ud nu sd qn qw qo qb qp qa qi oc u0 u1 u2 u3 u4 u5 v0 v1 v2 v3 v4 v5 cs nw pt ql l0 l1 dm l3 ws_ yw yo be bf ag wg wn mN Ba We U ke lg L hdm (by omega) hLk hkl hmw0 hmw1 hB9 hW9 hwk hmw2 hcs hnw hpt) w_8_61 w_8_63 w_0_99 w_1_14 w_8_64 hd_X12_laysRest_0 ⟨⟨(Nat.le_of_ble_eq_true rfl), (Nat.le_of_ble_eq_true rfl)⟩, (Nat.le_of_ble_eq_true rfl), (Nat.le_of_ble_eq_true rfl)⟩ hK hP hD hS hA (fmT om_15_7fff 0) (fmF om_15_7fff 0) (fm_C1 rfl rfl) (fm_R rfl rfl) (fm_nT om_15_7fff 0) (fm_nF om_15_7fff 0) (fm_di om_15_7fff 0) rfl rfl rfl rfl (Nat.le_of_ble_eq_true rfl) dX12_rest_10 (fun u H locs hw hP hD hS => ?_)
    refine exE hw (fun tk2_2 hw1 => exE hw1 (fun qp2_3 hw2 => exE hw2 (fun am2_4 hw3 => exE hw3 (fun at_2_5 hw4 => exE hw4 (fun aa2_6 hw5 => exE hw5 (fun wy2_7 hw6 => exE hw6 (fun pt2_8 hw7 => exE hw7 (fun ql2_9 hw8 => exE hw8 (fun ws_2_10 hw9 => exE hw9 (fun yw2_11 hw10 => exE hw10 (fun yo2_12 hw11 => exE hw11 (fun be2_13 hw12 => exE hw12 (fun bf2_14 hw13 => exE hw13 (fun ag2_15 hw14 => exE hw14 (fun wg2_16 hw15 => anE hw15 (fun hlr2_17 hw16 => anE hw16 (fun hpt2_18 eu_19 => ?_)))))))))))))))))
    clear hw hw1 hw2 hw3 hw4 hw5 hw6 hw7 hw8 hw9 hw10 hw11 hw12 hw13 hw14 hw15 hw16
    refine o_mgE (ws' := [ro_ mm 12 (mo g (nI ta) (nI pa) (nI pe) pd (nI pb) pp pf pg pn rt rn (nI cd) sn (nI il) tk2_2 am2_4 at_2_5 aa2_6 0 0 (-1) wt wy2_7 0 (nI rm) (nI ud) (nI nu) sd (nI qn) (nI qw) qo (nI qb) (nI qp2_3) qa (nI qi) (nI oc)), ra_I (g 24) cI 6 (l6 u0 u1 u2 u3 u4 u5), ra_I (g 25) cI 6 (l6 v0 v1 v2 v3 v4 v5), ra_N (g 26) cI 3200 cs, ra_I (g 31) cI 120 nw, ra_N (g 46) cI 9 pt2_8, ra_J (g 86) cJ 1700 ql2_9, ra_I (g 20) cI 4 (l4 (nI l0) (nI l1) (nI dm) (nI l3)), ra_I (g 38) cI 90 ws_2_10, ra_I (g 36) cZ 900 yw2_11, ra_I (g 37) cZ 900 yo2_12, ra_J (g 43) cJ 90 be2_13, ra_J (g 44) cJ 90 bf2_14, ra_I (g 50) cZ 512 ag2_15, ra_J (g 49) cJ 4608 wg2_16]) eu_19 hP hD rfl (fun hP hD => ?_)
    have hp2 : 2 ^ dm ≤ 512 := Nat.pow_le_pow_right (n := 2) (by decide) hdm
    refine lv_iconst (v := (-1)) hx hb dX12_rest_13 (by decide) ?_
    refine lv_istore_n (lv' := [(1, .int (-1)), (0, .ref mm)]) hx hb dX12_rest_14 rfl hl (by decide) rfl (fun ls hl => ?_)
    refine lv_iconst (v := 0) hx hb dX12_rest_15 ic_0 ?_
    refine lv_istore_n (lv' := [(2, .int 0), (1, .int (-1)), (0, .ref mm)]) hx hb dX12_rest_16 rfl hl (by decide) rfl (fun ls hl => ?_)
    have lp_20 : ∀ (n_21 : Nat) (i : Nat) (be_ : Int32) (H : Heap) (locs : List Loc) (ls : Array Slot), 512 - i < n_21 → (i ≤ 2 ^ dm) → (hsI (fun s => svR L dm wn mN Ba We U (kUs U s)) i be_) → va_P D vwCl [ro_ mm 12 (mo g (nI ta) (nI pa) (nI pe) pd (nI pb) pp pf pg pn rt rn (nI cd) sn (nI il) tk2_2 am2_4 at_2_5 aa2_6 0 0 (-1) wt wy2_7 0 (nI rm) (nI ud) (nI nu) sd (nI qn) (nI qw) qo (nI qb) (nI qp2_3) qa (nI qi) (nI oc)), ra_I (g 24) cI 6 (l6 u0 u1 u2 u3 u4 u5), ra_I (g 25) cI 6 (l6 v0 v1 v2 v3 v4 v5), ra_N (g 26) cI 3200 cs, ra_I (g 31) cI 120 nw, ra_N (g 46) cI 9 pt2_8, ra_J (g 86) cJ 1700 ql2_9, ra_I (g 20) cI 4 (l4 (nI l0) (nI l1) (nI dm) (nI l3)), ra_I (g 38) cI 90 ws_2_10, ra_I (g 36) cZ 900 yw2_11, ra_I (g 37) cZ 900 yo2_12, ra_J (g 43) cJ 90 be2_13, ra_J (g 44) cJ 90 bf2_14, ra_I (g 50) cZ 512 ag2_15, ra_J (g 49) cJ 4608 wg2_16] H → va_D A [ro_ mm 12 (mo g (nI ta) (nI pa) (nI pe) pd (nI pb) pp pf pg pn rt rn (nI cd) sn (nI il) tk2_2 am2_4 at_2_5 aa2_6 0 0 (-1) wt wy2_7 0 (nI rm) (nI ud) (nI nu) sd (nI qn) (nI qw) qo (nI qb) (nI qp2_3) qa (nI qi) (nI oc)), ra_I (g 24) cI 6 (l6 u0 u1 u2 u3 u4 u5), ra_I (g 25) cI 6 (l6 v0 v1 v2 v3 v4 v5), ra_N (g 26) cI 3200 cs, ra_I (g 31) cI 120 nw, ra_N (g 46) cI 9 pt2_8, ra_J (g 86) cJ 1700 ql2_9, ra_I (g 20) cI 4 (l4 (nI l0) (nI l1) (nI dm) (nI l3)), ra_I (g 38) cI 90 ws_2_10, ra_I (g 36) cZ 900 yw2_11, ra_I (g 37) cZ 900 yo2_12, ra_J (g 43) cJ 90 be2_13, ra_J (g 44) cJ 90 bf2_14, ra_I (g 50) cZ 512 ag2_15, ra_J (g 49) cJ 4608 wg2_16] → va_S A s.heap H locs → lv_has ls 3 [(2, .int (nI i)), (1, .int be_), (0, .ref mm)] → W p l e { frames := 6, cells := 0, slots := 0, locals := 144 } s m ([.ref mm] : List Value).toArray below meth c H locs 0 0 (MQ below (skI D (skT cI cJ cC cZ cS) (fun (r : Int32) (u : va_W) => ∃ (tk2 : Int32), ∃ (qp2 : Nat), ∃ (am2 : Int32), ∃ (at_2 : Int32), ∃ (aa2 : Int32), ∃ (wy2 : Int64), ∃ (pt2 : Nat → Nat), ∃ (ql2 : Nat → Int64), ∃ (ws_2 : Nat → Int32), ∃ (yw2 : Nat → Int32), ∃ (yo2 : Nat → Int32), ∃ (be2 : Nat → Int64), ∃ (bf2 : Nat → Int64), ∃ (ag2 : Nat → Int32), ∃ (wg2 : Nat → Int64), restR L dm wn mN Ba We U r ∧ (∀ j, pt2 j ≤ 9) ∧ u = [ro_ mm 12 (mo g (nI ta) (nI pa) (nI pe) pd (nI pb) pp pf pg pn rt rn (nI cd) sn (nI il) tk2 am2 at_2 aa2 0 0 (-1) wt wy2 0 (nI rm) (nI ud) (nI nu) sd (nI qn) (nI qw) qo (nI qb) (nI qp2) qa (nI qi) (nI oc)), ra_I (g 24) cI 6 (l6 u0 u1 u2 u3 u4 u5), ra_I (g 25) cI 6 (l6 v0 v1 v2 v3 v4 v5), ra_N (g 26) cI 3200 cs, ra_I (g 31) cI 120 nw, ra_N (g 46) cI 9 pt2, ra_J (g 86) cJ 1700 ql2, ra_I (g 20) cI 4 (l4 (nI l0) (nI l1) (nI dm) (nI l3)), ra_I (g 38) cI 90 ws_2, ra_I (g 36) cZ 900 yw2, ra_I (g 37) cZ 900 yo2, ra_J (g 43) cJ 90 be2, ra_J (g 44) cJ 90 bf2, ra_I (g 50) cZ 512 ag2, ra_J (g 49) cJ 4608 wg2]) A) ([.ref mm] : List Value).toArray s 0 0 A) (F0 m 17 ls []) := by
      intro n_21
      induction n_21 with
      | zero => intro i be_ H locs ls hm; exact absurd hm (Nat.not_lt_zero _)
      | succ n_21 ih_lp_20 =>
        intro i be_ H locs ls hm hi hhs hP hD hS hl
        refine lv_iload_n hx hb dX12_rest_17 rfl (lv_at hl 0 rfl) ?_
        refine lv_iconst (v := 1) hx hb dX12_rest_18 ic_1 ?_
        refine lv_aload_n hx hb dX12_rest_19 rfl (lv_at hl 2 rfl) ?_
        refine sk_Vi (q0 := 0) (n := 0) (rest := [.int 1, .int (nI i)]) (wr := fmR om_15_4080 _) ⟨hx, hb, hml, hown, hts⟩ hl.1 (c_m_dayMany l D cI cJ cC cZ cS mm g ta pa pe pd pb pp pf pg pn rt rn cd sn il tk2_2 am2_4 at_2_5 aa2_6 0 0 (-1) wt wy2_7 0 rm ud nu sd qn qw qo qb qp2_3 qa qi oc l0 l1 dm l3) w_7_98 w_7_100 w_0_69 w_1_14 w_7_101 hd_X12_dayMany_0 ⟨⟨(Nat.le_of_ble_eq_true rfl), (Nat.le_of_ble_eq_true rfl)⟩, (Nat.le_of_ble_eq_true rfl), (Nat.le_of_ble_eq_true rfl)⟩ hK hP hD hS hA (fmT om_15_4080 0) (fmF om_15_4080 0) (fm_C1 rfl rfl) (fm_R rfl rfl) (fm_nT om_15_4080 0) (fm_nF om_15_4080 0) (fm_di om_15_4080 0) rfl rfl rfl rfl (Nat.le_of_ble_eq_true rfl) dX12_rest_20 (fun r_22 u H locs hw hP hD hS => ?_)
        refine anE hw (fun er_24 eu_23 => ?_)
        clear hw
        subst er_24
        refine o_mgE (ws' := [ro_ mm 12 (mo g (nI ta) (nI pa) (nI pe) pd (nI pb) pp pf pg pn rt rn (nI cd) sn (nI il) tk2_2 am2_4 at_2_5 aa2_6 0 0 (-1) wt wy2_7 0 (nI rm) (nI ud) (nI nu) sd (nI qn) (nI qw) qo (nI qb) (nI qp2_3) qa (nI qi) (nI oc)), ra_I (g 24) cI 6 (l6 u0 u1 u2 u3 u4 u5), ra_I (g 25) cI 6 (l6 v0 v1 v2 v3 v4 v5), ra_N (g 26) cI 3200 cs, ra_I (g 31) cI 120 nw, ra_N (g 46) cI 9 pt2_8, ra_J (g 86) cJ 1700 ql2_9, ra_I (g 20) cI 4 (l4 (nI l0) (nI l1) (nI dm) (nI l3)), ra_I (g 38) cI 90 ws_2_10, ra_I (g 36) cZ 900 yw2_11, ra_I (g 37) cZ 900 yo2_12, ra_J (g 43) cJ 90 be2_13, ra_J (g 44) cJ 90 bf2_14, ra_I (g 50) cZ 512 ag2_15, ra_J (g 49) cJ 4608 wg2_16]) eu_23 hP hD rfl (fun hP hD => ?_)
        refine lv_ishl hx hb dX12_rest_23 ?_
        refine sk_top (nI (2 ^ dm)) (kshl1 (show dm < 10 by omega)).1 ?_
        refine lv_icmp_ge (tgt := 59) hx hb dX12_rest_24 (by decide) (fun c_25 => ?_) (fun c_25 => ?_)
        · have c_25 : 2 ^ dm ≤ i := (nle (2 ^ dm) i (by omega) (by omega)).mp c_25
          refine lv_iload_n hx hb dX12_rest_59 rfl (lv_at hl 1 rfl) ?_
          exact sk_iret hx hb hr rfl hlocks hK hP hD hS (⟨tk2_2, qp2_3, am2_4, at_2_5, aa2_6, wy2_7, pt2_8, ql2_9, ws_2_10, yw2_11, yo2_12, be2_13, bf2_14, ag2_15, wg2_16, (kB_1 (by omega) (hs_e hhs (by omega))), hpt2_18, rfl⟩) (Nat.le_of_ble_eq_true rfl) (Nat.le_of_ble_eq_true rfl) dX12_rest_60
        · have c_25 : ¬ (2 ^ dm ≤ i) := fun h => c_25 ((nle (2 ^ dm) i (by omega) (by omega)).mpr h)
          refine lv_iload_n hx hb dX12_rest_27 rfl (lv_at hl 1 rfl) ?_
          refine lv_iconst (v := (-1)) hx hb dX12_rest_28 (by decide) ?_
          refine lv_icmp_eq (tgt := 43) hx hb dX12_rest_29 (by decide) (fun c_26 => ?_) (fun c_26 => ?_)
          · skip
            refine lv_aload_n hx hb dX12_rest_43 rfl (lv_at hl 2 rfl) ?_
            refine lv_iload_n hx hb dX12_rest_44 rfl (lv_at hl 0 rfl) ?_
            refine sk_Vi (q0 := 0) (n := 1) (rest := []) (wr := fmR om_15_4483 _) ⟨hx, hb, hml, hown, hts⟩ hl.1 (c_vm_isRestX l D cI cJ cC cZ cS mm g ta pa pe pd pb pp pf pg pn rt rn cd sn il tk2_2 am2_4 at_2_5 aa2_6 wt wy2_7 rm ud nu sd qn qw qo qb qp2_3 qa qi oc i l0 l1 dm l3 nw ag2_15 wg2_16 wn mN Ba We U ke lg L hdm (by omega) hp2 hlr2_17 hnw) w_8_65 w_8_67 w_0_100 w_1_14 w_8_68 hd_X12_isRest_1 ⟨⟨(Nat.le_of_ble_eq_true rfl), (Nat.le_of_ble_eq_true rfl)⟩, (Nat.le_of_ble_eq_true rfl), (Nat.le_of_ble_eq_true rfl)⟩ hK hP hD hS hA [0, 7, 4, 13, 14] (fmF om_15_4483 0) rfl (fm_R rfl rfl) (by decide +kernel) (fm_nF om_15_4483 0) (by decide +kernel) rfl rfl rfl rfl (Nat.le_of_ble_eq_true rfl) dX12_rest_45 (fun r_28 u H locs hw hP hD hS => ?_)
            refine exE hw (fun b_27 hw1 => anE hw1 (fun hir_29 hw2 => anE hw2 (fun er_31 eu_30 => ?_)))
            clear hw hw1 hw2
            subst er_31
            refine o_mgqE (ux := [ro_ mm 12 (mo g (nI ta) (nI pa) (nI pe) pd (nI pb) pp pf pg pn rt rn (nI cd) sn (nI il) tk2_2 am2_4 at_2_5 aa2_6 0 0 (-1) wt wy2_7 0 (nI rm) (nI ud) (nI nu) sd (nI qn) (nI qw) qo (nI qb) (nI qp2_3) qa (nI qi) (nI oc)), ra_I (g 31) cI 120 nw, ra_I (g 20) cI 4 (l4 (nI l0) (nI l1) (nI dm) (nI l3)), ra_I (g 50) cZ 512 ag2_15, ra_J (g 49) cJ 4608 wg2_16]) (ws' := [ro_ mm 12 (mo g (nI ta) (nI pa) (nI pe) pd (nI pb) pp pf pg pn rt rn (nI cd) sn (nI il) tk2_2 am2_4 at_2_5 aa2_6 0 0 (-1) wt wy2_7 0 (nI rm) (nI ud) (nI nu) sd (nI qn) (nI qw) qo (nI qb) (nI qp2_3) qa (nI qi) (nI oc)), ra_I (g 24) cI 6 (l6 u0 u1 u2 u3 u4 u5), ra_I (g 25) cI 6 (l6 v0 v1 v2 v3 v4 v5), ra_N (g 26) cI 3200 cs, ra_I (g 31) cI 120 nw, ra_N (g 46) cI 9 pt2_8, ra_J (g 86) cJ 1700 ql2_9, ra_I (g 20) cI 4 (l4 (nI l0) (nI l1) (nI dm) (nI l3)), ra_I (g 38) cI 90 ws_2_10, ra_I (g 36) cZ 900 yw2_11, ra_I (g 37) cZ 900 yo2_12, ra_J (g 43) cJ 90 be2_13, ra_J (g 44) cJ 90 bf2_14, ra_I (g 50) cZ 512 ag2_15, ra_J (g 49) cJ 4608 wg2_16]) eu_30 [0, 2, 1, 3, 4] (by decide +kernel) rfl hP hD rfl (fun hP hD => ?_)
            refine lv_if_eq (tgt := 53) hx hb dX12_rest_48 (by decide) (fun c_32 => ?_) (fun c_32 => ?_)
            · have c_32 : b_27 = 0 := (neq b_27 0 (by omega) (Nat.le_of_ble_eq_true rfl)).mp c_32
              refine lv_iinc (v := nI (i + 1)) (lv' := [(2, .int (nI (i + 1))), (1, .int be_), (0, .ref mm)]) hx hb dX12_rest_53 hl (k := 0) rfl (ninc i 1 (by decide)) (by decide) rfl (fun ls hl => ?_)
              refine lv_goto (tgt := 17) hx hb dX12_rest_56 (by decide) ?_
              exact ih_lp_20 (i + 1) be_ _ _ _ (by omega) (by omega) (hsI_n hhs (rr_0 hir_29 (by omega))) hP hD hS (lv_sub hl [0, 1, 2] rfl)
            · have c_32 : ¬ (b_27 = 0) := fun h => c_32 ((neq b_27 0 (by omega) (Nat.le_of_ble_eq_true rfl)).mpr h)
              refine lv_iload_n hx hb dX12_rest_51 rfl (lv_at hl 0 rfl) ?_
              refine lv_istore_n (lv' := [(1, .int (nI i)), (2, .int (nI i)), (0, .ref mm)]) hx hb dX12_rest_52 rfl hl (by decide) rfl (fun ls hl => ?_)
              refine lv_iinc (v := nI (i + 1)) (lv' := [(2, .int (nI (i + 1))), (1, .int (nI i)), (0, .ref mm)]) hx hb dX12_rest_53 hl (k := 1) rfl (ninc i 1 (by decide)) (by decide) rfl (fun ls hl => ?_)
              refine lv_goto (tgt := 17) hx hb dX12_rest_56 (by decide) ?_
              exact ih_lp_20 (i + 1) (nI i) _ _ _ (by omega) (by omega) (hsI_1 hhs (by omega) c_26 (rr_1 hir_29 (by omega))) hP hD hS (lv_sub hl [0, 1, 2] rfl)
          · skip
            obtain ⟨sb, hs1, hs2, hs3, hs4, hs5⟩ := hs_k hhs c_26
            subst hs3
            refine lv_iload_n hx hb dX12_rest_32 rfl (lv_at hl 0 rfl) ?_
            refine sk_Si (n := 1) (rest := []) (wr := [ro_ mm 12 (mo g (nI ta) (nI pa) (nI pe) pd (nI pb) pp pf pg pn rt rn (nI cd) sn (nI il) tk2_2 am2_4 at_2_5 aa2_6 0 0 (-1) wt wy2_7 0 (nI rm) (nI ud) (nI nu) sd (nI qn) (nI qw) qo (nI qb) (nI qp2_3) qa (nI qi) (nI oc)), ra_I (g 24) cI 6 (l6 u0 u1 u2 u3 u4 u5), ra_I (g 25) cI 6 (l6 v0 v1 v2 v3 v4 v5), ra_N (g 26) cI 3200 cs, ra_I (g 31) cI 120 nw, ra_N (g 46) cI 9 pt2_8, ra_J (g 86) cJ 1700 ql2_9, ra_I (g 20) cI 4 (l4 (nI l0) (nI l1) (nI dm) (nI l3)), ra_I (g 38) cI 90 ws_2_10, ra_I (g 36) cZ 900 yw2_11, ra_I (g 37) cZ 900 yo2_12, ra_J (g 43) cJ 90 be2_13, ra_J (g 44) cJ 90 bf2_14, ra_I (g 50) cZ 512 ag2_15, ra_J (g 49) cJ 4608 wg2_16]) ⟨hx, hb, hml, hown, hts⟩ hl.1 (c_nm_bitsX l D cI cJ cC cZ cS i (by omega)) w_7_110 w_7_111 w_1_14 w_7_112 hd_X12_bits_1 ⟨⟨(Nat.le_of_ble_eq_true rfl), (Nat.le_of_ble_eq_true rfl)⟩, (Nat.le_of_ble_eq_true rfl), (Nat.le_of_ble_eq_true rfl)⟩ hK hP hD hS hA [] [0, 1, 2, 3, 4, 5, 6, 7, 8, 9, 10, 11, 12, 13, 14] rfl rfl (by decide +kernel) (by decide +kernel) (by decide +kernel) rfl rfl (Nat.le_of_ble_eq_true rfl) dX12_rest_33 (fun r_33 u H locs hw hP hD hS => ?_)
            obtain ⟨hr_34, rfl⟩ := hw
            refine o_re (ws' := [ro_ mm 12 (mo g (nI ta) (nI pa) (nI pe) pd (nI pb) pp pf pg pn rt rn (nI cd) sn (nI il) tk2_2 am2_4 at_2_5 aa2_6 0 0 (-1) wt wy2_7 0 (nI rm) (nI ud) (nI nu) sd (nI qn) (nI qw) qo (nI qb) (nI qp2_3) qa (nI qi) (nI oc)), ra_I (g 24) cI 6 (l6 u0 u1 u2 u3 u4 u5), ra_I (g 25) cI 6 (l6 v0 v1 v2 v3 v4 v5), ra_N (g 26) cI 3200 cs, ra_I (g 31) cI 120 nw, ra_N (g 46) cI 9 pt2_8, ra_J (g 86) cJ 1700 ql2_9, ra_I (g 20) cI 4 (l4 (nI l0) (nI l1) (nI dm) (nI l3)), ra_I (g 38) cI 90 ws_2_10, ra_I (g 36) cZ 900 yw2_11, ra_I (g 37) cZ 900 yo2_12, ra_J (g 43) cJ 90 be2_13, ra_J (g 44) cJ 90 bf2_14, ra_I (g 50) cZ 512 ag2_15, ra_J (g 49) cJ 4608 wg2_16]) hP hD rfl (fun hP hD => ?_)
            have hk9_35 := kpop_9 i (by omega)
            subst hr_34
            refine lv_iload_n hx hb dX12_rest_36 rfl (lv_at hl 1 rfl) ?_
            refine sk_Si (n := 1) (rest := [.int (nI (kpop i))]) (wr := [ro_ mm 12 (mo g (nI ta) (nI pa) (nI pe) pd (nI pb) pp pf pg pn rt rn (nI cd) sn (nI il) tk2_2 am2_4 at_2_5 aa2_6 0 0 (-1) wt wy2_7 0 (nI rm) (nI ud) (nI nu) sd (nI qn) (nI qw) qo (nI qb) (nI qp2_3) qa (nI qi) (nI oc)), ra_I (g 24) cI 6 (l6 u0 u1 u2 u3 u4 u5), ra_I (g 25) cI 6 (l6 v0 v1 v2 v3 v4 v5), ra_N (g 26) cI 3200 cs, ra_I (g 31) cI 120 nw, ra_N (g 46) cI 9 pt2_8, ra_J (g 86) cJ 1700 ql2_9, ra_I (g 20) cI 4 (l4 (nI l0) (nI l1) (nI dm) (nI l3)), ra_I (g 38) cI 90 ws_2_10, ra_I (g 36) cZ 900 yw2_11, ra_I (g 37) cZ 900 yo2_12, ra_J (g 43) cJ 90 be2_13, ra_J (g 44) cJ 90 bf2_14, ra_I (g 50) cZ 512 ag2_15, ra_J (g 49) cJ 4608 wg2_16]) ⟨hx, hb, hml, hown, hts⟩ hl.1 (c_nm_bitsX l D cI cJ cC cZ cS sb (by omega)) w_7_110 w_7_111 w_1_14 w_7_112 hd_X12_bits_1 ⟨⟨(Nat.le_of_ble_eq_true rfl), (Nat.le_of_ble_eq_true rfl)⟩, (Nat.le_of_ble_eq_true rfl), (Nat.le_of_ble_eq_true rfl)⟩ hK hP hD hS hA [] [0, 1, 2, 3, 4, 5, 6, 7, 8, 9, 10, 11, 12, 13, 14] rfl rfl (by decide +kernel) (by decide +kernel) (by decide +kernel) rfl rfl (Nat.le_of_ble_eq_true rfl) dX12_rest_37 (fun r_36 u H locs hw hP hD hS => ?_)
            obtain ⟨hr_37, rfl⟩ := hw
            refine o_re (ws' := [ro_ mm 12 (mo g (nI ta) (nI pa) (nI pe) pd (nI pb) pp pf pg pn rt rn (nI cd) sn (nI il) tk2_2 am2_4 at_2_5 aa2_6 0 0 (-1) wt wy2_7 0 (nI rm) (nI ud) (nI nu) sd (nI qn) (nI qw) qo (nI qb) (nI qp2_3) qa (nI qi) (nI oc)), ra_I (g 24) cI 6 (l6 u0 u1 u2 u3 u4 u5), ra_I (g 25) cI 6 (l6 v0 v1 v2 v3 v4 v5), ra_N (g 26) cI 3200 cs, ra_I (g 31) cI 120 nw, ra_N (g 46) cI 9 pt2_8, ra_J (g 86) cJ 1700 ql2_9, ra_I (g 20) cI 4 (l4 (nI l0) (nI l1) (nI dm) (nI l3)), ra_I (g 38) cI 90 ws_2_10, ra_I (g 36) cZ 900 yw2_11, ra_I (g 37) cZ 900 yo2_12, ra_J (g 43) cJ 90 be2_13, ra_J (g 44) cJ 90 bf2_14, ra_I (g 50) cZ 512 ag2_15, ra_J (g 49) cJ 4608 wg2_16]) hP hD rfl (fun hP hD => ?_)
            have hk9_38 := kpop_9 sb (by omega)
            subst hr_37
            refine lv_icmp_ge (tgt := 53) hx hb dX12_rest_40 (by decide) (fun c_39 => ?_) (fun c_39 => ?_)
            · have hge_ : kpop sb ≤ kpop i := (nle (kpop sb) (kpop i) (by omega) (by omega)).mp c_39
              refine lv_iinc (v := nI (i + 1)) (lv' := [(2, .int (nI (i + 1))), (1, .int (nI sb)), (0, .ref mm)]) hx hb dX12_rest_53 hl (k := 0) rfl (ninc i 1 (by decide)) (by decide) rfl (fun ls hl => ?_)
              refine lv_goto (tgt := 17) hx hb dX12_rest_56 (by decide) ?_
              exact ih_lp_20 (i + 1) (nI sb) _ _ _ (by omega) (by omega) (hsI_3 hs1 hs2 hs4 hs5 (by omega)) hP hD hS (lv_sub hl [0, 1, 2] rfl)
            · have hlt_ : kpop i < kpop sb := Nat.lt_of_not_le (fun hq => c_39 ((nle (kpop sb) (kpop i) (by omega) (by omega)).mpr hq))
              refine lv_aload_n hx hb dX12_rest_43 rfl (lv_at hl 2 rfl) ?_
              refine lv_iload_n hx hb dX12_rest_44 rfl (lv_at hl 0 rfl) ?_
              refine sk_Vi (q0 := 0) (n := 1) (rest := []) (wr := fmR om_15_4483 _) ⟨hx, hb, hml, hown, hts⟩ hl.1 (c_vm_isRestX l D cI cJ cC cZ cS mm g ta pa pe pd pb pp pf pg pn rt rn cd sn il tk2_2 am2_4 at_2_5 aa2_6 wt wy2_7 rm ud nu sd qn qw qo qb qp2_3 qa qi oc i l0 l1 dm l3 nw ag2_15 wg2_16 wn mN Ba We U ke lg L hdm (by omega) hp2 hlr2_17 hnw) w_8_65 w_8_67 w_0_100 w_1_14 w_8_68 hd_X12_isRest_1 ⟨⟨(Nat.le_of_ble_eq_true rfl), (Nat.le_of_ble_eq_true rfl)⟩, (Nat.le_of_ble_eq_true rfl), (Nat.le_of_ble_eq_true rfl)⟩ hK hP hD hS hA [0, 7, 4, 13, 14] (fmF om_15_4483 0) rfl (fm_R rfl rfl) (by decide +kernel) (fm_nF om_15_4483 0) (by decide +kernel) rfl rfl rfl rfl (Nat.le_of_ble_eq_true rfl) dX12_rest_45 (fun r_41 u H locs hw hP hD hS => ?_)
              refine exE hw (fun b_40 hw1 => anE hw1 (fun hir_42 hw2 => anE hw2 (fun er_44 eu_43 => ?_)))
              clear hw hw1 hw2
              subst er_44
              refine o_mgqE (ux := [ro_ mm 12 (mo g (nI ta) (nI pa) (nI pe) pd (nI pb) pp pf pg pn rt rn (nI cd) sn (nI il) tk2_2 am2_4 at_2_5 aa2_6 0 0 (-1) wt wy2_7 0 (nI rm) (nI ud) (nI nu) sd (nI qn) (nI qw) qo (nI qb) (nI qp2_3) qa (nI qi) (nI oc)), ra_I (g 31) cI 120 nw, ra_I (g 20) cI 4 (l4 (nI l0) (nI l1) (nI dm) (nI l3)), ra_I (g 50) cZ 512 ag2_15, ra_J (g 49) cJ 4608 wg2_16]) (ws' := [ro_ mm 12 (mo g (nI ta) (nI pa) (nI pe) pd (nI pb) pp pf pg pn rt rn (nI cd) sn (nI il) tk2_2 am2_4 at_2_5 aa2_6 0 0 (-1) wt wy2_7 0 (nI rm) (nI ud) (nI nu) sd (nI qn) (nI qw) qo (nI qb) (nI qp2_3) qa (nI qi) (nI oc)), ra_I (g 24) cI 6 (l6 u0 u1 u2 u3 u4 u5), ra_I (g 25) cI 6 (l6 v0 v1 v2 v3 v4 v5), ra_N (g 26) cI 3200 cs, ra_I (g 31) cI 120 nw, ra_N (g 46) cI 9 pt2_8, ra_J (g 86) cJ 1700 ql2_9, ra_I (g 20) cI 4 (l4 (nI l0) (nI l1) (nI dm) (nI l3)), ra_I (g 38) cI 90 ws_2_10, ra_I (g 36) cZ 900 yw2_11, ra_I (g 37) cZ 900 yo2_12, ra_J (g 43) cJ 90 be2_13, ra_J (g 44) cJ 90 bf2_14, ra_I (g 50) cZ 512 ag2_15, ra_J (g 49) cJ 4608 wg2_16]) eu_43 [0, 2, 1, 3, 4] (by decide +kernel) rfl hP hD rfl (fun hP hD => ?_)
              refine lv_if_eq (tgt := 53) hx hb dX12_rest_48 (by decide) (fun c_45 => ?_) (fun c_45 => ?_)
              · have c_45 : b_40 = 0 := (neq b_40 0 (by omega) (Nat.le_of_ble_eq_true rfl)).mp c_45
                refine lv_iinc (v := nI (i + 1)) (lv' := [(2, .int (nI (i + 1))), (1, .int (nI sb)), (0, .ref mm)]) hx hb dX12_rest_53 hl (k := 0) rfl (ninc i 1 (by decide)) (by decide) rfl (fun ls hl => ?_)
                refine lv_goto (tgt := 17) hx hb dX12_rest_56 (by decide) ?_
                exact ih_lp_20 (i + 1) (nI sb) _ _ _ (by omega) (by omega) (hsI_n (hsI_k hs1 hs2 hs4 hs5) (rr_0 hir_42 (by omega))) hP hD hS (lv_sub hl [0, 1, 2] rfl)
              · have c_45 : ¬ (b_40 = 0) := fun h => c_45 ((neq b_40 0 (by omega) (Nat.le_of_ble_eq_true rfl)).mpr h)
                refine lv_iload_n hx hb dX12_rest_51 rfl (lv_at hl 0 rfl) ?_
                refine lv_istore_n (lv' := [(1, .int (nI i)), (2, .int (nI i)), (0, .ref mm)]) hx hb dX12_rest_52 rfl hl (by decide) rfl (fun ls hl => ?_)
                refine lv_iinc (v := nI (i + 1)) (lv' := [(2, .int (nI (i + 1))), (1, .int (nI i)), (0, .ref mm)]) hx hb dX12_rest_53 hl (k := 1) rfl (ninc i 1 (by decide)) (by decide) rfl (fun ls hl => ?_)
                refine lv_goto (tgt := 17) hx hb dX12_rest_56 (by decide) ?_
                exact ih_lp_20 (i + 1) (nI i) _ _ _ (by omega) (by omega) (hsI_2 hs1 (by omega) hs5 (rr_1 hir_42 (by omega)) (by omega)) hP hD hS (lv_sub hl [0, 1, 2] rfl)
    exact lp_20 (512 - 0 + 1) 0 (-1) _ _ _ (Nat.lt_succ_self _) (Nat.zero_le _) (hsI_0 _) hP hD hS (lv_sub hl [0, 1, 2] rfl)
  · have c_1 : il = 0 := (neq il 0 (by omega) (Nat.le_of_ble_eq_true rfl)).mp c_1
    refine lv_iconst (v := (-1)) hx hb dX12_rest_7 (by decide) ?_
    exact sk_iret hx hb hr rfl hlocks hK hP hD hS (⟨tk, qp, am, at_, aa, wy, pt, ql, ws_, yw, yo, be, bf, ag, wg, (kB_0 (by omega) rfl), hpt, rfl⟩) (Nat.le_of_ble_eq_true rfl) (Nat.le_of_ble_eq_true rfl) dX12_rest_8
/-! the codes of sums and tests: what waits, how deep the pile stands -/
theorem sk_iastB {p : Program} {l : Launch} {e : Env} {R : Room} {s : State} {m : MethodId} {args : Array Value} {below : List Frame} {meth : Method} {c : Code} {H : Heap} {locs : List Loc} {cells slots : Nat} {Q : State → Prop} {cc : ByteArray} {pc : Nat} {ls : Array Slot} {rest : List Value} {D : va_G} {tys : List (ClassId × FieldType)} {ws : va_W} {A : Nat → Prop} {H0 : Heap} {a : Nat} (hexec : p.tables.exec = Jvm.exec) (hb : c.code = cc) (hK : skK D tys s) (hP : va_P D vwCl ws H) (hD : va_D A ws) (hS : va_S A H0 H locs) (q0 t0 : Nat) {cA : ClassId} {n B : Nat} {f : Nat → Nat} {ws' : (Nat → Nat) → va_W} (ha : ws[q0]? = some (a, .inl (cA, n, .inl (fun j => nI (f j))))) (ht : tys[t0]? = some (cA, .int)) {k v : Nat} (hk : k < n) (hn : n < 2147483648) (hf : ∀ j, f j ≤ B) (hv : v ≤ B) (hw' : ∀ f', ws.set q0 (a, .inl (cA, n, .inl (fun j => nI (f' j)))) = ws' f') (hdg : decode cc pc = .ok (.iastore, 1))
    (kk : ∀ (f' : Nat → Nat) (H1 : Heap) (locs1 : List Loc), (∀ j, f' j ≤ B) → f' = updN f k v → va_P D vwCl (ws' f') H1 → va_D A (ws' f') → va_S A H0 H1 locs1 → W p l e R s m args below meth c H1 locs1 cells slots Q (F0 m (pc + 1) ls rest)) : W p l e R s m args below meth c H locs cells slots Q (F0 m pc ls (.int (nI v) :: .int (nI k) :: .ref a :: rest)) := by
  refine va_iast hexec hb hK.1 hP hD hS q0 t0 ha ht (vin k n hk hn) hdg (fun H1 locs1 h1 h2 h3 => ?_)
  rw [updN_fun f k v (by omega)] at h1 h2
  exact kk _ H1 locs1 (updN_le hf hv) rfl ((hw' _) ▸ h1) ((hw' _) ▸ h2) h3
theorem updN_at (f : Nat → Nat) (k v : Nat) : updN f k v k = v := by unfold updN; rw [if_pos rfl]
theorem updN_ne (f : Nat → Nat) {k v j : Nat} (h : j ≠ k) : updN f k v j = f j := by unfold updN; rw [if_neg h]
/-- what the next byte is -/
def lkOk (tb : Nat → Nat) (r : Int32) (a e : Nat) : Prop := (r = -1 ∧ a = e) ∨ (a < e ∧ r = nI (tb a) ∧ ¬ tb a = 10 ∧ ¬ tb a = 32)
theorem lk_at {tb : Nat → Nat} {r : Int32} {a e w : Nat} (h : lkOk tb r a e) (hb : ∀ j, tb j ≤ 255) (hw : w < 2147483648) (c : r = nI w) : a < e ∧ tb a = w ∧ ¬ tb a = 10 ∧ ¬ tb a = 32 := by
  rcases h with ⟨h1, -⟩ | ⟨h1, h2, h3, h4⟩
  · have h5 : (nI w).toInt = (w : Int) := ivn w hw
    rw [← c, h1] at h5
    have h6 : ((-1 : Int32)).toInt = -1 := by decide
    rw [h6] at h5
    omega
  · have := hb a
    exact ⟨h1, (neq _ _ (by omega) hw).mp (h2.symm.trans c), h3, h4⟩
def stay (tb : Nat → Nat) (e a b : Nat) : Prop := a < e → ¬ tb a = 10 → ¬ tb a = 32 → b = a
theorem stay_tr {tb : Nat → Nat} {e a b c : Nat} (h1 : stay tb e a b) (h2 : stay tb e b c) : stay tb e a c := by
  intro q1 q2 q3
  have e1 := h1 q1 q2 q3
  subst e1
  exact h2 q1 q2 q3
theorem stay_rf {tb : Nat → Nat} {e a : Nat} : stay tb e a a := fun _ _ _ => rfl
theorem stay_bl {tb : Nat → Nat} {e a b : Nat} (h : tb a = 10 ∨ tb a = 32) : stay tb e a b := fun _ q2 q3 => absurd h (by omega)
/-- the pile's depth -/
def de (f : Nat → Nat) : Nat → Nat
  | 0 => 0
  | n + 1 => if 1000 ≤ f n ∨ (40 ≤ f n ∧ f n < 60) ∨ f n = 13 then de f n + 1 else if (60 ≤ f n ∧ f n < 1000) ∨ f n = 12 then de f n else de f n - 1
theorem de_p {f : Nat → Nat} {n : Nat} (h : 1000 ≤ f n ∨ (40 ≤ f n ∧ f n < 60) ∨ f n = 13) : de f (n + 1) = de f n + 1 := by rw [de, if_pos h]
theorem de_u {f : Nat → Nat} {n : Nat} (h : (60 ≤ f n ∧ f n < 1000) ∨ f n = 12) : de f (n + 1) = de f n := by rw [de, if_neg (by omega), if_pos h]
theorem de_b {f : Nat → Nat} {n : Nat} (h : f n < 40) (h2 : ¬ f n = 12) (h3 : ¬ f n = 13) : de f (n + 1) = de f n - 1 := by rw [de, if_neg (by omega), if_neg (by omega)]
theorem de_congr {f g : Nat → Nat} {n : Nat} (h : ∀ j, j < n → f j = g j) : de f n = de g n := by
  induction n with
  | zero => rfl
  | succ n ih => rw [de, de, ih (fun j hj => h j (by omega)), h n (by omega)]
def wf (f : Nat → Nat) (n : Nat) : Prop := ∀ j, j < n → ((60 ≤ f j ∧ f j < 1000) ∨ f j = 12 → 1 ≤ de f j) ∧ (f j < 40 → ¬ f j = 12 → ¬ f j = 13 → 2 ≤ de f j)
theorem wf_up {f : Nat → Nat} {n v : Nat} (h : wf f n) (h1 : (60 ≤ v ∧ v < 1000) ∨ v = 12 → 1 ≤ de f n) (h2 : v < 40 → ¬ v = 12 → ¬ v = 13 → 2 ≤ de f n) : wf (updN f n v) (n + 1) := by
  intro j hj
  have e1 : de (updN f n v) j = de f j := de_congr (fun i hi => updN_ne f (by omega))
  rw [e1]
  by_cases q : j = n
  · subst q; rw [updN_at]; exact ⟨h1, h2⟩
  · rw [updN_ne f q]; exact h j (by omega)
theorem de_upd {f : Nat → Nat} {n v : Nat} : de (updN f n v) n = de f n := de_congr (fun i hi => updN_ne f (by omega))
def wt (c : Nat) : Nat := if c = 1 ∨ c = 2 ∨ c = 3 ∨ c = 4 ∨ c = 10 ∨ c = 11 ∨ c = 23 ∨ c = 24 then 1 else 0
def wsum (f : Nat → Nat) : Nat → Nat
  | 0 => 0
  | n + 1 => wsum f n + wt (f n)
theorem wsum_congr {f g : Nat → Nat} {n : Nat} (h : ∀ j, j < n → f j = g j) : wsum f n = wsum g n := by
  induction n with
  | zero => rfl
  | succ n ih => rw [wsum, wsum, ih (fun j hj => h j (by omega)), h n (by omega)]
theorem wsum_pred {f : Nat → Nat} {n : Nat} (h : 1 ≤ n) : wsum f n = wsum f (n - 1) + wt (f (n - 1)) := by
  obtain ⟨m, rfl⟩ : ∃ m, n = m + 1 := ⟨n - 1, by omega⟩
  rw [Nat.add_sub_cancel]; rfl
theorem wt_1 {c : Nat} (h : c = 1 ∨ c = 2 ∨ c = 3 ∨ c = 4 ∨ c = 10 ∨ c = 11 ∨ c = 23 ∨ c = 24) : wt c = 1 := if_pos h
theorem wt_0 {c : Nat} (h : ¬ (c = 1 ∨ c = 2 ∨ c = 3 ∨ c = 4 ∨ c = 10 ∨ c = 11 ∨ c = 23 ∨ c = 24)) : wt c = 0 := if_neg h
def tst (c : Nat) : Prop := c = 10 ∨ c = 11 ∨ c = 12 ∨ c = 25
def sme (c : Nat) : Prop := c = 1 ∨ c = 2 ∨ c = 3 ∨ c = 4 ∨ c = 20 ∨ c = 21 ∨ c = 22 ∨ c = 23 ∨ c = 24 ∨ c = 60
def nnc (f : Nat → Nat) (n0 n : Nat) : Prop := ∀ j, n0 ≤ j → j < n → ¬ f j = 12 ∧ ¬ f j = 13
theorem nnc_up {f : Nat → Nat} {n0 n v : Nat} (h : nnc f n0 n) (hv : n0 ≤ n → ¬ v = 12 ∧ ¬ v = 13) : nnc (updN f n v) n0 (n + 1) := by
  intro j h1 h2
  by_cases q : j = n
  · subst q; rw [updN_at]; exact hv h1
  · rw [updN_ne f q]; exact h j h1 (by omega)
/-- sums under way: K more on the pile than what waits takes; below b tests wait, from b on sums -/
def SJ (K n0 : Nat) (qs : Nat → Nat) (qn : Nat) (qt : Nat → Nat) (b w : Nat) : Prop :=
  de qs qn = K + wsum qt w ∧ wf qs qn ∧ nnc qs n0 qn ∧ b ≤ w ∧ (∀ j, j < b → tst (qt j)) ∧ (∀ j, b ≤ j → j < w → sme (qt j))
theorem SJ_init {n0 : Nat} {qs qt : Nat → Nat} : SJ 0 n0 qs 0 qt 0 0 :=
  ⟨rfl, fun j hj => absurd hj (by omega), fun j _ hj => absurd hj (by omega), Nat.le_refl _, fun j hj => absurd hj (by omega), fun j _ hj => absurd hj (by omega)⟩
theorem SJ_code {K n0 qn b w v : Nat} {qs qt qs2 : Nat → Nat} (h : SJ K n0 qs qn qt b w) (hv : 1000 ≤ v ∨ (40 ≤ v ∧ v < 60) ∨ v = 13) (h0 : n0 ≤ qn → ¬ v = 13) (e : qs2 = updN qs qn v) : SJ (K + 1) n0 qs2 (qn + 1) qt b w := by
  subst e
  obtain ⟨h1, h2, h3, h4, h5, h6⟩ := h
  refine ⟨?_, wf_up h2 (fun q => absurd q (by omega)) (fun q1 q2 q3 => absurd hv (by omega)), nnc_up h3 (fun q => ⟨by omega, h0 q⟩), h4, h5, h6⟩
  rw [de_p (by rw [updN_at]; exact hv), de_upd]; omega
theorem SJ_bin {K n0 qn b w v : Nat} {qs qt qs2 : Nat → Nat} (h : SJ (K + 2) n0 qs qn qt b w) (hv : v < 12) (e : qs2 = updN qs qn v) : SJ (K + 1) n0 qs2 (qn + 1) qt b w := by
  subst e
  obtain ⟨h1, h2, h3, h4, h5, h6⟩ := h
  refine ⟨?_, wf_up h2 (fun q => absurd q (by omega)) (fun q1 q2 q3 => by omega), nnc_up h3 (fun q => ⟨by omega, by omega⟩), h4, h5, h6⟩
  rw [de_b (by rw [updN_at]; omega) (by rw [updN_at]; omega) (by rw [updN_at]; omega), de_upd]; omega
theorem SJ_drop {K n0 qn b w : Nat} {qs qt qs2 : Nat → Nat} (h : SJ (K + 1) n0 qs qn qt b w) (hw : b + 1 ≤ w) (hb : ¬ (20 ≤ qt (w - 1) ∧ qt (w - 1) ≤ 24)) (e : qs2 = updN qs qn (qt (w - 1))) : SJ (K + 1) n0 qs2 (qn + 1) qt b (w - 1) := by
  subst e
  obtain ⟨h1, h2, h3, h4, h5, h6⟩ := h
  have hs := h6 (w - 1) (by omega) (by omega)
  rw [wsum_pred (show 1 ≤ w by omega)] at h1
  generalize qt (w - 1) = v at *
  unfold sme at hs
  by_cases q : v = 60
  · rw [wt_0 (by omega)] at h1
    refine ⟨?_, wf_up h2 (fun _ => by omega) (fun q1 q2 q3 => by omega), nnc_up h3 (fun _ => ⟨by omega, by omega⟩), by omega, h5, fun j q1 q2 => h6 j q1 (by omega)⟩
    rw [de_u (by rw [updN_at]; omega), de_upd]; omega
  · rw [wt_1 (by omega)] at h1
    refine ⟨?_, wf_up h2 (fun _ => by omega) (fun q1 q2 q3 => by omega), nnc_up h3 (fun _ => ⟨by omega, by omega⟩), by omega, h5, fun j q1 q2 => h6 j q1 (by omega)⟩
    rw [de_b (by rw [updN_at]; omega) (by rw [updN_at]; omega) (by rw [updN_at]; omega), de_upd]; omega
theorem SJ_push0 {K n0 qn b w v : Nat} {qs qt qt2 : Nat → Nat} (h : SJ K n0 qs qn qt b w) (hv : v = 20 ∨ v = 21 ∨ v = 22 ∨ v = 60) (e : qt2 = updN qt w v) : SJ K n0 qs qn qt2 b (w + 1) := by
  subst e
  obtain ⟨h1, h2, h3, h4, h5, h6⟩ := h
  refine ⟨?_, h2, h3, by omega, fun j hj => by rw [updN_ne qt (by omega)]; exact h5 j hj, fun j q1 q2 => ?_⟩
  · rw [wsum, updN_at, wt_0 (by omega), wsum_congr (g := qt) (fun j hj => updN_ne qt (by omega))]; exact h1
  · by_cases q : j = w
    · subst q; rw [updN_at]; unfold sme; omega
    · rw [updN_ne qt q]; exact h6 j q1 (by omega)
theorem SJ_push1 {K n0 qn b w v : Nat} {qs qt qt2 : Nat → Nat} (h : SJ (K + 1) n0 qs qn qt b w) (hv : v = 1 ∨ v = 2 ∨ v = 3 ∨ v = 4) (e : qt2 = updN qt w v) : SJ K n0 qs qn qt2 b (w + 1) := by
  subst e
  obtain ⟨h1, h2, h3, h4, h5, h6⟩ := h
  refine ⟨?_, h2, h3, by omega, fun j hj => by rw [updN_ne qt (by omega)]; exact h5 j hj, fun j q1 q2 => ?_⟩
  · rw [wsum, updN_at, wt_1 (by omega), wsum_congr (g := qt) (fun j hj => updN_ne qt (by omega))]; omega
  · by_cases q : j = w
    · subst q; rw [updN_at]; unfold sme; omega
    · rw [updN_ne qt q]; exact h6 j q1 (by omega)
theorem SJ_pop {K n0 qn b w : Nat} {qs qt : Nat → Nat} (h : SJ K n0 qs qn qt b w) (hw : b + 1 ≤ w) (hv : qt (w - 1) = 20) : SJ K n0 qs qn qt b (w - 1) := by
  obtain ⟨h1, h2, h3, h4, h5, h6⟩ := h
  rw [wsum_pred (show 1 ≤ w by omega), hv, wt_0 (by omega)] at h1
  exact ⟨h1, h2, h3, by omega, h5, fun j q1 q2 => h6 j q1 (by omega)⟩
theorem SJ_popm {K n0 qn b w v : Nat} {qs qt qs2 : Nat → Nat} (h : SJ (K + 1) n0 qs qn qt b w) (hw : b + 1 ≤ w) (hv : qt (w - 1) = 23 ∨ qt (w - 1) = 24) (hv2 : v < 12) (e : qs2 = updN qs qn v) : SJ (K + 1) n0 qs2 (qn + 1) qt b (w - 1) := by
  subst e
  obtain ⟨h1, h2, h3, h4, h5, h6⟩ := h
  rw [wsum_pred (show 1 ≤ w by omega), wt_1 (by omega)] at h1
  refine ⟨?_, wf_up h2 (fun _ => by omega) (fun q1 q2 q3 => by omega), nnc_up h3 (fun _ => ⟨by omega, by omega⟩), by omega, h5, fun j q1 q2 => h6 j q1 (by omega)⟩
  rw [de_b (by rw [updN_at]; omega) (by rw [updN_at]; omega) (by rw [updN_at]; omega), de_upd]; omega
theorem SJ_next {K n0 qn b w v : Nat} {qs qt qt2 : Nat → Nat} (h : SJ (K + 1) n0 qs qn qt b w) (hw : b + 1 ≤ w) (hv : qt (w - 1) = 21 ∨ qt (w - 1) = 22) (hv2 : v = qt (w - 1) + 2) (e : qt2 = updN qt (w - 1) v) : SJ K n0 qs qn qt2 b w := by
  subst e
  obtain ⟨h1, h2, h3, h4, h5, h6⟩ := h
  have hw1 : 1 ≤ w := by omega
  rw [wsum_pred hw1, wt_0 (by omega)] at h1
  refine ⟨?_, h2, h3, by omega, fun j hj => by rw [updN_ne qt (by omega)]; exact h5 j hj, fun j q1 q2 => ?_⟩
  · rw [wsum_pred hw1, updN_at, wt_1 (by omega), wsum_congr (g := qt) (fun j hj => updN_ne qt (by omega))]; omega
  · by_cases q : j = w - 1
    · subst q; rw [updN_at]; unfold sme; omega
    · rw [updN_ne qt q]; exact h6 j q1 q2
/-- drops by a sign: what is on top is a sign of sums, so it stands above b -/
theorem SJ_top {K n0 qn b w : Nat} {qs qt : Nat → Nat} (h : SJ K n0 qs qn qt b w) (hw : 1 ≤ w) (hv : qt (w - 1) < 10) : b + 1 ≤ w := by
  obtain ⟨-, -, -, h4, h5, -⟩ := h
  rcases Nat.lt_or_ge b w with q | q
  · exact q
  · have := h5 (w - 1) (by omega)
    unfold tst at this
    omega
theorem SJ_le {K n0 qn b w : Nat} {qs qt : Nat → Nat} (h : SJ K n0 qs qn qt b w) : b ≤ w := h.2.2.2.1
theorem SJ_wf {K n0 qn b w : Nat} {qs qt : Nat → Nat} (h : SJ K n0 qs qn qt b w) : wf qs qn := h.2.1
/-- tests: everything that waits waits for tests -/
theorem SJ_T {K n0 qn b w : Nat} {qs qt : Nat → Nat} (h : SJ K n0 qs qn qt b w) (e : w = b) : SJ K n0 qs qn qt w w := by subst e; exact h
theorem SJ_push0T {K n0 qn w v : Nat} {qs qt qt2 : Nat → Nat} (h : SJ K n0 qs qn qt w w) (hv : v = 12 ∨ v = 25) (e : qt2 = updN qt w v) : SJ K n0 qs qn qt2 (w + 1) (w + 1) := by
  subst e
  obtain ⟨h1, h2, h3, h4, h5, h6⟩ := h
  refine ⟨?_, h2, h3, by omega, fun j hj => ?_, fun j q1 q2 => absurd q1 (by omega)⟩
  · rw [wsum, updN_at, wt_0 (by omega), wsum_congr (g := qt) (fun j hj => updN_ne qt (by omega))]; exact h1
  · by_cases q : j = w
    · subst q; rw [updN_at]; unfold tst; omega
    · rw [updN_ne qt q]; exact h5 j (by omega)
theorem SJ_push1T {K n0 qn w v : Nat} {qs qt qt2 : Nat → Nat} (h : SJ (K + 1) n0 qs qn qt w w) (hv : v = 10 ∨ v = 11) (e : qt2 = updN qt w v) : SJ K n0 qs qn qt2 (w + 1) (w + 1) := by
  subst e
  obtain ⟨h1, h2, h3, h4, h5, h6⟩ := h
  refine ⟨?_, h2, h3, by omega, fun j hj => ?_, fun j q1 q2 => absurd q1 (by omega)⟩
  · rw [wsum, updN_at, wt_1 (by omega), wsum_congr (g := qt) (fun j hj => updN_ne qt (by omega))]; omega
  · by_cases q : j = w
    · subst q; rw [updN_at]; unfold tst; omega
    · rw [updN_ne qt q]; exact h5 j (by omega)
theorem SJ_dropT {K n0 qn w : Nat} {qs qt qs2 : Nat → Nat} (h : SJ (K + 1) n0 qs qn qt w w) (hw : 1 ≤ w) (hb : ¬ qt (w - 1) = 25) (h0 : qn < n0) (e : qs2 = updN qs qn (qt (w - 1))) : SJ (K + 1) n0 qs2 (qn + 1) qt (w - 1) (w - 1) := by
  subst e
  obtain ⟨h1, h2, h3, h4, h5, h6⟩ := h
  have hs := h5 (w - 1) (by omega)
  rw [wsum_pred hw] at h1
  have h5' : ∀ j, j < w - 1 → tst (qt j) := fun j hj => h5 j (by omega)
  generalize qt (w - 1) = v at *
  unfold tst at hs
  by_cases q : v = 12
  · rw [wt_0 (by omega)] at h1
    refine ⟨?_, wf_up h2 (fun _ => by omega) (fun q1 q2 q3 => by omega), nnc_up h3 (fun q0 => absurd q0 (by omega)), Nat.le_refl _, h5', fun j q1 q2 => absurd q1 (by omega)⟩
    rw [de_u (by rw [updN_at]; omega), de_upd]; omega
  · rw [wt_1 (by omega)] at h1
    refine ⟨?_, wf_up h2 (fun _ => by omega) (fun q1 q2 q3 => by omega), nnc_up h3 (fun q0 => absurd q0 (by omega)), Nat.le_refl _, h5', fun j q1 q2 => absurd q1 (by omega)⟩
    rw [de_b (by rw [updN_at]; omega) (by rw [updN_at]; omega) (by rw [updN_at]; omega), de_upd]; omega
theorem SJ_popT {K n0 qn w : Nat} {qs qt : Nat → Nat} (h : SJ K n0 qs qn qt w w) (hw : 1 ≤ w) (hv : qt (w - 1) = 25) : SJ K n0 qs qn qt (w - 1) (w - 1) := by
  obtain ⟨h1, h2, h3, h4, h5, h6⟩ := h
  rw [wsum_pred hw, hv, wt_0 (by omega)] at h1
  exact ⟨h1, h2, h3, Nat.le_refl _, fun j hj => h5 j (by omega), fun j q1 q2 => absurd q1 (by omega)⟩
/-- the last bracket from b on -/
def lbO (qt : Nat → Nat) (b w : Nat) (r : Int32) : Prop := (r = -1 ∧ ∀ j, b ≤ j → j < w → ¬ (20 ≤ qt j ∧ qt j ≤ 24)) ∨ ∃ k, b ≤ k ∧ k < w ∧ 20 ≤ qt k ∧ qt k ≤ 24 ∧ r = nI (qt k) ∧ ∀ j, k < j → j < w → ¬ (20 ≤ qt j ∧ qt j ≤ 24)
def nbr (qt : Nat → Nat) (a w : Nat) : Prop := ∀ j, a ≤ j → j < w → ¬ (20 ≤ qt j ∧ qt j ≤ 24)
theorem nbr_0 {qt : Nat → Nat} {w : Nat} : nbr qt w w := fun j h1 h2 => absurd h1 (by omega)
theorem nbr_s {qt : Nat → Nat} {a w : Nat} (h : nbr qt a w) (h1 : ¬ (20 ≤ qt (a - 1) ∧ qt (a - 1) ≤ 24)) : nbr qt (a - 1) w := by
  intro j q1 q2
  by_cases q : j = a - 1
  · subst q; exact h1
  · exact h j (by omega) q2
theorem lb_none {qt : Nat → Nat} {a b w : Nat} (h : nbr qt a w) (hb : a ≤ b) : lbO qt b w (-1) := Or.inl ⟨rfl, fun j q1 q2 => h j (by omega) q2⟩
theorem lb_some {qt : Nat → Nat} {a b w : Nat} (h : nbr qt a w) (ha : 1 ≤ a) (hw : a ≤ w) (hb : b ≤ a - 1) (h1 : 20 ≤ qt (a - 1)) (h2 : qt (a - 1) ≤ 24) : lbO qt b w (nI (qt (a - 1))) := Or.inr ⟨a - 1, hb, by omega, h1, h2, rfl, fun j q1 q2 => h j (by omega) q2⟩
theorem lb_drop {qt : Nat → Nat} {b w w2 : Nat} {v : Nat} {r : Int32} (h : lbO qt b w r) (hv : v < 2147483648) (hr : r = nI v) (hle : w2 ≤ w) (h2 : w2 ≤ b ∨ (20 ≤ qt (w2 - 1) ∧ qt (w2 - 1) ≤ 24)) (h3 : nbr qt w2 w) : b + 1 ≤ w2 ∧ qt (w2 - 1) = v := by
  rcases h with ⟨h, -⟩ | ⟨k, k1, k2, k3, k4, k5, k6⟩
  · have h5 : (nI v).toInt = (v : Int) := ivn v hv
    rw [← hr, h] at h5
    have h6 : ((-1 : Int32)).toInt = -1 := by decide
    rw [h6] at h5
    omega
  · have e1 : qt k = v := (neq _ _ (by omega) hv).mp (k5.symm.trans hr)
    have q1 : k < w2 := by
      rcases Nat.lt_or_ge k w2 with q | q
      · exact q
      · exact absurd ⟨k3, k4⟩ (h3 k q k2)
    have q2 : w2 - 1 = k := by
      rcases Nat.lt_or_ge k (w2 - 1) with q | q
      · rcases h2 with h2 | h2
        · omega
        · exact absurd h2 (k6 (w2 - 1) q (by omega))
      · omega
    exact ⟨by omega, by rw [q2]; exact e1⟩
theorem lb_no {qt : Nat → Nat} {b w : Nat} {r : Int32} (h : lbO qt b w r) (hr : r = -1) : nbr qt b w := by
  rcases h with ⟨-, h⟩ | ⟨k, k1, k2, k3, k4, k5, k6⟩
  · exact h
  · have h5 : (nI (qt k)).toInt = (qt k : Int) := ivn _ (by omega)
    rw [← k5, hr] at h5
    have h6 : ((-1 : Int32)).toInt = -1 := by decide
    rw [h6] at h5
    omega
theorem nbr_at {qt : Nat → Nat} {a w j : Nat} (h : nbr qt a w) (h1 : a ≤ j) (h2 : j < w) : ¬ (20 ≤ qt j ∧ qt j ≤ 24) := h j h1 h2
def hasQ (qt : Nat → Nat) (w : Nat) : Prop := ∃ j, j < w ∧ qt j = 25
def noQ (qt : Nat → Nat) (w : Nat) : Prop := ∀ j, j < w → ¬ qt j = 25
theorem noQ_0 {qt : Nat → Nat} : noQ qt 0 := fun j h => absurd h (by omega)
theorem noQ_s {qt : Nat → Nat} {w : Nat} (h : noQ qt w) (h1 : ¬ qt w = 25) : noQ qt (w + 1) := by
  intro j hj
  by_cases q : j = w
  · subst q; exact h1
  · exact h j (by omega)
theorem noQ_at {qt : Nat → Nat} {w j : Nat} (h : noQ qt w) (h1 : j < w) : ¬ qt j = 25 := h j h1
theorem noQ_le {qt : Nat → Nat} {w v : Nat} (h : noQ qt w) (h1 : v ≤ w) : noQ qt v := fun j hj => h j (by omega)
theorem hasQ_1 {qt : Nat → Nat} {w : Nat} (h : hasQ qt w) : 1 ≤ w := by
  obtain ⟨j, hj, -⟩ := h; omega
theorem hasQ_s {qt : Nat → Nat} {w : Nat} (h : hasQ qt w) (h1 : ¬ qt (w - 1) = 25) : hasQ qt (w - 1) := by
  obtain ⟨j, hj, e⟩ := h
  refine ⟨j, ?_, e⟩
  rcases Nat.lt_or_ge j (w - 1) with q | q
  · exact q
  · exact absurd (show qt (w - 1) = 25 by rw [show w - 1 = j by omega]; exact e) h1
theorem hasQ_i {qt : Nat → Nat} {w j : Nat} (h : j < w) (e : qt j = 25) : hasQ qt w := ⟨j, h, e⟩
def cw (w : List Nat) : Nat → Int32 := fun j => nI (w.getD j 0)
theorem dg_X12_fail_0_0 : bqL cX12_fail 0 [(0, [42]), (1, [180, 0, 195]), (4, [153, 0, 4]), (8, [42]), (9, [27]), (10, [181, 0, 195]), (13, [42]), (14, [28]), (15, [181, 0, 198]), (18, [177]), (7, [177])] = true := by decide +kernel
theorem dX12_fail_0 : decode cX12_fail 0 = .ok (.aload_n 0, 1) := q_aload_n0 (bat_get dg_X12_fail_0_0 0 rfl rfl)
theorem dX12_fail_1 : decode cX12_fail 1 = .ok (.getfield 195, 3) := q_getfield (bat_get dg_X12_fail_0_0 1 rfl rfl) rfl
theorem dX12_fail_4 : decode cX12_fail 4 = .ok (.ifCond .eq 4, 3) := q_ifCond_eq (bat_get dg_X12_fail_0_0 2 rfl rfl) rfl
theorem dX12_fail_8 : decode cX12_fail 8 = .ok (.aload_n 0, 1) := q_aload_n0 (bat_get dg_X12_fail_0_0 3 rfl rfl)
theorem dX12_fail_9 : decode cX12_fail 9 = .ok (.iload_n 1, 1) := q_iload_n1 (bat_get dg_X12_fail_0_0 4 rfl rfl)
theorem dX12_fail_10 : decode cX12_fail 10 = .ok (.putfield 195, 3) := q_putfield (bat_get dg_X12_fail_0_0 5 rfl rfl) rfl
theorem dX12_fail_13 : decode cX12_fail 13 = .ok (.aload_n 0, 1) := q_aload_n0 (bat_get dg_X12_fail_0_0 6 rfl rfl)
theorem dX12_fail_14 : decode cX12_fail 14 = .ok (.iload_n 2, 1) := q_iload_n2 (bat_get dg_X12_fail_0_0 7 rfl rfl)
theorem dX12_fail_15 : decode cX12_fail 15 = .ok (.putfield 198, 3) := q_putfield (bat_get dg_X12_fail_0_0 8 rfl rfl) rfl
theorem dX12_fail_18 : decode cX12_fail 18 = .ok (.return_, 1) := q_return_ (bat_get dg_X12_fail_0_0 9 rfl rfl)
theorem dX12_fail_7 : decode cX12_fail 7 = .ok (.return_, 1) := q_return_ (bat_get dg_X12_fail_0_0 10 rfl rfl)
theorem w_5_160 : (Cond.fieldLink RX12 195 "SameKeeperModel" "bad" "I") ∈ wsL_law := sk_mem (ck_5 _ (List.mem_of_getElem? (i := 160) rfl)) rfl
theorem w_5_161 : (Cond.fieldLink RX12 198 "SameKeeperModel" "badPlace" "I") ∈ wsL_law := sk_mem (ck_5 _ (List.mem_of_getElem? (i := 161) rfl)) rfl
theorem w_6_232 : (Cond.code yX12_fail cX12_fail 3 none) ∈ wsL_law := sk_mem (ck_6 _ (List.mem_of_getElem? (i := 232) rfl)) rfl
theorem dg_X12_look_0_0 : bqL cX12_look 0 [(0, [42]), (1, [180, 0, 201]), (4, [42]), (5, [180, 0, 204]), (8, [162, 0, 44]), (52, [42]), (53, [180, 0, 201]), (56, [42]), (57, [180, 0, 204]), (60, [162, 0, 15]), (75, [2]), (76, [172]), (63, [42]), (64, [180, 0, 7]), (67, [42]), (68, [180, 0, 201]), (71, [46]), (72, [167, 0, 4]), (11, [42]), (12, [180, 0, 7]), (15, [42]), (16, [180, 0, 201]), (19, [46]), (20, [16, 10]), (22, [159, 0, 17]), (39, [42]), (40, [89]), (41, [180, 0, 201]), (44, [4]), (45, [96]), (46, [181, 0, 201]), (49, [167, 255, 207]), (25, [42]), (26, [180, 0, 7]), (29, [42]), (30, [180, 0, 201]), (33, [46]), (34, [16, 32]), (36, [160, 0, 16])] = true := by decide +kernel
theorem dX12_look_0 : decode cX12_look 0 = .ok (.aload_n 0, 1) := q_aload_n0 (bat_get dg_X12_look_0_0 0 rfl rfl)
theorem dX12_look_1 : decode cX12_look 1 = .ok (.getfield 201, 3) := q_getfield (bat_get dg_X12_look_0_0 1 rfl rfl) rfl
theorem dX12_look_4 : decode cX12_look 4 = .ok (.aload_n 0, 1) := q_aload_n0 (bat_get dg_X12_look_0_0 2 rfl rfl)
theorem dX12_look_5 : decode cX12_look 5 = .ok (.getfield 204, 3) := q_getfield (bat_get dg_X12_look_0_0 3 rfl rfl) rfl
theorem dX12_look_8 : decode cX12_look 8 = .ok (.if_icmp .ge 44, 3) := q_if_icmp_ge (bat_get dg_X12_look_0_0 4 rfl rfl) rfl
theorem dX12_look_52 : decode cX12_look 52 = .ok (.aload_n 0, 1) := q_aload_n0 (bat_get dg_X12_look_0_0 5 rfl rfl)
theorem dX12_look_53 : decode cX12_look 53 = .ok (.getfield 201, 3) := q_getfield (bat_get dg_X12_look_0_0 6 rfl rfl) rfl
theorem dX12_look_56 : decode cX12_look 56 = .ok (.aload_n 0, 1) := q_aload_n0 (bat_get dg_X12_look_0_0 7 rfl rfl)
theorem dX12_look_57 : decode cX12_look 57 = .ok (.getfield 204, 3) := q_getfield (bat_get dg_X12_look_0_0 8 rfl rfl) rfl
theorem dX12_look_60 : decode cX12_look 60 = .ok (.if_icmp .ge 15, 3) := q_if_icmp_ge (bat_get dg_X12_look_0_0 9 rfl rfl) rfl
theorem dX12_look_75 : decode cX12_look 75 = .ok (.iconst (-1), 1) := q_iconstm1 (bat_get dg_X12_look_0_0 10 rfl rfl)
theorem dX12_look_76 : decode cX12_look 76 = .ok (.ireturn, 1) := q_ireturn (bat_get dg_X12_look_0_0 11 rfl rfl)
theorem dX12_look_63 : decode cX12_look 63 = .ok (.aload_n 0, 1) := q_aload_n0 (bat_get dg_X12_look_0_0 12 rfl rfl)
theorem dX12_look_64 : decode cX12_look 64 = .ok (.getfield 7, 3) := q_getfield (bat_get dg_X12_look_0_0 13 rfl rfl) rfl
theorem dX12_look_67 : decode cX12_look 67 = .ok (.aload_n 0, 1) := q_aload_n0 (bat_get dg_X12_look_0_0 14 rfl rfl)
theorem dX12_look_68 : decode cX12_look 68 = .ok (.getfield 201, 3) := q_getfield (bat_get dg_X12_look_0_0 15 rfl rfl) rfl
theorem dX12_look_71 : decode cX12_look 71 = .ok (.iaload, 1) := q_iaload (bat_get dg_X12_look_0_0 16 rfl rfl)
theorem dX12_look_72 : decode cX12_look 72 = .ok (.goto 4, 3) := q_goto (bat_get dg_X12_look_0_0 17 rfl rfl) rfl
theorem dX12_look_11 : decode cX12_look 11 = .ok (.aload_n 0, 1) := q_aload_n0 (bat_get dg_X12_look_0_0 18 rfl rfl)
theorem dX12_look_12 : decode cX12_look 12 = .ok (.getfield 7, 3) := q_getfield (bat_get dg_X12_look_0_0 19 rfl rfl) rfl
theorem dX12_look_15 : decode cX12_look 15 = .ok (.aload_n 0, 1) := q_aload_n0 (bat_get dg_X12_look_0_0 20 rfl rfl)
theorem dX12_look_16 : decode cX12_look 16 = .ok (.getfield 201, 3) := q_getfield (bat_get dg_X12_look_0_0 21 rfl rfl) rfl
theorem dX12_look_19 : decode cX12_look 19 = .ok (.iaload, 1) := q_iaload (bat_get dg_X12_look_0_0 22 rfl rfl)
theorem dX12_look_20 : decode cX12_look 20 = .ok (.bipush 10, 2) := q_bipush (bat_get dg_X12_look_0_0 23 rfl rfl) rfl
theorem dX12_look_22 : decode cX12_look 22 = .ok (.if_icmp .eq 17, 3) := q_if_icmp_eq (bat_get dg_X12_look_0_0 24 rfl rfl) rfl
theorem dX12_look_39 : decode cX12_look 39 = .ok (.aload_n 0, 1) := q_aload_n0 (bat_get dg_X12_look_0_0 25 rfl rfl)
theorem dX12_look_40 : decode cX12_look 40 = .ok (.dup, 1) := q_dup (bat_get dg_X12_look_0_0 26 rfl rfl)
theorem dX12_look_41 : decode cX12_look 41 = .ok (.getfield 201, 3) := q_getfield (bat_get dg_X12_look_0_0 27 rfl rfl) rfl
theorem dX12_look_44 : decode cX12_look 44 = .ok (.iconst 1, 1) := q_iconst1 (bat_get dg_X12_look_0_0 28 rfl rfl)
theorem dX12_look_45 : decode cX12_look 45 = .ok (.iadd, 1) := q_iadd (bat_get dg_X12_look_0_0 29 rfl rfl)
theorem dX12_look_46 : decode cX12_look 46 = .ok (.putfield 201, 3) := q_putfield (bat_get dg_X12_look_0_0 30 rfl rfl) rfl
theorem dX12_look_49 : decode cX12_look 49 = .ok (.goto (-49), 3) := q_goto (bat_get dg_X12_look_0_0 31 rfl rfl) rfl
theorem dX12_look_25 : decode cX12_look 25 = .ok (.aload_n 0, 1) := q_aload_n0 (bat_get dg_X12_look_0_0 32 rfl rfl)
theorem dX12_look_26 : decode cX12_look 26 = .ok (.getfield 7, 3) := q_getfield (bat_get dg_X12_look_0_0 33 rfl rfl) rfl
theorem dX12_look_29 : decode cX12_look 29 = .ok (.aload_n 0, 1) := q_aload_n0 (bat_get dg_X12_look_0_0 34 rfl rfl)
theorem dX12_look_30 : decode cX12_look 30 = .ok (.getfield 201, 3) := q_getfield (bat_get dg_X12_look_0_0 35 rfl rfl) rfl
theorem dX12_look_33 : decode cX12_look 33 = .ok (.iaload, 1) := q_iaload (bat_get dg_X12_look_0_0 36 rfl rfl)
theorem dX12_look_34 : decode cX12_look 34 = .ok (.bipush 32, 2) := q_bipush (bat_get dg_X12_look_0_0 37 rfl rfl) rfl
theorem dX12_look_36 : decode cX12_look 36 = .ok (.if_icmp .ne 16, 3) := q_if_icmp_ne (bat_get dg_X12_look_0_0 38 rfl rfl) rfl
theorem w_5_157 : (Cond.fieldLink RX12 201 "SameKeeperModel" "at" "I") ∈ wsL_law := sk_mem (ck_5 _ (List.mem_of_getElem? (i := 157) rfl)) rfl
theorem w_5_158 : (Cond.fieldLink RX12 204 "SameKeeperModel" "end" "I") ∈ wsL_law := sk_mem (ck_5 _ (List.mem_of_getElem? (i := 158) rfl)) rfl
theorem w_6_225 : (Cond.code yX12_look cX12_look 1 (some .int)) ∈ wsL_law := sk_mem (ck_6 _ (List.mem_of_getElem? (i := 225) rfl)) rfl
theorem dg_X12_isHere_0_0 : bqL cX12_isHere 0 [(0, [42]), (1, [180, 0, 195]), (4, [154, 0, 24]), (28, [3]), (29, [172]), (7, [42]), (8, [182, 0, 207]), (11, [184, 0, 211]), (14, [153, 0, 14]), (17, [42]), (18, [180, 0, 201]), (21, [42]), (22, [180, 0, 215]), (25, [160, 0, 5]), (30, [42]), (31, [180, 0, 201]), (34, [61]), (35, [28]), (36, [42]), (37, [180, 0, 204]), (40, [162, 0, 21]), (61, [28]), (62, [42]), (63, [180, 0, 201]), (66, [100]), (67, [43]), (68, [190]), (69, [159, 0, 5]), (74, [3]), (75, [62]), (76, [29]), (77, [43]), (78, [190]), (79, [162, 0, 28]), (107, [4]), (108, [172]), (82, [42]), (83, [180, 0, 7]), (86, [42]), (87, [180, 0, 201])] = true := by decide +kernel
theorem dX12_isHere_0 : decode cX12_isHere 0 = .ok (.aload_n 0, 1) := q_aload_n0 (bat_get dg_X12_isHere_0_0 0 rfl rfl)
theorem dX12_isHere_1 : decode cX12_isHere 1 = .ok (.getfield 195, 3) := q_getfield (bat_get dg_X12_isHere_0_0 1 rfl rfl) rfl
theorem dX12_isHere_4 : decode cX12_isHere 4 = .ok (.ifCond .ne 24, 3) := q_ifCond_ne (bat_get dg_X12_isHere_0_0 2 rfl rfl) rfl
theorem dX12_isHere_28 : decode cX12_isHere 28 = .ok (.iconst 0, 1) := q_iconst0 (bat_get dg_X12_isHere_0_0 3 rfl rfl)
theorem dX12_isHere_29 : decode cX12_isHere 29 = .ok (.ireturn, 1) := q_ireturn (bat_get dg_X12_isHere_0_0 4 rfl rfl)
theorem dX12_isHere_7 : decode cX12_isHere 7 = .ok (.aload_n 0, 1) := q_aload_n0 (bat_get dg_X12_isHere_0_0 5 rfl rfl)
theorem dX12_isHere_8 : decode cX12_isHere 8 = .ok (.invokevirtual 207, 3) := q_invokevirtual (bat_get dg_X12_isHere_0_0 6 rfl rfl) rfl
theorem dX12_isHere_11 : decode cX12_isHere 11 = .ok (.invokestatic 211, 3) := q_invokestatic (bat_get dg_X12_isHere_0_0 7 rfl rfl) rfl
theorem dX12_isHere_14 : decode cX12_isHere 14 = .ok (.ifCond .eq 14, 3) := q_ifCond_eq (bat_get dg_X12_isHere_0_0 8 rfl rfl) rfl
theorem dX12_isHere_17 : decode cX12_isHere 17 = .ok (.aload_n 0, 1) := q_aload_n0 (bat_get dg_X12_isHere_0_0 9 rfl rfl)
theorem dX12_isHere_18 : decode cX12_isHere 18 = .ok (.getfield 201, 3) := q_getfield (bat_get dg_X12_isHere_0_0 10 rfl rfl) rfl
theorem dX12_isHere_21 : decode cX12_isHere 21 = .ok (.aload_n 0, 1) := q_aload_n0 (bat_get dg_X12_isHere_0_0 11 rfl rfl)
theorem dX12_isHere_22 : decode cX12_isHere 22 = .ok (.getfield 215, 3) := q_getfield (bat_get dg_X12_isHere_0_0 12 rfl rfl) rfl
theorem dX12_isHere_25 : decode cX12_isHere 25 = .ok (.if_icmp .ne 5, 3) := q_if_icmp_ne (bat_get dg_X12_isHere_0_0 13 rfl rfl) rfl
theorem dX12_isHere_30 : decode cX12_isHere 30 = .ok (.aload_n 0, 1) := q_aload_n0 (bat_get dg_X12_isHere_0_0 14 rfl rfl)
theorem dX12_isHere_31 : decode cX12_isHere 31 = .ok (.getfield 201, 3) := q_getfield (bat_get dg_X12_isHere_0_0 15 rfl rfl) rfl
theorem dX12_isHere_34 : decode cX12_isHere 34 = .ok (.istore_n 2, 1) := q_istore_n2 (bat_get dg_X12_isHere_0_0 16 rfl rfl)
theorem dX12_isHere_35 : decode cX12_isHere 35 = .ok (.iload_n 2, 1) := q_iload_n2 (bat_get dg_X12_isHere_0_0 17 rfl rfl)
theorem dX12_isHere_36 : decode cX12_isHere 36 = .ok (.aload_n 0, 1) := q_aload_n0 (bat_get dg_X12_isHere_0_0 18 rfl rfl)
theorem dX12_isHere_37 : decode cX12_isHere 37 = .ok (.getfield 204, 3) := q_getfield (bat_get dg_X12_isHere_0_0 19 rfl rfl) rfl
theorem dX12_isHere_40 : decode cX12_isHere 40 = .ok (.if_icmp .ge 21, 3) := q_if_icmp_ge (bat_get dg_X12_isHere_0_0 20 rfl rfl) rfl
theorem dX12_isHere_61 : decode cX12_isHere 61 = .ok (.iload_n 2, 1) := q_iload_n2 (bat_get dg_X12_isHere_0_0 21 rfl rfl)
theorem dX12_isHere_62 : decode cX12_isHere 62 = .ok (.aload_n 0, 1) := q_aload_n0 (bat_get dg_X12_isHere_0_0 22 rfl rfl)
theorem dX12_isHere_63 : decode cX12_isHere 63 = .ok (.getfield 201, 3) := q_getfield (bat_get dg_X12_isHere_0_0 23 rfl rfl) rfl
theorem dX12_isHere_66 : decode cX12_isHere 66 = .ok (.isub, 1) := q_isub (bat_get dg_X12_isHere_0_0 24 rfl rfl)
theorem dX12_isHere_67 : decode cX12_isHere 67 = .ok (.aload_n 1, 1) := q_aload_n1 (bat_get dg_X12_isHere_0_0 25 rfl rfl)
theorem dX12_isHere_68 : decode cX12_isHere 68 = .ok (.arraylength, 1) := q_arraylength (bat_get dg_X12_isHere_0_0 26 rfl rfl)
theorem dX12_isHere_69 : decode cX12_isHere 69 = .ok (.if_icmp .eq 5, 3) := q_if_icmp_eq (bat_get dg_X12_isHere_0_0 27 rfl rfl) rfl
theorem dX12_isHere_74 : decode cX12_isHere 74 = .ok (.iconst 0, 1) := q_iconst0 (bat_get dg_X12_isHere_0_0 28 rfl rfl)
theorem dX12_isHere_75 : decode cX12_isHere 75 = .ok (.istore_n 3, 1) := q_istore_n3 (bat_get dg_X12_isHere_0_0 29 rfl rfl)
theorem dX12_isHere_76 : decode cX12_isHere 76 = .ok (.iload_n 3, 1) := q_iload_n3 (bat_get dg_X12_isHere_0_0 30 rfl rfl)
theorem dX12_isHere_77 : decode cX12_isHere 77 = .ok (.aload_n 1, 1) := q_aload_n1 (bat_get dg_X12_isHere_0_0 31 rfl rfl)
theorem dX12_isHere_78 : decode cX12_isHere 78 = .ok (.arraylength, 1) := q_arraylength (bat_get dg_X12_isHere_0_0 32 rfl rfl)
theorem dX12_isHere_79 : decode cX12_isHere 79 = .ok (.if_icmp .ge 28, 3) := q_if_icmp_ge (bat_get dg_X12_isHere_0_0 33 rfl rfl) rfl
theorem dX12_isHere_107 : decode cX12_isHere 107 = .ok (.iconst 1, 1) := q_iconst1 (bat_get dg_X12_isHere_0_0 34 rfl rfl)
theorem dX12_isHere_108 : decode cX12_isHere 108 = .ok (.ireturn, 1) := q_ireturn (bat_get dg_X12_isHere_0_0 35 rfl rfl)
theorem dX12_isHere_82 : decode cX12_isHere 82 = .ok (.aload_n 0, 1) := q_aload_n0 (bat_get dg_X12_isHere_0_0 36 rfl rfl)
theorem dX12_isHere_83 : decode cX12_isHere 83 = .ok (.getfield 7, 3) := q_getfield (bat_get dg_X12_isHere_0_0 37 rfl rfl) rfl
theorem dX12_isHere_86 : decode cX12_isHere 86 = .ok (.aload_n 0, 1) := q_aload_n0 (bat_get dg_X12_isHere_0_0 38 rfl rfl)
theorem dX12_isHere_87 : decode cX12_isHere 87 = .ok (.getfield 201, 3) := q_getfield (bat_get dg_X12_isHere_0_0 39 rfl rfl) rfl
theorem dg_X12_isHere_43_90 : bqL cX12_isHere 43 [(47, [29]), (48, [96]), (49, [46]), (50, [43]), (51, [29]), (52, [52]), (53, [159, 0, 5]), (58, [132, 3, 1]), (61, [167, 255, 228]), (56, [3]), (57, [172]), (29, [3]), (30, [172]), (0, [42]), (1, [180, 0, 7]), (4, [28]), (5, [46]), (6, [184, 0, 211]), (9, [153, 0, 9]), (12, [132, 2, 1]), (15, [167, 255, 233])] = true := by decide +kernel
theorem dX12_isHere_90 : decode cX12_isHere 90 = .ok (.iload_n 3, 1) := q_iload_n3 (bat_get dg_X12_isHere_43_90 0 rfl rfl)
theorem dX12_isHere_91 : decode cX12_isHere 91 = .ok (.iadd, 1) := q_iadd (bat_get dg_X12_isHere_43_90 1 rfl rfl)
theorem dX12_isHere_92 : decode cX12_isHere 92 = .ok (.iaload, 1) := q_iaload (bat_get dg_X12_isHere_43_90 2 rfl rfl)
theorem dX12_isHere_93 : decode cX12_isHere 93 = .ok (.aload_n 1, 1) := q_aload_n1 (bat_get dg_X12_isHere_43_90 3 rfl rfl)
theorem dX12_isHere_94 : decode cX12_isHere 94 = .ok (.iload_n 3, 1) := q_iload_n3 (bat_get dg_X12_isHere_43_90 4 rfl rfl)
theorem dX12_isHere_95 : decode cX12_isHere 95 = .ok (.caload, 1) := q_caload (bat_get dg_X12_isHere_43_90 5 rfl rfl)
theorem dX12_isHere_96 : decode cX12_isHere 96 = .ok (.if_icmp .eq 5, 3) := q_if_icmp_eq (bat_get dg_X12_isHere_43_90 6 rfl rfl) rfl
theorem dX12_isHere_101 : decode cX12_isHere 101 = .ok (.iinc 3 1, 3) := q_iinc (bat_get dg_X12_isHere_43_90 7 rfl rfl) rfl
theorem dX12_isHere_104 : decode cX12_isHere 104 = .ok (.goto (-28), 3) := q_goto (bat_get dg_X12_isHere_43_90 8 rfl rfl) rfl
theorem dX12_isHere_99 : decode cX12_isHere 99 = .ok (.iconst 0, 1) := q_iconst0 (bat_get dg_X12_isHere_43_90 9 rfl rfl)
theorem dX12_isHere_100 : decode cX12_isHere 100 = .ok (.ireturn, 1) := q_ireturn (bat_get dg_X12_isHere_43_90 10 rfl rfl)
theorem dX12_isHere_72 : decode cX12_isHere 72 = .ok (.iconst 0, 1) := q_iconst0 (bat_get dg_X12_isHere_43_90 11 rfl rfl)
theorem dX12_isHere_73 : decode cX12_isHere 73 = .ok (.ireturn, 1) := q_ireturn (bat_get dg_X12_isHere_43_90 12 rfl rfl)
theorem dX12_isHere_43 : decode cX12_isHere 43 = .ok (.aload_n 0, 1) := q_aload_n0 (bat_get dg_X12_isHere_43_90 13 rfl rfl)
theorem dX12_isHere_44 : decode cX12_isHere 44 = .ok (.getfield 7, 3) := q_getfield (bat_get dg_X12_isHere_43_90 14 rfl rfl) rfl
theorem dX12_isHere_47 : decode cX12_isHere 47 = .ok (.iload_n 2, 1) := q_iload_n2 (bat_get dg_X12_isHere_43_90 15 rfl rfl)
theorem dX12_isHere_48 : decode cX12_isHere 48 = .ok (.iaload, 1) := q_iaload (bat_get dg_X12_isHere_43_90 16 rfl rfl)
theorem dX12_isHere_49 : decode cX12_isHere 49 = .ok (.invokestatic 211, 3) := q_invokestatic (bat_get dg_X12_isHere_43_90 17 rfl rfl) rfl
theorem dX12_isHere_52 : decode cX12_isHere 52 = .ok (.ifCond .eq 9, 3) := q_ifCond_eq (bat_get dg_X12_isHere_43_90 18 rfl rfl) rfl
theorem dX12_isHere_55 : decode cX12_isHere 55 = .ok (.iinc 2 1, 3) := q_iinc (bat_get dg_X12_isHere_43_90 19 rfl rfl) rfl
theorem dX12_isHere_58 : decode cX12_isHere 58 = .ok (.goto (-23), 3) := q_goto (bat_get dg_X12_isHere_43_90 20 rfl rfl) rfl
theorem w_6_222 : (Cond.methodLink RX12 207 yX12_look) ∈ wsL_law := sk_mem (ck_6 _ (List.mem_of_getElem? (i := 222) rfl)) rfl
theorem w_6_224 : (Cond.instanceMethod yX12_look) ∈ wsL_law := sk_mem (ck_6 _ (List.mem_of_getElem? (i := 224) rfl)) rfl
theorem w_0_45 : (Cond.selects RX12 yX12_look yX12_look) ∈ wsL_law := sk_mem (ck_0 _ (List.mem_of_getElem? (i := 45) rfl)) rfl
theorem w_6_226 : (Cond.methodLink RX12 211 yX12_isLetter) ∈ wsL_law := sk_mem (ck_6 _ (List.mem_of_getElem? (i := 226) rfl)) rfl
theorem w_6_227 : (Cond.static yX12_isLetter) ∈ wsL_law := sk_mem (ck_6 _ (List.mem_of_getElem? (i := 227) rfl)) rfl
theorem w_5_159 : (Cond.fieldLink RX12 215 "SameKeeperModel" "ended" "I") ∈ wsL_law := sk_mem (ck_5 _ (List.mem_of_getElem? (i := 159) rfl)) rfl
theorem w_6_221 : (Cond.code yX12_isHere cX12_isHere 4 (some .boolean)) ∈ wsL_law := sk_mem (ck_6 _ (List.mem_of_getElem? (i := 221) rfl)) rfl
theorem hd_X12_look_0 : skD yX12_look 0 := by decide +kernel
theorem hd_X12_isLetter_1 : skD yX12_isLetter 1 := by decide +kernel
theorem dg_X12_takes_0_0 : bqL cX12_takes 0 [(0, [42]), (1, [43]), (2, [182, 0, 218]), (5, [154, 0, 5]), (10, [42]), (11, [89]), (12, [180, 0, 201]), (15, [43]), (16, [190]), (17, [96]), (18, [181, 0, 201]), (21, [42]), (22, [42]), (23, [180, 0, 201]), (26, [181, 0, 215]), (29, [4]), (30, [172]), (8, [3]), (9, [172])] = true := by decide +kernel
theorem dX12_takes_0 : decode cX12_takes 0 = .ok (.aload_n 0, 1) := q_aload_n0 (bat_get dg_X12_takes_0_0 0 rfl rfl)
theorem dX12_takes_1 : decode cX12_takes 1 = .ok (.aload_n 1, 1) := q_aload_n1 (bat_get dg_X12_takes_0_0 1 rfl rfl)
theorem dX12_takes_2 : decode cX12_takes 2 = .ok (.invokevirtual 218, 3) := q_invokevirtual (bat_get dg_X12_takes_0_0 2 rfl rfl) rfl
theorem dX12_takes_5 : decode cX12_takes 5 = .ok (.ifCond .ne 5, 3) := q_ifCond_ne (bat_get dg_X12_takes_0_0 3 rfl rfl) rfl
theorem dX12_takes_10 : decode cX12_takes 10 = .ok (.aload_n 0, 1) := q_aload_n0 (bat_get dg_X12_takes_0_0 4 rfl rfl)
theorem dX12_takes_11 : decode cX12_takes 11 = .ok (.dup, 1) := q_dup (bat_get dg_X12_takes_0_0 5 rfl rfl)
theorem dX12_takes_12 : decode cX12_takes 12 = .ok (.getfield 201, 3) := q_getfield (bat_get dg_X12_takes_0_0 6 rfl rfl) rfl
theorem dX12_takes_15 : decode cX12_takes 15 = .ok (.aload_n 1, 1) := q_aload_n1 (bat_get dg_X12_takes_0_0 7 rfl rfl)
theorem dX12_takes_16 : decode cX12_takes 16 = .ok (.arraylength, 1) := q_arraylength (bat_get dg_X12_takes_0_0 8 rfl rfl)
theorem dX12_takes_17 : decode cX12_takes 17 = .ok (.iadd, 1) := q_iadd (bat_get dg_X12_takes_0_0 9 rfl rfl)
theorem dX12_takes_18 : decode cX12_takes 18 = .ok (.putfield 201, 3) := q_putfield (bat_get dg_X12_takes_0_0 10 rfl rfl) rfl
theorem dX12_takes_21 : decode cX12_takes 21 = .ok (.aload_n 0, 1) := q_aload_n0 (bat_get dg_X12_takes_0_0 11 rfl rfl)
theorem dX12_takes_22 : decode cX12_takes 22 = .ok (.aload_n 0, 1) := q_aload_n0 (bat_get dg_X12_takes_0_0 12 rfl rfl)
theorem dX12_takes_23 : decode cX12_takes 23 = .ok (.getfield 201, 3) := q_getfield (bat_get dg_X12_takes_0_0 13 rfl rfl) rfl
theorem dX12_takes_26 : decode cX12_takes 26 = .ok (.putfield 215, 3) := q_putfield (bat_get dg_X12_takes_0_0 14 rfl rfl) rfl
theorem dX12_takes_29 : decode cX12_takes 29 = .ok (.iconst 1, 1) := q_iconst1 (bat_get dg_X12_takes_0_0 15 rfl rfl)
theorem dX12_takes_30 : decode cX12_takes 30 = .ok (.ireturn, 1) := q_ireturn (bat_get dg_X12_takes_0_0 16 rfl rfl)
theorem dX12_takes_8 : decode cX12_takes 8 = .ok (.iconst 0, 1) := q_iconst0 (bat_get dg_X12_takes_0_0 17 rfl rfl)
theorem dX12_takes_9 : decode cX12_takes 9 = .ok (.ireturn, 1) := q_ireturn (bat_get dg_X12_takes_0_0 18 rfl rfl)
theorem w_6_218 : (Cond.methodLink RX12 218 yX12_isHere) ∈ wsL_law := sk_mem (ck_6 _ (List.mem_of_getElem? (i := 218) rfl)) rfl
theorem w_6_220 : (Cond.instanceMethod yX12_isHere) ∈ wsL_law := sk_mem (ck_6 _ (List.mem_of_getElem? (i := 220) rfl)) rfl
theorem w_0_44 : (Cond.selects RX12 yX12_isHere yX12_isHere) ∈ wsL_law := sk_mem (ck_0 _ (List.mem_of_getElem? (i := 44) rfl)) rfl
theorem w_6_217 : (Cond.code yX12_takes cX12_takes 2 (some .boolean)) ∈ wsL_law := sk_mem (ck_6 _ (List.mem_of_getElem? (i := 217) rfl)) rfl
theorem hd_X12_isHere_1 : skD yX12_isHere 1 := by decide +kernel
theorem dg_X12_asks_0_0 : bqL cX12_asks 0 [(0, [42]), (1, [180, 0, 195]), (4, [154, 0, 20]), (24, [177]), (7, [42]), (8, [43]), (9, [182, 0, 222]), (12, [154, 0, 12]), (15, [42]), (16, [4]), (17, [42]), (18, [180, 0, 201]), (21, [182, 0, 225])] = true := by decide +kernel
theorem dX12_asks_0 : decode cX12_asks 0 = .ok (.aload_n 0, 1) := q_aload_n0 (bat_get dg_X12_asks_0_0 0 rfl rfl)
theorem dX12_asks_1 : decode cX12_asks 1 = .ok (.getfield 195, 3) := q_getfield (bat_get dg_X12_asks_0_0 1 rfl rfl) rfl
theorem dX12_asks_4 : decode cX12_asks 4 = .ok (.ifCond .ne 20, 3) := q_ifCond_ne (bat_get dg_X12_asks_0_0 2 rfl rfl) rfl
theorem dX12_asks_24 : decode cX12_asks 24 = .ok (.return_, 1) := q_return_ (bat_get dg_X12_asks_0_0 3 rfl rfl)
theorem dX12_asks_7 : decode cX12_asks 7 = .ok (.aload_n 0, 1) := q_aload_n0 (bat_get dg_X12_asks_0_0 4 rfl rfl)
theorem dX12_asks_8 : decode cX12_asks 8 = .ok (.aload_n 1, 1) := q_aload_n1 (bat_get dg_X12_asks_0_0 5 rfl rfl)
theorem dX12_asks_9 : decode cX12_asks 9 = .ok (.invokevirtual 222, 3) := q_invokevirtual (bat_get dg_X12_asks_0_0 6 rfl rfl) rfl
theorem dX12_asks_12 : decode cX12_asks 12 = .ok (.ifCond .ne 12, 3) := q_ifCond_ne (bat_get dg_X12_asks_0_0 7 rfl rfl) rfl
theorem dX12_asks_15 : decode cX12_asks 15 = .ok (.aload_n 0, 1) := q_aload_n0 (bat_get dg_X12_asks_0_0 8 rfl rfl)
theorem dX12_asks_16 : decode cX12_asks 16 = .ok (.iconst 1, 1) := q_iconst1 (bat_get dg_X12_asks_0_0 9 rfl rfl)
theorem dX12_asks_17 : decode cX12_asks 17 = .ok (.aload_n 0, 1) := q_aload_n0 (bat_get dg_X12_asks_0_0 10 rfl rfl)
theorem dX12_asks_18 : decode cX12_asks 18 = .ok (.getfield 201, 3) := q_getfield (bat_get dg_X12_asks_0_0 11 rfl rfl) rfl
theorem dX12_asks_21 : decode cX12_asks 21 = .ok (.invokevirtual 225, 3) := q_invokevirtual (bat_get dg_X12_asks_0_0 12 rfl rfl) rfl
theorem w_6_214 : (Cond.methodLink RX12 222 yX12_takes) ∈ wsL_law := sk_mem (ck_6 _ (List.mem_of_getElem? (i := 214) rfl)) rfl
theorem w_6_216 : (Cond.instanceMethod yX12_takes) ∈ wsL_law := sk_mem (ck_6 _ (List.mem_of_getElem? (i := 216) rfl)) rfl
theorem w_0_43 : (Cond.selects RX12 yX12_takes yX12_takes) ∈ wsL_law := sk_mem (ck_0 _ (List.mem_of_getElem? (i := 43) rfl)) rfl
theorem w_6_229 : (Cond.methodLink RX12 225 yX12_fail) ∈ wsL_law := sk_mem (ck_6 _ (List.mem_of_getElem? (i := 229) rfl)) rfl
theorem w_6_231 : (Cond.instanceMethod yX12_fail) ∈ wsL_law := sk_mem (ck_6 _ (List.mem_of_getElem? (i := 231) rfl)) rfl
theorem w_0_46 : (Cond.selects RX12 yX12_fail yX12_fail) ∈ wsL_law := sk_mem (ck_0 _ (List.mem_of_getElem? (i := 46) rfl)) rfl
theorem w_6_213 : (Cond.code yX12_asks cX12_asks 2 none) ∈ wsL_law := sk_mem (ck_6 _ (List.mem_of_getElem? (i := 213) rfl)) rfl
theorem hd_X12_takes_1 : skD yX12_takes 1 := by decide +kernel
theorem hd_X12_fail_2 : skD yX12_fail 2 := by decide +kernel
theorem dg_X12_takesSign_0_0 : bqL cX12_takesSign 0 [(0, [42]), (1, [180, 0, 195]), (4, [154, 0, 11]), (15, [3]), (16, [172]), (7, [42]), (8, [182, 0, 207]), (11, [27]), (12, [159, 0, 5]), (17, [42]), (18, [89]), (19, [180, 0, 201]), (22, [4]), (23, [96]), (24, [181, 0, 201]), (27, [4]), (28, [172])] = true := by decide +kernel
theorem dX12_takesSign_0 : decode cX12_takesSign 0 = .ok (.aload_n 0, 1) := q_aload_n0 (bat_get dg_X12_takesSign_0_0 0 rfl rfl)
theorem dX12_takesSign_1 : decode cX12_takesSign 1 = .ok (.getfield 195, 3) := q_getfield (bat_get dg_X12_takesSign_0_0 1 rfl rfl) rfl
theorem dX12_takesSign_4 : decode cX12_takesSign 4 = .ok (.ifCond .ne 11, 3) := q_ifCond_ne (bat_get dg_X12_takesSign_0_0 2 rfl rfl) rfl
theorem dX12_takesSign_15 : decode cX12_takesSign 15 = .ok (.iconst 0, 1) := q_iconst0 (bat_get dg_X12_takesSign_0_0 3 rfl rfl)
theorem dX12_takesSign_16 : decode cX12_takesSign 16 = .ok (.ireturn, 1) := q_ireturn (bat_get dg_X12_takesSign_0_0 4 rfl rfl)
theorem dX12_takesSign_7 : decode cX12_takesSign 7 = .ok (.aload_n 0, 1) := q_aload_n0 (bat_get dg_X12_takesSign_0_0 5 rfl rfl)
theorem dX12_takesSign_8 : decode cX12_takesSign 8 = .ok (.invokevirtual 207, 3) := q_invokevirtual (bat_get dg_X12_takesSign_0_0 6 rfl rfl) rfl
theorem dX12_takesSign_11 : decode cX12_takesSign 11 = .ok (.iload_n 1, 1) := q_iload_n1 (bat_get dg_X12_takesSign_0_0 7 rfl rfl)
theorem dX12_takesSign_12 : decode cX12_takesSign 12 = .ok (.if_icmp .eq 5, 3) := q_if_icmp_eq (bat_get dg_X12_takesSign_0_0 8 rfl rfl) rfl
theorem dX12_takesSign_17 : decode cX12_takesSign 17 = .ok (.aload_n 0, 1) := q_aload_n0 (bat_get dg_X12_takesSign_0_0 9 rfl rfl)
theorem dX12_takesSign_18 : decode cX12_takesSign 18 = .ok (.dup, 1) := q_dup (bat_get dg_X12_takesSign_0_0 10 rfl rfl)
theorem dX12_takesSign_19 : decode cX12_takesSign 19 = .ok (.getfield 201, 3) := q_getfield (bat_get dg_X12_takesSign_0_0 11 rfl rfl) rfl
theorem dX12_takesSign_22 : decode cX12_takesSign 22 = .ok (.iconst 1, 1) := q_iconst1 (bat_get dg_X12_takesSign_0_0 12 rfl rfl)
theorem dX12_takesSign_23 : decode cX12_takesSign 23 = .ok (.iadd, 1) := q_iadd (bat_get dg_X12_takesSign_0_0 13 rfl rfl)
theorem dX12_takesSign_24 : decode cX12_takesSign 24 = .ok (.putfield 201, 3) := q_putfield (bat_get dg_X12_takesSign_0_0 14 rfl rfl) rfl
theorem dX12_takesSign_27 : decode cX12_takesSign 27 = .ok (.iconst 1, 1) := q_iconst1 (bat_get dg_X12_takesSign_0_0 15 rfl rfl)
theorem dX12_takesSign_28 : decode cX12_takesSign 28 = .ok (.ireturn, 1) := q_ireturn (bat_get dg_X12_takesSign_0_0 16 rfl rfl)
theorem w_7_10 : (Cond.code yX12_takesSign cX12_takesSign 2 (some .boolean)) ∈ wsL_law := sk_mem (ck_7 _ (List.mem_of_getElem? (i := 10) rfl)) rfl
theorem dg_X12_asksSign_0_0 : bqL cX12_asksSign 0 [(0, [42]), (1, [180, 0, 195]), (4, [154, 0, 20]), (24, [177]), (7, [42]), (8, [27]), (9, [182, 0, 229]), (12, [154, 0, 12]), (15, [42]), (16, [4]), (17, [42]), (18, [180, 0, 201]), (21, [182, 0, 225])] = true := by decide +kernel
theorem dX12_asksSign_0 : decode cX12_asksSign 0 = .ok (.aload_n 0, 1) := q_aload_n0 (bat_get dg_X12_asksSign_0_0 0 rfl rfl)
theorem dX12_asksSign_1 : decode cX12_asksSign 1 = .ok (.getfield 195, 3) := q_getfield (bat_get dg_X12_asksSign_0_0 1 rfl rfl) rfl
theorem dX12_asksSign_4 : decode cX12_asksSign 4 = .ok (.ifCond .ne 20, 3) := q_ifCond_ne (bat_get dg_X12_asksSign_0_0 2 rfl rfl) rfl
theorem dX12_asksSign_24 : decode cX12_asksSign 24 = .ok (.return_, 1) := q_return_ (bat_get dg_X12_asksSign_0_0 3 rfl rfl)
theorem dX12_asksSign_7 : decode cX12_asksSign 7 = .ok (.aload_n 0, 1) := q_aload_n0 (bat_get dg_X12_asksSign_0_0 4 rfl rfl)
theorem dX12_asksSign_8 : decode cX12_asksSign 8 = .ok (.iload_n 1, 1) := q_iload_n1 (bat_get dg_X12_asksSign_0_0 5 rfl rfl)
theorem dX12_asksSign_9 : decode cX12_asksSign 9 = .ok (.invokevirtual 229, 3) := q_invokevirtual (bat_get dg_X12_asksSign_0_0 6 rfl rfl) rfl
theorem dX12_asksSign_12 : decode cX12_asksSign 12 = .ok (.ifCond .ne 12, 3) := q_ifCond_ne (bat_get dg_X12_asksSign_0_0 7 rfl rfl) rfl
theorem dX12_asksSign_15 : decode cX12_asksSign 15 = .ok (.aload_n 0, 1) := q_aload_n0 (bat_get dg_X12_asksSign_0_0 8 rfl rfl)
theorem dX12_asksSign_16 : decode cX12_asksSign 16 = .ok (.iconst 1, 1) := q_iconst1 (bat_get dg_X12_asksSign_0_0 9 rfl rfl)
theorem dX12_asksSign_17 : decode cX12_asksSign 17 = .ok (.aload_n 0, 1) := q_aload_n0 (bat_get dg_X12_asksSign_0_0 10 rfl rfl)
theorem dX12_asksSign_18 : decode cX12_asksSign 18 = .ok (.getfield 201, 3) := q_getfield (bat_get dg_X12_asksSign_0_0 11 rfl rfl) rfl
theorem dX12_asksSign_21 : decode cX12_asksSign 21 = .ok (.invokevirtual 225, 3) := q_invokevirtual (bat_get dg_X12_asksSign_0_0 12 rfl rfl) rfl
theorem w_7_7 : (Cond.methodLink RX12 229 yX12_takesSign) ∈ wsL_law := sk_mem (ck_7 _ (List.mem_of_getElem? (i := 7) rfl)) rfl
theorem w_7_9 : (Cond.instanceMethod yX12_takesSign) ∈ wsL_law := sk_mem (ck_7 _ (List.mem_of_getElem? (i := 9) rfl)) rfl
theorem w_0_49 : (Cond.selects RX12 yX12_takesSign yX12_takesSign) ∈ wsL_law := sk_mem (ck_0 _ (List.mem_of_getElem? (i := 49) rfl)) rfl
theorem w_7_6 : (Cond.code yX12_asksSign cX12_asksSign 2 none) ∈ wsL_law := sk_mem (ck_7 _ (List.mem_of_getElem? (i := 6) rfl)) rfl
def om_2_2 : List Bool := true :: false :: []
theorem hd_X12_takesSign_1 : skD yX12_takesSign 1 := by decide +kernel
theorem i2l_le {a b : Nat} (ha : a < 2147483648) (hb : b < 2147483648) (h : Int32.toInt64 (nI a) ≤ Int32.toInt64 (nI b)) : a ≤ b := by
  have h1 := Int64.le_iff_toInt_le.mp h
  rw [lgv a ha, lgv b hb] at h1
  omega
theorem dg_X12_number_0_0 : bqL cX12_number 0 [(0, [42]), (1, [180, 0, 195]), (4, [153, 0, 5]), (9, [42]), (10, [182, 0, 207]), (13, [184, 0, 232]), (16, [153, 0, 14]), (30, [42]), (31, [4]), (32, [42]), (33, [180, 0, 201]), (36, [182, 0, 225]), (39, [3]), (40, [172]), (19, [42]), (20, [180, 0, 201]), (23, [42]), (24, [180, 0, 215]), (27, [160, 0, 14]), (41, [42]), (42, [180, 0, 201]), (45, [62]), (46, [3]), (47, [54, 4]), (49, [42]), (50, [180, 0, 201]), (53, [42]), (54, [180, 0, 204]), (57, [162, 0, 72]), (129, [42]), (130, [42]), (131, [180, 0, 201]), (134, [181, 0, 215]), (137, [42]), (138, [29]), (139, [181, 0, 235]), (142, [21, 4]), (144, [133]), (145, [27]), (146, [133])] = true := by decide +kernel
theorem dX12_number_0 : decode cX12_number 0 = .ok (.aload_n 0, 1) := q_aload_n0 (bat_get dg_X12_number_0_0 0 rfl rfl)
theorem dX12_number_1 : decode cX12_number 1 = .ok (.getfield 195, 3) := q_getfield (bat_get dg_X12_number_0_0 1 rfl rfl) rfl
theorem dX12_number_4 : decode cX12_number 4 = .ok (.ifCond .eq 5, 3) := q_ifCond_eq (bat_get dg_X12_number_0_0 2 rfl rfl) rfl
theorem dX12_number_9 : decode cX12_number 9 = .ok (.aload_n 0, 1) := q_aload_n0 (bat_get dg_X12_number_0_0 3 rfl rfl)
theorem dX12_number_10 : decode cX12_number 10 = .ok (.invokevirtual 207, 3) := q_invokevirtual (bat_get dg_X12_number_0_0 4 rfl rfl) rfl
theorem dX12_number_13 : decode cX12_number 13 = .ok (.invokestatic 232, 3) := q_invokestatic (bat_get dg_X12_number_0_0 5 rfl rfl) rfl
theorem dX12_number_16 : decode cX12_number 16 = .ok (.ifCond .eq 14, 3) := q_ifCond_eq (bat_get dg_X12_number_0_0 6 rfl rfl) rfl
theorem dX12_number_30 : decode cX12_number 30 = .ok (.aload_n 0, 1) := q_aload_n0 (bat_get dg_X12_number_0_0 7 rfl rfl)
theorem dX12_number_31 : decode cX12_number 31 = .ok (.iconst 1, 1) := q_iconst1 (bat_get dg_X12_number_0_0 8 rfl rfl)
theorem dX12_number_32 : decode cX12_number 32 = .ok (.aload_n 0, 1) := q_aload_n0 (bat_get dg_X12_number_0_0 9 rfl rfl)
theorem dX12_number_33 : decode cX12_number 33 = .ok (.getfield 201, 3) := q_getfield (bat_get dg_X12_number_0_0 10 rfl rfl) rfl
theorem dX12_number_36 : decode cX12_number 36 = .ok (.invokevirtual 225, 3) := q_invokevirtual (bat_get dg_X12_number_0_0 11 rfl rfl) rfl
theorem dX12_number_39 : decode cX12_number 39 = .ok (.iconst 0, 1) := q_iconst0 (bat_get dg_X12_number_0_0 12 rfl rfl)
theorem dX12_number_40 : decode cX12_number 40 = .ok (.ireturn, 1) := q_ireturn (bat_get dg_X12_number_0_0 13 rfl rfl)
theorem dX12_number_19 : decode cX12_number 19 = .ok (.aload_n 0, 1) := q_aload_n0 (bat_get dg_X12_number_0_0 14 rfl rfl)
theorem dX12_number_20 : decode cX12_number 20 = .ok (.getfield 201, 3) := q_getfield (bat_get dg_X12_number_0_0 15 rfl rfl) rfl
theorem dX12_number_23 : decode cX12_number 23 = .ok (.aload_n 0, 1) := q_aload_n0 (bat_get dg_X12_number_0_0 16 rfl rfl)
theorem dX12_number_24 : decode cX12_number 24 = .ok (.getfield 215, 3) := q_getfield (bat_get dg_X12_number_0_0 17 rfl rfl) rfl
theorem dX12_number_27 : decode cX12_number 27 = .ok (.if_icmp .ne 14, 3) := q_if_icmp_ne (bat_get dg_X12_number_0_0 18 rfl rfl) rfl
theorem dX12_number_41 : decode cX12_number 41 = .ok (.aload_n 0, 1) := q_aload_n0 (bat_get dg_X12_number_0_0 19 rfl rfl)
theorem dX12_number_42 : decode cX12_number 42 = .ok (.getfield 201, 3) := q_getfield (bat_get dg_X12_number_0_0 20 rfl rfl) rfl
theorem dX12_number_45 : decode cX12_number 45 = .ok (.istore_n 3, 1) := q_istore_n3 (bat_get dg_X12_number_0_0 21 rfl rfl)
theorem dX12_number_46 : decode cX12_number 46 = .ok (.iconst 0, 1) := q_iconst0 (bat_get dg_X12_number_0_0 22 rfl rfl)
theorem dX12_number_47 : decode cX12_number 47 = .ok (.istore 4, 2) := q_istore (bat_get dg_X12_number_0_0 23 rfl rfl)
theorem dX12_number_49 : decode cX12_number 49 = .ok (.aload_n 0, 1) := q_aload_n0 (bat_get dg_X12_number_0_0 24 rfl rfl)
theorem dX12_number_50 : decode cX12_number 50 = .ok (.getfield 201, 3) := q_getfield (bat_get dg_X12_number_0_0 25 rfl rfl) rfl
theorem dX12_number_53 : decode cX12_number 53 = .ok (.aload_n 0, 1) := q_aload_n0 (bat_get dg_X12_number_0_0 26 rfl rfl)
theorem dX12_number_54 : decode cX12_number 54 = .ok (.getfield 204, 3) := q_getfield (bat_get dg_X12_number_0_0 27 rfl rfl) rfl
theorem dX12_number_57 : decode cX12_number 57 = .ok (.if_icmp .ge 72, 3) := q_if_icmp_ge (bat_get dg_X12_number_0_0 28 rfl rfl) rfl
theorem dX12_number_129 : decode cX12_number 129 = .ok (.aload_n 0, 1) := q_aload_n0 (bat_get dg_X12_number_0_0 29 rfl rfl)
theorem dX12_number_130 : decode cX12_number 130 = .ok (.aload_n 0, 1) := q_aload_n0 (bat_get dg_X12_number_0_0 30 rfl rfl)
theorem dX12_number_131 : decode cX12_number 131 = .ok (.getfield 201, 3) := q_getfield (bat_get dg_X12_number_0_0 31 rfl rfl) rfl
theorem dX12_number_134 : decode cX12_number 134 = .ok (.putfield 215, 3) := q_putfield (bat_get dg_X12_number_0_0 32 rfl rfl) rfl
theorem dX12_number_137 : decode cX12_number 137 = .ok (.aload_n 0, 1) := q_aload_n0 (bat_get dg_X12_number_0_0 33 rfl rfl)
theorem dX12_number_138 : decode cX12_number 138 = .ok (.iload_n 3, 1) := q_iload_n3 (bat_get dg_X12_number_0_0 34 rfl rfl)
theorem dX12_number_139 : decode cX12_number 139 = .ok (.putfield 235, 3) := q_putfield (bat_get dg_X12_number_0_0 35 rfl rfl) rfl
theorem dX12_number_142 : decode cX12_number 142 = .ok (.iload 4, 2) := q_iload (bat_get dg_X12_number_0_0 36 rfl rfl)
theorem dX12_number_144 : decode cX12_number 144 = .ok (.i2l, 1) := q_i2l (bat_get dg_X12_number_0_0 37 rfl rfl)
theorem dX12_number_145 : decode cX12_number 145 = .ok (.iload_n 1, 1) := q_iload_n1 (bat_get dg_X12_number_0_0 38 rfl rfl)
theorem dX12_number_146 : decode cX12_number 146 = .ok (.i2l, 1) := q_i2l (bat_get dg_X12_number_0_0 39 rfl rfl)
theorem dg_X12_number_60_147 : bqL cX12_number 60 [(87, [28]), (88, [133]), (89, [184, 0, 238]), (92, [154, 0, 9]), (101, [21, 4]), (103, [172]), (95, [42]), (96, [5]), (97, [29]), (98, [182, 0, 225]), (0, [42]), (1, [180, 0, 7]), (4, [42]), (5, [180, 0, 201]), (8, [46]), (9, [184, 0, 232]), (12, [153, 0, 57]), (15, [42]), (16, [180, 0, 201]), (19, [29]), (20, [100]), (21, [7]), (22, [160, 0, 14]), (36, [16, 10]), (38, [21, 4]), (40, [104]), (41, [42]), (42, [180, 0, 7]), (45, [42]), (46, [180, 0, 201]), (49, [46]), (50, [96]), (51, [16, 48]), (53, [100]), (54, [54, 4]), (56, [42]), (57, [89]), (58, [180, 0, 201]), (61, [4]), (62, [96])] = true := by decide +kernel
theorem dX12_number_147 : decode cX12_number 147 = .ok (.iload_n 2, 1) := q_iload_n2 (bat_get dg_X12_number_60_147 0 rfl rfl)
theorem dX12_number_148 : decode cX12_number 148 = .ok (.i2l, 1) := q_i2l (bat_get dg_X12_number_60_147 1 rfl rfl)
theorem dX12_number_149 : decode cX12_number 149 = .ok (.invokestatic 238, 3) := q_invokestatic (bat_get dg_X12_number_60_147 2 rfl rfl) rfl
theorem dX12_number_152 : decode cX12_number 152 = .ok (.ifCond .ne 9, 3) := q_ifCond_ne (bat_get dg_X12_number_60_147 3 rfl rfl) rfl
theorem dX12_number_161 : decode cX12_number 161 = .ok (.iload 4, 2) := q_iload (bat_get dg_X12_number_60_147 4 rfl rfl)
theorem dX12_number_163 : decode cX12_number 163 = .ok (.ireturn, 1) := q_ireturn (bat_get dg_X12_number_60_147 5 rfl rfl)
theorem dX12_number_155 : decode cX12_number 155 = .ok (.aload_n 0, 1) := q_aload_n0 (bat_get dg_X12_number_60_147 6 rfl rfl)
theorem dX12_number_156 : decode cX12_number 156 = .ok (.iconst 2, 1) := q_iconst2 (bat_get dg_X12_number_60_147 7 rfl rfl)
theorem dX12_number_157 : decode cX12_number 157 = .ok (.iload_n 3, 1) := q_iload_n3 (bat_get dg_X12_number_60_147 8 rfl rfl)
theorem dX12_number_158 : decode cX12_number 158 = .ok (.invokevirtual 225, 3) := q_invokevirtual (bat_get dg_X12_number_60_147 9 rfl rfl) rfl
theorem dX12_number_60 : decode cX12_number 60 = .ok (.aload_n 0, 1) := q_aload_n0 (bat_get dg_X12_number_60_147 10 rfl rfl)
theorem dX12_number_61 : decode cX12_number 61 = .ok (.getfield 7, 3) := q_getfield (bat_get dg_X12_number_60_147 11 rfl rfl) rfl
theorem dX12_number_64 : decode cX12_number 64 = .ok (.aload_n 0, 1) := q_aload_n0 (bat_get dg_X12_number_60_147 12 rfl rfl)
theorem dX12_number_65 : decode cX12_number 65 = .ok (.getfield 201, 3) := q_getfield (bat_get dg_X12_number_60_147 13 rfl rfl) rfl
theorem dX12_number_68 : decode cX12_number 68 = .ok (.iaload, 1) := q_iaload (bat_get dg_X12_number_60_147 14 rfl rfl)
theorem dX12_number_69 : decode cX12_number 69 = .ok (.invokestatic 232, 3) := q_invokestatic (bat_get dg_X12_number_60_147 15 rfl rfl) rfl
theorem dX12_number_72 : decode cX12_number 72 = .ok (.ifCond .eq 57, 3) := q_ifCond_eq (bat_get dg_X12_number_60_147 16 rfl rfl) rfl
theorem dX12_number_75 : decode cX12_number 75 = .ok (.aload_n 0, 1) := q_aload_n0 (bat_get dg_X12_number_60_147 17 rfl rfl)
theorem dX12_number_76 : decode cX12_number 76 = .ok (.getfield 201, 3) := q_getfield (bat_get dg_X12_number_60_147 18 rfl rfl) rfl
theorem dX12_number_79 : decode cX12_number 79 = .ok (.iload_n 3, 1) := q_iload_n3 (bat_get dg_X12_number_60_147 19 rfl rfl)
theorem dX12_number_80 : decode cX12_number 80 = .ok (.isub, 1) := q_isub (bat_get dg_X12_number_60_147 20 rfl rfl)
theorem dX12_number_81 : decode cX12_number 81 = .ok (.iconst 4, 1) := q_iconst4 (bat_get dg_X12_number_60_147 21 rfl rfl)
theorem dX12_number_82 : decode cX12_number 82 = .ok (.if_icmp .ne 14, 3) := q_if_icmp_ne (bat_get dg_X12_number_60_147 22 rfl rfl) rfl
theorem dX12_number_96 : decode cX12_number 96 = .ok (.bipush 10, 2) := q_bipush (bat_get dg_X12_number_60_147 23 rfl rfl) rfl
theorem dX12_number_98 : decode cX12_number 98 = .ok (.iload 4, 2) := q_iload (bat_get dg_X12_number_60_147 24 rfl rfl)
theorem dX12_number_100 : decode cX12_number 100 = .ok (.imul, 1) := q_imul (bat_get dg_X12_number_60_147 25 rfl rfl)
theorem dX12_number_101 : decode cX12_number 101 = .ok (.aload_n 0, 1) := q_aload_n0 (bat_get dg_X12_number_60_147 26 rfl rfl)
theorem dX12_number_102 : decode cX12_number 102 = .ok (.getfield 7, 3) := q_getfield (bat_get dg_X12_number_60_147 27 rfl rfl) rfl
theorem dX12_number_105 : decode cX12_number 105 = .ok (.aload_n 0, 1) := q_aload_n0 (bat_get dg_X12_number_60_147 28 rfl rfl)
theorem dX12_number_106 : decode cX12_number 106 = .ok (.getfield 201, 3) := q_getfield (bat_get dg_X12_number_60_147 29 rfl rfl) rfl
theorem dX12_number_109 : decode cX12_number 109 = .ok (.iaload, 1) := q_iaload (bat_get dg_X12_number_60_147 30 rfl rfl)
theorem dX12_number_110 : decode cX12_number 110 = .ok (.iadd, 1) := q_iadd (bat_get dg_X12_number_60_147 31 rfl rfl)
theorem dX12_number_111 : decode cX12_number 111 = .ok (.bipush 48, 2) := q_bipush (bat_get dg_X12_number_60_147 32 rfl rfl) rfl
theorem dX12_number_113 : decode cX12_number 113 = .ok (.isub, 1) := q_isub (bat_get dg_X12_number_60_147 33 rfl rfl)
theorem dX12_number_114 : decode cX12_number 114 = .ok (.istore 4, 2) := q_istore (bat_get dg_X12_number_60_147 34 rfl rfl)
theorem dX12_number_116 : decode cX12_number 116 = .ok (.aload_n 0, 1) := q_aload_n0 (bat_get dg_X12_number_60_147 35 rfl rfl)
theorem dX12_number_117 : decode cX12_number 117 = .ok (.dup, 1) := q_dup (bat_get dg_X12_number_60_147 36 rfl rfl)
theorem dX12_number_118 : decode cX12_number 118 = .ok (.getfield 201, 3) := q_getfield (bat_get dg_X12_number_60_147 37 rfl rfl) rfl
theorem dX12_number_121 : decode cX12_number 121 = .ok (.iconst 1, 1) := q_iconst1 (bat_get dg_X12_number_60_147 38 rfl rfl)
theorem dX12_number_122 : decode cX12_number 122 = .ok (.iadd, 1) := q_iadd (bat_get dg_X12_number_60_147 39 rfl rfl)
theorem dg_X12_number_7_123 : bqL cX12_number 7 [(116, [181, 0, 201]), (119, [167, 255, 179]), (78, [42]), (79, [4]), (80, [42]), (81, [180, 0, 201]), (84, [182, 0, 225]), (87, [3]), (88, [172]), (0, [3]), (1, [172])] = true := by decide +kernel
theorem dX12_number_123 : decode cX12_number 123 = .ok (.putfield 201, 3) := q_putfield (bat_get dg_X12_number_7_123 0 rfl rfl) rfl
theorem dX12_number_126 : decode cX12_number 126 = .ok (.goto (-77), 3) := q_goto (bat_get dg_X12_number_7_123 1 rfl rfl) rfl
theorem dX12_number_85 : decode cX12_number 85 = .ok (.aload_n 0, 1) := q_aload_n0 (bat_get dg_X12_number_7_123 2 rfl rfl)
theorem dX12_number_86 : decode cX12_number 86 = .ok (.iconst 1, 1) := q_iconst1 (bat_get dg_X12_number_7_123 3 rfl rfl)
theorem dX12_number_87 : decode cX12_number 87 = .ok (.aload_n 0, 1) := q_aload_n0 (bat_get dg_X12_number_7_123 4 rfl rfl)
theorem dX12_number_88 : decode cX12_number 88 = .ok (.getfield 201, 3) := q_getfield (bat_get dg_X12_number_7_123 5 rfl rfl) rfl
theorem dX12_number_91 : decode cX12_number 91 = .ok (.invokevirtual 225, 3) := q_invokevirtual (bat_get dg_X12_number_7_123 6 rfl rfl) rfl
theorem dX12_number_94 : decode cX12_number 94 = .ok (.iconst 0, 1) := q_iconst0 (bat_get dg_X12_number_7_123 7 rfl rfl)
theorem dX12_number_95 : decode cX12_number 95 = .ok (.ireturn, 1) := q_ireturn (bat_get dg_X12_number_7_123 8 rfl rfl)
theorem dX12_number_7 : decode cX12_number 7 = .ok (.iconst 0, 1) := q_iconst0 (bat_get dg_X12_number_7_123 9 rfl rfl)
theorem dX12_number_8 : decode cX12_number 8 = .ok (.ireturn, 1) := q_ireturn (bat_get dg_X12_number_7_123 10 rfl rfl)
theorem w_6_237 : (Cond.methodLink RX12 232 yX12_isDigit) ∈ wsL_law := sk_mem (ck_6 _ (List.mem_of_getElem? (i := 237) rfl)) rfl
theorem w_6_238 : (Cond.static yX12_isDigit) ∈ wsL_law := sk_mem (ck_6 _ (List.mem_of_getElem? (i := 238) rfl)) rfl
theorem w_5_165 : (Cond.fieldLink RX12 235 "SameKeeperModel" "numberPlace" "I") ∈ wsL_law := sk_mem (ck_5 _ (List.mem_of_getElem? (i := 165) rfl)) rfl
theorem w_6_236 : (Cond.code yX12_number cX12_number 5 (some .int)) ∈ wsL_law := sk_mem (ck_6 _ (List.mem_of_getElem? (i := 236) rfl)) rfl
theorem hd_X12_isDigit_1 : skD yX12_isDigit 1 := by decide +kernel
theorem dg_X12_isAllowed_0_0 : bqL cX12_isAllowed 0 [(0, [42]), (1, [180, 0, 242]), (4, [154, 0, 16]), (20, [42]), (21, [180, 0, 242]), (24, [4]), (25, [160, 0, 17]), (42, [27]), (43, [4]), (44, [159, 0, 19]), (63, [4]), (64, [167, 0, 4]), (68, [172]), (47, [27]), (48, [5]), (49, [159, 0, 14]), (52, [27]), (53, [7]), (54, [159, 0, 9]), (57, [27]), (58, [16, 6]), (60, [164, 0, 7]), (67, [3]), (28, [27]), (29, [16, 7]), (31, [162, 0, 7]), (38, [3]), (39, [167, 0, 29]), (34, [4]), (35, [167, 0, 33]), (7, [27]), (8, [8]), (9, [162, 0, 7]), (16, [3]), (17, [167, 0, 51]), (12, [4]), (13, [167, 0, 55])] = true := by decide +kernel
theorem dX12_isAllowed_0 : decode cX12_isAllowed 0 = .ok (.aload_n 0, 1) := q_aload_n0 (bat_get dg_X12_isAllowed_0_0 0 rfl rfl)
theorem dX12_isAllowed_1 : decode cX12_isAllowed 1 = .ok (.getfield 242, 3) := q_getfield (bat_get dg_X12_isAllowed_0_0 1 rfl rfl) rfl
theorem dX12_isAllowed_4 : decode cX12_isAllowed 4 = .ok (.ifCond .ne 16, 3) := q_ifCond_ne (bat_get dg_X12_isAllowed_0_0 2 rfl rfl) rfl
theorem dX12_isAllowed_20 : decode cX12_isAllowed 20 = .ok (.aload_n 0, 1) := q_aload_n0 (bat_get dg_X12_isAllowed_0_0 3 rfl rfl)
theorem dX12_isAllowed_21 : decode cX12_isAllowed 21 = .ok (.getfield 242, 3) := q_getfield (bat_get dg_X12_isAllowed_0_0 4 rfl rfl) rfl
theorem dX12_isAllowed_24 : decode cX12_isAllowed 24 = .ok (.iconst 1, 1) := q_iconst1 (bat_get dg_X12_isAllowed_0_0 5 rfl rfl)
theorem dX12_isAllowed_25 : decode cX12_isAllowed 25 = .ok (.if_icmp .ne 17, 3) := q_if_icmp_ne (bat_get dg_X12_isAllowed_0_0 6 rfl rfl) rfl
theorem dX12_isAllowed_42 : decode cX12_isAllowed 42 = .ok (.iload_n 1, 1) := q_iload_n1 (bat_get dg_X12_isAllowed_0_0 7 rfl rfl)
theorem dX12_isAllowed_43 : decode cX12_isAllowed 43 = .ok (.iconst 1, 1) := q_iconst1 (bat_get dg_X12_isAllowed_0_0 8 rfl rfl)
theorem dX12_isAllowed_44 : decode cX12_isAllowed 44 = .ok (.if_icmp .eq 19, 3) := q_if_icmp_eq (bat_get dg_X12_isAllowed_0_0 9 rfl rfl) rfl
theorem dX12_isAllowed_63 : decode cX12_isAllowed 63 = .ok (.iconst 1, 1) := q_iconst1 (bat_get dg_X12_isAllowed_0_0 10 rfl rfl)
theorem dX12_isAllowed_64 : decode cX12_isAllowed 64 = .ok (.goto 4, 3) := q_goto (bat_get dg_X12_isAllowed_0_0 11 rfl rfl) rfl
theorem dX12_isAllowed_68 : decode cX12_isAllowed 68 = .ok (.ireturn, 1) := q_ireturn (bat_get dg_X12_isAllowed_0_0 12 rfl rfl)
theorem dX12_isAllowed_47 : decode cX12_isAllowed 47 = .ok (.iload_n 1, 1) := q_iload_n1 (bat_get dg_X12_isAllowed_0_0 13 rfl rfl)
theorem dX12_isAllowed_48 : decode cX12_isAllowed 48 = .ok (.iconst 2, 1) := q_iconst2 (bat_get dg_X12_isAllowed_0_0 14 rfl rfl)
theorem dX12_isAllowed_49 : decode cX12_isAllowed 49 = .ok (.if_icmp .eq 14, 3) := q_if_icmp_eq (bat_get dg_X12_isAllowed_0_0 15 rfl rfl) rfl
theorem dX12_isAllowed_52 : decode cX12_isAllowed 52 = .ok (.iload_n 1, 1) := q_iload_n1 (bat_get dg_X12_isAllowed_0_0 16 rfl rfl)
theorem dX12_isAllowed_53 : decode cX12_isAllowed 53 = .ok (.iconst 4, 1) := q_iconst4 (bat_get dg_X12_isAllowed_0_0 17 rfl rfl)
theorem dX12_isAllowed_54 : decode cX12_isAllowed 54 = .ok (.if_icmp .eq 9, 3) := q_if_icmp_eq (bat_get dg_X12_isAllowed_0_0 18 rfl rfl) rfl
theorem dX12_isAllowed_57 : decode cX12_isAllowed 57 = .ok (.iload_n 1, 1) := q_iload_n1 (bat_get dg_X12_isAllowed_0_0 19 rfl rfl)
theorem dX12_isAllowed_58 : decode cX12_isAllowed 58 = .ok (.bipush 6, 2) := q_bipush (bat_get dg_X12_isAllowed_0_0 20 rfl rfl) rfl
theorem dX12_isAllowed_60 : decode cX12_isAllowed 60 = .ok (.if_icmp .le 7, 3) := q_if_icmp_le (bat_get dg_X12_isAllowed_0_0 21 rfl rfl) rfl
theorem dX12_isAllowed_67 : decode cX12_isAllowed 67 = .ok (.iconst 0, 1) := q_iconst0 (bat_get dg_X12_isAllowed_0_0 22 rfl rfl)
theorem dX12_isAllowed_28 : decode cX12_isAllowed 28 = .ok (.iload_n 1, 1) := q_iload_n1 (bat_get dg_X12_isAllowed_0_0 23 rfl rfl)
theorem dX12_isAllowed_29 : decode cX12_isAllowed 29 = .ok (.bipush 7, 2) := q_bipush (bat_get dg_X12_isAllowed_0_0 24 rfl rfl) rfl
theorem dX12_isAllowed_31 : decode cX12_isAllowed 31 = .ok (.if_icmp .ge 7, 3) := q_if_icmp_ge (bat_get dg_X12_isAllowed_0_0 25 rfl rfl) rfl
theorem dX12_isAllowed_38 : decode cX12_isAllowed 38 = .ok (.iconst 0, 1) := q_iconst0 (bat_get dg_X12_isAllowed_0_0 26 rfl rfl)
theorem dX12_isAllowed_39 : decode cX12_isAllowed 39 = .ok (.goto 29, 3) := q_goto (bat_get dg_X12_isAllowed_0_0 27 rfl rfl) rfl
theorem dX12_isAllowed_34 : decode cX12_isAllowed 34 = .ok (.iconst 1, 1) := q_iconst1 (bat_get dg_X12_isAllowed_0_0 28 rfl rfl)
theorem dX12_isAllowed_35 : decode cX12_isAllowed 35 = .ok (.goto 33, 3) := q_goto (bat_get dg_X12_isAllowed_0_0 29 rfl rfl) rfl
theorem dX12_isAllowed_7 : decode cX12_isAllowed 7 = .ok (.iload_n 1, 1) := q_iload_n1 (bat_get dg_X12_isAllowed_0_0 30 rfl rfl)
theorem dX12_isAllowed_8 : decode cX12_isAllowed 8 = .ok (.iconst 5, 1) := q_iconst5 (bat_get dg_X12_isAllowed_0_0 31 rfl rfl)
theorem dX12_isAllowed_9 : decode cX12_isAllowed 9 = .ok (.if_icmp .ge 7, 3) := q_if_icmp_ge (bat_get dg_X12_isAllowed_0_0 32 rfl rfl) rfl
theorem dX12_isAllowed_16 : decode cX12_isAllowed 16 = .ok (.iconst 0, 1) := q_iconst0 (bat_get dg_X12_isAllowed_0_0 33 rfl rfl)
theorem dX12_isAllowed_17 : decode cX12_isAllowed 17 = .ok (.goto 51, 3) := q_goto (bat_get dg_X12_isAllowed_0_0 34 rfl rfl) rfl
theorem dX12_isAllowed_12 : decode cX12_isAllowed 12 = .ok (.iconst 1, 1) := q_iconst1 (bat_get dg_X12_isAllowed_0_0 35 rfl rfl)
theorem dX12_isAllowed_13 : decode cX12_isAllowed 13 = .ok (.goto 55, 3) := q_goto (bat_get dg_X12_isAllowed_0_0 36 rfl rfl) rfl
theorem w_7_46 : (Cond.code yX12_isAllowed cX12_isAllowed 2 (some .boolean)) ∈ wsL_law := sk_mem (ck_7 _ (List.mem_of_getElem? (i := 46) rfl)) rfl
theorem dg_X12_qWordHere_0_0 : bqL cX12_qWordHere 0 [(0, [42]), (1, [42]), (2, [180, 0, 150]), (5, [182, 0, 218]), (8, [153, 0, 5]), (13, [42]), (14, [42]), (15, [180, 0, 153]), (18, [182, 0, 218]), (21, [153, 0, 5]), (26, [42]), (27, [42]), (28, [180, 0, 156]), (31, [182, 0, 218]), (34, [153, 0, 5]), (39, [42]), (40, [42]), (41, [180, 0, 159]), (44, [182, 0, 218]), (47, [153, 0, 5]), (52, [42]), (53, [42]), (54, [180, 0, 162]), (57, [182, 0, 218]), (60, [153, 0, 5]), (65, [42]), (66, [42]), (67, [180, 0, 165]), (70, [182, 0, 218]), (73, [153, 0, 5]), (78, [42]), (79, [42]), (80, [180, 0, 168]), (83, [182, 0, 218]), (86, [153, 0, 6]), (92, [42]), (93, [42]), (94, [180, 0, 171]), (97, [182, 0, 218]), (100, [153, 0, 6])] = true := by decide +kernel
theorem dX12_qWordHere_0 : decode cX12_qWordHere 0 = .ok (.aload_n 0, 1) := q_aload_n0 (bat_get dg_X12_qWordHere_0_0 0 rfl rfl)
theorem dX12_qWordHere_1 : decode cX12_qWordHere 1 = .ok (.aload_n 0, 1) := q_aload_n0 (bat_get dg_X12_qWordHere_0_0 1 rfl rfl)
theorem dX12_qWordHere_2 : decode cX12_qWordHere 2 = .ok (.getfield 150, 3) := q_getfield (bat_get dg_X12_qWordHere_0_0 2 rfl rfl) rfl
theorem dX12_qWordHere_5 : decode cX12_qWordHere 5 = .ok (.invokevirtual 218, 3) := q_invokevirtual (bat_get dg_X12_qWordHere_0_0 3 rfl rfl) rfl
theorem dX12_qWordHere_8 : decode cX12_qWordHere 8 = .ok (.ifCond .eq 5, 3) := q_ifCond_eq (bat_get dg_X12_qWordHere_0_0 4 rfl rfl) rfl
theorem dX12_qWordHere_13 : decode cX12_qWordHere 13 = .ok (.aload_n 0, 1) := q_aload_n0 (bat_get dg_X12_qWordHere_0_0 5 rfl rfl)
theorem dX12_qWordHere_14 : decode cX12_qWordHere 14 = .ok (.aload_n 0, 1) := q_aload_n0 (bat_get dg_X12_qWordHere_0_0 6 rfl rfl)
theorem dX12_qWordHere_15 : decode cX12_qWordHere 15 = .ok (.getfield 153, 3) := q_getfield (bat_get dg_X12_qWordHere_0_0 7 rfl rfl) rfl
theorem dX12_qWordHere_18 : decode cX12_qWordHere 18 = .ok (.invokevirtual 218, 3) := q_invokevirtual (bat_get dg_X12_qWordHere_0_0 8 rfl rfl) rfl
theorem dX12_qWordHere_21 : decode cX12_qWordHere 21 = .ok (.ifCond .eq 5, 3) := q_ifCond_eq (bat_get dg_X12_qWordHere_0_0 9 rfl rfl) rfl
theorem dX12_qWordHere_26 : decode cX12_qWordHere 26 = .ok (.aload_n 0, 1) := q_aload_n0 (bat_get dg_X12_qWordHere_0_0 10 rfl rfl)
theorem dX12_qWordHere_27 : decode cX12_qWordHere 27 = .ok (.aload_n 0, 1) := q_aload_n0 (bat_get dg_X12_qWordHere_0_0 11 rfl rfl)
theorem dX12_qWordHere_28 : decode cX12_qWordHere 28 = .ok (.getfield 156, 3) := q_getfield (bat_get dg_X12_qWordHere_0_0 12 rfl rfl) rfl
theorem dX12_qWordHere_31 : decode cX12_qWordHere 31 = .ok (.invokevirtual 218, 3) := q_invokevirtual (bat_get dg_X12_qWordHere_0_0 13 rfl rfl) rfl
theorem dX12_qWordHere_34 : decode cX12_qWordHere 34 = .ok (.ifCond .eq 5, 3) := q_ifCond_eq (bat_get dg_X12_qWordHere_0_0 14 rfl rfl) rfl
theorem dX12_qWordHere_39 : decode cX12_qWordHere 39 = .ok (.aload_n 0, 1) := q_aload_n0 (bat_get dg_X12_qWordHere_0_0 15 rfl rfl)
theorem dX12_qWordHere_40 : decode cX12_qWordHere 40 = .ok (.aload_n 0, 1) := q_aload_n0 (bat_get dg_X12_qWordHere_0_0 16 rfl rfl)
theorem dX12_qWordHere_41 : decode cX12_qWordHere 41 = .ok (.getfield 159, 3) := q_getfield (bat_get dg_X12_qWordHere_0_0 17 rfl rfl) rfl
theorem dX12_qWordHere_44 : decode cX12_qWordHere 44 = .ok (.invokevirtual 218, 3) := q_invokevirtual (bat_get dg_X12_qWordHere_0_0 18 rfl rfl) rfl
theorem dX12_qWordHere_47 : decode cX12_qWordHere 47 = .ok (.ifCond .eq 5, 3) := q_ifCond_eq (bat_get dg_X12_qWordHere_0_0 19 rfl rfl) rfl
theorem dX12_qWordHere_52 : decode cX12_qWordHere 52 = .ok (.aload_n 0, 1) := q_aload_n0 (bat_get dg_X12_qWordHere_0_0 20 rfl rfl)
theorem dX12_qWordHere_53 : decode cX12_qWordHere 53 = .ok (.aload_n 0, 1) := q_aload_n0 (bat_get dg_X12_qWordHere_0_0 21 rfl rfl)
theorem dX12_qWordHere_54 : decode cX12_qWordHere 54 = .ok (.getfield 162, 3) := q_getfield (bat_get dg_X12_qWordHere_0_0 22 rfl rfl) rfl
theorem dX12_qWordHere_57 : decode cX12_qWordHere 57 = .ok (.invokevirtual 218, 3) := q_invokevirtual (bat_get dg_X12_qWordHere_0_0 23 rfl rfl) rfl
theorem dX12_qWordHere_60 : decode cX12_qWordHere 60 = .ok (.ifCond .eq 5, 3) := q_ifCond_eq (bat_get dg_X12_qWordHere_0_0 24 rfl rfl) rfl
theorem dX12_qWordHere_65 : decode cX12_qWordHere 65 = .ok (.aload_n 0, 1) := q_aload_n0 (bat_get dg_X12_qWordHere_0_0 25 rfl rfl)
theorem dX12_qWordHere_66 : decode cX12_qWordHere 66 = .ok (.aload_n 0, 1) := q_aload_n0 (bat_get dg_X12_qWordHere_0_0 26 rfl rfl)
theorem dX12_qWordHere_67 : decode cX12_qWordHere 67 = .ok (.getfield 165, 3) := q_getfield (bat_get dg_X12_qWordHere_0_0 27 rfl rfl) rfl
theorem dX12_qWordHere_70 : decode cX12_qWordHere 70 = .ok (.invokevirtual 218, 3) := q_invokevirtual (bat_get dg_X12_qWordHere_0_0 28 rfl rfl) rfl
theorem dX12_qWordHere_73 : decode cX12_qWordHere 73 = .ok (.ifCond .eq 5, 3) := q_ifCond_eq (bat_get dg_X12_qWordHere_0_0 29 rfl rfl) rfl
theorem dX12_qWordHere_78 : decode cX12_qWordHere 78 = .ok (.aload_n 0, 1) := q_aload_n0 (bat_get dg_X12_qWordHere_0_0 30 rfl rfl)
theorem dX12_qWordHere_79 : decode cX12_qWordHere 79 = .ok (.aload_n 0, 1) := q_aload_n0 (bat_get dg_X12_qWordHere_0_0 31 rfl rfl)
theorem dX12_qWordHere_80 : decode cX12_qWordHere 80 = .ok (.getfield 168, 3) := q_getfield (bat_get dg_X12_qWordHere_0_0 32 rfl rfl) rfl
theorem dX12_qWordHere_83 : decode cX12_qWordHere 83 = .ok (.invokevirtual 218, 3) := q_invokevirtual (bat_get dg_X12_qWordHere_0_0 33 rfl rfl) rfl
theorem dX12_qWordHere_86 : decode cX12_qWordHere 86 = .ok (.ifCond .eq 6, 3) := q_ifCond_eq (bat_get dg_X12_qWordHere_0_0 34 rfl rfl) rfl
theorem dX12_qWordHere_92 : decode cX12_qWordHere 92 = .ok (.aload_n 0, 1) := q_aload_n0 (bat_get dg_X12_qWordHere_0_0 35 rfl rfl)
theorem dX12_qWordHere_93 : decode cX12_qWordHere 93 = .ok (.aload_n 0, 1) := q_aload_n0 (bat_get dg_X12_qWordHere_0_0 36 rfl rfl)
theorem dX12_qWordHere_94 : decode cX12_qWordHere 94 = .ok (.getfield 171, 3) := q_getfield (bat_get dg_X12_qWordHere_0_0 37 rfl rfl) rfl
theorem dX12_qWordHere_97 : decode cX12_qWordHere 97 = .ok (.invokevirtual 218, 3) := q_invokevirtual (bat_get dg_X12_qWordHere_0_0 38 rfl rfl) rfl
theorem dX12_qWordHere_100 : decode cX12_qWordHere 100 = .ok (.ifCond .eq 6, 3) := q_ifCond_eq (bat_get dg_X12_qWordHere_0_0 39 rfl rfl) rfl
theorem dg_X12_qWordHere_11_106 : bqL cX12_qWordHere 11 [(95, [42]), (96, [42]), (97, [180, 0, 174]), (100, [182, 0, 218]), (103, [153, 0, 6]), (109, [42]), (110, [42]), (111, [180, 0, 114]), (114, [182, 0, 218]), (117, [153, 0, 6]), (123, [42]), (124, [42]), (125, [180, 0, 177]), (128, [182, 0, 218]), (131, [153, 0, 6]), (137, [2]), (138, [172]), (134, [16, 10]), (136, [172]), (120, [16, 9]), (122, [172]), (106, [16, 8]), (108, [172]), (92, [16, 7]), (94, [172]), (78, [16, 6]), (80, [172]), (65, [8]), (66, [172]), (52, [7]), (53, [172]), (39, [6]), (40, [172]), (26, [5]), (27, [172]), (13, [4]), (14, [172]), (0, [3]), (1, [172])] = true := by decide +kernel
theorem dX12_qWordHere_106 : decode cX12_qWordHere 106 = .ok (.aload_n 0, 1) := q_aload_n0 (bat_get dg_X12_qWordHere_11_106 0 rfl rfl)
theorem dX12_qWordHere_107 : decode cX12_qWordHere 107 = .ok (.aload_n 0, 1) := q_aload_n0 (bat_get dg_X12_qWordHere_11_106 1 rfl rfl)
theorem dX12_qWordHere_108 : decode cX12_qWordHere 108 = .ok (.getfield 174, 3) := q_getfield (bat_get dg_X12_qWordHere_11_106 2 rfl rfl) rfl
theorem dX12_qWordHere_111 : decode cX12_qWordHere 111 = .ok (.invokevirtual 218, 3) := q_invokevirtual (bat_get dg_X12_qWordHere_11_106 3 rfl rfl) rfl
theorem dX12_qWordHere_114 : decode cX12_qWordHere 114 = .ok (.ifCond .eq 6, 3) := q_ifCond_eq (bat_get dg_X12_qWordHere_11_106 4 rfl rfl) rfl
theorem dX12_qWordHere_120 : decode cX12_qWordHere 120 = .ok (.aload_n 0, 1) := q_aload_n0 (bat_get dg_X12_qWordHere_11_106 5 rfl rfl)
theorem dX12_qWordHere_121 : decode cX12_qWordHere 121 = .ok (.aload_n 0, 1) := q_aload_n0 (bat_get dg_X12_qWordHere_11_106 6 rfl rfl)
theorem dX12_qWordHere_122 : decode cX12_qWordHere 122 = .ok (.getfield 114, 3) := q_getfield (bat_get dg_X12_qWordHere_11_106 7 rfl rfl) rfl
theorem dX12_qWordHere_125 : decode cX12_qWordHere 125 = .ok (.invokevirtual 218, 3) := q_invokevirtual (bat_get dg_X12_qWordHere_11_106 8 rfl rfl) rfl
theorem dX12_qWordHere_128 : decode cX12_qWordHere 128 = .ok (.ifCond .eq 6, 3) := q_ifCond_eq (bat_get dg_X12_qWordHere_11_106 9 rfl rfl) rfl
theorem dX12_qWordHere_134 : decode cX12_qWordHere 134 = .ok (.aload_n 0, 1) := q_aload_n0 (bat_get dg_X12_qWordHere_11_106 10 rfl rfl)
theorem dX12_qWordHere_135 : decode cX12_qWordHere 135 = .ok (.aload_n 0, 1) := q_aload_n0 (bat_get dg_X12_qWordHere_11_106 11 rfl rfl)
theorem dX12_qWordHere_136 : decode cX12_qWordHere 136 = .ok (.getfield 177, 3) := q_getfield (bat_get dg_X12_qWordHere_11_106 12 rfl rfl) rfl
theorem dX12_qWordHere_139 : decode cX12_qWordHere 139 = .ok (.invokevirtual 218, 3) := q_invokevirtual (bat_get dg_X12_qWordHere_11_106 13 rfl rfl) rfl
theorem dX12_qWordHere_142 : decode cX12_qWordHere 142 = .ok (.ifCond .eq 6, 3) := q_ifCond_eq (bat_get dg_X12_qWordHere_11_106 14 rfl rfl) rfl
theorem dX12_qWordHere_148 : decode cX12_qWordHere 148 = .ok (.iconst (-1), 1) := q_iconstm1 (bat_get dg_X12_qWordHere_11_106 15 rfl rfl)
theorem dX12_qWordHere_149 : decode cX12_qWordHere 149 = .ok (.ireturn, 1) := q_ireturn (bat_get dg_X12_qWordHere_11_106 16 rfl rfl)
theorem dX12_qWordHere_145 : decode cX12_qWordHere 145 = .ok (.bipush 10, 2) := q_bipush (bat_get dg_X12_qWordHere_11_106 17 rfl rfl) rfl
theorem dX12_qWordHere_147 : decode cX12_qWordHere 147 = .ok (.ireturn, 1) := q_ireturn (bat_get dg_X12_qWordHere_11_106 18 rfl rfl)
theorem dX12_qWordHere_131 : decode cX12_qWordHere 131 = .ok (.bipush 9, 2) := q_bipush (bat_get dg_X12_qWordHere_11_106 19 rfl rfl) rfl
theorem dX12_qWordHere_133 : decode cX12_qWordHere 133 = .ok (.ireturn, 1) := q_ireturn (bat_get dg_X12_qWordHere_11_106 20 rfl rfl)
theorem dX12_qWordHere_117 : decode cX12_qWordHere 117 = .ok (.bipush 8, 2) := q_bipush (bat_get dg_X12_qWordHere_11_106 21 rfl rfl) rfl
theorem dX12_qWordHere_119 : decode cX12_qWordHere 119 = .ok (.ireturn, 1) := q_ireturn (bat_get dg_X12_qWordHere_11_106 22 rfl rfl)
theorem dX12_qWordHere_103 : decode cX12_qWordHere 103 = .ok (.bipush 7, 2) := q_bipush (bat_get dg_X12_qWordHere_11_106 23 rfl rfl) rfl
theorem dX12_qWordHere_105 : decode cX12_qWordHere 105 = .ok (.ireturn, 1) := q_ireturn (bat_get dg_X12_qWordHere_11_106 24 rfl rfl)
theorem dX12_qWordHere_89 : decode cX12_qWordHere 89 = .ok (.bipush 6, 2) := q_bipush (bat_get dg_X12_qWordHere_11_106 25 rfl rfl) rfl
theorem dX12_qWordHere_91 : decode cX12_qWordHere 91 = .ok (.ireturn, 1) := q_ireturn (bat_get dg_X12_qWordHere_11_106 26 rfl rfl)
theorem dX12_qWordHere_76 : decode cX12_qWordHere 76 = .ok (.iconst 5, 1) := q_iconst5 (bat_get dg_X12_qWordHere_11_106 27 rfl rfl)
theorem dX12_qWordHere_77 : decode cX12_qWordHere 77 = .ok (.ireturn, 1) := q_ireturn (bat_get dg_X12_qWordHere_11_106 28 rfl rfl)
theorem dX12_qWordHere_63 : decode cX12_qWordHere 63 = .ok (.iconst 4, 1) := q_iconst4 (bat_get dg_X12_qWordHere_11_106 29 rfl rfl)
theorem dX12_qWordHere_64 : decode cX12_qWordHere 64 = .ok (.ireturn, 1) := q_ireturn (bat_get dg_X12_qWordHere_11_106 30 rfl rfl)
theorem dX12_qWordHere_50 : decode cX12_qWordHere 50 = .ok (.iconst 3, 1) := q_iconst3 (bat_get dg_X12_qWordHere_11_106 31 rfl rfl)
theorem dX12_qWordHere_51 : decode cX12_qWordHere 51 = .ok (.ireturn, 1) := q_ireturn (bat_get dg_X12_qWordHere_11_106 32 rfl rfl)
theorem dX12_qWordHere_37 : decode cX12_qWordHere 37 = .ok (.iconst 2, 1) := q_iconst2 (bat_get dg_X12_qWordHere_11_106 33 rfl rfl)
theorem dX12_qWordHere_38 : decode cX12_qWordHere 38 = .ok (.ireturn, 1) := q_ireturn (bat_get dg_X12_qWordHere_11_106 34 rfl rfl)
theorem dX12_qWordHere_24 : decode cX12_qWordHere 24 = .ok (.iconst 1, 1) := q_iconst1 (bat_get dg_X12_qWordHere_11_106 35 rfl rfl)
theorem dX12_qWordHere_25 : decode cX12_qWordHere 25 = .ok (.ireturn, 1) := q_ireturn (bat_get dg_X12_qWordHere_11_106 36 rfl rfl)
theorem dX12_qWordHere_11 : decode cX12_qWordHere 11 = .ok (.iconst 0, 1) := q_iconst0 (bat_get dg_X12_qWordHere_11_106 37 rfl rfl)
theorem dX12_qWordHere_12 : decode cX12_qWordHere 12 = .ok (.ireturn, 1) := q_ireturn (bat_get dg_X12_qWordHere_11_106 38 rfl rfl)
theorem w_5_225 : (Cond.fieldLink RX12 150 "SameKeeperModel" "moodAsked" "[C") ∈ wsL_law := sk_mem (ck_5 _ (List.mem_of_getElem? (i := 225) rfl)) rfl
theorem w_5_226 : (Cond.fieldLink RX12 153 "SameKeeperModel" "bargeAsked" "[C") ∈ wsL_law := sk_mem (ck_5 _ (List.mem_of_getElem? (i := 226) rfl)) rfl
theorem w_5_227 : (Cond.fieldLink RX12 156 "SameKeeperModel" "wetAsked" "[C") ∈ wsL_law := sk_mem (ck_5 _ (List.mem_of_getElem? (i := 227) rfl)) rfl
theorem w_5_228 : (Cond.fieldLink RX12 159 "SameKeeperModel" "dayAsked" "[C") ∈ wsL_law := sk_mem (ck_5 _ (List.mem_of_getElem? (i := 228) rfl)) rfl
theorem w_5_229 : (Cond.fieldLink RX12 162 "SameKeeperModel" "weekAsked" "[C") ∈ wsL_law := sk_mem (ck_5 _ (List.mem_of_getElem? (i := 229) rfl)) rfl
theorem w_5_230 : (Cond.fieldLink RX12 165 "SameKeeperModel" "toldAsked" "[C") ∈ wsL_law := sk_mem (ck_5 _ (List.mem_of_getElem? (i := 230) rfl)) rfl
theorem w_5_231 : (Cond.fieldLink RX12 168 "SameKeeperModel" "aloneAsked" "[C") ∈ wsL_law := sk_mem (ck_5 _ (List.mem_of_getElem? (i := 231) rfl)) rfl
theorem w_5_232 : (Cond.fieldLink RX12 171 "SameKeeperModel" "numberAsked" "[C") ∈ wsL_law := sk_mem (ck_5 _ (List.mem_of_getElem? (i := 232) rfl)) rfl
theorem w_5_233 : (Cond.fieldLink RX12 174 "SameKeeperModel" "muteAsked" "[C") ∈ wsL_law := sk_mem (ck_5 _ (List.mem_of_getElem? (i := 233) rfl)) rfl
theorem w_5_213 : (Cond.fieldLink RX12 114 "SameKeeperModel" "firstAsked" "[C") ∈ wsL_law := sk_mem (ck_5 _ (List.mem_of_getElem? (i := 213) rfl)) rfl
theorem w_5_234 : (Cond.fieldLink RX12 177 "SameKeeperModel" "weeksAsked" "[C") ∈ wsL_law := sk_mem (ck_5 _ (List.mem_of_getElem? (i := 234) rfl)) rfl
theorem w_7_42 : (Cond.code yX12_qWordHere cX12_qWordHere 1 (some .int)) ∈ wsL_law := sk_mem (ck_7 _ (List.mem_of_getElem? (i := 42) rfl)) rfl
def om_13_1a00 : List Bool := true :: true :: false :: true :: false :: false :: false :: false :: false :: false :: false :: false :: false :: []
def om_13_1900 : List Bool := true :: true :: false :: false :: true :: false :: false :: false :: false :: false :: false :: false :: false :: []
def om_13_1880 : List Bool := true :: true :: false :: false :: false :: true :: false :: false :: false :: false :: false :: false :: false :: []
def om_13_1840 : List Bool := true :: true :: false :: false :: false :: false :: true :: false :: false :: false :: false :: false :: false :: []
def om_13_1820 : List Bool := true :: true :: false :: false :: false :: false :: false :: true :: false :: false :: false :: false :: false :: []
def om_13_1810 : List Bool := true :: true :: false :: false :: false :: false :: false :: false :: true :: false :: false :: false :: false :: []
def om_13_1808 : List Bool := true :: true :: false :: false :: false :: false :: false :: false :: false :: true :: false :: false :: false :: []
def om_13_1804 : List Bool := true :: true :: false :: false :: false :: false :: false :: false :: false :: false :: true :: false :: false :: []
def om_13_1802 : List Bool := true :: true :: false :: false :: false :: false :: false :: false :: false :: false :: false :: true :: false :: []
def om_13_1801 : List Bool := true :: true :: false :: false :: false :: false :: false :: false :: false :: false :: false :: false :: true :: []
theorem dg_X12_qWordOf_0_0 : bqL cX12_qWordOf 0 [(0, [42]), (1, [182, 1, 251]), (4, [62]), (5, [29]), (6, [27]), (7, [161, 0, 20]), (27, [2]), (28, [172]), (10, [29]), (11, [28]), (12, [162, 0, 15]), (15, [42]), (16, [29]), (17, [182, 1, 254]), (20, [153, 0, 7]), (23, [29]), (24, [167, 0, 4])] = true := by decide +kernel
theorem dX12_qWordOf_0 : decode cX12_qWordOf 0 = .ok (.aload_n 0, 1) := q_aload_n0 (bat_get dg_X12_qWordOf_0_0 0 rfl rfl)
theorem dX12_qWordOf_1 : decode cX12_qWordOf 1 = .ok (.invokevirtual 507, 3) := q_invokevirtual (bat_get dg_X12_qWordOf_0_0 1 rfl rfl) rfl
theorem dX12_qWordOf_4 : decode cX12_qWordOf 4 = .ok (.istore_n 3, 1) := q_istore_n3 (bat_get dg_X12_qWordOf_0_0 2 rfl rfl)
theorem dX12_qWordOf_5 : decode cX12_qWordOf 5 = .ok (.iload_n 3, 1) := q_iload_n3 (bat_get dg_X12_qWordOf_0_0 3 rfl rfl)
theorem dX12_qWordOf_6 : decode cX12_qWordOf 6 = .ok (.iload_n 1, 1) := q_iload_n1 (bat_get dg_X12_qWordOf_0_0 4 rfl rfl)
theorem dX12_qWordOf_7 : decode cX12_qWordOf 7 = .ok (.if_icmp .lt 20, 3) := q_if_icmp_lt (bat_get dg_X12_qWordOf_0_0 5 rfl rfl) rfl
theorem dX12_qWordOf_27 : decode cX12_qWordOf 27 = .ok (.iconst (-1), 1) := q_iconstm1 (bat_get dg_X12_qWordOf_0_0 6 rfl rfl)
theorem dX12_qWordOf_28 : decode cX12_qWordOf 28 = .ok (.ireturn, 1) := q_ireturn (bat_get dg_X12_qWordOf_0_0 7 rfl rfl)
theorem dX12_qWordOf_10 : decode cX12_qWordOf 10 = .ok (.iload_n 3, 1) := q_iload_n3 (bat_get dg_X12_qWordOf_0_0 8 rfl rfl)
theorem dX12_qWordOf_11 : decode cX12_qWordOf 11 = .ok (.iload_n 2, 1) := q_iload_n2 (bat_get dg_X12_qWordOf_0_0 9 rfl rfl)
theorem dX12_qWordOf_12 : decode cX12_qWordOf 12 = .ok (.if_icmp .ge 15, 3) := q_if_icmp_ge (bat_get dg_X12_qWordOf_0_0 10 rfl rfl) rfl
theorem dX12_qWordOf_15 : decode cX12_qWordOf 15 = .ok (.aload_n 0, 1) := q_aload_n0 (bat_get dg_X12_qWordOf_0_0 11 rfl rfl)
theorem dX12_qWordOf_16 : decode cX12_qWordOf 16 = .ok (.iload_n 3, 1) := q_iload_n3 (bat_get dg_X12_qWordOf_0_0 12 rfl rfl)
theorem dX12_qWordOf_17 : decode cX12_qWordOf 17 = .ok (.invokevirtual 510, 3) := q_invokevirtual (bat_get dg_X12_qWordOf_0_0 13 rfl rfl) rfl
theorem dX12_qWordOf_20 : decode cX12_qWordOf 20 = .ok (.ifCond .eq 7, 3) := q_ifCond_eq (bat_get dg_X12_qWordOf_0_0 14 rfl rfl) rfl
theorem dX12_qWordOf_23 : decode cX12_qWordOf 23 = .ok (.iload_n 3, 1) := q_iload_n3 (bat_get dg_X12_qWordOf_0_0 15 rfl rfl)
theorem dX12_qWordOf_24 : decode cX12_qWordOf 24 = .ok (.goto 4, 3) := q_goto (bat_get dg_X12_qWordOf_0_0 16 rfl rfl) rfl
theorem w_7_39 : (Cond.methodLink RX12 507 yX12_qWordHere) ∈ wsL_law := sk_mem (ck_7 _ (List.mem_of_getElem? (i := 39) rfl)) rfl
theorem w_7_41 : (Cond.instanceMethod yX12_qWordHere) ∈ wsL_law := sk_mem (ck_7 _ (List.mem_of_getElem? (i := 41) rfl)) rfl
theorem w_0_57 : (Cond.selects RX12 yX12_qWordHere yX12_qWordHere) ∈ wsL_law := sk_mem (ck_0 _ (List.mem_of_getElem? (i := 57) rfl)) rfl
theorem w_7_43 : (Cond.methodLink RX12 510 yX12_isAllowed) ∈ wsL_law := sk_mem (ck_7 _ (List.mem_of_getElem? (i := 43) rfl)) rfl
theorem w_7_45 : (Cond.instanceMethod yX12_isAllowed) ∈ wsL_law := sk_mem (ck_7 _ (List.mem_of_getElem? (i := 45) rfl)) rfl
theorem w_0_58 : (Cond.selects RX12 yX12_isAllowed yX12_isAllowed) ∈ wsL_law := sk_mem (ck_0 _ (List.mem_of_getElem? (i := 58) rfl)) rfl
theorem w_7_38 : (Cond.code yX12_qWordOf cX12_qWordOf 4 (some .int)) ∈ wsL_law := sk_mem (ck_7 _ (List.mem_of_getElem? (i := 38) rfl)) rfl
theorem hd_X12_qWordHere_0 : skD yX12_qWordHere 0 := by decide +kernel
theorem hd_X12_isAllowed_1 : skD yX12_isAllowed 1 := by decide +kernel
theorem dX12_qAsksWord_1 : decode cX12_qAsksWord 1 = .ok (.tableswitch 165 0 9 #[55, 66, 77, 88, 99, 110, 121, 132, 143, 154], 55) := by decide +kernel
theorem dg_X12_qAsksWord_0_0 : bqL cX12_qAsksWord 0 [(0, [27]), (56, [42]), (57, [42]), (58, [180, 0, 150]), (61, [182, 0, 245]), (64, [167, 0, 110]), (174, [177]), (67, [42]), (68, [42]), (69, [180, 0, 153]), (72, [182, 0, 245]), (75, [167, 0, 99]), (78, [42]), (79, [42]), (80, [180, 0, 156]), (83, [182, 0, 245]), (86, [167, 0, 88]), (89, [42]), (90, [42]), (91, [180, 0, 159]), (94, [182, 0, 245]), (97, [167, 0, 77]), (100, [42]), (101, [42]), (102, [180, 0, 162]), (105, [182, 0, 245]), (108, [167, 0, 66]), (111, [42]), (112, [42]), (113, [180, 0, 165]), (116, [182, 0, 245]), (119, [167, 0, 55]), (122, [42]), (123, [42]), (124, [180, 0, 168]), (127, [182, 0, 245]), (130, [167, 0, 44]), (133, [42]), (134, [42]), (135, [180, 0, 171])] = true := by decide +kernel
theorem dX12_qAsksWord_0 : decode cX12_qAsksWord 0 = .ok (.iload_n 1, 1) := q_iload_n1 (bat_get dg_X12_qAsksWord_0_0 0 rfl rfl)
theorem dX12_qAsksWord_56 : decode cX12_qAsksWord 56 = .ok (.aload_n 0, 1) := q_aload_n0 (bat_get dg_X12_qAsksWord_0_0 1 rfl rfl)
theorem dX12_qAsksWord_57 : decode cX12_qAsksWord 57 = .ok (.aload_n 0, 1) := q_aload_n0 (bat_get dg_X12_qAsksWord_0_0 2 rfl rfl)
theorem dX12_qAsksWord_58 : decode cX12_qAsksWord 58 = .ok (.getfield 150, 3) := q_getfield (bat_get dg_X12_qAsksWord_0_0 3 rfl rfl) rfl
theorem dX12_qAsksWord_61 : decode cX12_qAsksWord 61 = .ok (.invokevirtual 245, 3) := q_invokevirtual (bat_get dg_X12_qAsksWord_0_0 4 rfl rfl) rfl
theorem dX12_qAsksWord_64 : decode cX12_qAsksWord 64 = .ok (.goto 110, 3) := q_goto (bat_get dg_X12_qAsksWord_0_0 5 rfl rfl) rfl
theorem dX12_qAsksWord_174 : decode cX12_qAsksWord 174 = .ok (.return_, 1) := q_return_ (bat_get dg_X12_qAsksWord_0_0 6 rfl rfl)
theorem dX12_qAsksWord_67 : decode cX12_qAsksWord 67 = .ok (.aload_n 0, 1) := q_aload_n0 (bat_get dg_X12_qAsksWord_0_0 7 rfl rfl)
theorem dX12_qAsksWord_68 : decode cX12_qAsksWord 68 = .ok (.aload_n 0, 1) := q_aload_n0 (bat_get dg_X12_qAsksWord_0_0 8 rfl rfl)
theorem dX12_qAsksWord_69 : decode cX12_qAsksWord 69 = .ok (.getfield 153, 3) := q_getfield (bat_get dg_X12_qAsksWord_0_0 9 rfl rfl) rfl
theorem dX12_qAsksWord_72 : decode cX12_qAsksWord 72 = .ok (.invokevirtual 245, 3) := q_invokevirtual (bat_get dg_X12_qAsksWord_0_0 10 rfl rfl) rfl
theorem dX12_qAsksWord_75 : decode cX12_qAsksWord 75 = .ok (.goto 99, 3) := q_goto (bat_get dg_X12_qAsksWord_0_0 11 rfl rfl) rfl
theorem dX12_qAsksWord_78 : decode cX12_qAsksWord 78 = .ok (.aload_n 0, 1) := q_aload_n0 (bat_get dg_X12_qAsksWord_0_0 12 rfl rfl)
theorem dX12_qAsksWord_79 : decode cX12_qAsksWord 79 = .ok (.aload_n 0, 1) := q_aload_n0 (bat_get dg_X12_qAsksWord_0_0 13 rfl rfl)
theorem dX12_qAsksWord_80 : decode cX12_qAsksWord 80 = .ok (.getfield 156, 3) := q_getfield (bat_get dg_X12_qAsksWord_0_0 14 rfl rfl) rfl
theorem dX12_qAsksWord_83 : decode cX12_qAsksWord 83 = .ok (.invokevirtual 245, 3) := q_invokevirtual (bat_get dg_X12_qAsksWord_0_0 15 rfl rfl) rfl
theorem dX12_qAsksWord_86 : decode cX12_qAsksWord 86 = .ok (.goto 88, 3) := q_goto (bat_get dg_X12_qAsksWord_0_0 16 rfl rfl) rfl
theorem dX12_qAsksWord_89 : decode cX12_qAsksWord 89 = .ok (.aload_n 0, 1) := q_aload_n0 (bat_get dg_X12_qAsksWord_0_0 17 rfl rfl)
theorem dX12_qAsksWord_90 : decode cX12_qAsksWord 90 = .ok (.aload_n 0, 1) := q_aload_n0 (bat_get dg_X12_qAsksWord_0_0 18 rfl rfl)
theorem dX12_qAsksWord_91 : decode cX12_qAsksWord 91 = .ok (.getfield 159, 3) := q_getfield (bat_get dg_X12_qAsksWord_0_0 19 rfl rfl) rfl
theorem dX12_qAsksWord_94 : decode cX12_qAsksWord 94 = .ok (.invokevirtual 245, 3) := q_invokevirtual (bat_get dg_X12_qAsksWord_0_0 20 rfl rfl) rfl
theorem dX12_qAsksWord_97 : decode cX12_qAsksWord 97 = .ok (.goto 77, 3) := q_goto (bat_get dg_X12_qAsksWord_0_0 21 rfl rfl) rfl
theorem dX12_qAsksWord_100 : decode cX12_qAsksWord 100 = .ok (.aload_n 0, 1) := q_aload_n0 (bat_get dg_X12_qAsksWord_0_0 22 rfl rfl)
theorem dX12_qAsksWord_101 : decode cX12_qAsksWord 101 = .ok (.aload_n 0, 1) := q_aload_n0 (bat_get dg_X12_qAsksWord_0_0 23 rfl rfl)
theorem dX12_qAsksWord_102 : decode cX12_qAsksWord 102 = .ok (.getfield 162, 3) := q_getfield (bat_get dg_X12_qAsksWord_0_0 24 rfl rfl) rfl
theorem dX12_qAsksWord_105 : decode cX12_qAsksWord 105 = .ok (.invokevirtual 245, 3) := q_invokevirtual (bat_get dg_X12_qAsksWord_0_0 25 rfl rfl) rfl
theorem dX12_qAsksWord_108 : decode cX12_qAsksWord 108 = .ok (.goto 66, 3) := q_goto (bat_get dg_X12_qAsksWord_0_0 26 rfl rfl) rfl
theorem dX12_qAsksWord_111 : decode cX12_qAsksWord 111 = .ok (.aload_n 0, 1) := q_aload_n0 (bat_get dg_X12_qAsksWord_0_0 27 rfl rfl)
theorem dX12_qAsksWord_112 : decode cX12_qAsksWord 112 = .ok (.aload_n 0, 1) := q_aload_n0 (bat_get dg_X12_qAsksWord_0_0 28 rfl rfl)
theorem dX12_qAsksWord_113 : decode cX12_qAsksWord 113 = .ok (.getfield 165, 3) := q_getfield (bat_get dg_X12_qAsksWord_0_0 29 rfl rfl) rfl
theorem dX12_qAsksWord_116 : decode cX12_qAsksWord 116 = .ok (.invokevirtual 245, 3) := q_invokevirtual (bat_get dg_X12_qAsksWord_0_0 30 rfl rfl) rfl
theorem dX12_qAsksWord_119 : decode cX12_qAsksWord 119 = .ok (.goto 55, 3) := q_goto (bat_get dg_X12_qAsksWord_0_0 31 rfl rfl) rfl
theorem dX12_qAsksWord_122 : decode cX12_qAsksWord 122 = .ok (.aload_n 0, 1) := q_aload_n0 (bat_get dg_X12_qAsksWord_0_0 32 rfl rfl)
theorem dX12_qAsksWord_123 : decode cX12_qAsksWord 123 = .ok (.aload_n 0, 1) := q_aload_n0 (bat_get dg_X12_qAsksWord_0_0 33 rfl rfl)
theorem dX12_qAsksWord_124 : decode cX12_qAsksWord 124 = .ok (.getfield 168, 3) := q_getfield (bat_get dg_X12_qAsksWord_0_0 34 rfl rfl) rfl
theorem dX12_qAsksWord_127 : decode cX12_qAsksWord 127 = .ok (.invokevirtual 245, 3) := q_invokevirtual (bat_get dg_X12_qAsksWord_0_0 35 rfl rfl) rfl
theorem dX12_qAsksWord_130 : decode cX12_qAsksWord 130 = .ok (.goto 44, 3) := q_goto (bat_get dg_X12_qAsksWord_0_0 36 rfl rfl) rfl
theorem dX12_qAsksWord_133 : decode cX12_qAsksWord 133 = .ok (.aload_n 0, 1) := q_aload_n0 (bat_get dg_X12_qAsksWord_0_0 37 rfl rfl)
theorem dX12_qAsksWord_134 : decode cX12_qAsksWord 134 = .ok (.aload_n 0, 1) := q_aload_n0 (bat_get dg_X12_qAsksWord_0_0 38 rfl rfl)
theorem dX12_qAsksWord_135 : decode cX12_qAsksWord 135 = .ok (.getfield 171, 3) := q_getfield (bat_get dg_X12_qAsksWord_0_0 39 rfl rfl) rfl
theorem dg_X12_qAsksWord_138_138 : bqL cX12_qAsksWord 138 [(0, [182, 0, 245]), (3, [167, 0, 33]), (6, [42]), (7, [42]), (8, [180, 0, 174]), (11, [182, 0, 245]), (14, [167, 0, 22]), (17, [42]), (18, [42]), (19, [180, 0, 114]), (22, [182, 0, 245]), (25, [167, 0, 11]), (28, [42]), (29, [42]), (30, [180, 0, 177]), (33, [182, 0, 245])] = true := by decide +kernel
theorem dX12_qAsksWord_138 : decode cX12_qAsksWord 138 = .ok (.invokevirtual 245, 3) := q_invokevirtual (bat_get dg_X12_qAsksWord_138_138 0 rfl rfl) rfl
theorem dX12_qAsksWord_141 : decode cX12_qAsksWord 141 = .ok (.goto 33, 3) := q_goto (bat_get dg_X12_qAsksWord_138_138 1 rfl rfl) rfl
theorem dX12_qAsksWord_144 : decode cX12_qAsksWord 144 = .ok (.aload_n 0, 1) := q_aload_n0 (bat_get dg_X12_qAsksWord_138_138 2 rfl rfl)
theorem dX12_qAsksWord_145 : decode cX12_qAsksWord 145 = .ok (.aload_n 0, 1) := q_aload_n0 (bat_get dg_X12_qAsksWord_138_138 3 rfl rfl)
theorem dX12_qAsksWord_146 : decode cX12_qAsksWord 146 = .ok (.getfield 174, 3) := q_getfield (bat_get dg_X12_qAsksWord_138_138 4 rfl rfl) rfl
theorem dX12_qAsksWord_149 : decode cX12_qAsksWord 149 = .ok (.invokevirtual 245, 3) := q_invokevirtual (bat_get dg_X12_qAsksWord_138_138 5 rfl rfl) rfl
theorem dX12_qAsksWord_152 : decode cX12_qAsksWord 152 = .ok (.goto 22, 3) := q_goto (bat_get dg_X12_qAsksWord_138_138 6 rfl rfl) rfl
theorem dX12_qAsksWord_155 : decode cX12_qAsksWord 155 = .ok (.aload_n 0, 1) := q_aload_n0 (bat_get dg_X12_qAsksWord_138_138 7 rfl rfl)
theorem dX12_qAsksWord_156 : decode cX12_qAsksWord 156 = .ok (.aload_n 0, 1) := q_aload_n0 (bat_get dg_X12_qAsksWord_138_138 8 rfl rfl)
theorem dX12_qAsksWord_157 : decode cX12_qAsksWord 157 = .ok (.getfield 114, 3) := q_getfield (bat_get dg_X12_qAsksWord_138_138 9 rfl rfl) rfl
theorem dX12_qAsksWord_160 : decode cX12_qAsksWord 160 = .ok (.invokevirtual 245, 3) := q_invokevirtual (bat_get dg_X12_qAsksWord_138_138 10 rfl rfl) rfl
theorem dX12_qAsksWord_163 : decode cX12_qAsksWord 163 = .ok (.goto 11, 3) := q_goto (bat_get dg_X12_qAsksWord_138_138 11 rfl rfl) rfl
theorem dX12_qAsksWord_166 : decode cX12_qAsksWord 166 = .ok (.aload_n 0, 1) := q_aload_n0 (bat_get dg_X12_qAsksWord_138_138 12 rfl rfl)
theorem dX12_qAsksWord_167 : decode cX12_qAsksWord 167 = .ok (.aload_n 0, 1) := q_aload_n0 (bat_get dg_X12_qAsksWord_138_138 13 rfl rfl)
theorem dX12_qAsksWord_168 : decode cX12_qAsksWord 168 = .ok (.getfield 177, 3) := q_getfield (bat_get dg_X12_qAsksWord_138_138 14 rfl rfl) rfl
theorem dX12_qAsksWord_171 : decode cX12_qAsksWord 171 = .ok (.invokevirtual 245, 3) := q_invokevirtual (bat_get dg_X12_qAsksWord_138_138 15 rfl rfl) rfl
theorem w_6_210 : (Cond.methodLink RX12 245 yX12_asks) ∈ wsL_law := sk_mem (ck_6 _ (List.mem_of_getElem? (i := 210) rfl)) rfl
theorem w_6_212 : (Cond.instanceMethod yX12_asks) ∈ wsL_law := sk_mem (ck_6 _ (List.mem_of_getElem? (i := 212) rfl)) rfl
theorem w_0_42 : (Cond.selects RX12 yX12_asks yX12_asks) ∈ wsL_law := sk_mem (ck_0 _ (List.mem_of_getElem? (i := 42) rfl)) rfl
theorem w_7_54 : (Cond.code yX12_qAsksWord cX12_qAsksWord 2 none) ∈ wsL_law := sk_mem (ck_7 _ (List.mem_of_getElem? (i := 54) rfl)) rfl
theorem hd_X12_asks_1 : skD yX12_asks 1 := by decide +kernel
theorem dg_X12_qCode_0_0 : bqL cX12_qCode 0 [(0, [42]), (1, [180, 0, 180]), (4, [42]), (5, [180, 1, 1]), (8, [27]), (9, [79]), (10, [42]), (11, [89]), (12, [180, 1, 1]), (15, [4]), (16, [96]), (17, [181, 1, 1]), (20, [177])] = true := by decide +kernel
theorem dX12_qCode_0 : decode cX12_qCode 0 = .ok (.aload_n 0, 1) := q_aload_n0 (bat_get dg_X12_qCode_0_0 0 rfl rfl)
theorem dX12_qCode_1 : decode cX12_qCode 1 = .ok (.getfield 180, 3) := q_getfield (bat_get dg_X12_qCode_0_0 1 rfl rfl) rfl
theorem dX12_qCode_4 : decode cX12_qCode 4 = .ok (.aload_n 0, 1) := q_aload_n0 (bat_get dg_X12_qCode_0_0 2 rfl rfl)
theorem dX12_qCode_5 : decode cX12_qCode 5 = .ok (.getfield 257, 3) := q_getfield (bat_get dg_X12_qCode_0_0 3 rfl rfl) rfl
theorem dX12_qCode_8 : decode cX12_qCode 8 = .ok (.iload_n 1, 1) := q_iload_n1 (bat_get dg_X12_qCode_0_0 4 rfl rfl)
theorem dX12_qCode_9 : decode cX12_qCode 9 = .ok (.iastore, 1) := q_iastore (bat_get dg_X12_qCode_0_0 5 rfl rfl)
theorem dX12_qCode_10 : decode cX12_qCode 10 = .ok (.aload_n 0, 1) := q_aload_n0 (bat_get dg_X12_qCode_0_0 6 rfl rfl)
theorem dX12_qCode_11 : decode cX12_qCode 11 = .ok (.dup, 1) := q_dup (bat_get dg_X12_qCode_0_0 7 rfl rfl)
theorem dX12_qCode_12 : decode cX12_qCode 12 = .ok (.getfield 257, 3) := q_getfield (bat_get dg_X12_qCode_0_0 8 rfl rfl) rfl
theorem dX12_qCode_15 : decode cX12_qCode 15 = .ok (.iconst 1, 1) := q_iconst1 (bat_get dg_X12_qCode_0_0 9 rfl rfl)
theorem dX12_qCode_16 : decode cX12_qCode 16 = .ok (.iadd, 1) := q_iadd (bat_get dg_X12_qCode_0_0 10 rfl rfl)
theorem dX12_qCode_17 : decode cX12_qCode 17 = .ok (.putfield 257, 3) := q_putfield (bat_get dg_X12_qCode_0_0 11 rfl rfl) rfl
theorem dX12_qCode_20 : decode cX12_qCode 20 = .ok (.return_, 1) := q_return_ (bat_get dg_X12_qCode_0_0 12 rfl rfl)
theorem w_5_235 : (Cond.fieldLink RX12 180 "SameKeeperModel" "qCodes" "[I") ∈ wsL_law := sk_mem (ck_5 _ (List.mem_of_getElem? (i := 235) rfl)) rfl
theorem w_5_236 : (Cond.fieldLink RX12 257 "SameKeeperModel" "qCoded" "I") ∈ wsL_law := sk_mem (ck_5 _ (List.mem_of_getElem? (i := 236) rfl)) rfl
theorem w_7_58 : (Cond.code yX12_qCode cX12_qCode 2 none) ∈ wsL_law := sk_mem (ck_7 _ (List.mem_of_getElem? (i := 58) rfl)) rfl
theorem dg_X12_qOpens_0_0 : bqL cX12_qOpens 0 [(0, [42]), (1, [180, 0, 195]), (4, [153, 0, 4]), (8, [42]), (9, [180, 1, 7]), (12, [16, 6]), (14, [160, 0, 10]), (24, [42]), (25, [89]), (26, [180, 1, 7]), (29, [4]), (30, [96]), (31, [181, 1, 7]), (34, [42]), (35, [180, 0, 183]), (38, [42]), (39, [180, 1, 4]), (42, [27]), (43, [79]), (44, [42]), (45, [89]), (46, [180, 1, 4]), (49, [4]), (50, [96]), (51, [181, 1, 4]), (54, [177]), (17, [42]), (18, [7]), (19, [28]), (20, [182, 0, 225]), (23, [177]), (7, [177])] = true := by decide +kernel
theorem dX12_qOpens_0 : decode cX12_qOpens 0 = .ok (.aload_n 0, 1) := q_aload_n0 (bat_get dg_X12_qOpens_0_0 0 rfl rfl)
theorem dX12_qOpens_1 : decode cX12_qOpens 1 = .ok (.getfield 195, 3) := q_getfield (bat_get dg_X12_qOpens_0_0 1 rfl rfl) rfl
theorem dX12_qOpens_4 : decode cX12_qOpens 4 = .ok (.ifCond .eq 4, 3) := q_ifCond_eq (bat_get dg_X12_qOpens_0_0 2 rfl rfl) rfl
theorem dX12_qOpens_8 : decode cX12_qOpens 8 = .ok (.aload_n 0, 1) := q_aload_n0 (bat_get dg_X12_qOpens_0_0 3 rfl rfl)
theorem dX12_qOpens_9 : decode cX12_qOpens 9 = .ok (.getfield 263, 3) := q_getfield (bat_get dg_X12_qOpens_0_0 4 rfl rfl) rfl
theorem dX12_qOpens_12 : decode cX12_qOpens 12 = .ok (.bipush 6, 2) := q_bipush (bat_get dg_X12_qOpens_0_0 5 rfl rfl) rfl
theorem dX12_qOpens_14 : decode cX12_qOpens 14 = .ok (.if_icmp .ne 10, 3) := q_if_icmp_ne (bat_get dg_X12_qOpens_0_0 6 rfl rfl) rfl
theorem dX12_qOpens_24 : decode cX12_qOpens 24 = .ok (.aload_n 0, 1) := q_aload_n0 (bat_get dg_X12_qOpens_0_0 7 rfl rfl)
theorem dX12_qOpens_25 : decode cX12_qOpens 25 = .ok (.dup, 1) := q_dup (bat_get dg_X12_qOpens_0_0 8 rfl rfl)
theorem dX12_qOpens_26 : decode cX12_qOpens 26 = .ok (.getfield 263, 3) := q_getfield (bat_get dg_X12_qOpens_0_0 9 rfl rfl) rfl
theorem dX12_qOpens_29 : decode cX12_qOpens 29 = .ok (.iconst 1, 1) := q_iconst1 (bat_get dg_X12_qOpens_0_0 10 rfl rfl)
theorem dX12_qOpens_30 : decode cX12_qOpens 30 = .ok (.iadd, 1) := q_iadd (bat_get dg_X12_qOpens_0_0 11 rfl rfl)
theorem dX12_qOpens_31 : decode cX12_qOpens 31 = .ok (.putfield 263, 3) := q_putfield (bat_get dg_X12_qOpens_0_0 12 rfl rfl) rfl
theorem dX12_qOpens_34 : decode cX12_qOpens 34 = .ok (.aload_n 0, 1) := q_aload_n0 (bat_get dg_X12_qOpens_0_0 13 rfl rfl)
theorem dX12_qOpens_35 : decode cX12_qOpens 35 = .ok (.getfield 183, 3) := q_getfield (bat_get dg_X12_qOpens_0_0 14 rfl rfl) rfl
theorem dX12_qOpens_38 : decode cX12_qOpens 38 = .ok (.aload_n 0, 1) := q_aload_n0 (bat_get dg_X12_qOpens_0_0 15 rfl rfl)
theorem dX12_qOpens_39 : decode cX12_qOpens 39 = .ok (.getfield 260, 3) := q_getfield (bat_get dg_X12_qOpens_0_0 16 rfl rfl) rfl
theorem dX12_qOpens_42 : decode cX12_qOpens 42 = .ok (.iload_n 1, 1) := q_iload_n1 (bat_get dg_X12_qOpens_0_0 17 rfl rfl)
theorem dX12_qOpens_43 : decode cX12_qOpens 43 = .ok (.iastore, 1) := q_iastore (bat_get dg_X12_qOpens_0_0 18 rfl rfl)
theorem dX12_qOpens_44 : decode cX12_qOpens 44 = .ok (.aload_n 0, 1) := q_aload_n0 (bat_get dg_X12_qOpens_0_0 19 rfl rfl)
theorem dX12_qOpens_45 : decode cX12_qOpens 45 = .ok (.dup, 1) := q_dup (bat_get dg_X12_qOpens_0_0 20 rfl rfl)
theorem dX12_qOpens_46 : decode cX12_qOpens 46 = .ok (.getfield 260, 3) := q_getfield (bat_get dg_X12_qOpens_0_0 21 rfl rfl) rfl
theorem dX12_qOpens_49 : decode cX12_qOpens 49 = .ok (.iconst 1, 1) := q_iconst1 (bat_get dg_X12_qOpens_0_0 22 rfl rfl)
theorem dX12_qOpens_50 : decode cX12_qOpens 50 = .ok (.iadd, 1) := q_iadd (bat_get dg_X12_qOpens_0_0 23 rfl rfl)
theorem dX12_qOpens_51 : decode cX12_qOpens 51 = .ok (.putfield 260, 3) := q_putfield (bat_get dg_X12_qOpens_0_0 24 rfl rfl) rfl
theorem dX12_qOpens_54 : decode cX12_qOpens 54 = .ok (.return_, 1) := q_return_ (bat_get dg_X12_qOpens_0_0 25 rfl rfl)
theorem dX12_qOpens_17 : decode cX12_qOpens 17 = .ok (.aload_n 0, 1) := q_aload_n0 (bat_get dg_X12_qOpens_0_0 26 rfl rfl)
theorem dX12_qOpens_18 : decode cX12_qOpens 18 = .ok (.iconst 4, 1) := q_iconst4 (bat_get dg_X12_qOpens_0_0 27 rfl rfl)
theorem dX12_qOpens_19 : decode cX12_qOpens 19 = .ok (.iload_n 2, 1) := q_iload_n2 (bat_get dg_X12_qOpens_0_0 28 rfl rfl)
theorem dX12_qOpens_20 : decode cX12_qOpens 20 = .ok (.invokevirtual 225, 3) := q_invokevirtual (bat_get dg_X12_qOpens_0_0 29 rfl rfl) rfl
theorem dX12_qOpens_23 : decode cX12_qOpens 23 = .ok (.return_, 1) := q_return_ (bat_get dg_X12_qOpens_0_0 30 rfl rfl)
theorem dX12_qOpens_7 : decode cX12_qOpens 7 = .ok (.return_, 1) := q_return_ (bat_get dg_X12_qOpens_0_0 31 rfl rfl)
theorem w_5_239 : (Cond.fieldLink RX12 263 "SameKeeperModel" "qOpened" "I") ∈ wsL_law := sk_mem (ck_5 _ (List.mem_of_getElem? (i := 239) rfl)) rfl
theorem w_5_237 : (Cond.fieldLink RX12 183 "SameKeeperModel" "qWait" "[I") ∈ wsL_law := sk_mem (ck_5 _ (List.mem_of_getElem? (i := 237) rfl)) rfl
theorem w_5_238 : (Cond.fieldLink RX12 260 "SameKeeperModel" "qWaits" "I") ∈ wsL_law := sk_mem (ck_5 _ (List.mem_of_getElem? (i := 238) rfl)) rfl
theorem w_7_50 : (Cond.code yX12_qOpens cX12_qOpens 3 none) ∈ wsL_law := sk_mem (ck_7 _ (List.mem_of_getElem? (i := 50) rfl)) rfl
theorem dg_X12_qIsOn_0_0 : bqL cX12_qIsOn 0 [(0, [42]), (1, [180, 1, 4]), (4, [158, 0, 22]), (26, [3]), (27, [172]), (7, [42]), (8, [180, 0, 183]), (11, [42]), (12, [180, 1, 4]), (15, [4]), (16, [100]), (17, [46]), (18, [27]), (19, [160, 0, 7]), (22, [4]), (23, [167, 0, 4])] = true := by decide +kernel
theorem dX12_qIsOn_0 : decode cX12_qIsOn 0 = .ok (.aload_n 0, 1) := q_aload_n0 (bat_get dg_X12_qIsOn_0_0 0 rfl rfl)
theorem dX12_qIsOn_1 : decode cX12_qIsOn 1 = .ok (.getfield 260, 3) := q_getfield (bat_get dg_X12_qIsOn_0_0 1 rfl rfl) rfl
theorem dX12_qIsOn_4 : decode cX12_qIsOn 4 = .ok (.ifCond .le 22, 3) := q_ifCond_le (bat_get dg_X12_qIsOn_0_0 2 rfl rfl) rfl
theorem dX12_qIsOn_26 : decode cX12_qIsOn 26 = .ok (.iconst 0, 1) := q_iconst0 (bat_get dg_X12_qIsOn_0_0 3 rfl rfl)
theorem dX12_qIsOn_27 : decode cX12_qIsOn 27 = .ok (.ireturn, 1) := q_ireturn (bat_get dg_X12_qIsOn_0_0 4 rfl rfl)
theorem dX12_qIsOn_7 : decode cX12_qIsOn 7 = .ok (.aload_n 0, 1) := q_aload_n0 (bat_get dg_X12_qIsOn_0_0 5 rfl rfl)
theorem dX12_qIsOn_8 : decode cX12_qIsOn 8 = .ok (.getfield 183, 3) := q_getfield (bat_get dg_X12_qIsOn_0_0 6 rfl rfl) rfl
theorem dX12_qIsOn_11 : decode cX12_qIsOn 11 = .ok (.aload_n 0, 1) := q_aload_n0 (bat_get dg_X12_qIsOn_0_0 7 rfl rfl)
theorem dX12_qIsOn_12 : decode cX12_qIsOn 12 = .ok (.getfield 260, 3) := q_getfield (bat_get dg_X12_qIsOn_0_0 8 rfl rfl) rfl
theorem dX12_qIsOn_15 : decode cX12_qIsOn 15 = .ok (.iconst 1, 1) := q_iconst1 (bat_get dg_X12_qIsOn_0_0 9 rfl rfl)
theorem dX12_qIsOn_16 : decode cX12_qIsOn 16 = .ok (.isub, 1) := q_isub (bat_get dg_X12_qIsOn_0_0 10 rfl rfl)
theorem dX12_qIsOn_17 : decode cX12_qIsOn 17 = .ok (.iaload, 1) := q_iaload (bat_get dg_X12_qIsOn_0_0 11 rfl rfl)
theorem dX12_qIsOn_18 : decode cX12_qIsOn 18 = .ok (.iload_n 1, 1) := q_iload_n1 (bat_get dg_X12_qIsOn_0_0 12 rfl rfl)
theorem dX12_qIsOn_19 : decode cX12_qIsOn 19 = .ok (.if_icmp .ne 7, 3) := q_if_icmp_ne (bat_get dg_X12_qIsOn_0_0 13 rfl rfl) rfl
theorem dX12_qIsOn_22 : decode cX12_qIsOn 22 = .ok (.iconst 1, 1) := q_iconst1 (bat_get dg_X12_qIsOn_0_0 14 rfl rfl)
theorem dX12_qIsOn_23 : decode cX12_qIsOn 23 = .ok (.goto 4, 3) := q_goto (bat_get dg_X12_qIsOn_0_0 15 rfl rfl) rfl
theorem w_7_85 : (Cond.code yX12_qIsOn cX12_qIsOn 2 (some .boolean)) ∈ wsL_law := sk_mem (ck_7 _ (List.mem_of_getElem? (i := 85) rfl)) rfl
theorem dg_X12_qDrops_0_0 : bqL cX12_qDrops 0 [(0, [42]), (1, [89]), (2, [180, 1, 4]), (5, [4]), (6, [100]), (7, [181, 1, 4]), (10, [42]), (11, [42]), (12, [180, 0, 183]), (15, [42]), (16, [180, 1, 4]), (19, [46]), (20, [182, 1, 242]), (23, [177])] = true := by decide +kernel
theorem dX12_qDrops_0 : decode cX12_qDrops 0 = .ok (.aload_n 0, 1) := q_aload_n0 (bat_get dg_X12_qDrops_0_0 0 rfl rfl)
theorem dX12_qDrops_1 : decode cX12_qDrops 1 = .ok (.dup, 1) := q_dup (bat_get dg_X12_qDrops_0_0 1 rfl rfl)
theorem dX12_qDrops_2 : decode cX12_qDrops 2 = .ok (.getfield 260, 3) := q_getfield (bat_get dg_X12_qDrops_0_0 2 rfl rfl) rfl
theorem dX12_qDrops_5 : decode cX12_qDrops 5 = .ok (.iconst 1, 1) := q_iconst1 (bat_get dg_X12_qDrops_0_0 3 rfl rfl)
theorem dX12_qDrops_6 : decode cX12_qDrops 6 = .ok (.isub, 1) := q_isub (bat_get dg_X12_qDrops_0_0 4 rfl rfl)
theorem dX12_qDrops_7 : decode cX12_qDrops 7 = .ok (.putfield 260, 3) := q_putfield (bat_get dg_X12_qDrops_0_0 5 rfl rfl) rfl
theorem dX12_qDrops_10 : decode cX12_qDrops 10 = .ok (.aload_n 0, 1) := q_aload_n0 (bat_get dg_X12_qDrops_0_0 6 rfl rfl)
theorem dX12_qDrops_11 : decode cX12_qDrops 11 = .ok (.aload_n 0, 1) := q_aload_n0 (bat_get dg_X12_qDrops_0_0 7 rfl rfl)
theorem dX12_qDrops_12 : decode cX12_qDrops 12 = .ok (.getfield 183, 3) := q_getfield (bat_get dg_X12_qDrops_0_0 8 rfl rfl) rfl
theorem dX12_qDrops_15 : decode cX12_qDrops 15 = .ok (.aload_n 0, 1) := q_aload_n0 (bat_get dg_X12_qDrops_0_0 9 rfl rfl)
theorem dX12_qDrops_16 : decode cX12_qDrops 16 = .ok (.getfield 260, 3) := q_getfield (bat_get dg_X12_qDrops_0_0 10 rfl rfl) rfl
theorem dX12_qDrops_19 : decode cX12_qDrops 19 = .ok (.iaload, 1) := q_iaload (bat_get dg_X12_qDrops_0_0 11 rfl rfl)
theorem dX12_qDrops_20 : decode cX12_qDrops 20 = .ok (.invokevirtual 498, 3) := q_invokevirtual (bat_get dg_X12_qDrops_0_0 12 rfl rfl) rfl
theorem dX12_qDrops_23 : decode cX12_qDrops 23 = .ok (.return_, 1) := q_return_ (bat_get dg_X12_qDrops_0_0 13 rfl rfl)
theorem w_7_55 : (Cond.methodLink RX12 498 yX12_qCode) ∈ wsL_law := sk_mem (ck_7 _ (List.mem_of_getElem? (i := 55) rfl)) rfl
theorem w_7_57 : (Cond.instanceMethod yX12_qCode) ∈ wsL_law := sk_mem (ck_7 _ (List.mem_of_getElem? (i := 57) rfl)) rfl
theorem w_0_61 : (Cond.selects RX12 yX12_qCode yX12_qCode) ∈ wsL_law := sk_mem (ck_0 _ (List.mem_of_getElem? (i := 61) rfl)) rfl
theorem w_7_66 : (Cond.code yX12_qDrops cX12_qDrops 1 none) ∈ wsL_law := sk_mem (ck_7 _ (List.mem_of_getElem? (i := 66) rfl)) rfl
theorem hd_X12_qCode_1 : skD yX12_qCode 1 := by decide +kernel
theorem dg_X12_qIsBracket_0_0 : bqL cX12_qIsBracket 0 [(0, [26]), (1, [16, 20]), (3, [161, 0, 13]), (16, [3]), (17, [172]), (6, [26]), (7, [16, 24]), (9, [163, 0, 7]), (12, [4]), (13, [167, 0, 4])] = true := by decide +kernel
theorem dX12_qIsBracket_0 : decode cX12_qIsBracket 0 = .ok (.iload_n 0, 1) := q_iload_n0 (bat_get dg_X12_qIsBracket_0_0 0 rfl rfl)
theorem dX12_qIsBracket_1 : decode cX12_qIsBracket 1 = .ok (.bipush 20, 2) := q_bipush (bat_get dg_X12_qIsBracket_0_0 1 rfl rfl) rfl
theorem dX12_qIsBracket_3 : decode cX12_qIsBracket 3 = .ok (.if_icmp .lt 13, 3) := q_if_icmp_lt (bat_get dg_X12_qIsBracket_0_0 2 rfl rfl) rfl
theorem dX12_qIsBracket_16 : decode cX12_qIsBracket 16 = .ok (.iconst 0, 1) := q_iconst0 (bat_get dg_X12_qIsBracket_0_0 3 rfl rfl)
theorem dX12_qIsBracket_17 : decode cX12_qIsBracket 17 = .ok (.ireturn, 1) := q_ireturn (bat_get dg_X12_qIsBracket_0_0 4 rfl rfl)
theorem dX12_qIsBracket_6 : decode cX12_qIsBracket 6 = .ok (.iload_n 0, 1) := q_iload_n0 (bat_get dg_X12_qIsBracket_0_0 5 rfl rfl)
theorem dX12_qIsBracket_7 : decode cX12_qIsBracket 7 = .ok (.bipush 24, 2) := q_bipush (bat_get dg_X12_qIsBracket_0_0 6 rfl rfl) rfl
theorem dX12_qIsBracket_9 : decode cX12_qIsBracket 9 = .ok (.if_icmp .gt 7, 3) := q_if_icmp_gt (bat_get dg_X12_qIsBracket_0_0 7 rfl rfl) rfl
theorem dX12_qIsBracket_12 : decode cX12_qIsBracket 12 = .ok (.iconst 1, 1) := q_iconst1 (bat_get dg_X12_qIsBracket_0_0 8 rfl rfl)
theorem dX12_qIsBracket_13 : decode cX12_qIsBracket 13 = .ok (.goto 4, 3) := q_goto (bat_get dg_X12_qIsBracket_0_0 9 rfl rfl) rfl
theorem w_7_77 : (Cond.code yX12_qIsBracket cX12_qIsBracket 1 (some .boolean)) ∈ wsL_law := sk_mem (ck_7 _ (List.mem_of_getElem? (i := 77) rfl)) rfl
theorem dg_X12_qBracket_0_0 : bqL cX12_qBracket 0 [(0, [42]), (1, [180, 1, 4]), (4, [4]), (5, [100]), (6, [60]), (7, [27]), (8, [42]), (9, [180, 1, 10]), (12, [161, 0, 21]), (33, [27]), (34, [42]), (35, [180, 1, 10]), (38, [161, 0, 12]), (50, [2]), (51, [172]), (15, [42]), (16, [180, 0, 183]), (19, [27]), (20, [46]), (21, [184, 1, 245]), (24, [154, 0, 9]), (41, [42]), (42, [180, 0, 183]), (45, [27]), (46, [46]), (47, [167, 0, 4]), (27, [132, 1, 255]), (30, [167, 255, 233])] = true := by decide +kernel
theorem dX12_qBracket_0 : decode cX12_qBracket 0 = .ok (.aload_n 0, 1) := q_aload_n0 (bat_get dg_X12_qBracket_0_0 0 rfl rfl)
theorem dX12_qBracket_1 : decode cX12_qBracket 1 = .ok (.getfield 260, 3) := q_getfield (bat_get dg_X12_qBracket_0_0 1 rfl rfl) rfl
theorem dX12_qBracket_4 : decode cX12_qBracket 4 = .ok (.iconst 1, 1) := q_iconst1 (bat_get dg_X12_qBracket_0_0 2 rfl rfl)
theorem dX12_qBracket_5 : decode cX12_qBracket 5 = .ok (.isub, 1) := q_isub (bat_get dg_X12_qBracket_0_0 3 rfl rfl)
theorem dX12_qBracket_6 : decode cX12_qBracket 6 = .ok (.istore_n 1, 1) := q_istore_n1 (bat_get dg_X12_qBracket_0_0 4 rfl rfl)
theorem dX12_qBracket_7 : decode cX12_qBracket 7 = .ok (.iload_n 1, 1) := q_iload_n1 (bat_get dg_X12_qBracket_0_0 5 rfl rfl)
theorem dX12_qBracket_8 : decode cX12_qBracket 8 = .ok (.aload_n 0, 1) := q_aload_n0 (bat_get dg_X12_qBracket_0_0 6 rfl rfl)
theorem dX12_qBracket_9 : decode cX12_qBracket 9 = .ok (.getfield 266, 3) := q_getfield (bat_get dg_X12_qBracket_0_0 7 rfl rfl) rfl
theorem dX12_qBracket_12 : decode cX12_qBracket 12 = .ok (.if_icmp .lt 21, 3) := q_if_icmp_lt (bat_get dg_X12_qBracket_0_0 8 rfl rfl) rfl
theorem dX12_qBracket_33 : decode cX12_qBracket 33 = .ok (.iload_n 1, 1) := q_iload_n1 (bat_get dg_X12_qBracket_0_0 9 rfl rfl)
theorem dX12_qBracket_34 : decode cX12_qBracket 34 = .ok (.aload_n 0, 1) := q_aload_n0 (bat_get dg_X12_qBracket_0_0 10 rfl rfl)
theorem dX12_qBracket_35 : decode cX12_qBracket 35 = .ok (.getfield 266, 3) := q_getfield (bat_get dg_X12_qBracket_0_0 11 rfl rfl) rfl
theorem dX12_qBracket_38 : decode cX12_qBracket 38 = .ok (.if_icmp .lt 12, 3) := q_if_icmp_lt (bat_get dg_X12_qBracket_0_0 12 rfl rfl) rfl
theorem dX12_qBracket_50 : decode cX12_qBracket 50 = .ok (.iconst (-1), 1) := q_iconstm1 (bat_get dg_X12_qBracket_0_0 13 rfl rfl)
theorem dX12_qBracket_51 : decode cX12_qBracket 51 = .ok (.ireturn, 1) := q_ireturn (bat_get dg_X12_qBracket_0_0 14 rfl rfl)
theorem dX12_qBracket_15 : decode cX12_qBracket 15 = .ok (.aload_n 0, 1) := q_aload_n0 (bat_get dg_X12_qBracket_0_0 15 rfl rfl)
theorem dX12_qBracket_16 : decode cX12_qBracket 16 = .ok (.getfield 183, 3) := q_getfield (bat_get dg_X12_qBracket_0_0 16 rfl rfl) rfl
theorem dX12_qBracket_19 : decode cX12_qBracket 19 = .ok (.iload_n 1, 1) := q_iload_n1 (bat_get dg_X12_qBracket_0_0 17 rfl rfl)
theorem dX12_qBracket_20 : decode cX12_qBracket 20 = .ok (.iaload, 1) := q_iaload (bat_get dg_X12_qBracket_0_0 18 rfl rfl)
theorem dX12_qBracket_21 : decode cX12_qBracket 21 = .ok (.invokestatic 501, 3) := q_invokestatic (bat_get dg_X12_qBracket_0_0 19 rfl rfl) rfl
theorem dX12_qBracket_24 : decode cX12_qBracket 24 = .ok (.ifCond .ne 9, 3) := q_ifCond_ne (bat_get dg_X12_qBracket_0_0 20 rfl rfl) rfl
theorem dX12_qBracket_41 : decode cX12_qBracket 41 = .ok (.aload_n 0, 1) := q_aload_n0 (bat_get dg_X12_qBracket_0_0 21 rfl rfl)
theorem dX12_qBracket_42 : decode cX12_qBracket 42 = .ok (.getfield 183, 3) := q_getfield (bat_get dg_X12_qBracket_0_0 22 rfl rfl) rfl
theorem dX12_qBracket_45 : decode cX12_qBracket 45 = .ok (.iload_n 1, 1) := q_iload_n1 (bat_get dg_X12_qBracket_0_0 23 rfl rfl)
theorem dX12_qBracket_46 : decode cX12_qBracket 46 = .ok (.iaload, 1) := q_iaload (bat_get dg_X12_qBracket_0_0 24 rfl rfl)
theorem dX12_qBracket_47 : decode cX12_qBracket 47 = .ok (.goto 4, 3) := q_goto (bat_get dg_X12_qBracket_0_0 25 rfl rfl) rfl
theorem dX12_qBracket_27 : decode cX12_qBracket 27 = .ok (.iinc 1 (-1), 3) := q_iinc (bat_get dg_X12_qBracket_0_0 26 rfl rfl) rfl
theorem dX12_qBracket_30 : decode cX12_qBracket 30 = .ok (.goto (-23), 3) := q_goto (bat_get dg_X12_qBracket_0_0 27 rfl rfl) rfl
theorem w_6_0 : (Cond.fieldLink RX12 266 "SameKeeperModel" "qBase" "I") ∈ wsL_law := sk_mem (ck_6 _ (List.mem_of_getElem? (i := 0) rfl)) rfl
theorem w_7_75 : (Cond.methodLink RX12 501 yX12_qIsBracket) ∈ wsL_law := sk_mem (ck_7 _ (List.mem_of_getElem? (i := 75) rfl)) rfl
theorem w_7_76 : (Cond.static yX12_qIsBracket) ∈ wsL_law := sk_mem (ck_7 _ (List.mem_of_getElem? (i := 76) rfl)) rfl
theorem w_7_74 : (Cond.code yX12_qBracket cX12_qBracket 2 (some .int)) ∈ wsL_law := sk_mem (ck_7 _ (List.mem_of_getElem? (i := 74) rfl)) rfl
theorem hd_X12_qIsBracket_1 : skD yX12_qIsBracket 1 := by decide +kernel
theorem dg_X12_qDropsToBracket_0_0 : bqL cX12_qDropsToBracket 0 [(0, [42]), (1, [180, 1, 4]), (4, [42]), (5, [180, 1, 10]), (8, [164, 0, 27]), (35, [177]), (11, [42]), (12, [180, 0, 183]), (15, [42]), (16, [180, 1, 4]), (19, [4]), (20, [100]), (21, [46]), (22, [184, 1, 245]), (25, [154, 0, 10]), (28, [42]), (29, [182, 1, 248]), (32, [167, 255, 224])] = true := by decide +kernel
theorem dX12_qDropsToBracket_0 : decode cX12_qDropsToBracket 0 = .ok (.aload_n 0, 1) := q_aload_n0 (bat_get dg_X12_qDropsToBracket_0_0 0 rfl rfl)
theorem dX12_qDropsToBracket_1 : decode cX12_qDropsToBracket 1 = .ok (.getfield 260, 3) := q_getfield (bat_get dg_X12_qDropsToBracket_0_0 1 rfl rfl) rfl
theorem dX12_qDropsToBracket_4 : decode cX12_qDropsToBracket 4 = .ok (.aload_n 0, 1) := q_aload_n0 (bat_get dg_X12_qDropsToBracket_0_0 2 rfl rfl)
theorem dX12_qDropsToBracket_5 : decode cX12_qDropsToBracket 5 = .ok (.getfield 266, 3) := q_getfield (bat_get dg_X12_qDropsToBracket_0_0 3 rfl rfl) rfl
theorem dX12_qDropsToBracket_8 : decode cX12_qDropsToBracket 8 = .ok (.if_icmp .le 27, 3) := q_if_icmp_le (bat_get dg_X12_qDropsToBracket_0_0 4 rfl rfl) rfl
theorem dX12_qDropsToBracket_35 : decode cX12_qDropsToBracket 35 = .ok (.return_, 1) := q_return_ (bat_get dg_X12_qDropsToBracket_0_0 5 rfl rfl)
theorem dX12_qDropsToBracket_11 : decode cX12_qDropsToBracket 11 = .ok (.aload_n 0, 1) := q_aload_n0 (bat_get dg_X12_qDropsToBracket_0_0 6 rfl rfl)
theorem dX12_qDropsToBracket_12 : decode cX12_qDropsToBracket 12 = .ok (.getfield 183, 3) := q_getfield (bat_get dg_X12_qDropsToBracket_0_0 7 rfl rfl) rfl
theorem dX12_qDropsToBracket_15 : decode cX12_qDropsToBracket 15 = .ok (.aload_n 0, 1) := q_aload_n0 (bat_get dg_X12_qDropsToBracket_0_0 8 rfl rfl)
theorem dX12_qDropsToBracket_16 : decode cX12_qDropsToBracket 16 = .ok (.getfield 260, 3) := q_getfield (bat_get dg_X12_qDropsToBracket_0_0 9 rfl rfl) rfl
theorem dX12_qDropsToBracket_19 : decode cX12_qDropsToBracket 19 = .ok (.iconst 1, 1) := q_iconst1 (bat_get dg_X12_qDropsToBracket_0_0 10 rfl rfl)
theorem dX12_qDropsToBracket_20 : decode cX12_qDropsToBracket 20 = .ok (.isub, 1) := q_isub (bat_get dg_X12_qDropsToBracket_0_0 11 rfl rfl)
theorem dX12_qDropsToBracket_21 : decode cX12_qDropsToBracket 21 = .ok (.iaload, 1) := q_iaload (bat_get dg_X12_qDropsToBracket_0_0 12 rfl rfl)
theorem dX12_qDropsToBracket_22 : decode cX12_qDropsToBracket 22 = .ok (.invokestatic 501, 3) := q_invokestatic (bat_get dg_X12_qDropsToBracket_0_0 13 rfl rfl) rfl
theorem dX12_qDropsToBracket_25 : decode cX12_qDropsToBracket 25 = .ok (.ifCond .ne 10, 3) := q_ifCond_ne (bat_get dg_X12_qDropsToBracket_0_0 14 rfl rfl) rfl
theorem dX12_qDropsToBracket_28 : decode cX12_qDropsToBracket 28 = .ok (.aload_n 0, 1) := q_aload_n0 (bat_get dg_X12_qDropsToBracket_0_0 15 rfl rfl)
theorem dX12_qDropsToBracket_29 : decode cX12_qDropsToBracket 29 = .ok (.invokevirtual 504, 3) := q_invokevirtual (bat_get dg_X12_qDropsToBracket_0_0 16 rfl rfl) rfl
theorem dX12_qDropsToBracket_32 : decode cX12_qDropsToBracket 32 = .ok (.goto (-32), 3) := q_goto (bat_get dg_X12_qDropsToBracket_0_0 17 rfl rfl) rfl
theorem w_7_63 : (Cond.methodLink RX12 504 yX12_qDrops) ∈ wsL_law := sk_mem (ck_7 _ (List.mem_of_getElem? (i := 63) rfl)) rfl
theorem w_7_65 : (Cond.instanceMethod yX12_qDrops) ∈ wsL_law := sk_mem (ck_7 _ (List.mem_of_getElem? (i := 65) rfl)) rfl
theorem w_0_63 : (Cond.selects RX12 yX12_qDrops yX12_qDrops) ∈ wsL_law := sk_mem (ck_0 _ (List.mem_of_getElem? (i := 63) rfl)) rfl
theorem w_7_81 : (Cond.code yX12_qDropsToBracket cX12_qDropsToBracket 1 none) ∈ wsL_law := sk_mem (ck_7 _ (List.mem_of_getElem? (i := 81) rfl)) rfl
theorem hd_X12_qDrops_0 : skD yX12_qDrops 0 := by decide +kernel
theorem dg_X12_qEndsPart_0_0 : bqL cX12_qEndsPart 0 [(0, [42]), (1, [180, 0, 195]), (4, [154, 0, 47]), (51, [177]), (7, [42]), (8, [180, 1, 4]), (11, [42]), (12, [180, 1, 10]), (15, [164, 0, 36]), (18, [42]), (19, [180, 0, 183]), (22, [42]), (23, [180, 1, 4]), (26, [4]), (27, [100]), (28, [46]), (29, [16, 60]), (31, [161, 0, 20]), (34, [42]), (35, [89]), (36, [180, 1, 7]), (39, [4]), (40, [100]), (41, [181, 1, 7]), (44, [42]), (45, [182, 1, 248]), (48, [167, 255, 208])] = true := by decide +kernel
theorem dX12_qEndsPart_0 : decode cX12_qEndsPart 0 = .ok (.aload_n 0, 1) := q_aload_n0 (bat_get dg_X12_qEndsPart_0_0 0 rfl rfl)
theorem dX12_qEndsPart_1 : decode cX12_qEndsPart 1 = .ok (.getfield 195, 3) := q_getfield (bat_get dg_X12_qEndsPart_0_0 1 rfl rfl) rfl
theorem dX12_qEndsPart_4 : decode cX12_qEndsPart 4 = .ok (.ifCond .ne 47, 3) := q_ifCond_ne (bat_get dg_X12_qEndsPart_0_0 2 rfl rfl) rfl
theorem dX12_qEndsPart_51 : decode cX12_qEndsPart 51 = .ok (.return_, 1) := q_return_ (bat_get dg_X12_qEndsPart_0_0 3 rfl rfl)
theorem dX12_qEndsPart_7 : decode cX12_qEndsPart 7 = .ok (.aload_n 0, 1) := q_aload_n0 (bat_get dg_X12_qEndsPart_0_0 4 rfl rfl)
theorem dX12_qEndsPart_8 : decode cX12_qEndsPart 8 = .ok (.getfield 260, 3) := q_getfield (bat_get dg_X12_qEndsPart_0_0 5 rfl rfl) rfl
theorem dX12_qEndsPart_11 : decode cX12_qEndsPart 11 = .ok (.aload_n 0, 1) := q_aload_n0 (bat_get dg_X12_qEndsPart_0_0 6 rfl rfl)
theorem dX12_qEndsPart_12 : decode cX12_qEndsPart 12 = .ok (.getfield 266, 3) := q_getfield (bat_get dg_X12_qEndsPart_0_0 7 rfl rfl) rfl
theorem dX12_qEndsPart_15 : decode cX12_qEndsPart 15 = .ok (.if_icmp .le 36, 3) := q_if_icmp_le (bat_get dg_X12_qEndsPart_0_0 8 rfl rfl) rfl
theorem dX12_qEndsPart_18 : decode cX12_qEndsPart 18 = .ok (.aload_n 0, 1) := q_aload_n0 (bat_get dg_X12_qEndsPart_0_0 9 rfl rfl)
theorem dX12_qEndsPart_19 : decode cX12_qEndsPart 19 = .ok (.getfield 183, 3) := q_getfield (bat_get dg_X12_qEndsPart_0_0 10 rfl rfl) rfl
theorem dX12_qEndsPart_22 : decode cX12_qEndsPart 22 = .ok (.aload_n 0, 1) := q_aload_n0 (bat_get dg_X12_qEndsPart_0_0 11 rfl rfl)
theorem dX12_qEndsPart_23 : decode cX12_qEndsPart 23 = .ok (.getfield 260, 3) := q_getfield (bat_get dg_X12_qEndsPart_0_0 12 rfl rfl) rfl
theorem dX12_qEndsPart_26 : decode cX12_qEndsPart 26 = .ok (.iconst 1, 1) := q_iconst1 (bat_get dg_X12_qEndsPart_0_0 13 rfl rfl)
theorem dX12_qEndsPart_27 : decode cX12_qEndsPart 27 = .ok (.isub, 1) := q_isub (bat_get dg_X12_qEndsPart_0_0 14 rfl rfl)
theorem dX12_qEndsPart_28 : decode cX12_qEndsPart 28 = .ok (.iaload, 1) := q_iaload (bat_get dg_X12_qEndsPart_0_0 15 rfl rfl)
theorem dX12_qEndsPart_29 : decode cX12_qEndsPart 29 = .ok (.bipush 60, 2) := q_bipush (bat_get dg_X12_qEndsPart_0_0 16 rfl rfl) rfl
theorem dX12_qEndsPart_31 : decode cX12_qEndsPart 31 = .ok (.if_icmp .lt 20, 3) := q_if_icmp_lt (bat_get dg_X12_qEndsPart_0_0 17 rfl rfl) rfl
theorem dX12_qEndsPart_34 : decode cX12_qEndsPart 34 = .ok (.aload_n 0, 1) := q_aload_n0 (bat_get dg_X12_qEndsPart_0_0 18 rfl rfl)
theorem dX12_qEndsPart_35 : decode cX12_qEndsPart 35 = .ok (.dup, 1) := q_dup (bat_get dg_X12_qEndsPart_0_0 19 rfl rfl)
theorem dX12_qEndsPart_36 : decode cX12_qEndsPart 36 = .ok (.getfield 263, 3) := q_getfield (bat_get dg_X12_qEndsPart_0_0 20 rfl rfl) rfl
theorem dX12_qEndsPart_39 : decode cX12_qEndsPart 39 = .ok (.iconst 1, 1) := q_iconst1 (bat_get dg_X12_qEndsPart_0_0 21 rfl rfl)
theorem dX12_qEndsPart_40 : decode cX12_qEndsPart 40 = .ok (.isub, 1) := q_isub (bat_get dg_X12_qEndsPart_0_0 22 rfl rfl)
theorem dX12_qEndsPart_41 : decode cX12_qEndsPart 41 = .ok (.putfield 263, 3) := q_putfield (bat_get dg_X12_qEndsPart_0_0 23 rfl rfl) rfl
theorem dX12_qEndsPart_44 : decode cX12_qEndsPart 44 = .ok (.aload_n 0, 1) := q_aload_n0 (bat_get dg_X12_qEndsPart_0_0 24 rfl rfl)
theorem dX12_qEndsPart_45 : decode cX12_qEndsPart 45 = .ok (.invokevirtual 504, 3) := q_invokevirtual (bat_get dg_X12_qEndsPart_0_0 25 rfl rfl) rfl
theorem dX12_qEndsPart_48 : decode cX12_qEndsPart 48 = .ok (.goto (-48), 3) := q_goto (bat_get dg_X12_qEndsPart_0_0 26 rfl rfl) rfl
theorem w_7_62 : (Cond.code yX12_qEndsPart cX12_qEndsPart 1 none) ∈ wsL_law := sk_mem (ck_7 _ (List.mem_of_getElem? (i := 62) rfl)) rfl
theorem dg_X12_qPartTold_0_0 : bqL cX12_qPartTold 0 [(0, [4]), (1, [60]), (2, [27]), (3, [153, 0, 183]), (186, [42]), (187, [180, 0, 195]), (190, [153, 0, 4]), (194, [42]), (195, [3]), (196, [16, 10]), (198, [182, 2, 1]), (201, [61]), (202, [28]), (203, [2]), (204, [159, 0, 8]), (212, [42]), (213, [28]), (214, [2]), (215, [159, 0, 10]), (225, [17, 3, 232]), (228, [42]), (229, [3]), (230, [17, 39, 15]), (233, [182, 0, 249]), (236, [96]), (237, [182, 1, 242]), (240, [42]), (241, [182, 2, 10]), (244, [177]), (207, [42]), (208, [28]), (209, [182, 2, 7]), (218, [16, 40]), (220, [28]), (221, [96]), (222, [167, 0, 15]), (193, [177]), (6, [42]), (7, [180, 0, 195]), (10, [154, 0, 176])] = true := by decide +kernel
theorem dX12_qPartTold_0 : decode cX12_qPartTold 0 = .ok (.iconst 1, 1) := q_iconst1 (bat_get dg_X12_qPartTold_0_0 0 rfl rfl)
theorem dX12_qPartTold_1 : decode cX12_qPartTold 1 = .ok (.istore_n 1, 1) := q_istore_n1 (bat_get dg_X12_qPartTold_0_0 1 rfl rfl)
theorem dX12_qPartTold_2 : decode cX12_qPartTold 2 = .ok (.iload_n 1, 1) := q_iload_n1 (bat_get dg_X12_qPartTold_0_0 2 rfl rfl)
theorem dX12_qPartTold_3 : decode cX12_qPartTold 3 = .ok (.ifCond .eq 183, 3) := q_ifCond_eq (bat_get dg_X12_qPartTold_0_0 3 rfl rfl) rfl
theorem dX12_qPartTold_186 : decode cX12_qPartTold 186 = .ok (.aload_n 0, 1) := q_aload_n0 (bat_get dg_X12_qPartTold_0_0 4 rfl rfl)
theorem dX12_qPartTold_187 : decode cX12_qPartTold 187 = .ok (.getfield 195, 3) := q_getfield (bat_get dg_X12_qPartTold_0_0 5 rfl rfl) rfl
theorem dX12_qPartTold_190 : decode cX12_qPartTold 190 = .ok (.ifCond .eq 4, 3) := q_ifCond_eq (bat_get dg_X12_qPartTold_0_0 6 rfl rfl) rfl
theorem dX12_qPartTold_194 : decode cX12_qPartTold 194 = .ok (.aload_n 0, 1) := q_aload_n0 (bat_get dg_X12_qPartTold_0_0 7 rfl rfl)
theorem dX12_qPartTold_195 : decode cX12_qPartTold 195 = .ok (.iconst 0, 1) := q_iconst0 (bat_get dg_X12_qPartTold_0_0 8 rfl rfl)
theorem dX12_qPartTold_196 : decode cX12_qPartTold 196 = .ok (.bipush 10, 2) := q_bipush (bat_get dg_X12_qPartTold_0_0 9 rfl rfl) rfl
theorem dX12_qPartTold_198 : decode cX12_qPartTold 198 = .ok (.invokevirtual 513, 3) := q_invokevirtual (bat_get dg_X12_qPartTold_0_0 10 rfl rfl) rfl
theorem dX12_qPartTold_201 : decode cX12_qPartTold 201 = .ok (.istore_n 2, 1) := q_istore_n2 (bat_get dg_X12_qPartTold_0_0 11 rfl rfl)
theorem dX12_qPartTold_202 : decode cX12_qPartTold 202 = .ok (.iload_n 2, 1) := q_iload_n2 (bat_get dg_X12_qPartTold_0_0 12 rfl rfl)
theorem dX12_qPartTold_203 : decode cX12_qPartTold 203 = .ok (.iconst (-1), 1) := q_iconstm1 (bat_get dg_X12_qPartTold_0_0 13 rfl rfl)
theorem dX12_qPartTold_204 : decode cX12_qPartTold 204 = .ok (.if_icmp .eq 8, 3) := q_if_icmp_eq (bat_get dg_X12_qPartTold_0_0 14 rfl rfl) rfl
theorem dX12_qPartTold_212 : decode cX12_qPartTold 212 = .ok (.aload_n 0, 1) := q_aload_n0 (bat_get dg_X12_qPartTold_0_0 15 rfl rfl)
theorem dX12_qPartTold_213 : decode cX12_qPartTold 213 = .ok (.iload_n 2, 1) := q_iload_n2 (bat_get dg_X12_qPartTold_0_0 16 rfl rfl)
theorem dX12_qPartTold_214 : decode cX12_qPartTold 214 = .ok (.iconst (-1), 1) := q_iconstm1 (bat_get dg_X12_qPartTold_0_0 17 rfl rfl)
theorem dX12_qPartTold_215 : decode cX12_qPartTold 215 = .ok (.if_icmp .eq 10, 3) := q_if_icmp_eq (bat_get dg_X12_qPartTold_0_0 18 rfl rfl) rfl
theorem dX12_qPartTold_225 : decode cX12_qPartTold 225 = .ok (.sipush 1000, 3) := q_sipush (bat_get dg_X12_qPartTold_0_0 19 rfl rfl) rfl
theorem dX12_qPartTold_228 : decode cX12_qPartTold 228 = .ok (.aload_n 0, 1) := q_aload_n0 (bat_get dg_X12_qPartTold_0_0 20 rfl rfl)
theorem dX12_qPartTold_229 : decode cX12_qPartTold 229 = .ok (.iconst 0, 1) := q_iconst0 (bat_get dg_X12_qPartTold_0_0 21 rfl rfl)
theorem dX12_qPartTold_230 : decode cX12_qPartTold 230 = .ok (.sipush 9999, 3) := q_sipush (bat_get dg_X12_qPartTold_0_0 22 rfl rfl) rfl
theorem dX12_qPartTold_233 : decode cX12_qPartTold 233 = .ok (.invokevirtual 249, 3) := q_invokevirtual (bat_get dg_X12_qPartTold_0_0 23 rfl rfl) rfl
theorem dX12_qPartTold_236 : decode cX12_qPartTold 236 = .ok (.iadd, 1) := q_iadd (bat_get dg_X12_qPartTold_0_0 24 rfl rfl)
theorem dX12_qPartTold_237 : decode cX12_qPartTold 237 = .ok (.invokevirtual 498, 3) := q_invokevirtual (bat_get dg_X12_qPartTold_0_0 25 rfl rfl) rfl
theorem dX12_qPartTold_240 : decode cX12_qPartTold 240 = .ok (.aload_n 0, 1) := q_aload_n0 (bat_get dg_X12_qPartTold_0_0 26 rfl rfl)
theorem dX12_qPartTold_241 : decode cX12_qPartTold 241 = .ok (.invokevirtual 522, 3) := q_invokevirtual (bat_get dg_X12_qPartTold_0_0 27 rfl rfl) rfl
theorem dX12_qPartTold_244 : decode cX12_qPartTold 244 = .ok (.return_, 1) := q_return_ (bat_get dg_X12_qPartTold_0_0 28 rfl rfl)
theorem dX12_qPartTold_207 : decode cX12_qPartTold 207 = .ok (.aload_n 0, 1) := q_aload_n0 (bat_get dg_X12_qPartTold_0_0 29 rfl rfl)
theorem dX12_qPartTold_208 : decode cX12_qPartTold 208 = .ok (.iload_n 2, 1) := q_iload_n2 (bat_get dg_X12_qPartTold_0_0 30 rfl rfl)
theorem dX12_qPartTold_209 : decode cX12_qPartTold 209 = .ok (.invokevirtual 519, 3) := q_invokevirtual (bat_get dg_X12_qPartTold_0_0 31 rfl rfl) rfl
theorem dX12_qPartTold_218 : decode cX12_qPartTold 218 = .ok (.bipush 40, 2) := q_bipush (bat_get dg_X12_qPartTold_0_0 32 rfl rfl) rfl
theorem dX12_qPartTold_220 : decode cX12_qPartTold 220 = .ok (.iload_n 2, 1) := q_iload_n2 (bat_get dg_X12_qPartTold_0_0 33 rfl rfl)
theorem dX12_qPartTold_221 : decode cX12_qPartTold 221 = .ok (.iadd, 1) := q_iadd (bat_get dg_X12_qPartTold_0_0 34 rfl rfl)
theorem dX12_qPartTold_222 : decode cX12_qPartTold 222 = .ok (.goto 15, 3) := q_goto (bat_get dg_X12_qPartTold_0_0 35 rfl rfl) rfl
theorem dX12_qPartTold_193 : decode cX12_qPartTold 193 = .ok (.return_, 1) := q_return_ (bat_get dg_X12_qPartTold_0_0 36 rfl rfl)
theorem dX12_qPartTold_6 : decode cX12_qPartTold 6 = .ok (.aload_n 0, 1) := q_aload_n0 (bat_get dg_X12_qPartTold_0_0 37 rfl rfl)
theorem dX12_qPartTold_7 : decode cX12_qPartTold 7 = .ok (.getfield 195, 3) := q_getfield (bat_get dg_X12_qPartTold_0_0 38 rfl rfl) rfl
theorem dX12_qPartTold_10 : decode cX12_qPartTold 10 = .ok (.ifCond .ne 176, 3) := q_ifCond_ne (bat_get dg_X12_qPartTold_0_0 39 rfl rfl) rfl
theorem dg_X12_qPartTold_13_13 : bqL cX12_qPartTold 13 [(0, [42]), (1, [182, 0, 207]), (4, [61]), (5, [42]), (6, [16, 10]), (8, [16, 11]), (10, [182, 2, 1]), (13, [62]), (14, [28]), (15, [16, 40]), (17, [160, 0, 26]), (43, [42]), (44, [42]), (45, [180, 0, 144]), (48, [182, 0, 218]), (51, [154, 0, 14]), (65, [42]), (66, [42]), (67, [180, 0, 144]), (70, [182, 0, 222]), (73, [54, 4]), (75, [21, 4]), (77, [154, 0, 11]), (88, [42]), (89, [182, 0, 207]), (92, [16, 40]), (94, [160, 0, 10]), (104, [2]), (105, [54, 5]), (107, [21, 5]), (109, [2]), (110, [159, 0, 21]), (131, [42]), (132, [16, 40]), (134, [182, 0, 253]), (137, [167, 0, 33]), (170, [167, 255, 75]), (97, [42]), (98, [180, 0, 201]), (101, [167, 0, 4])] = true := by decide +kernel
theorem dX12_qPartTold_13 : decode cX12_qPartTold 13 = .ok (.aload_n 0, 1) := q_aload_n0 (bat_get dg_X12_qPartTold_13_13 0 rfl rfl)
theorem dX12_qPartTold_14 : decode cX12_qPartTold 14 = .ok (.invokevirtual 207, 3) := q_invokevirtual (bat_get dg_X12_qPartTold_13_13 1 rfl rfl) rfl
theorem dX12_qPartTold_17 : decode cX12_qPartTold 17 = .ok (.istore_n 2, 1) := q_istore_n2 (bat_get dg_X12_qPartTold_13_13 2 rfl rfl)
theorem dX12_qPartTold_18 : decode cX12_qPartTold 18 = .ok (.aload_n 0, 1) := q_aload_n0 (bat_get dg_X12_qPartTold_13_13 3 rfl rfl)
theorem dX12_qPartTold_19 : decode cX12_qPartTold 19 = .ok (.bipush 10, 2) := q_bipush (bat_get dg_X12_qPartTold_13_13 4 rfl rfl) rfl
theorem dX12_qPartTold_21 : decode cX12_qPartTold 21 = .ok (.bipush 11, 2) := q_bipush (bat_get dg_X12_qPartTold_13_13 5 rfl rfl) rfl
theorem dX12_qPartTold_23 : decode cX12_qPartTold 23 = .ok (.invokevirtual 513, 3) := q_invokevirtual (bat_get dg_X12_qPartTold_13_13 6 rfl rfl) rfl
theorem dX12_qPartTold_26 : decode cX12_qPartTold 26 = .ok (.istore_n 3, 1) := q_istore_n3 (bat_get dg_X12_qPartTold_13_13 7 rfl rfl)
theorem dX12_qPartTold_27 : decode cX12_qPartTold 27 = .ok (.iload_n 2, 1) := q_iload_n2 (bat_get dg_X12_qPartTold_13_13 8 rfl rfl)
theorem dX12_qPartTold_28 : decode cX12_qPartTold 28 = .ok (.bipush 40, 2) := q_bipush (bat_get dg_X12_qPartTold_13_13 9 rfl rfl) rfl
theorem dX12_qPartTold_30 : decode cX12_qPartTold 30 = .ok (.if_icmp .ne 26, 3) := q_if_icmp_ne (bat_get dg_X12_qPartTold_13_13 10 rfl rfl) rfl
theorem dX12_qPartTold_56 : decode cX12_qPartTold 56 = .ok (.aload_n 0, 1) := q_aload_n0 (bat_get dg_X12_qPartTold_13_13 11 rfl rfl)
theorem dX12_qPartTold_57 : decode cX12_qPartTold 57 = .ok (.aload_n 0, 1) := q_aload_n0 (bat_get dg_X12_qPartTold_13_13 12 rfl rfl)
theorem dX12_qPartTold_58 : decode cX12_qPartTold 58 = .ok (.getfield 144, 3) := q_getfield (bat_get dg_X12_qPartTold_13_13 13 rfl rfl) rfl
theorem dX12_qPartTold_61 : decode cX12_qPartTold 61 = .ok (.invokevirtual 218, 3) := q_invokevirtual (bat_get dg_X12_qPartTold_13_13 14 rfl rfl) rfl
theorem dX12_qPartTold_64 : decode cX12_qPartTold 64 = .ok (.ifCond .ne 14, 3) := q_ifCond_ne (bat_get dg_X12_qPartTold_13_13 15 rfl rfl) rfl
theorem dX12_qPartTold_78 : decode cX12_qPartTold 78 = .ok (.aload_n 0, 1) := q_aload_n0 (bat_get dg_X12_qPartTold_13_13 16 rfl rfl)
theorem dX12_qPartTold_79 : decode cX12_qPartTold 79 = .ok (.aload_n 0, 1) := q_aload_n0 (bat_get dg_X12_qPartTold_13_13 17 rfl rfl)
theorem dX12_qPartTold_80 : decode cX12_qPartTold 80 = .ok (.getfield 144, 3) := q_getfield (bat_get dg_X12_qPartTold_13_13 18 rfl rfl) rfl
theorem dX12_qPartTold_83 : decode cX12_qPartTold 83 = .ok (.invokevirtual 222, 3) := q_invokevirtual (bat_get dg_X12_qPartTold_13_13 19 rfl rfl) rfl
theorem dX12_qPartTold_86 : decode cX12_qPartTold 86 = .ok (.istore 4, 2) := q_istore (bat_get dg_X12_qPartTold_13_13 20 rfl rfl)
theorem dX12_qPartTold_88 : decode cX12_qPartTold 88 = .ok (.iload 4, 2) := q_iload (bat_get dg_X12_qPartTold_13_13 21 rfl rfl)
theorem dX12_qPartTold_90 : decode cX12_qPartTold 90 = .ok (.ifCond .ne 11, 3) := q_ifCond_ne (bat_get dg_X12_qPartTold_13_13 22 rfl rfl) rfl
theorem dX12_qPartTold_101 : decode cX12_qPartTold 101 = .ok (.aload_n 0, 1) := q_aload_n0 (bat_get dg_X12_qPartTold_13_13 23 rfl rfl)
theorem dX12_qPartTold_102 : decode cX12_qPartTold 102 = .ok (.invokevirtual 207, 3) := q_invokevirtual (bat_get dg_X12_qPartTold_13_13 24 rfl rfl) rfl
theorem dX12_qPartTold_105 : decode cX12_qPartTold 105 = .ok (.bipush 40, 2) := q_bipush (bat_get dg_X12_qPartTold_13_13 25 rfl rfl) rfl
theorem dX12_qPartTold_107 : decode cX12_qPartTold 107 = .ok (.if_icmp .ne 10, 3) := q_if_icmp_ne (bat_get dg_X12_qPartTold_13_13 26 rfl rfl) rfl
theorem dX12_qPartTold_117 : decode cX12_qPartTold 117 = .ok (.iconst (-1), 1) := q_iconstm1 (bat_get dg_X12_qPartTold_13_13 27 rfl rfl)
theorem dX12_qPartTold_118 : decode cX12_qPartTold 118 = .ok (.istore 5, 2) := q_istore (bat_get dg_X12_qPartTold_13_13 28 rfl rfl)
theorem dX12_qPartTold_120 : decode cX12_qPartTold 120 = .ok (.iload 5, 2) := q_iload (bat_get dg_X12_qPartTold_13_13 29 rfl rfl)
theorem dX12_qPartTold_122 : decode cX12_qPartTold 122 = .ok (.iconst (-1), 1) := q_iconstm1 (bat_get dg_X12_qPartTold_13_13 30 rfl rfl)
theorem dX12_qPartTold_123 : decode cX12_qPartTold 123 = .ok (.if_icmp .eq 21, 3) := q_if_icmp_eq (bat_get dg_X12_qPartTold_13_13 31 rfl rfl) rfl
theorem dX12_qPartTold_144 : decode cX12_qPartTold 144 = .ok (.aload_n 0, 1) := q_aload_n0 (bat_get dg_X12_qPartTold_13_13 32 rfl rfl)
theorem dX12_qPartTold_145 : decode cX12_qPartTold 145 = .ok (.bipush 40, 2) := q_bipush (bat_get dg_X12_qPartTold_13_13 33 rfl rfl) rfl
theorem dX12_qPartTold_147 : decode cX12_qPartTold 147 = .ok (.invokevirtual 253, 3) := q_invokevirtual (bat_get dg_X12_qPartTold_13_13 34 rfl rfl) rfl
theorem dX12_qPartTold_150 : decode cX12_qPartTold 150 = .ok (.goto 33, 3) := q_goto (bat_get dg_X12_qPartTold_13_13 35 rfl rfl) rfl
theorem dX12_qPartTold_183 : decode cX12_qPartTold 183 = .ok (.goto (-181), 3) := q_goto (bat_get dg_X12_qPartTold_13_13 36 rfl rfl) rfl
theorem dX12_qPartTold_110 : decode cX12_qPartTold 110 = .ok (.aload_n 0, 1) := q_aload_n0 (bat_get dg_X12_qPartTold_13_13 37 rfl rfl)
theorem dX12_qPartTold_111 : decode cX12_qPartTold 111 = .ok (.getfield 201, 3) := q_getfield (bat_get dg_X12_qPartTold_13_13 38 rfl rfl) rfl
theorem dX12_qPartTold_114 : decode cX12_qPartTold 114 = .ok (.goto 4, 3) := q_goto (bat_get dg_X12_qPartTold_13_13 39 rfl rfl) rfl
theorem dg_X12_qPartTold_33_126 : bqL cX12_qPartTold 33 [(93, [42]), (94, [21, 4]), (96, [153, 0, 8]), (104, [16, 22]), (106, [21, 5]), (108, [182, 2, 4]), (99, [16, 21]), (101, [167, 0, 5]), (60, [42]), (61, [42]), (62, [180, 0, 147]), (65, [182, 0, 245]), (34, [42]), (35, [42]), (36, [180, 0, 147]), (39, [182, 0, 218]), (42, [153, 0, 78]), (120, [29]), (121, [2]), (122, [159, 0, 26]), (148, [3]), (149, [60]), (125, [42]), (126, [16, 60]), (128, [29]), (129, [96]), (130, [16, 10]), (132, [100]), (133, [42]), (134, [180, 0, 201]), (137, [182, 2, 4]), (140, [42]), (141, [29]), (142, [182, 2, 7]), (145, [167, 0, 5]), (0, [42]), (1, [16, 20]), (3, [42]), (4, [180, 0, 201]), (7, [182, 2, 4])] = true := by decide +kernel
theorem dX12_qPartTold_126 : decode cX12_qPartTold 126 = .ok (.aload_n 0, 1) := q_aload_n0 (bat_get dg_X12_qPartTold_33_126 0 rfl rfl)
theorem dX12_qPartTold_127 : decode cX12_qPartTold 127 = .ok (.iload 4, 2) := q_iload (bat_get dg_X12_qPartTold_33_126 1 rfl rfl)
theorem dX12_qPartTold_129 : decode cX12_qPartTold 129 = .ok (.ifCond .eq 8, 3) := q_ifCond_eq (bat_get dg_X12_qPartTold_33_126 2 rfl rfl) rfl
theorem dX12_qPartTold_137 : decode cX12_qPartTold 137 = .ok (.bipush 22, 2) := q_bipush (bat_get dg_X12_qPartTold_33_126 3 rfl rfl) rfl
theorem dX12_qPartTold_139 : decode cX12_qPartTold 139 = .ok (.iload 5, 2) := q_iload (bat_get dg_X12_qPartTold_33_126 4 rfl rfl)
theorem dX12_qPartTold_141 : decode cX12_qPartTold 141 = .ok (.invokevirtual 516, 3) := q_invokevirtual (bat_get dg_X12_qPartTold_33_126 5 rfl rfl) rfl
theorem dX12_qPartTold_132 : decode cX12_qPartTold 132 = .ok (.bipush 21, 2) := q_bipush (bat_get dg_X12_qPartTold_33_126 6 rfl rfl) rfl
theorem dX12_qPartTold_134 : decode cX12_qPartTold 134 = .ok (.goto 5, 3) := q_goto (bat_get dg_X12_qPartTold_33_126 7 rfl rfl) rfl
theorem dX12_qPartTold_93 : decode cX12_qPartTold 93 = .ok (.aload_n 0, 1) := q_aload_n0 (bat_get dg_X12_qPartTold_33_126 8 rfl rfl)
theorem dX12_qPartTold_94 : decode cX12_qPartTold 94 = .ok (.aload_n 0, 1) := q_aload_n0 (bat_get dg_X12_qPartTold_33_126 9 rfl rfl)
theorem dX12_qPartTold_95 : decode cX12_qPartTold 95 = .ok (.getfield 147, 3) := q_getfield (bat_get dg_X12_qPartTold_33_126 10 rfl rfl) rfl
theorem dX12_qPartTold_98 : decode cX12_qPartTold 98 = .ok (.invokevirtual 245, 3) := q_invokevirtual (bat_get dg_X12_qPartTold_33_126 11 rfl rfl) rfl
theorem dX12_qPartTold_67 : decode cX12_qPartTold 67 = .ok (.aload_n 0, 1) := q_aload_n0 (bat_get dg_X12_qPartTold_33_126 12 rfl rfl)
theorem dX12_qPartTold_68 : decode cX12_qPartTold 68 = .ok (.aload_n 0, 1) := q_aload_n0 (bat_get dg_X12_qPartTold_33_126 13 rfl rfl)
theorem dX12_qPartTold_69 : decode cX12_qPartTold 69 = .ok (.getfield 147, 3) := q_getfield (bat_get dg_X12_qPartTold_33_126 14 rfl rfl) rfl
theorem dX12_qPartTold_72 : decode cX12_qPartTold 72 = .ok (.invokevirtual 218, 3) := q_invokevirtual (bat_get dg_X12_qPartTold_33_126 15 rfl rfl) rfl
theorem dX12_qPartTold_75 : decode cX12_qPartTold 75 = .ok (.ifCond .eq 78, 3) := q_ifCond_eq (bat_get dg_X12_qPartTold_33_126 16 rfl rfl) rfl
theorem dX12_qPartTold_153 : decode cX12_qPartTold 153 = .ok (.iload_n 3, 1) := q_iload_n3 (bat_get dg_X12_qPartTold_33_126 17 rfl rfl)
theorem dX12_qPartTold_154 : decode cX12_qPartTold 154 = .ok (.iconst (-1), 1) := q_iconstm1 (bat_get dg_X12_qPartTold_33_126 18 rfl rfl)
theorem dX12_qPartTold_155 : decode cX12_qPartTold 155 = .ok (.if_icmp .eq 26, 3) := q_if_icmp_eq (bat_get dg_X12_qPartTold_33_126 19 rfl rfl) rfl
theorem dX12_qPartTold_181 : decode cX12_qPartTold 181 = .ok (.iconst 0, 1) := q_iconst0 (bat_get dg_X12_qPartTold_33_126 20 rfl rfl)
theorem dX12_qPartTold_182 : decode cX12_qPartTold 182 = .ok (.istore_n 1, 1) := q_istore_n1 (bat_get dg_X12_qPartTold_33_126 21 rfl rfl)
theorem dX12_qPartTold_158 : decode cX12_qPartTold 158 = .ok (.aload_n 0, 1) := q_aload_n0 (bat_get dg_X12_qPartTold_33_126 22 rfl rfl)
theorem dX12_qPartTold_159 : decode cX12_qPartTold 159 = .ok (.bipush 60, 2) := q_bipush (bat_get dg_X12_qPartTold_33_126 23 rfl rfl) rfl
theorem dX12_qPartTold_161 : decode cX12_qPartTold 161 = .ok (.iload_n 3, 1) := q_iload_n3 (bat_get dg_X12_qPartTold_33_126 24 rfl rfl)
theorem dX12_qPartTold_162 : decode cX12_qPartTold 162 = .ok (.iadd, 1) := q_iadd (bat_get dg_X12_qPartTold_33_126 25 rfl rfl)
theorem dX12_qPartTold_163 : decode cX12_qPartTold 163 = .ok (.bipush 10, 2) := q_bipush (bat_get dg_X12_qPartTold_33_126 26 rfl rfl) rfl
theorem dX12_qPartTold_165 : decode cX12_qPartTold 165 = .ok (.isub, 1) := q_isub (bat_get dg_X12_qPartTold_33_126 27 rfl rfl)
theorem dX12_qPartTold_166 : decode cX12_qPartTold 166 = .ok (.aload_n 0, 1) := q_aload_n0 (bat_get dg_X12_qPartTold_33_126 28 rfl rfl)
theorem dX12_qPartTold_167 : decode cX12_qPartTold 167 = .ok (.getfield 201, 3) := q_getfield (bat_get dg_X12_qPartTold_33_126 29 rfl rfl) rfl
theorem dX12_qPartTold_170 : decode cX12_qPartTold 170 = .ok (.invokevirtual 516, 3) := q_invokevirtual (bat_get dg_X12_qPartTold_33_126 30 rfl rfl) rfl
theorem dX12_qPartTold_173 : decode cX12_qPartTold 173 = .ok (.aload_n 0, 1) := q_aload_n0 (bat_get dg_X12_qPartTold_33_126 31 rfl rfl)
theorem dX12_qPartTold_174 : decode cX12_qPartTold 174 = .ok (.iload_n 3, 1) := q_iload_n3 (bat_get dg_X12_qPartTold_33_126 32 rfl rfl)
theorem dX12_qPartTold_175 : decode cX12_qPartTold 175 = .ok (.invokevirtual 519, 3) := q_invokevirtual (bat_get dg_X12_qPartTold_33_126 33 rfl rfl) rfl
theorem dX12_qPartTold_178 : decode cX12_qPartTold 178 = .ok (.goto 5, 3) := q_goto (bat_get dg_X12_qPartTold_33_126 34 rfl rfl) rfl
theorem dX12_qPartTold_33 : decode cX12_qPartTold 33 = .ok (.aload_n 0, 1) := q_aload_n0 (bat_get dg_X12_qPartTold_33_126 35 rfl rfl)
theorem dX12_qPartTold_34 : decode cX12_qPartTold 34 = .ok (.bipush 20, 2) := q_bipush (bat_get dg_X12_qPartTold_33_126 36 rfl rfl) rfl
theorem dX12_qPartTold_36 : decode cX12_qPartTold 36 = .ok (.aload_n 0, 1) := q_aload_n0 (bat_get dg_X12_qPartTold_33_126 37 rfl rfl)
theorem dX12_qPartTold_37 : decode cX12_qPartTold 37 = .ok (.getfield 201, 3) := q_getfield (bat_get dg_X12_qPartTold_33_126 38 rfl rfl) rfl
theorem dX12_qPartTold_40 : decode cX12_qPartTold 40 = .ok (.invokevirtual 516, 3) := q_invokevirtual (bat_get dg_X12_qPartTold_33_126 39 rfl rfl) rfl
theorem dg_X12_qPartTold_43_43 : bqL cX12_qPartTold 43 [(0, [42]), (1, [89]), (2, [180, 0, 201]), (5, [4]), (6, [96]), (7, [181, 0, 201]), (10, [167, 0, 130])] = true := by decide +kernel
theorem dX12_qPartTold_43 : decode cX12_qPartTold 43 = .ok (.aload_n 0, 1) := q_aload_n0 (bat_get dg_X12_qPartTold_43_43 0 rfl rfl)
theorem dX12_qPartTold_44 : decode cX12_qPartTold 44 = .ok (.dup, 1) := q_dup (bat_get dg_X12_qPartTold_43_43 1 rfl rfl)
theorem dX12_qPartTold_45 : decode cX12_qPartTold 45 = .ok (.getfield 201, 3) := q_getfield (bat_get dg_X12_qPartTold_43_43 2 rfl rfl) rfl
theorem dX12_qPartTold_48 : decode cX12_qPartTold 48 = .ok (.iconst 1, 1) := q_iconst1 (bat_get dg_X12_qPartTold_43_43 3 rfl rfl)
theorem dX12_qPartTold_49 : decode cX12_qPartTold 49 = .ok (.iadd, 1) := q_iadd (bat_get dg_X12_qPartTold_43_43 4 rfl rfl)
theorem dX12_qPartTold_50 : decode cX12_qPartTold 50 = .ok (.putfield 201, 3) := q_putfield (bat_get dg_X12_qPartTold_43_43 5 rfl rfl) rfl
theorem dX12_qPartTold_53 : decode cX12_qPartTold 53 = .ok (.goto 130, 3) := q_goto (bat_get dg_X12_qPartTold_43_43 6 rfl rfl) rfl
theorem w_7_35 : (Cond.methodLink RX12 513 yX12_qWordOf) ∈ wsL_law := sk_mem (ck_7 _ (List.mem_of_getElem? (i := 35) rfl)) rfl
theorem w_7_37 : (Cond.instanceMethod yX12_qWordOf) ∈ wsL_law := sk_mem (ck_7 _ (List.mem_of_getElem? (i := 37) rfl)) rfl
theorem w_0_56 : (Cond.selects RX12 yX12_qWordOf yX12_qWordOf) ∈ wsL_law := sk_mem (ck_0 _ (List.mem_of_getElem? (i := 56) rfl)) rfl
theorem w_6_233 : (Cond.methodLink RX12 249 yX12_number) ∈ wsL_law := sk_mem (ck_6 _ (List.mem_of_getElem? (i := 233) rfl)) rfl
theorem w_6_235 : (Cond.instanceMethod yX12_number) ∈ wsL_law := sk_mem (ck_6 _ (List.mem_of_getElem? (i := 235) rfl)) rfl
theorem w_0_47 : (Cond.selects RX12 yX12_number yX12_number) ∈ wsL_law := sk_mem (ck_0 _ (List.mem_of_getElem? (i := 47) rfl)) rfl
theorem w_7_59 : (Cond.methodLink RX12 522 yX12_qEndsPart) ∈ wsL_law := sk_mem (ck_7 _ (List.mem_of_getElem? (i := 59) rfl)) rfl
theorem w_7_61 : (Cond.instanceMethod yX12_qEndsPart) ∈ wsL_law := sk_mem (ck_7 _ (List.mem_of_getElem? (i := 61) rfl)) rfl
theorem w_0_62 : (Cond.selects RX12 yX12_qEndsPart yX12_qEndsPart) ∈ wsL_law := sk_mem (ck_0 _ (List.mem_of_getElem? (i := 62) rfl)) rfl
theorem w_7_51 : (Cond.methodLink RX12 519 yX12_qAsksWord) ∈ wsL_law := sk_mem (ck_7 _ (List.mem_of_getElem? (i := 51) rfl)) rfl
theorem w_7_53 : (Cond.instanceMethod yX12_qAsksWord) ∈ wsL_law := sk_mem (ck_7 _ (List.mem_of_getElem? (i := 53) rfl)) rfl
theorem w_0_60 : (Cond.selects RX12 yX12_qAsksWord yX12_qAsksWord) ∈ wsL_law := sk_mem (ck_0 _ (List.mem_of_getElem? (i := 60) rfl)) rfl
theorem w_5_223 : (Cond.fieldLink RX12 144 "SameKeeperModel" "minAsked" "[C") ∈ wsL_law := sk_mem (ck_5 _ (List.mem_of_getElem? (i := 223) rfl)) rfl
theorem w_7_3 : (Cond.methodLink RX12 253 yX12_asksSign) ∈ wsL_law := sk_mem (ck_7 _ (List.mem_of_getElem? (i := 3) rfl)) rfl
theorem w_7_5 : (Cond.instanceMethod yX12_asksSign) ∈ wsL_law := sk_mem (ck_7 _ (List.mem_of_getElem? (i := 5) rfl)) rfl
theorem w_0_48 : (Cond.selects RX12 yX12_asksSign yX12_asksSign) ∈ wsL_law := sk_mem (ck_0 _ (List.mem_of_getElem? (i := 48) rfl)) rfl
theorem w_7_47 : (Cond.methodLink RX12 516 yX12_qOpens) ∈ wsL_law := sk_mem (ck_7 _ (List.mem_of_getElem? (i := 47) rfl)) rfl
theorem w_7_49 : (Cond.instanceMethod yX12_qOpens) ∈ wsL_law := sk_mem (ck_7 _ (List.mem_of_getElem? (i := 49) rfl)) rfl
theorem w_0_59 : (Cond.selects RX12 yX12_qOpens yX12_qOpens) ∈ wsL_law := sk_mem (ck_0 _ (List.mem_of_getElem? (i := 59) rfl)) rfl
theorem w_5_224 : (Cond.fieldLink RX12 147 "SameKeeperModel" "maxAsked" "[C") ∈ wsL_law := sk_mem (ck_5 _ (List.mem_of_getElem? (i := 224) rfl)) rfl
theorem w_7_34 : (Cond.code yX12_qPartTold cX12_qPartTold 6 none) ∈ wsL_law := sk_mem (ck_7 _ (List.mem_of_getElem? (i := 34) rfl)) rfl
def om_17_187ff : List Bool := true :: true :: false :: false :: false :: false :: true :: true :: true :: true :: true :: true :: true :: true :: true :: true :: true :: []
def om_17_18000 : List Bool := true :: true :: false :: false :: false :: false :: false :: false :: false :: false :: false :: false :: false :: false :: false :: false :: false :: []
def om_17_14000 : List Bool := true :: false :: true :: false :: false :: false :: false :: false :: false :: false :: false :: false :: false :: false :: false :: false :: false :: []
def om_17_16000 : List Bool := true :: false :: true :: true :: false :: false :: false :: false :: false :: false :: false :: false :: false :: false :: false :: false :: false :: []
def om_17_19000 : List Bool := true :: true :: false :: false :: true :: false :: false :: false :: false :: false :: false :: false :: false :: false :: false :: false :: false :: []
def om_17_12000 : List Bool := true :: false :: false :: true :: false :: false :: false :: false :: false :: false :: false :: false :: false :: false :: false :: false :: false :: []
def om_17_18800 : List Bool := true :: true :: false :: false :: false :: true :: false :: false :: false :: false :: false :: false :: false :: false :: false :: false :: false :: []
theorem hd_X12_qWordOf_2 : skD yX12_qWordOf 2 := by decide +kernel
theorem hd_X12_number_2 : skD yX12_number 2 := by decide +kernel
theorem hd_X12_qEndsPart_0 : skD yX12_qEndsPart 0 := by decide +kernel
theorem hd_X12_qAsksWord_1 : skD yX12_qAsksWord 1 := by decide +kernel
theorem hd_X12_asksSign_1 : skD yX12_asksSign 1 := by decide +kernel
theorem hd_X12_qOpens_2 : skD yX12_qOpens 2 := by decide +kernel
theorem dg_X12_qGoesOn_0_0 : bqL cX12_qGoesOn 0 [(0, [42]), (1, [180, 0, 195]), (4, [154, 0, 118]), (122, [42]), (140, [42]), (141, [180, 0, 7]), (144, [42]), (145, [180, 0, 201]), (148, [4]), (149, [100]), (150, [46]), (151, [16, 42]), (153, [160, 0, 7]), (160, [7]), (161, [60]), (162, [42]), (163, [6]), (164, [182, 2, 19]), (167, [154, 0, 11]), (178, [42]), (179, [182, 1, 248]), (182, [167, 255, 236]), (170, [42]), (171, [7]), (172, [182, 2, 19]), (175, [153, 0, 10]), (185, [42]), (186, [180, 0, 183]), (189, [42]), (190, [180, 1, 4]), (193, [27]), (194, [79]), (195, [42]), (196, [89]), (197, [180, 1, 4]), (200, [4]), (201, [96]), (202, [181, 1, 4]), (205, [4]), (206, [172])] = true := by decide +kernel
theorem dX12_qGoesOn_0 : decode cX12_qGoesOn 0 = .ok (.aload_n 0, 1) := q_aload_n0 (bat_get dg_X12_qGoesOn_0_0 0 rfl rfl)
theorem dX12_qGoesOn_1 : decode cX12_qGoesOn 1 = .ok (.getfield 195, 3) := q_getfield (bat_get dg_X12_qGoesOn_0_0 1 rfl rfl) rfl
theorem dX12_qGoesOn_4 : decode cX12_qGoesOn 4 = .ok (.ifCond .ne 118, 3) := q_ifCond_ne (bat_get dg_X12_qGoesOn_0_0 2 rfl rfl) rfl
theorem dX12_qGoesOn_122 : decode cX12_qGoesOn 122 = .ok (.aload_n 0, 1) := q_aload_n0 (bat_get dg_X12_qGoesOn_0_0 3 rfl rfl)
theorem dX12_qGoesOn_140 : decode cX12_qGoesOn 140 = .ok (.aload_n 0, 1) := q_aload_n0 (bat_get dg_X12_qGoesOn_0_0 4 rfl rfl)
theorem dX12_qGoesOn_141 : decode cX12_qGoesOn 141 = .ok (.getfield 7, 3) := q_getfield (bat_get dg_X12_qGoesOn_0_0 5 rfl rfl) rfl
theorem dX12_qGoesOn_144 : decode cX12_qGoesOn 144 = .ok (.aload_n 0, 1) := q_aload_n0 (bat_get dg_X12_qGoesOn_0_0 6 rfl rfl)
theorem dX12_qGoesOn_145 : decode cX12_qGoesOn 145 = .ok (.getfield 201, 3) := q_getfield (bat_get dg_X12_qGoesOn_0_0 7 rfl rfl) rfl
theorem dX12_qGoesOn_148 : decode cX12_qGoesOn 148 = .ok (.iconst 1, 1) := q_iconst1 (bat_get dg_X12_qGoesOn_0_0 8 rfl rfl)
theorem dX12_qGoesOn_149 : decode cX12_qGoesOn 149 = .ok (.isub, 1) := q_isub (bat_get dg_X12_qGoesOn_0_0 9 rfl rfl)
theorem dX12_qGoesOn_150 : decode cX12_qGoesOn 150 = .ok (.iaload, 1) := q_iaload (bat_get dg_X12_qGoesOn_0_0 10 rfl rfl)
theorem dX12_qGoesOn_151 : decode cX12_qGoesOn 151 = .ok (.bipush 42, 2) := q_bipush (bat_get dg_X12_qGoesOn_0_0 11 rfl rfl) rfl
theorem dX12_qGoesOn_153 : decode cX12_qGoesOn 153 = .ok (.if_icmp .ne 7, 3) := q_if_icmp_ne (bat_get dg_X12_qGoesOn_0_0 12 rfl rfl) rfl
theorem dX12_qGoesOn_160 : decode cX12_qGoesOn 160 = .ok (.iconst 4, 1) := q_iconst4 (bat_get dg_X12_qGoesOn_0_0 13 rfl rfl)
theorem dX12_qGoesOn_161 : decode cX12_qGoesOn 161 = .ok (.istore_n 1, 1) := q_istore_n1 (bat_get dg_X12_qGoesOn_0_0 14 rfl rfl)
theorem dX12_qGoesOn_162 : decode cX12_qGoesOn 162 = .ok (.aload_n 0, 1) := q_aload_n0 (bat_get dg_X12_qGoesOn_0_0 15 rfl rfl)
theorem dX12_qGoesOn_163 : decode cX12_qGoesOn 163 = .ok (.iconst 3, 1) := q_iconst3 (bat_get dg_X12_qGoesOn_0_0 16 rfl rfl)
theorem dX12_qGoesOn_164 : decode cX12_qGoesOn 164 = .ok (.invokevirtual 531, 3) := q_invokevirtual (bat_get dg_X12_qGoesOn_0_0 17 rfl rfl) rfl
theorem dX12_qGoesOn_167 : decode cX12_qGoesOn 167 = .ok (.ifCond .ne 11, 3) := q_ifCond_ne (bat_get dg_X12_qGoesOn_0_0 18 rfl rfl) rfl
theorem dX12_qGoesOn_178 : decode cX12_qGoesOn 178 = .ok (.aload_n 0, 1) := q_aload_n0 (bat_get dg_X12_qGoesOn_0_0 19 rfl rfl)
theorem dX12_qGoesOn_179 : decode cX12_qGoesOn 179 = .ok (.invokevirtual 504, 3) := q_invokevirtual (bat_get dg_X12_qGoesOn_0_0 20 rfl rfl) rfl
theorem dX12_qGoesOn_182 : decode cX12_qGoesOn 182 = .ok (.goto (-20), 3) := q_goto (bat_get dg_X12_qGoesOn_0_0 21 rfl rfl) rfl
theorem dX12_qGoesOn_170 : decode cX12_qGoesOn 170 = .ok (.aload_n 0, 1) := q_aload_n0 (bat_get dg_X12_qGoesOn_0_0 22 rfl rfl)
theorem dX12_qGoesOn_171 : decode cX12_qGoesOn 171 = .ok (.iconst 4, 1) := q_iconst4 (bat_get dg_X12_qGoesOn_0_0 23 rfl rfl)
theorem dX12_qGoesOn_172 : decode cX12_qGoesOn 172 = .ok (.invokevirtual 531, 3) := q_invokevirtual (bat_get dg_X12_qGoesOn_0_0 24 rfl rfl) rfl
theorem dX12_qGoesOn_175 : decode cX12_qGoesOn 175 = .ok (.ifCond .eq 10, 3) := q_ifCond_eq (bat_get dg_X12_qGoesOn_0_0 25 rfl rfl) rfl
theorem dX12_qGoesOn_185 : decode cX12_qGoesOn 185 = .ok (.aload_n 0, 1) := q_aload_n0 (bat_get dg_X12_qGoesOn_0_0 26 rfl rfl)
theorem dX12_qGoesOn_186 : decode cX12_qGoesOn 186 = .ok (.getfield 183, 3) := q_getfield (bat_get dg_X12_qGoesOn_0_0 27 rfl rfl) rfl
theorem dX12_qGoesOn_189 : decode cX12_qGoesOn 189 = .ok (.aload_n 0, 1) := q_aload_n0 (bat_get dg_X12_qGoesOn_0_0 28 rfl rfl)
theorem dX12_qGoesOn_190 : decode cX12_qGoesOn 190 = .ok (.getfield 260, 3) := q_getfield (bat_get dg_X12_qGoesOn_0_0 29 rfl rfl) rfl
theorem dX12_qGoesOn_193 : decode cX12_qGoesOn 193 = .ok (.iload_n 1, 1) := q_iload_n1 (bat_get dg_X12_qGoesOn_0_0 30 rfl rfl)
theorem dX12_qGoesOn_194 : decode cX12_qGoesOn 194 = .ok (.iastore, 1) := q_iastore (bat_get dg_X12_qGoesOn_0_0 31 rfl rfl)
theorem dX12_qGoesOn_195 : decode cX12_qGoesOn 195 = .ok (.aload_n 0, 1) := q_aload_n0 (bat_get dg_X12_qGoesOn_0_0 32 rfl rfl)
theorem dX12_qGoesOn_196 : decode cX12_qGoesOn 196 = .ok (.dup, 1) := q_dup (bat_get dg_X12_qGoesOn_0_0 33 rfl rfl)
theorem dX12_qGoesOn_197 : decode cX12_qGoesOn 197 = .ok (.getfield 260, 3) := q_getfield (bat_get dg_X12_qGoesOn_0_0 34 rfl rfl) rfl
theorem dX12_qGoesOn_200 : decode cX12_qGoesOn 200 = .ok (.iconst 1, 1) := q_iconst1 (bat_get dg_X12_qGoesOn_0_0 35 rfl rfl)
theorem dX12_qGoesOn_201 : decode cX12_qGoesOn 201 = .ok (.iadd, 1) := q_iadd (bat_get dg_X12_qGoesOn_0_0 36 rfl rfl)
theorem dX12_qGoesOn_202 : decode cX12_qGoesOn 202 = .ok (.putfield 260, 3) := q_putfield (bat_get dg_X12_qGoesOn_0_0 37 rfl rfl) rfl
theorem dX12_qGoesOn_205 : decode cX12_qGoesOn 205 = .ok (.iconst 1, 1) := q_iconst1 (bat_get dg_X12_qGoesOn_0_0 38 rfl rfl)
theorem dX12_qGoesOn_206 : decode cX12_qGoesOn 206 = .ok (.ireturn, 1) := q_ireturn (bat_get dg_X12_qGoesOn_0_0 39 rfl rfl)
theorem dg_X12_qGoesOn_156_156 : bqL cX12_qGoesOn 156 [(0, [6]), (1, [167, 0, 4]), (69, [42]), (70, [180, 0, 7]), (73, [42]), (74, [180, 0, 201]), (77, [4]), (78, [100]), (79, [46]), (80, [16, 43]), (82, [160, 0, 7]), (89, [5]), (90, [60]), (91, [42]), (92, [6]), (93, [182, 2, 19]), (96, [154, 0, 27]), (123, [42]), (124, [182, 1, 248]), (127, [167, 255, 220]), (99, [42]), (100, [7]), (101, [182, 2, 19]), (104, [154, 0, 19]), (107, [42]), (108, [4]), (109, [182, 2, 19]), (112, [154, 0, 11]), (115, [42]), (116, [5]), (117, [182, 2, 19]), (120, [153, 0, 10]), (130, [42]), (131, [180, 0, 183]), (134, [42]), (135, [180, 1, 4]), (138, [27]), (139, [79]), (140, [42]), (141, [89])] = true := by decide +kernel
theorem dX12_qGoesOn_156 : decode cX12_qGoesOn 156 = .ok (.iconst 3, 1) := q_iconst3 (bat_get dg_X12_qGoesOn_156_156 0 rfl rfl)
theorem dX12_qGoesOn_157 : decode cX12_qGoesOn 157 = .ok (.goto 4, 3) := q_goto (bat_get dg_X12_qGoesOn_156_156 1 rfl rfl) rfl
theorem dX12_qGoesOn_225 : decode cX12_qGoesOn 225 = .ok (.aload_n 0, 1) := q_aload_n0 (bat_get dg_X12_qGoesOn_156_156 2 rfl rfl)
theorem dX12_qGoesOn_226 : decode cX12_qGoesOn 226 = .ok (.getfield 7, 3) := q_getfield (bat_get dg_X12_qGoesOn_156_156 3 rfl rfl) rfl
theorem dX12_qGoesOn_229 : decode cX12_qGoesOn 229 = .ok (.aload_n 0, 1) := q_aload_n0 (bat_get dg_X12_qGoesOn_156_156 4 rfl rfl)
theorem dX12_qGoesOn_230 : decode cX12_qGoesOn 230 = .ok (.getfield 201, 3) := q_getfield (bat_get dg_X12_qGoesOn_156_156 5 rfl rfl) rfl
theorem dX12_qGoesOn_233 : decode cX12_qGoesOn 233 = .ok (.iconst 1, 1) := q_iconst1 (bat_get dg_X12_qGoesOn_156_156 6 rfl rfl)
theorem dX12_qGoesOn_234 : decode cX12_qGoesOn 234 = .ok (.isub, 1) := q_isub (bat_get dg_X12_qGoesOn_156_156 7 rfl rfl)
theorem dX12_qGoesOn_235 : decode cX12_qGoesOn 235 = .ok (.iaload, 1) := q_iaload (bat_get dg_X12_qGoesOn_156_156 8 rfl rfl)
theorem dX12_qGoesOn_236 : decode cX12_qGoesOn 236 = .ok (.bipush 43, 2) := q_bipush (bat_get dg_X12_qGoesOn_156_156 9 rfl rfl) rfl
theorem dX12_qGoesOn_238 : decode cX12_qGoesOn 238 = .ok (.if_icmp .ne 7, 3) := q_if_icmp_ne (bat_get dg_X12_qGoesOn_156_156 10 rfl rfl) rfl
theorem dX12_qGoesOn_245 : decode cX12_qGoesOn 245 = .ok (.iconst 2, 1) := q_iconst2 (bat_get dg_X12_qGoesOn_156_156 11 rfl rfl)
theorem dX12_qGoesOn_246 : decode cX12_qGoesOn 246 = .ok (.istore_n 1, 1) := q_istore_n1 (bat_get dg_X12_qGoesOn_156_156 12 rfl rfl)
theorem dX12_qGoesOn_247 : decode cX12_qGoesOn 247 = .ok (.aload_n 0, 1) := q_aload_n0 (bat_get dg_X12_qGoesOn_156_156 13 rfl rfl)
theorem dX12_qGoesOn_248 : decode cX12_qGoesOn 248 = .ok (.iconst 3, 1) := q_iconst3 (bat_get dg_X12_qGoesOn_156_156 14 rfl rfl)
theorem dX12_qGoesOn_249 : decode cX12_qGoesOn 249 = .ok (.invokevirtual 531, 3) := q_invokevirtual (bat_get dg_X12_qGoesOn_156_156 15 rfl rfl) rfl
theorem dX12_qGoesOn_252 : decode cX12_qGoesOn 252 = .ok (.ifCond .ne 27, 3) := q_ifCond_ne (bat_get dg_X12_qGoesOn_156_156 16 rfl rfl) rfl
theorem dX12_qGoesOn_279 : decode cX12_qGoesOn 279 = .ok (.aload_n 0, 1) := q_aload_n0 (bat_get dg_X12_qGoesOn_156_156 17 rfl rfl)
theorem dX12_qGoesOn_280 : decode cX12_qGoesOn 280 = .ok (.invokevirtual 504, 3) := q_invokevirtual (bat_get dg_X12_qGoesOn_156_156 18 rfl rfl) rfl
theorem dX12_qGoesOn_283 : decode cX12_qGoesOn 283 = .ok (.goto (-36), 3) := q_goto (bat_get dg_X12_qGoesOn_156_156 19 rfl rfl) rfl
theorem dX12_qGoesOn_255 : decode cX12_qGoesOn 255 = .ok (.aload_n 0, 1) := q_aload_n0 (bat_get dg_X12_qGoesOn_156_156 20 rfl rfl)
theorem dX12_qGoesOn_256 : decode cX12_qGoesOn 256 = .ok (.iconst 4, 1) := q_iconst4 (bat_get dg_X12_qGoesOn_156_156 21 rfl rfl)
theorem dX12_qGoesOn_257 : decode cX12_qGoesOn 257 = .ok (.invokevirtual 531, 3) := q_invokevirtual (bat_get dg_X12_qGoesOn_156_156 22 rfl rfl) rfl
theorem dX12_qGoesOn_260 : decode cX12_qGoesOn 260 = .ok (.ifCond .ne 19, 3) := q_ifCond_ne (bat_get dg_X12_qGoesOn_156_156 23 rfl rfl) rfl
theorem dX12_qGoesOn_263 : decode cX12_qGoesOn 263 = .ok (.aload_n 0, 1) := q_aload_n0 (bat_get dg_X12_qGoesOn_156_156 24 rfl rfl)
theorem dX12_qGoesOn_264 : decode cX12_qGoesOn 264 = .ok (.iconst 1, 1) := q_iconst1 (bat_get dg_X12_qGoesOn_156_156 25 rfl rfl)
theorem dX12_qGoesOn_265 : decode cX12_qGoesOn 265 = .ok (.invokevirtual 531, 3) := q_invokevirtual (bat_get dg_X12_qGoesOn_156_156 26 rfl rfl) rfl
theorem dX12_qGoesOn_268 : decode cX12_qGoesOn 268 = .ok (.ifCond .ne 11, 3) := q_ifCond_ne (bat_get dg_X12_qGoesOn_156_156 27 rfl rfl) rfl
theorem dX12_qGoesOn_271 : decode cX12_qGoesOn 271 = .ok (.aload_n 0, 1) := q_aload_n0 (bat_get dg_X12_qGoesOn_156_156 28 rfl rfl)
theorem dX12_qGoesOn_272 : decode cX12_qGoesOn 272 = .ok (.iconst 2, 1) := q_iconst2 (bat_get dg_X12_qGoesOn_156_156 29 rfl rfl)
theorem dX12_qGoesOn_273 : decode cX12_qGoesOn 273 = .ok (.invokevirtual 531, 3) := q_invokevirtual (bat_get dg_X12_qGoesOn_156_156 30 rfl rfl) rfl
theorem dX12_qGoesOn_276 : decode cX12_qGoesOn 276 = .ok (.ifCond .eq 10, 3) := q_ifCond_eq (bat_get dg_X12_qGoesOn_156_156 31 rfl rfl) rfl
theorem dX12_qGoesOn_286 : decode cX12_qGoesOn 286 = .ok (.aload_n 0, 1) := q_aload_n0 (bat_get dg_X12_qGoesOn_156_156 32 rfl rfl)
theorem dX12_qGoesOn_287 : decode cX12_qGoesOn 287 = .ok (.getfield 183, 3) := q_getfield (bat_get dg_X12_qGoesOn_156_156 33 rfl rfl) rfl
theorem dX12_qGoesOn_290 : decode cX12_qGoesOn 290 = .ok (.aload_n 0, 1) := q_aload_n0 (bat_get dg_X12_qGoesOn_156_156 34 rfl rfl)
theorem dX12_qGoesOn_291 : decode cX12_qGoesOn 291 = .ok (.getfield 260, 3) := q_getfield (bat_get dg_X12_qGoesOn_156_156 35 rfl rfl) rfl
theorem dX12_qGoesOn_294 : decode cX12_qGoesOn 294 = .ok (.iload_n 1, 1) := q_iload_n1 (bat_get dg_X12_qGoesOn_156_156 36 rfl rfl)
theorem dX12_qGoesOn_295 : decode cX12_qGoesOn 295 = .ok (.iastore, 1) := q_iastore (bat_get dg_X12_qGoesOn_156_156 37 rfl rfl)
theorem dX12_qGoesOn_296 : decode cX12_qGoesOn 296 = .ok (.aload_n 0, 1) := q_aload_n0 (bat_get dg_X12_qGoesOn_156_156 38 rfl rfl)
theorem dX12_qGoesOn_297 : decode cX12_qGoesOn 297 = .ok (.dup, 1) := q_dup (bat_get dg_X12_qGoesOn_156_156 39 rfl rfl)
theorem dg_X12_qGoesOn_123_298 : bqL cX12_qGoesOn 123 [(175, [180, 1, 4]), (178, [4]), (179, [96]), (180, [181, 1, 4]), (183, [4]), (184, [172]), (118, [4]), (119, [167, 0, 4]), (0, [16, 42]), (2, [182, 0, 229]), (5, [154, 0, 12]), (8, [42]), (9, [16, 47]), (11, [182, 0, 229]), (14, [153, 0, 70]), (84, [42]), (85, [16, 43]), (87, [182, 0, 229]), (90, [154, 0, 12]), (93, [42]), (94, [16, 45]), (96, [182, 0, 229]), (99, [153, 0, 86]), (185, [42]), (186, [182, 2, 13]), (189, [16, 21]), (191, [159, 0, 12]), (203, [42]), (204, [16, 44]), (206, [182, 0, 253]), (209, [42]), (210, [180, 0, 195]), (213, [153, 0, 5]), (218, [42]), (219, [182, 2, 16]), (222, [42]), (223, [180, 0, 183]), (226, [42]), (227, [180, 1, 4]), (230, [4])] = true := by decide +kernel
theorem dX12_qGoesOn_298 : decode cX12_qGoesOn 298 = .ok (.getfield 260, 3) := q_getfield (bat_get dg_X12_qGoesOn_123_298 0 rfl rfl) rfl
theorem dX12_qGoesOn_301 : decode cX12_qGoesOn 301 = .ok (.iconst 1, 1) := q_iconst1 (bat_get dg_X12_qGoesOn_123_298 1 rfl rfl)
theorem dX12_qGoesOn_302 : decode cX12_qGoesOn 302 = .ok (.iadd, 1) := q_iadd (bat_get dg_X12_qGoesOn_123_298 2 rfl rfl)
theorem dX12_qGoesOn_303 : decode cX12_qGoesOn 303 = .ok (.putfield 260, 3) := q_putfield (bat_get dg_X12_qGoesOn_123_298 3 rfl rfl) rfl
theorem dX12_qGoesOn_306 : decode cX12_qGoesOn 306 = .ok (.iconst 1, 1) := q_iconst1 (bat_get dg_X12_qGoesOn_123_298 4 rfl rfl)
theorem dX12_qGoesOn_307 : decode cX12_qGoesOn 307 = .ok (.ireturn, 1) := q_ireturn (bat_get dg_X12_qGoesOn_123_298 5 rfl rfl)
theorem dX12_qGoesOn_241 : decode cX12_qGoesOn 241 = .ok (.iconst 1, 1) := q_iconst1 (bat_get dg_X12_qGoesOn_123_298 6 rfl rfl)
theorem dX12_qGoesOn_242 : decode cX12_qGoesOn 242 = .ok (.goto 4, 3) := q_goto (bat_get dg_X12_qGoesOn_123_298 7 rfl rfl) rfl
theorem dX12_qGoesOn_123 : decode cX12_qGoesOn 123 = .ok (.bipush 42, 2) := q_bipush (bat_get dg_X12_qGoesOn_123_298 8 rfl rfl) rfl
theorem dX12_qGoesOn_125 : decode cX12_qGoesOn 125 = .ok (.invokevirtual 229, 3) := q_invokevirtual (bat_get dg_X12_qGoesOn_123_298 9 rfl rfl) rfl
theorem dX12_qGoesOn_128 : decode cX12_qGoesOn 128 = .ok (.ifCond .ne 12, 3) := q_ifCond_ne (bat_get dg_X12_qGoesOn_123_298 10 rfl rfl) rfl
theorem dX12_qGoesOn_131 : decode cX12_qGoesOn 131 = .ok (.aload_n 0, 1) := q_aload_n0 (bat_get dg_X12_qGoesOn_123_298 11 rfl rfl)
theorem dX12_qGoesOn_132 : decode cX12_qGoesOn 132 = .ok (.bipush 47, 2) := q_bipush (bat_get dg_X12_qGoesOn_123_298 12 rfl rfl) rfl
theorem dX12_qGoesOn_134 : decode cX12_qGoesOn 134 = .ok (.invokevirtual 229, 3) := q_invokevirtual (bat_get dg_X12_qGoesOn_123_298 13 rfl rfl) rfl
theorem dX12_qGoesOn_137 : decode cX12_qGoesOn 137 = .ok (.ifCond .eq 70, 3) := q_ifCond_eq (bat_get dg_X12_qGoesOn_123_298 14 rfl rfl) rfl
theorem dX12_qGoesOn_207 : decode cX12_qGoesOn 207 = .ok (.aload_n 0, 1) := q_aload_n0 (bat_get dg_X12_qGoesOn_123_298 15 rfl rfl)
theorem dX12_qGoesOn_208 : decode cX12_qGoesOn 208 = .ok (.bipush 43, 2) := q_bipush (bat_get dg_X12_qGoesOn_123_298 16 rfl rfl) rfl
theorem dX12_qGoesOn_210 : decode cX12_qGoesOn 210 = .ok (.invokevirtual 229, 3) := q_invokevirtual (bat_get dg_X12_qGoesOn_123_298 17 rfl rfl) rfl
theorem dX12_qGoesOn_213 : decode cX12_qGoesOn 213 = .ok (.ifCond .ne 12, 3) := q_ifCond_ne (bat_get dg_X12_qGoesOn_123_298 18 rfl rfl) rfl
theorem dX12_qGoesOn_216 : decode cX12_qGoesOn 216 = .ok (.aload_n 0, 1) := q_aload_n0 (bat_get dg_X12_qGoesOn_123_298 19 rfl rfl)
theorem dX12_qGoesOn_217 : decode cX12_qGoesOn 217 = .ok (.bipush 45, 2) := q_bipush (bat_get dg_X12_qGoesOn_123_298 20 rfl rfl) rfl
theorem dX12_qGoesOn_219 : decode cX12_qGoesOn 219 = .ok (.invokevirtual 229, 3) := q_invokevirtual (bat_get dg_X12_qGoesOn_123_298 21 rfl rfl) rfl
theorem dX12_qGoesOn_222 : decode cX12_qGoesOn 222 = .ok (.ifCond .eq 86, 3) := q_ifCond_eq (bat_get dg_X12_qGoesOn_123_298 22 rfl rfl) rfl
theorem dX12_qGoesOn_308 : decode cX12_qGoesOn 308 = .ok (.aload_n 0, 1) := q_aload_n0 (bat_get dg_X12_qGoesOn_123_298 23 rfl rfl)
theorem dX12_qGoesOn_309 : decode cX12_qGoesOn 309 = .ok (.invokevirtual 525, 3) := q_invokevirtual (bat_get dg_X12_qGoesOn_123_298 24 rfl rfl) rfl
theorem dX12_qGoesOn_312 : decode cX12_qGoesOn 312 = .ok (.bipush 21, 2) := q_bipush (bat_get dg_X12_qGoesOn_123_298 25 rfl rfl) rfl
theorem dX12_qGoesOn_314 : decode cX12_qGoesOn 314 = .ok (.if_icmp .eq 12, 3) := q_if_icmp_eq (bat_get dg_X12_qGoesOn_123_298 26 rfl rfl) rfl
theorem dX12_qGoesOn_326 : decode cX12_qGoesOn 326 = .ok (.aload_n 0, 1) := q_aload_n0 (bat_get dg_X12_qGoesOn_123_298 27 rfl rfl)
theorem dX12_qGoesOn_327 : decode cX12_qGoesOn 327 = .ok (.bipush 44, 2) := q_bipush (bat_get dg_X12_qGoesOn_123_298 28 rfl rfl) rfl
theorem dX12_qGoesOn_329 : decode cX12_qGoesOn 329 = .ok (.invokevirtual 253, 3) := q_invokevirtual (bat_get dg_X12_qGoesOn_123_298 29 rfl rfl) rfl
theorem dX12_qGoesOn_332 : decode cX12_qGoesOn 332 = .ok (.aload_n 0, 1) := q_aload_n0 (bat_get dg_X12_qGoesOn_123_298 30 rfl rfl)
theorem dX12_qGoesOn_333 : decode cX12_qGoesOn 333 = .ok (.getfield 195, 3) := q_getfield (bat_get dg_X12_qGoesOn_123_298 31 rfl rfl) rfl
theorem dX12_qGoesOn_336 : decode cX12_qGoesOn 336 = .ok (.ifCond .eq 5, 3) := q_ifCond_eq (bat_get dg_X12_qGoesOn_123_298 32 rfl rfl) rfl
theorem dX12_qGoesOn_341 : decode cX12_qGoesOn 341 = .ok (.aload_n 0, 1) := q_aload_n0 (bat_get dg_X12_qGoesOn_123_298 33 rfl rfl)
theorem dX12_qGoesOn_342 : decode cX12_qGoesOn 342 = .ok (.invokevirtual 528, 3) := q_invokevirtual (bat_get dg_X12_qGoesOn_123_298 34 rfl rfl) rfl
theorem dX12_qGoesOn_345 : decode cX12_qGoesOn 345 = .ok (.aload_n 0, 1) := q_aload_n0 (bat_get dg_X12_qGoesOn_123_298 35 rfl rfl)
theorem dX12_qGoesOn_346 : decode cX12_qGoesOn 346 = .ok (.getfield 183, 3) := q_getfield (bat_get dg_X12_qGoesOn_123_298 36 rfl rfl) rfl
theorem dX12_qGoesOn_349 : decode cX12_qGoesOn 349 = .ok (.aload_n 0, 1) := q_aload_n0 (bat_get dg_X12_qGoesOn_123_298 37 rfl rfl)
theorem dX12_qGoesOn_350 : decode cX12_qGoesOn 350 = .ok (.getfield 260, 3) := q_getfield (bat_get dg_X12_qGoesOn_123_298 38 rfl rfl) rfl
theorem dX12_qGoesOn_353 : decode cX12_qGoesOn 353 = .ok (.iconst 1, 1) := q_iconst1 (bat_get dg_X12_qGoesOn_123_298 39 rfl rfl)
theorem dg_X12_qGoesOn_7_354 : bqL cX12_qGoesOn 7 [(347, [100]), (348, [92]), (349, [46]), (350, [5]), (351, [96]), (352, [79]), (353, [4]), (354, [172]), (332, [3]), (333, [172]), (310, [42]), (311, [182, 2, 13]), (314, [16, 22]), (316, [160, 0, 39]), (355, [42]), (356, [182, 2, 13]), (359, [2]), (360, [159, 0, 19]), (379, [3]), (380, [172]), (363, [42]), (364, [180, 0, 195]), (367, [154, 0, 12]), (370, [42]), (371, [4]), (372, [42]), (373, [180, 0, 201]), (376, [182, 0, 225]), (0, [42]), (1, [182, 0, 207]), (4, [16, 41]), (6, [160, 0, 109]), (9, [42]), (10, [182, 2, 13]), (13, [16, 20]), (15, [159, 0, 21]), (36, [42]), (37, [89]), (38, [180, 0, 201]), (41, [4])] = true := by decide +kernel
theorem dX12_qGoesOn_354 : decode cX12_qGoesOn 354 = .ok (.isub, 1) := q_isub (bat_get dg_X12_qGoesOn_7_354 0 rfl rfl)
theorem dX12_qGoesOn_355 : decode cX12_qGoesOn 355 = .ok (.dup2, 1) := q_dup2 (bat_get dg_X12_qGoesOn_7_354 1 rfl rfl)
theorem dX12_qGoesOn_356 : decode cX12_qGoesOn 356 = .ok (.iaload, 1) := q_iaload (bat_get dg_X12_qGoesOn_7_354 2 rfl rfl)
theorem dX12_qGoesOn_357 : decode cX12_qGoesOn 357 = .ok (.iconst 2, 1) := q_iconst2 (bat_get dg_X12_qGoesOn_7_354 3 rfl rfl)
theorem dX12_qGoesOn_358 : decode cX12_qGoesOn 358 = .ok (.iadd, 1) := q_iadd (bat_get dg_X12_qGoesOn_7_354 4 rfl rfl)
theorem dX12_qGoesOn_359 : decode cX12_qGoesOn 359 = .ok (.iastore, 1) := q_iastore (bat_get dg_X12_qGoesOn_7_354 5 rfl rfl)
theorem dX12_qGoesOn_360 : decode cX12_qGoesOn 360 = .ok (.iconst 1, 1) := q_iconst1 (bat_get dg_X12_qGoesOn_7_354 6 rfl rfl)
theorem dX12_qGoesOn_361 : decode cX12_qGoesOn 361 = .ok (.ireturn, 1) := q_ireturn (bat_get dg_X12_qGoesOn_7_354 7 rfl rfl)
theorem dX12_qGoesOn_339 : decode cX12_qGoesOn 339 = .ok (.iconst 0, 1) := q_iconst0 (bat_get dg_X12_qGoesOn_7_354 8 rfl rfl)
theorem dX12_qGoesOn_340 : decode cX12_qGoesOn 340 = .ok (.ireturn, 1) := q_ireturn (bat_get dg_X12_qGoesOn_7_354 9 rfl rfl)
theorem dX12_qGoesOn_317 : decode cX12_qGoesOn 317 = .ok (.aload_n 0, 1) := q_aload_n0 (bat_get dg_X12_qGoesOn_7_354 10 rfl rfl)
theorem dX12_qGoesOn_318 : decode cX12_qGoesOn 318 = .ok (.invokevirtual 525, 3) := q_invokevirtual (bat_get dg_X12_qGoesOn_7_354 11 rfl rfl) rfl
theorem dX12_qGoesOn_321 : decode cX12_qGoesOn 321 = .ok (.bipush 22, 2) := q_bipush (bat_get dg_X12_qGoesOn_7_354 12 rfl rfl) rfl
theorem dX12_qGoesOn_323 : decode cX12_qGoesOn 323 = .ok (.if_icmp .ne 39, 3) := q_if_icmp_ne (bat_get dg_X12_qGoesOn_7_354 13 rfl rfl) rfl
theorem dX12_qGoesOn_362 : decode cX12_qGoesOn 362 = .ok (.aload_n 0, 1) := q_aload_n0 (bat_get dg_X12_qGoesOn_7_354 14 rfl rfl)
theorem dX12_qGoesOn_363 : decode cX12_qGoesOn 363 = .ok (.invokevirtual 525, 3) := q_invokevirtual (bat_get dg_X12_qGoesOn_7_354 15 rfl rfl) rfl
theorem dX12_qGoesOn_366 : decode cX12_qGoesOn 366 = .ok (.iconst (-1), 1) := q_iconstm1 (bat_get dg_X12_qGoesOn_7_354 16 rfl rfl)
theorem dX12_qGoesOn_367 : decode cX12_qGoesOn 367 = .ok (.if_icmp .eq 19, 3) := q_if_icmp_eq (bat_get dg_X12_qGoesOn_7_354 17 rfl rfl) rfl
theorem dX12_qGoesOn_386 : decode cX12_qGoesOn 386 = .ok (.iconst 0, 1) := q_iconst0 (bat_get dg_X12_qGoesOn_7_354 18 rfl rfl)
theorem dX12_qGoesOn_387 : decode cX12_qGoesOn 387 = .ok (.ireturn, 1) := q_ireturn (bat_get dg_X12_qGoesOn_7_354 19 rfl rfl)
theorem dX12_qGoesOn_370 : decode cX12_qGoesOn 370 = .ok (.aload_n 0, 1) := q_aload_n0 (bat_get dg_X12_qGoesOn_7_354 20 rfl rfl)
theorem dX12_qGoesOn_371 : decode cX12_qGoesOn 371 = .ok (.getfield 195, 3) := q_getfield (bat_get dg_X12_qGoesOn_7_354 21 rfl rfl) rfl
theorem dX12_qGoesOn_374 : decode cX12_qGoesOn 374 = .ok (.ifCond .ne 12, 3) := q_ifCond_ne (bat_get dg_X12_qGoesOn_7_354 22 rfl rfl) rfl
theorem dX12_qGoesOn_377 : decode cX12_qGoesOn 377 = .ok (.aload_n 0, 1) := q_aload_n0 (bat_get dg_X12_qGoesOn_7_354 23 rfl rfl)
theorem dX12_qGoesOn_378 : decode cX12_qGoesOn 378 = .ok (.iconst 1, 1) := q_iconst1 (bat_get dg_X12_qGoesOn_7_354 24 rfl rfl)
theorem dX12_qGoesOn_379 : decode cX12_qGoesOn 379 = .ok (.aload_n 0, 1) := q_aload_n0 (bat_get dg_X12_qGoesOn_7_354 25 rfl rfl)
theorem dX12_qGoesOn_380 : decode cX12_qGoesOn 380 = .ok (.getfield 201, 3) := q_getfield (bat_get dg_X12_qGoesOn_7_354 26 rfl rfl) rfl
theorem dX12_qGoesOn_383 : decode cX12_qGoesOn 383 = .ok (.invokevirtual 225, 3) := q_invokevirtual (bat_get dg_X12_qGoesOn_7_354 27 rfl rfl) rfl
theorem dX12_qGoesOn_7 : decode cX12_qGoesOn 7 = .ok (.aload_n 0, 1) := q_aload_n0 (bat_get dg_X12_qGoesOn_7_354 28 rfl rfl)
theorem dX12_qGoesOn_8 : decode cX12_qGoesOn 8 = .ok (.invokevirtual 207, 3) := q_invokevirtual (bat_get dg_X12_qGoesOn_7_354 29 rfl rfl) rfl
theorem dX12_qGoesOn_11 : decode cX12_qGoesOn 11 = .ok (.bipush 41, 2) := q_bipush (bat_get dg_X12_qGoesOn_7_354 30 rfl rfl) rfl
theorem dX12_qGoesOn_13 : decode cX12_qGoesOn 13 = .ok (.if_icmp .ne 109, 3) := q_if_icmp_ne (bat_get dg_X12_qGoesOn_7_354 31 rfl rfl) rfl
theorem dX12_qGoesOn_16 : decode cX12_qGoesOn 16 = .ok (.aload_n 0, 1) := q_aload_n0 (bat_get dg_X12_qGoesOn_7_354 32 rfl rfl)
theorem dX12_qGoesOn_17 : decode cX12_qGoesOn 17 = .ok (.invokevirtual 525, 3) := q_invokevirtual (bat_get dg_X12_qGoesOn_7_354 33 rfl rfl) rfl
theorem dX12_qGoesOn_20 : decode cX12_qGoesOn 20 = .ok (.bipush 20, 2) := q_bipush (bat_get dg_X12_qGoesOn_7_354 34 rfl rfl) rfl
theorem dX12_qGoesOn_22 : decode cX12_qGoesOn 22 = .ok (.if_icmp .eq 21, 3) := q_if_icmp_eq (bat_get dg_X12_qGoesOn_7_354 35 rfl rfl) rfl
theorem dX12_qGoesOn_43 : decode cX12_qGoesOn 43 = .ok (.aload_n 0, 1) := q_aload_n0 (bat_get dg_X12_qGoesOn_7_354 36 rfl rfl)
theorem dX12_qGoesOn_44 : decode cX12_qGoesOn 44 = .ok (.dup, 1) := q_dup (bat_get dg_X12_qGoesOn_7_354 37 rfl rfl)
theorem dX12_qGoesOn_45 : decode cX12_qGoesOn 45 = .ok (.getfield 201, 3) := q_getfield (bat_get dg_X12_qGoesOn_7_354 38 rfl rfl) rfl
theorem dX12_qGoesOn_48 : decode cX12_qGoesOn 48 = .ok (.iconst 1, 1) := q_iconst1 (bat_get dg_X12_qGoesOn_7_354 39 rfl rfl)
theorem dg_X12_qGoesOn_25_49 : bqL cX12_qGoesOn 25 [(24, [96]), (25, [181, 0, 201]), (28, [42]), (29, [182, 2, 16]), (32, [42]), (33, [89]), (34, [180, 1, 4]), (37, [4]), (38, [100]), (39, [181, 1, 4]), (42, [42]), (43, [89]), (44, [180, 1, 7]), (47, [4]), (48, [100]), (49, [181, 1, 7]), (52, [42]), (53, [180, 0, 183]), (56, [42]), (57, [180, 1, 4]), (60, [46]), (61, [16, 20]), (63, [159, 0, 27]), (90, [42]), (91, [182, 2, 10]), (94, [167, 255, 137]), (0, [42]), (1, [182, 2, 13]), (4, [16, 23]), (6, [159, 0, 12]), (66, [42]), (67, [42]), (68, [180, 0, 183]), (71, [42]), (72, [180, 1, 4]), (75, [46]), (76, [16, 23]), (78, [160, 0, 7]), (81, [8]), (82, [167, 0, 5])] = true := by decide +kernel
theorem dX12_qGoesOn_49 : decode cX12_qGoesOn 49 = .ok (.iadd, 1) := q_iadd (bat_get dg_X12_qGoesOn_25_49 0 rfl rfl)
theorem dX12_qGoesOn_50 : decode cX12_qGoesOn 50 = .ok (.putfield 201, 3) := q_putfield (bat_get dg_X12_qGoesOn_25_49 1 rfl rfl) rfl
theorem dX12_qGoesOn_53 : decode cX12_qGoesOn 53 = .ok (.aload_n 0, 1) := q_aload_n0 (bat_get dg_X12_qGoesOn_25_49 2 rfl rfl)
theorem dX12_qGoesOn_54 : decode cX12_qGoesOn 54 = .ok (.invokevirtual 528, 3) := q_invokevirtual (bat_get dg_X12_qGoesOn_25_49 3 rfl rfl) rfl
theorem dX12_qGoesOn_57 : decode cX12_qGoesOn 57 = .ok (.aload_n 0, 1) := q_aload_n0 (bat_get dg_X12_qGoesOn_25_49 4 rfl rfl)
theorem dX12_qGoesOn_58 : decode cX12_qGoesOn 58 = .ok (.dup, 1) := q_dup (bat_get dg_X12_qGoesOn_25_49 5 rfl rfl)
theorem dX12_qGoesOn_59 : decode cX12_qGoesOn 59 = .ok (.getfield 260, 3) := q_getfield (bat_get dg_X12_qGoesOn_25_49 6 rfl rfl) rfl
theorem dX12_qGoesOn_62 : decode cX12_qGoesOn 62 = .ok (.iconst 1, 1) := q_iconst1 (bat_get dg_X12_qGoesOn_25_49 7 rfl rfl)
theorem dX12_qGoesOn_63 : decode cX12_qGoesOn 63 = .ok (.isub, 1) := q_isub (bat_get dg_X12_qGoesOn_25_49 8 rfl rfl)
theorem dX12_qGoesOn_64 : decode cX12_qGoesOn 64 = .ok (.putfield 260, 3) := q_putfield (bat_get dg_X12_qGoesOn_25_49 9 rfl rfl) rfl
theorem dX12_qGoesOn_67 : decode cX12_qGoesOn 67 = .ok (.aload_n 0, 1) := q_aload_n0 (bat_get dg_X12_qGoesOn_25_49 10 rfl rfl)
theorem dX12_qGoesOn_68 : decode cX12_qGoesOn 68 = .ok (.dup, 1) := q_dup (bat_get dg_X12_qGoesOn_25_49 11 rfl rfl)
theorem dX12_qGoesOn_69 : decode cX12_qGoesOn 69 = .ok (.getfield 263, 3) := q_getfield (bat_get dg_X12_qGoesOn_25_49 12 rfl rfl) rfl
theorem dX12_qGoesOn_72 : decode cX12_qGoesOn 72 = .ok (.iconst 1, 1) := q_iconst1 (bat_get dg_X12_qGoesOn_25_49 13 rfl rfl)
theorem dX12_qGoesOn_73 : decode cX12_qGoesOn 73 = .ok (.isub, 1) := q_isub (bat_get dg_X12_qGoesOn_25_49 14 rfl rfl)
theorem dX12_qGoesOn_74 : decode cX12_qGoesOn 74 = .ok (.putfield 263, 3) := q_putfield (bat_get dg_X12_qGoesOn_25_49 15 rfl rfl) rfl
theorem dX12_qGoesOn_77 : decode cX12_qGoesOn 77 = .ok (.aload_n 0, 1) := q_aload_n0 (bat_get dg_X12_qGoesOn_25_49 16 rfl rfl)
theorem dX12_qGoesOn_78 : decode cX12_qGoesOn 78 = .ok (.getfield 183, 3) := q_getfield (bat_get dg_X12_qGoesOn_25_49 17 rfl rfl) rfl
theorem dX12_qGoesOn_81 : decode cX12_qGoesOn 81 = .ok (.aload_n 0, 1) := q_aload_n0 (bat_get dg_X12_qGoesOn_25_49 18 rfl rfl)
theorem dX12_qGoesOn_82 : decode cX12_qGoesOn 82 = .ok (.getfield 260, 3) := q_getfield (bat_get dg_X12_qGoesOn_25_49 19 rfl rfl) rfl
theorem dX12_qGoesOn_85 : decode cX12_qGoesOn 85 = .ok (.iaload, 1) := q_iaload (bat_get dg_X12_qGoesOn_25_49 20 rfl rfl)
theorem dX12_qGoesOn_86 : decode cX12_qGoesOn 86 = .ok (.bipush 20, 2) := q_bipush (bat_get dg_X12_qGoesOn_25_49 21 rfl rfl) rfl
theorem dX12_qGoesOn_88 : decode cX12_qGoesOn 88 = .ok (.if_icmp .eq 27, 3) := q_if_icmp_eq (bat_get dg_X12_qGoesOn_25_49 22 rfl rfl) rfl
theorem dX12_qGoesOn_115 : decode cX12_qGoesOn 115 = .ok (.aload_n 0, 1) := q_aload_n0 (bat_get dg_X12_qGoesOn_25_49 23 rfl rfl)
theorem dX12_qGoesOn_116 : decode cX12_qGoesOn 116 = .ok (.invokevirtual 522, 3) := q_invokevirtual (bat_get dg_X12_qGoesOn_25_49 24 rfl rfl) rfl
theorem dX12_qGoesOn_119 : decode cX12_qGoesOn 119 = .ok (.goto (-119), 3) := q_goto (bat_get dg_X12_qGoesOn_25_49 25 rfl rfl) rfl
theorem dX12_qGoesOn_25 : decode cX12_qGoesOn 25 = .ok (.aload_n 0, 1) := q_aload_n0 (bat_get dg_X12_qGoesOn_25_49 26 rfl rfl)
theorem dX12_qGoesOn_26 : decode cX12_qGoesOn 26 = .ok (.invokevirtual 525, 3) := q_invokevirtual (bat_get dg_X12_qGoesOn_25_49 27 rfl rfl) rfl
theorem dX12_qGoesOn_29 : decode cX12_qGoesOn 29 = .ok (.bipush 23, 2) := q_bipush (bat_get dg_X12_qGoesOn_25_49 28 rfl rfl) rfl
theorem dX12_qGoesOn_31 : decode cX12_qGoesOn 31 = .ok (.if_icmp .eq 12, 3) := q_if_icmp_eq (bat_get dg_X12_qGoesOn_25_49 29 rfl rfl) rfl
theorem dX12_qGoesOn_91 : decode cX12_qGoesOn 91 = .ok (.aload_n 0, 1) := q_aload_n0 (bat_get dg_X12_qGoesOn_25_49 30 rfl rfl)
theorem dX12_qGoesOn_92 : decode cX12_qGoesOn 92 = .ok (.aload_n 0, 1) := q_aload_n0 (bat_get dg_X12_qGoesOn_25_49 31 rfl rfl)
theorem dX12_qGoesOn_93 : decode cX12_qGoesOn 93 = .ok (.getfield 183, 3) := q_getfield (bat_get dg_X12_qGoesOn_25_49 32 rfl rfl) rfl
theorem dX12_qGoesOn_96 : decode cX12_qGoesOn 96 = .ok (.aload_n 0, 1) := q_aload_n0 (bat_get dg_X12_qGoesOn_25_49 33 rfl rfl)
theorem dX12_qGoesOn_97 : decode cX12_qGoesOn 97 = .ok (.getfield 260, 3) := q_getfield (bat_get dg_X12_qGoesOn_25_49 34 rfl rfl) rfl
theorem dX12_qGoesOn_100 : decode cX12_qGoesOn 100 = .ok (.iaload, 1) := q_iaload (bat_get dg_X12_qGoesOn_25_49 35 rfl rfl)
theorem dX12_qGoesOn_101 : decode cX12_qGoesOn 101 = .ok (.bipush 23, 2) := q_bipush (bat_get dg_X12_qGoesOn_25_49 36 rfl rfl) rfl
theorem dX12_qGoesOn_103 : decode cX12_qGoesOn 103 = .ok (.if_icmp .ne 7, 3) := q_if_icmp_ne (bat_get dg_X12_qGoesOn_25_49 37 rfl rfl) rfl
theorem dX12_qGoesOn_106 : decode cX12_qGoesOn 106 = .ok (.iconst 5, 1) := q_iconst5 (bat_get dg_X12_qGoesOn_25_49 38 rfl rfl)
theorem dX12_qGoesOn_107 : decode cX12_qGoesOn 107 = .ok (.goto 5, 3) := q_goto (bat_get dg_X12_qGoesOn_25_49 39 rfl rfl) rfl
theorem dg_X12_qGoesOn_34_112 : bqL cX12_qGoesOn 34 [(78, [182, 1, 242]), (0, [42]), (1, [182, 2, 13]), (4, [16, 24]), (6, [160, 0, 82]), (76, [16, 6])] = true := by decide +kernel
theorem dX12_qGoesOn_112 : decode cX12_qGoesOn 112 = .ok (.invokevirtual 498, 3) := q_invokevirtual (bat_get dg_X12_qGoesOn_34_112 0 rfl rfl) rfl
theorem dX12_qGoesOn_34 : decode cX12_qGoesOn 34 = .ok (.aload_n 0, 1) := q_aload_n0 (bat_get dg_X12_qGoesOn_34_112 1 rfl rfl)
theorem dX12_qGoesOn_35 : decode cX12_qGoesOn 35 = .ok (.invokevirtual 525, 3) := q_invokevirtual (bat_get dg_X12_qGoesOn_34_112 2 rfl rfl) rfl
theorem dX12_qGoesOn_38 : decode cX12_qGoesOn 38 = .ok (.bipush 24, 2) := q_bipush (bat_get dg_X12_qGoesOn_34_112 3 rfl rfl) rfl
theorem dX12_qGoesOn_40 : decode cX12_qGoesOn 40 = .ok (.if_icmp .ne 82, 3) := q_if_icmp_ne (bat_get dg_X12_qGoesOn_34_112 4 rfl rfl) rfl
theorem dX12_qGoesOn_110 : decode cX12_qGoesOn 110 = .ok (.bipush 6, 2) := q_bipush (bat_get dg_X12_qGoesOn_34_112 5 rfl rfl) rfl
theorem w_7_82 : (Cond.methodLink RX12 531 yX12_qIsOn) ∈ wsL_law := sk_mem (ck_7 _ (List.mem_of_getElem? (i := 82) rfl)) rfl
theorem w_7_84 : (Cond.instanceMethod yX12_qIsOn) ∈ wsL_law := sk_mem (ck_7 _ (List.mem_of_getElem? (i := 84) rfl)) rfl
theorem w_0_67 : (Cond.selects RX12 yX12_qIsOn yX12_qIsOn) ∈ wsL_law := sk_mem (ck_0 _ (List.mem_of_getElem? (i := 67) rfl)) rfl
theorem w_7_71 : (Cond.methodLink RX12 525 yX12_qBracket) ∈ wsL_law := sk_mem (ck_7 _ (List.mem_of_getElem? (i := 71) rfl)) rfl
theorem w_7_73 : (Cond.instanceMethod yX12_qBracket) ∈ wsL_law := sk_mem (ck_7 _ (List.mem_of_getElem? (i := 73) rfl)) rfl
theorem w_0_65 : (Cond.selects RX12 yX12_qBracket yX12_qBracket) ∈ wsL_law := sk_mem (ck_0 _ (List.mem_of_getElem? (i := 65) rfl)) rfl
theorem w_7_78 : (Cond.methodLink RX12 528 yX12_qDropsToBracket) ∈ wsL_law := sk_mem (ck_7 _ (List.mem_of_getElem? (i := 78) rfl)) rfl
theorem w_7_80 : (Cond.instanceMethod yX12_qDropsToBracket) ∈ wsL_law := sk_mem (ck_7 _ (List.mem_of_getElem? (i := 80) rfl)) rfl
theorem w_0_66 : (Cond.selects RX12 yX12_qDropsToBracket yX12_qDropsToBracket) ∈ wsL_law := sk_mem (ck_0 _ (List.mem_of_getElem? (i := 66) rfl)) rfl
theorem w_7_70 : (Cond.code yX12_qGoesOn cX12_qGoesOn 2 (some .boolean)) ∈ wsL_law := sk_mem (ck_7 _ (List.mem_of_getElem? (i := 70) rfl)) rfl
def om_4_b : List Bool := true :: false :: true :: true :: []
def om_4_a : List Bool := true :: false :: true :: false :: []
theorem hd_X12_qIsOn_1 : skD yX12_qIsOn 1 := by decide +kernel
theorem hd_X12_qBracket_0 : skD yX12_qBracket 0 := by decide +kernel
theorem hd_X12_qDropsToBracket_0 : skD yX12_qDropsToBracket 0 := by decide +kernel
theorem dg_X12_qSums_0_0 : bqL cX12_qSums 0 [(0, [42]), (1, [180, 1, 10]), (4, [60]), (5, [42]), (6, [42]), (7, [180, 1, 4]), (10, [181, 1, 10]), (13, [4]), (14, [61]), (15, [28]), (16, [153, 0, 37]), (53, [42]), (54, [180, 0, 195]), (57, [154, 0, 21]), (78, [42]), (79, [27]), (80, [181, 1, 10]), (83, [177]), (60, [42]), (61, [180, 1, 4]), (64, [42]), (65, [180, 1, 10]), (68, [164, 0, 10]), (71, [42]), (72, [182, 1, 248]), (75, [167, 255, 234]), (19, [42]), (20, [180, 0, 195]), (23, [154, 0, 30]), (26, [42]), (27, [182, 2, 22]), (30, [42]), (31, [180, 0, 195]), (34, [154, 0, 14]), (48, [3]), (49, [61]), (50, [167, 255, 221]), (37, [42]), (38, [182, 2, 25]), (41, [153, 0, 7])] = true := by decide +kernel
theorem dX12_qSums_0 : decode cX12_qSums 0 = .ok (.aload_n 0, 1) := q_aload_n0 (bat_get dg_X12_qSums_0_0 0 rfl rfl)
theorem dX12_qSums_1 : decode cX12_qSums 1 = .ok (.getfield 266, 3) := q_getfield (bat_get dg_X12_qSums_0_0 1 rfl rfl) rfl
theorem dX12_qSums_4 : decode cX12_qSums 4 = .ok (.istore_n 1, 1) := q_istore_n1 (bat_get dg_X12_qSums_0_0 2 rfl rfl)
theorem dX12_qSums_5 : decode cX12_qSums 5 = .ok (.aload_n 0, 1) := q_aload_n0 (bat_get dg_X12_qSums_0_0 3 rfl rfl)
theorem dX12_qSums_6 : decode cX12_qSums 6 = .ok (.aload_n 0, 1) := q_aload_n0 (bat_get dg_X12_qSums_0_0 4 rfl rfl)
theorem dX12_qSums_7 : decode cX12_qSums 7 = .ok (.getfield 260, 3) := q_getfield (bat_get dg_X12_qSums_0_0 5 rfl rfl) rfl
theorem dX12_qSums_10 : decode cX12_qSums 10 = .ok (.putfield 266, 3) := q_putfield (bat_get dg_X12_qSums_0_0 6 rfl rfl) rfl
theorem dX12_qSums_13 : decode cX12_qSums 13 = .ok (.iconst 1, 1) := q_iconst1 (bat_get dg_X12_qSums_0_0 7 rfl rfl)
theorem dX12_qSums_14 : decode cX12_qSums 14 = .ok (.istore_n 2, 1) := q_istore_n2 (bat_get dg_X12_qSums_0_0 8 rfl rfl)
theorem dX12_qSums_15 : decode cX12_qSums 15 = .ok (.iload_n 2, 1) := q_iload_n2 (bat_get dg_X12_qSums_0_0 9 rfl rfl)
theorem dX12_qSums_16 : decode cX12_qSums 16 = .ok (.ifCond .eq 37, 3) := q_ifCond_eq (bat_get dg_X12_qSums_0_0 10 rfl rfl) rfl
theorem dX12_qSums_53 : decode cX12_qSums 53 = .ok (.aload_n 0, 1) := q_aload_n0 (bat_get dg_X12_qSums_0_0 11 rfl rfl)
theorem dX12_qSums_54 : decode cX12_qSums 54 = .ok (.getfield 195, 3) := q_getfield (bat_get dg_X12_qSums_0_0 12 rfl rfl) rfl
theorem dX12_qSums_57 : decode cX12_qSums 57 = .ok (.ifCond .ne 21, 3) := q_ifCond_ne (bat_get dg_X12_qSums_0_0 13 rfl rfl) rfl
theorem dX12_qSums_78 : decode cX12_qSums 78 = .ok (.aload_n 0, 1) := q_aload_n0 (bat_get dg_X12_qSums_0_0 14 rfl rfl)
theorem dX12_qSums_79 : decode cX12_qSums 79 = .ok (.iload_n 1, 1) := q_iload_n1 (bat_get dg_X12_qSums_0_0 15 rfl rfl)
theorem dX12_qSums_80 : decode cX12_qSums 80 = .ok (.putfield 266, 3) := q_putfield (bat_get dg_X12_qSums_0_0 16 rfl rfl) rfl
theorem dX12_qSums_83 : decode cX12_qSums 83 = .ok (.return_, 1) := q_return_ (bat_get dg_X12_qSums_0_0 17 rfl rfl)
theorem dX12_qSums_60 : decode cX12_qSums 60 = .ok (.aload_n 0, 1) := q_aload_n0 (bat_get dg_X12_qSums_0_0 18 rfl rfl)
theorem dX12_qSums_61 : decode cX12_qSums 61 = .ok (.getfield 260, 3) := q_getfield (bat_get dg_X12_qSums_0_0 19 rfl rfl) rfl
theorem dX12_qSums_64 : decode cX12_qSums 64 = .ok (.aload_n 0, 1) := q_aload_n0 (bat_get dg_X12_qSums_0_0 20 rfl rfl)
theorem dX12_qSums_65 : decode cX12_qSums 65 = .ok (.getfield 266, 3) := q_getfield (bat_get dg_X12_qSums_0_0 21 rfl rfl) rfl
theorem dX12_qSums_68 : decode cX12_qSums 68 = .ok (.if_icmp .le 10, 3) := q_if_icmp_le (bat_get dg_X12_qSums_0_0 22 rfl rfl) rfl
theorem dX12_qSums_71 : decode cX12_qSums 71 = .ok (.aload_n 0, 1) := q_aload_n0 (bat_get dg_X12_qSums_0_0 23 rfl rfl)
theorem dX12_qSums_72 : decode cX12_qSums 72 = .ok (.invokevirtual 504, 3) := q_invokevirtual (bat_get dg_X12_qSums_0_0 24 rfl rfl) rfl
theorem dX12_qSums_75 : decode cX12_qSums 75 = .ok (.goto (-22), 3) := q_goto (bat_get dg_X12_qSums_0_0 25 rfl rfl) rfl
theorem dX12_qSums_19 : decode cX12_qSums 19 = .ok (.aload_n 0, 1) := q_aload_n0 (bat_get dg_X12_qSums_0_0 26 rfl rfl)
theorem dX12_qSums_20 : decode cX12_qSums 20 = .ok (.getfield 195, 3) := q_getfield (bat_get dg_X12_qSums_0_0 27 rfl rfl) rfl
theorem dX12_qSums_23 : decode cX12_qSums 23 = .ok (.ifCond .ne 30, 3) := q_ifCond_ne (bat_get dg_X12_qSums_0_0 28 rfl rfl) rfl
theorem dX12_qSums_26 : decode cX12_qSums 26 = .ok (.aload_n 0, 1) := q_aload_n0 (bat_get dg_X12_qSums_0_0 29 rfl rfl)
theorem dX12_qSums_27 : decode cX12_qSums 27 = .ok (.invokevirtual 534, 3) := q_invokevirtual (bat_get dg_X12_qSums_0_0 30 rfl rfl) rfl
theorem dX12_qSums_30 : decode cX12_qSums 30 = .ok (.aload_n 0, 1) := q_aload_n0 (bat_get dg_X12_qSums_0_0 31 rfl rfl)
theorem dX12_qSums_31 : decode cX12_qSums 31 = .ok (.getfield 195, 3) := q_getfield (bat_get dg_X12_qSums_0_0 32 rfl rfl) rfl
theorem dX12_qSums_34 : decode cX12_qSums 34 = .ok (.ifCond .ne 14, 3) := q_ifCond_ne (bat_get dg_X12_qSums_0_0 33 rfl rfl) rfl
theorem dX12_qSums_48 : decode cX12_qSums 48 = .ok (.iconst 0, 1) := q_iconst0 (bat_get dg_X12_qSums_0_0 34 rfl rfl)
theorem dX12_qSums_49 : decode cX12_qSums 49 = .ok (.istore_n 2, 1) := q_istore_n2 (bat_get dg_X12_qSums_0_0 35 rfl rfl)
theorem dX12_qSums_50 : decode cX12_qSums 50 = .ok (.goto (-35), 3) := q_goto (bat_get dg_X12_qSums_0_0 36 rfl rfl) rfl
theorem dX12_qSums_37 : decode cX12_qSums 37 = .ok (.aload_n 0, 1) := q_aload_n0 (bat_get dg_X12_qSums_0_0 37 rfl rfl)
theorem dX12_qSums_38 : decode cX12_qSums 38 = .ok (.invokevirtual 537, 3) := q_invokevirtual (bat_get dg_X12_qSums_0_0 38 rfl rfl) rfl
theorem dX12_qSums_41 : decode cX12_qSums 41 = .ok (.ifCond .eq 7, 3) := q_ifCond_eq (bat_get dg_X12_qSums_0_0 39 rfl rfl) rfl
theorem dg_X12_qSums_44_44 : bqL cX12_qSums 44 [(0, [4]), (1, [167, 0, 4])] = true := by decide +kernel
theorem dX12_qSums_44 : decode cX12_qSums 44 = .ok (.iconst 1, 1) := q_iconst1 (bat_get dg_X12_qSums_44_44 0 rfl rfl)
theorem dX12_qSums_45 : decode cX12_qSums 45 = .ok (.goto 4, 3) := q_goto (bat_get dg_X12_qSums_44_44 1 rfl rfl) rfl
theorem w_7_31 : (Cond.methodLink RX12 534 yX12_qPartTold) ∈ wsL_law := sk_mem (ck_7 _ (List.mem_of_getElem? (i := 31) rfl)) rfl
theorem w_7_33 : (Cond.instanceMethod yX12_qPartTold) ∈ wsL_law := sk_mem (ck_7 _ (List.mem_of_getElem? (i := 33) rfl)) rfl
theorem w_0_55 : (Cond.selects RX12 yX12_qPartTold yX12_qPartTold) ∈ wsL_law := sk_mem (ck_0 _ (List.mem_of_getElem? (i := 55) rfl)) rfl
theorem w_7_67 : (Cond.methodLink RX12 537 yX12_qGoesOn) ∈ wsL_law := sk_mem (ck_7 _ (List.mem_of_getElem? (i := 67) rfl)) rfl
theorem w_7_69 : (Cond.instanceMethod yX12_qGoesOn) ∈ wsL_law := sk_mem (ck_7 _ (List.mem_of_getElem? (i := 69) rfl)) rfl
theorem w_0_64 : (Cond.selects RX12 yX12_qGoesOn yX12_qGoesOn) ∈ wsL_law := sk_mem (ck_0 _ (List.mem_of_getElem? (i := 64) rfl)) rfl
theorem w_7_30 : (Cond.code yX12_qSums cX12_qSums 3 none) ∈ wsL_law := sk_mem (ck_7 _ (List.mem_of_getElem? (i := 30) rfl)) rfl
def om_17_1e000 : List Bool := true :: true :: true :: true :: false :: false :: false :: false :: false :: false :: false :: false :: false :: false :: false :: false :: false :: []
theorem hd_X12_qPartTold_0 : skD yX12_qPartTold 0 := by decide +kernel
theorem hd_X12_qGoesOn_0 : skD yX12_qGoesOn 0 := by decide +kernel
theorem dg_X12_qFact_0_0 : bqL cX12_qFact 0 [(0, [42]), (1, [42]), (2, [180, 0, 141]), (5, [182, 0, 222]), (8, [153, 0, 10]), (18, [42]), (19, [182, 1, 13]), (22, [42]), (23, [180, 0, 195]), (26, [153, 0, 4]), (30, [42]), (31, [182, 0, 207]), (34, [60]), (35, [27]), (36, [16, 60]), (38, [159, 0, 25]), (63, [42]), (64, [89]), (65, [180, 0, 201]), (68, [4]), (69, [96]), (70, [181, 0, 201]), (73, [42]), (74, [182, 1, 13]), (77, [42]), (78, [27]), (79, [16, 60]), (81, [160, 0, 8]), (84, [16, 7]), (86, [167, 0, 16]), (102, [182, 1, 242]), (105, [177]), (41, [27]), (42, [16, 62]), (44, [159, 0, 19]), (89, [27]), (90, [16, 62]), (92, [160, 0, 8]), (95, [16, 8]), (97, [167, 0, 5])] = true := by decide +kernel
theorem dX12_qFact_0 : decode cX12_qFact 0 = .ok (.aload_n 0, 1) := q_aload_n0 (bat_get dg_X12_qFact_0_0 0 rfl rfl)
theorem dX12_qFact_1 : decode cX12_qFact 1 = .ok (.aload_n 0, 1) := q_aload_n0 (bat_get dg_X12_qFact_0_0 1 rfl rfl)
theorem dX12_qFact_2 : decode cX12_qFact 2 = .ok (.getfield 141, 3) := q_getfield (bat_get dg_X12_qFact_0_0 2 rfl rfl) rfl
theorem dX12_qFact_5 : decode cX12_qFact 5 = .ok (.invokevirtual 222, 3) := q_invokevirtual (bat_get dg_X12_qFact_0_0 3 rfl rfl) rfl
theorem dX12_qFact_8 : decode cX12_qFact 8 = .ok (.ifCond .eq 10, 3) := q_ifCond_eq (bat_get dg_X12_qFact_0_0 4 rfl rfl) rfl
theorem dX12_qFact_18 : decode cX12_qFact 18 = .ok (.aload_n 0, 1) := q_aload_n0 (bat_get dg_X12_qFact_0_0 5 rfl rfl)
theorem dX12_qFact_19 : decode cX12_qFact 19 = .ok (.invokevirtual 269, 3) := q_invokevirtual (bat_get dg_X12_qFact_0_0 6 rfl rfl) rfl
theorem dX12_qFact_22 : decode cX12_qFact 22 = .ok (.aload_n 0, 1) := q_aload_n0 (bat_get dg_X12_qFact_0_0 7 rfl rfl)
theorem dX12_qFact_23 : decode cX12_qFact 23 = .ok (.getfield 195, 3) := q_getfield (bat_get dg_X12_qFact_0_0 8 rfl rfl) rfl
theorem dX12_qFact_26 : decode cX12_qFact 26 = .ok (.ifCond .eq 4, 3) := q_ifCond_eq (bat_get dg_X12_qFact_0_0 9 rfl rfl) rfl
theorem dX12_qFact_30 : decode cX12_qFact 30 = .ok (.aload_n 0, 1) := q_aload_n0 (bat_get dg_X12_qFact_0_0 10 rfl rfl)
theorem dX12_qFact_31 : decode cX12_qFact 31 = .ok (.invokevirtual 207, 3) := q_invokevirtual (bat_get dg_X12_qFact_0_0 11 rfl rfl) rfl
theorem dX12_qFact_34 : decode cX12_qFact 34 = .ok (.istore_n 1, 1) := q_istore_n1 (bat_get dg_X12_qFact_0_0 12 rfl rfl)
theorem dX12_qFact_35 : decode cX12_qFact 35 = .ok (.iload_n 1, 1) := q_iload_n1 (bat_get dg_X12_qFact_0_0 13 rfl rfl)
theorem dX12_qFact_36 : decode cX12_qFact 36 = .ok (.bipush 60, 2) := q_bipush (bat_get dg_X12_qFact_0_0 14 rfl rfl) rfl
theorem dX12_qFact_38 : decode cX12_qFact 38 = .ok (.if_icmp .eq 25, 3) := q_if_icmp_eq (bat_get dg_X12_qFact_0_0 15 rfl rfl) rfl
theorem dX12_qFact_63 : decode cX12_qFact 63 = .ok (.aload_n 0, 1) := q_aload_n0 (bat_get dg_X12_qFact_0_0 16 rfl rfl)
theorem dX12_qFact_64 : decode cX12_qFact 64 = .ok (.dup, 1) := q_dup (bat_get dg_X12_qFact_0_0 17 rfl rfl)
theorem dX12_qFact_65 : decode cX12_qFact 65 = .ok (.getfield 201, 3) := q_getfield (bat_get dg_X12_qFact_0_0 18 rfl rfl) rfl
theorem dX12_qFact_68 : decode cX12_qFact 68 = .ok (.iconst 1, 1) := q_iconst1 (bat_get dg_X12_qFact_0_0 19 rfl rfl)
theorem dX12_qFact_69 : decode cX12_qFact 69 = .ok (.iadd, 1) := q_iadd (bat_get dg_X12_qFact_0_0 20 rfl rfl)
theorem dX12_qFact_70 : decode cX12_qFact 70 = .ok (.putfield 201, 3) := q_putfield (bat_get dg_X12_qFact_0_0 21 rfl rfl) rfl
theorem dX12_qFact_73 : decode cX12_qFact 73 = .ok (.aload_n 0, 1) := q_aload_n0 (bat_get dg_X12_qFact_0_0 22 rfl rfl)
theorem dX12_qFact_74 : decode cX12_qFact 74 = .ok (.invokevirtual 269, 3) := q_invokevirtual (bat_get dg_X12_qFact_0_0 23 rfl rfl) rfl
theorem dX12_qFact_77 : decode cX12_qFact 77 = .ok (.aload_n 0, 1) := q_aload_n0 (bat_get dg_X12_qFact_0_0 24 rfl rfl)
theorem dX12_qFact_78 : decode cX12_qFact 78 = .ok (.iload_n 1, 1) := q_iload_n1 (bat_get dg_X12_qFact_0_0 25 rfl rfl)
theorem dX12_qFact_79 : decode cX12_qFact 79 = .ok (.bipush 60, 2) := q_bipush (bat_get dg_X12_qFact_0_0 26 rfl rfl) rfl
theorem dX12_qFact_81 : decode cX12_qFact 81 = .ok (.if_icmp .ne 8, 3) := q_if_icmp_ne (bat_get dg_X12_qFact_0_0 27 rfl rfl) rfl
theorem dX12_qFact_84 : decode cX12_qFact 84 = .ok (.bipush 7, 2) := q_bipush (bat_get dg_X12_qFact_0_0 28 rfl rfl) rfl
theorem dX12_qFact_86 : decode cX12_qFact 86 = .ok (.goto 16, 3) := q_goto (bat_get dg_X12_qFact_0_0 29 rfl rfl) rfl
theorem dX12_qFact_102 : decode cX12_qFact 102 = .ok (.invokevirtual 498, 3) := q_invokevirtual (bat_get dg_X12_qFact_0_0 30 rfl rfl) rfl
theorem dX12_qFact_105 : decode cX12_qFact 105 = .ok (.return_, 1) := q_return_ (bat_get dg_X12_qFact_0_0 31 rfl rfl)
theorem dX12_qFact_41 : decode cX12_qFact 41 = .ok (.iload_n 1, 1) := q_iload_n1 (bat_get dg_X12_qFact_0_0 32 rfl rfl)
theorem dX12_qFact_42 : decode cX12_qFact 42 = .ok (.bipush 62, 2) := q_bipush (bat_get dg_X12_qFact_0_0 33 rfl rfl) rfl
theorem dX12_qFact_44 : decode cX12_qFact 44 = .ok (.if_icmp .eq 19, 3) := q_if_icmp_eq (bat_get dg_X12_qFact_0_0 34 rfl rfl) rfl
theorem dX12_qFact_89 : decode cX12_qFact 89 = .ok (.iload_n 1, 1) := q_iload_n1 (bat_get dg_X12_qFact_0_0 35 rfl rfl)
theorem dX12_qFact_90 : decode cX12_qFact 90 = .ok (.bipush 62, 2) := q_bipush (bat_get dg_X12_qFact_0_0 36 rfl rfl) rfl
theorem dX12_qFact_92 : decode cX12_qFact 92 = .ok (.if_icmp .ne 8, 3) := q_if_icmp_ne (bat_get dg_X12_qFact_0_0 37 rfl rfl) rfl
theorem dX12_qFact_95 : decode cX12_qFact 95 = .ok (.bipush 8, 2) := q_bipush (bat_get dg_X12_qFact_0_0 38 rfl rfl) rfl
theorem dX12_qFact_97 : decode cX12_qFact 97 = .ok (.goto 5, 3) := q_goto (bat_get dg_X12_qFact_0_0 39 rfl rfl) rfl
theorem dg_X12_qFact_11_47 : bqL cX12_qFact 11 [(36, [27]), (37, [16, 61]), (39, [159, 0, 13]), (89, [16, 9]), (42, [42]), (43, [4]), (44, [42]), (45, [180, 0, 201]), (48, [182, 0, 225]), (51, [177]), (18, [177]), (0, [42]), (1, [16, 13]), (3, [182, 1, 242]), (6, [177])] = true := by decide +kernel
theorem dX12_qFact_47 : decode cX12_qFact 47 = .ok (.iload_n 1, 1) := q_iload_n1 (bat_get dg_X12_qFact_11_47 0 rfl rfl)
theorem dX12_qFact_48 : decode cX12_qFact 48 = .ok (.bipush 61, 2) := q_bipush (bat_get dg_X12_qFact_11_47 1 rfl rfl) rfl
theorem dX12_qFact_50 : decode cX12_qFact 50 = .ok (.if_icmp .eq 13, 3) := q_if_icmp_eq (bat_get dg_X12_qFact_11_47 2 rfl rfl) rfl
theorem dX12_qFact_100 : decode cX12_qFact 100 = .ok (.bipush 9, 2) := q_bipush (bat_get dg_X12_qFact_11_47 3 rfl rfl) rfl
theorem dX12_qFact_53 : decode cX12_qFact 53 = .ok (.aload_n 0, 1) := q_aload_n0 (bat_get dg_X12_qFact_11_47 4 rfl rfl)
theorem dX12_qFact_54 : decode cX12_qFact 54 = .ok (.iconst 1, 1) := q_iconst1 (bat_get dg_X12_qFact_11_47 5 rfl rfl)
theorem dX12_qFact_55 : decode cX12_qFact 55 = .ok (.aload_n 0, 1) := q_aload_n0 (bat_get dg_X12_qFact_11_47 6 rfl rfl)
theorem dX12_qFact_56 : decode cX12_qFact 56 = .ok (.getfield 201, 3) := q_getfield (bat_get dg_X12_qFact_11_47 7 rfl rfl) rfl
theorem dX12_qFact_59 : decode cX12_qFact 59 = .ok (.invokevirtual 225, 3) := q_invokevirtual (bat_get dg_X12_qFact_11_47 8 rfl rfl) rfl
theorem dX12_qFact_62 : decode cX12_qFact 62 = .ok (.return_, 1) := q_return_ (bat_get dg_X12_qFact_11_47 9 rfl rfl)
theorem dX12_qFact_29 : decode cX12_qFact 29 = .ok (.return_, 1) := q_return_ (bat_get dg_X12_qFact_11_47 10 rfl rfl)
theorem dX12_qFact_11 : decode cX12_qFact 11 = .ok (.aload_n 0, 1) := q_aload_n0 (bat_get dg_X12_qFact_11_47 11 rfl rfl)
theorem dX12_qFact_12 : decode cX12_qFact 12 = .ok (.bipush 13, 2) := q_bipush (bat_get dg_X12_qFact_11_47 12 rfl rfl) rfl
theorem dX12_qFact_14 : decode cX12_qFact 14 = .ok (.invokevirtual 498, 3) := q_invokevirtual (bat_get dg_X12_qFact_11_47 13 rfl rfl) rfl
theorem dX12_qFact_17 : decode cX12_qFact 17 = .ok (.return_, 1) := q_return_ (bat_get dg_X12_qFact_11_47 14 rfl rfl)
theorem w_5_222 : (Cond.fieldLink RX12 141 "SameKeeperModel" "allAsked" "[C") ∈ wsL_law := sk_mem (ck_5 _ (List.mem_of_getElem? (i := 222) rfl)) rfl
theorem w_7_27 : (Cond.methodLink RX12 269 yX12_qSums) ∈ wsL_law := sk_mem (ck_7 _ (List.mem_of_getElem? (i := 27) rfl)) rfl
theorem w_7_29 : (Cond.instanceMethod yX12_qSums) ∈ wsL_law := sk_mem (ck_7 _ (List.mem_of_getElem? (i := 29) rfl)) rfl
theorem w_0_54 : (Cond.selects RX12 yX12_qSums yX12_qSums) ∈ wsL_law := sk_mem (ck_0 _ (List.mem_of_getElem? (i := 54) rfl)) rfl
theorem w_8_178 : (Cond.code yX12_qFact cX12_qFact 2 none) ∈ wsL_law := sk_mem (ck_8 _ (List.mem_of_getElem? (i := 178) rfl)) rfl
def om_18_30001 : List Bool := true :: true :: false :: false :: false :: false :: false :: false :: false :: false :: false :: false :: false :: false :: false :: false :: false :: true :: []
def om_18_3fffe : List Bool := true :: true :: true :: true :: true :: true :: true :: true :: true :: true :: true :: true :: true :: true :: true :: true :: true :: false :: []
def om_18_30000 : List Bool := true :: true :: false :: false :: false :: false :: false :: false :: false :: false :: false :: false :: false :: false :: false :: false :: false :: false :: []
def om_18_28000 : List Bool := true :: false :: true :: false :: false :: false :: false :: false :: false :: false :: false :: false :: false :: false :: false :: false :: false :: false :: []
def om_18_20000 : List Bool := true :: false :: false :: false :: false :: false :: false :: false :: false :: false :: false :: false :: false :: false :: false :: false :: false :: false :: []
theorem hd_X12_qSums_0 : skD yX12_qSums 0 := by decide +kernel
theorem dg_X12_qHasSquare_0_0 : bqL cX12_qHasSquare 0 [(0, [3]), (1, [60]), (2, [27]), (3, [42]), (4, [180, 1, 4]), (7, [162, 0, 22]), (29, [3]), (30, [172]), (10, [42]), (11, [180, 0, 183]), (14, [27]), (15, [46]), (16, [16, 25]), (18, [160, 0, 5]), (23, [132, 1, 1]), (26, [167, 255, 232]), (21, [4]), (22, [172])] = true := by decide +kernel
theorem dX12_qHasSquare_0 : decode cX12_qHasSquare 0 = .ok (.iconst 0, 1) := q_iconst0 (bat_get dg_X12_qHasSquare_0_0 0 rfl rfl)
theorem dX12_qHasSquare_1 : decode cX12_qHasSquare 1 = .ok (.istore_n 1, 1) := q_istore_n1 (bat_get dg_X12_qHasSquare_0_0 1 rfl rfl)
theorem dX12_qHasSquare_2 : decode cX12_qHasSquare 2 = .ok (.iload_n 1, 1) := q_iload_n1 (bat_get dg_X12_qHasSquare_0_0 2 rfl rfl)
theorem dX12_qHasSquare_3 : decode cX12_qHasSquare 3 = .ok (.aload_n 0, 1) := q_aload_n0 (bat_get dg_X12_qHasSquare_0_0 3 rfl rfl)
theorem dX12_qHasSquare_4 : decode cX12_qHasSquare 4 = .ok (.getfield 260, 3) := q_getfield (bat_get dg_X12_qHasSquare_0_0 4 rfl rfl) rfl
theorem dX12_qHasSquare_7 : decode cX12_qHasSquare 7 = .ok (.if_icmp .ge 22, 3) := q_if_icmp_ge (bat_get dg_X12_qHasSquare_0_0 5 rfl rfl) rfl
theorem dX12_qHasSquare_29 : decode cX12_qHasSquare 29 = .ok (.iconst 0, 1) := q_iconst0 (bat_get dg_X12_qHasSquare_0_0 6 rfl rfl)
theorem dX12_qHasSquare_30 : decode cX12_qHasSquare 30 = .ok (.ireturn, 1) := q_ireturn (bat_get dg_X12_qHasSquare_0_0 7 rfl rfl)
theorem dX12_qHasSquare_10 : decode cX12_qHasSquare 10 = .ok (.aload_n 0, 1) := q_aload_n0 (bat_get dg_X12_qHasSquare_0_0 8 rfl rfl)
theorem dX12_qHasSquare_11 : decode cX12_qHasSquare 11 = .ok (.getfield 183, 3) := q_getfield (bat_get dg_X12_qHasSquare_0_0 9 rfl rfl) rfl
theorem dX12_qHasSquare_14 : decode cX12_qHasSquare 14 = .ok (.iload_n 1, 1) := q_iload_n1 (bat_get dg_X12_qHasSquare_0_0 10 rfl rfl)
theorem dX12_qHasSquare_15 : decode cX12_qHasSquare 15 = .ok (.iaload, 1) := q_iaload (bat_get dg_X12_qHasSquare_0_0 11 rfl rfl)
theorem dX12_qHasSquare_16 : decode cX12_qHasSquare 16 = .ok (.bipush 25, 2) := q_bipush (bat_get dg_X12_qHasSquare_0_0 12 rfl rfl) rfl
theorem dX12_qHasSquare_18 : decode cX12_qHasSquare 18 = .ok (.if_icmp .ne 5, 3) := q_if_icmp_ne (bat_get dg_X12_qHasSquare_0_0 13 rfl rfl) rfl
theorem dX12_qHasSquare_23 : decode cX12_qHasSquare 23 = .ok (.iinc 1 1, 3) := q_iinc (bat_get dg_X12_qHasSquare_0_0 14 rfl rfl) rfl
theorem dX12_qHasSquare_26 : decode cX12_qHasSquare 26 = .ok (.goto (-24), 3) := q_goto (bat_get dg_X12_qHasSquare_0_0 15 rfl rfl) rfl
theorem dX12_qHasSquare_21 : decode cX12_qHasSquare 21 = .ok (.iconst 1, 1) := q_iconst1 (bat_get dg_X12_qHasSquare_0_0 16 rfl rfl)
theorem dX12_qHasSquare_22 : decode cX12_qHasSquare 22 = .ok (.ireturn, 1) := q_ireturn (bat_get dg_X12_qHasSquare_0_0 17 rfl rfl)
theorem w_8_190 : (Cond.code yX12_qHasSquare cX12_qHasSquare 2 (some .boolean)) ∈ wsL_law := sk_mem (ck_8 _ (List.mem_of_getElem? (i := 190) rfl)) rfl
set_option maxHeartbeats 4000000 in
set_option maxRecDepth 100000 in
theorem c_m_qHasSquare (l : Launch) (D : va_G) (cI cJ cC cZ cS : ClassId) (mm : Nat) (g : Nat → Nat) (ta : Nat) (pa : Nat) (pe : Nat) (pd : Int32) (pb : Nat) (pp : Int32) (pf : Int32) (pg : Int32) (pn : Int32) (rt : Int32) (rn : Int32) (cd : Nat) (sn : Int32) (il : Nat) (tk : Int32) (am : Int32) (at_ : Int32) (aa : Int32) (wt : Int32) (wy : Int64) (rm : Nat) (ud : Nat) (nu : Nat) (sd : Int64) (qn : Nat) (qw : Nat) (qo : Int32) (qb : Nat) (qp : Nat) (qa : Int64) (qi : Nat) (oc : Nat) (qt : Nat → Nat) (hqw : qw ≤ 1700) (hqt : ∀ j, qt j ≤ 100) : skM l yX12_qHasSquare cX12_qHasSquare 2 (some .boolean) 0 0 0 0 D (skT cI cJ cC cZ cS) [.ref mm] [ro_ mm 12 (mo g (nI ta) (nI pa) (nI pe) pd (nI pb) pp pf pg pn rt rn (nI cd) sn (nI il) tk am at_ aa 0 0 (-1) wt wy 0 (nI rm) (nI ud) (nI nu) sd (nI qn) (nI qw) qo (nI qb) (nI qp) qa (nI qi) (nI oc)), ra_N (g 82) cI 1700 qt] (skI D (skT cI cJ cC cZ cS) (fun (r : Int32) (u : va_W) => ∃ (b : Nat), ((b = 0 ∧ noQ qt qw) ∨ (b = 1 ∧ hasQ qt qw)) ∧ r = nI b ∧ u = [ro_ mm 12 (mo g (nI ta) (nI pa) (nI pe) pd (nI pb) pp pf pg pn rt rn (nI cd) sn (nI il) tk am at_ aa 0 0 (-1) wt wy 0 (nI rm) (nI ud) (nI nu) sd (nI qn) (nI qw) qo (nI qb) (nI qp) qa (nI qi) (nI oc)), ra_N (g 82) cI 1700 qt])) := by
  refine skM_of pf_X12_qHasSquare (Nat.le_of_ble_eq_true rfl) ?_
  intro p e s m below meth c A ls E hP hD hl
  refine skE_el E (fun hx hb hr hml hlocks hin hown hts hK hA => ?_)
  have hown : s.vm.findClass RX12 = some m.cls := hown
  have hS : va_S A s.heap s.heap [] := va_S.rf
  have hl : lv_has ls 2 [(0, .ref mm)] := hl
  refine lv_iconst (v := 0) hx hb dX12_qHasSquare_0 ic_0 ?_
  refine lv_istore_n (lv' := [(1, .int 0), (0, .ref mm)]) hx hb dX12_qHasSquare_1 rfl hl (by decide) rfl (fun ls hl => ?_)
  have lp_1 : ∀ (n_2 : Nat) (i : Nat) (H : Heap) (locs : List Loc) (ls : Array Slot), qw - i < n_2 → (i ≤ qw) → (noQ qt i) → va_P D vwCl [ro_ mm 12 (mo g (nI ta) (nI pa) (nI pe) pd (nI pb) pp pf pg pn rt rn (nI cd) sn (nI il) tk am at_ aa 0 0 (-1) wt wy 0 (nI rm) (nI ud) (nI nu) sd (nI qn) (nI qw) qo (nI qb) (nI qp) qa (nI qi) (nI oc)), ra_N (g 82) cI 1700 qt] H → va_D A [ro_ mm 12 (mo g (nI ta) (nI pa) (nI pe) pd (nI pb) pp pf pg pn rt rn (nI cd) sn (nI il) tk am at_ aa 0 0 (-1) wt wy 0 (nI rm) (nI ud) (nI nu) sd (nI qn) (nI qw) qo (nI qb) (nI qp) qa (nI qi) (nI oc)), ra_N (g 82) cI 1700 qt] → va_S A s.heap H locs → lv_has ls 2 [(1, .int (nI i)), (0, .ref mm)] → W p l e { frames := 0, cells := 0, slots := 0, locals := 0 } s m ([.ref mm] : List Value).toArray below meth c H locs 0 0 (MQ below (skI D (skT cI cJ cC cZ cS) (fun (r : Int32) (u : va_W) => ∃ (b : Nat), ((b = 0 ∧ noQ qt qw) ∨ (b = 1 ∧ hasQ qt qw)) ∧ r = nI b ∧ u = [ro_ mm 12 (mo g (nI ta) (nI pa) (nI pe) pd (nI pb) pp pf pg pn rt rn (nI cd) sn (nI il) tk am at_ aa 0 0 (-1) wt wy 0 (nI rm) (nI ud) (nI nu) sd (nI qn) (nI qw) qo (nI qb) (nI qp) qa (nI qi) (nI oc)), ra_N (g 82) cI 1700 qt]) A) ([.ref mm] : List Value).toArray s 0 0 A) (F0 m 2 ls []) := by
    intro n_2
    induction n_2 with
    | zero => intro i H locs ls hm; exact absurd hm (Nat.not_lt_zero _)
    | succ n_2 ih_lp_1 =>
      intro i H locs ls hm hi hnq hP hD hS hl
      refine lv_iload_n hx hb dX12_qHasSquare_2 rfl (lv_at hl 0 rfl) ?_
      refine lv_aload_n hx hb dX12_qHasSquare_3 rfl (lv_at hl 1 rfl) ?_
      refine sk_get (v := .int (nI qw)) (C := RX12) (T := TX12) (N := 92) hx hb hts inlX12 hown hK hP 0 rfl rfl 83 (Nat.le_of_ble_eq_true rfl) w_5_238 rfl dX12_qHasSquare_4 ?_
      refine lv_icmp_ge (tgt := 29) hx hb dX12_qHasSquare_7 (by decide) (fun c_3 => ?_) (fun c_3 => ?_)
      · have c_3 : qw ≤ i := (nle qw i (by omega) (by omega)).mp c_3
        refine lv_iconst (v := 0) hx hb dX12_qHasSquare_29 ic_0 ?_
        exact sk_iret hx hb hr rfl hlocks hK hP hD hS (⟨0, (Or.inl ⟨rfl, noQ_le hnq (by omega)⟩), rfl, rfl⟩) (Nat.le_of_ble_eq_true rfl) (Nat.le_of_ble_eq_true rfl) dX12_qHasSquare_30
      · have c_3 : ¬ (qw ≤ i) := fun h => c_3 ((nle qw i (by omega) (by omega)).mpr h)
        refine lv_aload_n hx hb dX12_qHasSquare_10 rfl (lv_at hl 1 rfl) ?_
        refine sk_get (v := .ref (g 82)) (C := RX12) (T := TX12) (N := 92) hx hb hts inlX12 hown hK hP 0 rfl rfl 82 (Nat.le_of_ble_eq_true rfl) w_5_237 rfl dX12_qHasSquare_11 ?_
        refine lv_iload_n hx hb dX12_qHasSquare_14 rfl (lv_at hl 0 rfl) ?_
        refine va_iald hx hb hK.1 hP 1 0 rfl rfl (vin i 1700 (by omega) (Nat.le_of_ble_eq_true rfl)) dX12_qHasSquare_15 ?_
        refine sk_top (nI (qt i)) (nrd qt i (by omega)) ?_
        have hb_4 := hqt i
        refine lv_bipush (v := 25) hx hb dX12_qHasSquare_16 (by decide) ?_
        refine lv_icmp_ne (tgt := 23) hx hb dX12_qHasSquare_18 (by decide) (fun c_5 => ?_) (fun c_5 => ?_)
        · have c_5 : ¬ (qt i = 25) := fun h => c_5 ((neq (qt i) 25 (by omega) (Nat.le_of_ble_eq_true rfl)).mpr h)
          refine lv_iinc (v := nI (i + 1)) (lv' := [(1, .int (nI (i + 1))), (0, .ref mm)]) hx hb dX12_qHasSquare_23 hl (k := 0) rfl (ninc i 1 (by decide)) (by decide) rfl (fun ls hl => ?_)
          refine lv_goto (tgt := 2) hx hb dX12_qHasSquare_26 (by decide) ?_
          exact ih_lp_1 (i + 1) _ _ _ (by omega) (by omega) (noQ_s hnq (by omega)) hP hD hS (lv_sub hl [0, 1] rfl)
        · have c_5 : qt i = 25 := (neq (qt i) 25 (by omega) (Nat.le_of_ble_eq_true rfl)).mp c_5
          refine lv_iconst (v := 1) hx hb dX12_qHasSquare_21 ic_1 ?_
          exact sk_iret hx hb hr rfl hlocks hK hP hD hS (⟨1, (Or.inr ⟨rfl, hasQ_i (by omega) c_5⟩), rfl, rfl⟩) (Nat.le_of_ble_eq_true rfl) (Nat.le_of_ble_eq_true rfl) dX12_qHasSquare_22
  exact lp_1 (qw - 0 + 1) 0 _ _ _ (Nat.lt_succ_self _) (by omega) noQ_0 hP hD hS (lv_sub hl [0, 1] rfl)
theorem dg_X12_qDropsNots_0_0 : bqL cX12_qDropsNots 0 [(0, [42]), (1, [180, 0, 195]), (4, [154, 0, 29]), (33, [177]), (7, [42]), (8, [16, 12]), (10, [182, 2, 19]), (13, [153, 0, 20]), (16, [42]), (17, [89]), (18, [180, 1, 7]), (21, [4]), (22, [100]), (23, [181, 1, 7]), (26, [42]), (27, [182, 1, 248]), (30, [167, 255, 226])] = true := by decide +kernel
theorem dX12_qDropsNots_0 : decode cX12_qDropsNots 0 = .ok (.aload_n 0, 1) := q_aload_n0 (bat_get dg_X12_qDropsNots_0_0 0 rfl rfl)
theorem dX12_qDropsNots_1 : decode cX12_qDropsNots 1 = .ok (.getfield 195, 3) := q_getfield (bat_get dg_X12_qDropsNots_0_0 1 rfl rfl) rfl
theorem dX12_qDropsNots_4 : decode cX12_qDropsNots 4 = .ok (.ifCond .ne 29, 3) := q_ifCond_ne (bat_get dg_X12_qDropsNots_0_0 2 rfl rfl) rfl
theorem dX12_qDropsNots_33 : decode cX12_qDropsNots 33 = .ok (.return_, 1) := q_return_ (bat_get dg_X12_qDropsNots_0_0 3 rfl rfl)
theorem dX12_qDropsNots_7 : decode cX12_qDropsNots 7 = .ok (.aload_n 0, 1) := q_aload_n0 (bat_get dg_X12_qDropsNots_0_0 4 rfl rfl)
theorem dX12_qDropsNots_8 : decode cX12_qDropsNots 8 = .ok (.bipush 12, 2) := q_bipush (bat_get dg_X12_qDropsNots_0_0 5 rfl rfl) rfl
theorem dX12_qDropsNots_10 : decode cX12_qDropsNots 10 = .ok (.invokevirtual 531, 3) := q_invokevirtual (bat_get dg_X12_qDropsNots_0_0 6 rfl rfl) rfl
theorem dX12_qDropsNots_13 : decode cX12_qDropsNots 13 = .ok (.ifCond .eq 20, 3) := q_ifCond_eq (bat_get dg_X12_qDropsNots_0_0 7 rfl rfl) rfl
theorem dX12_qDropsNots_16 : decode cX12_qDropsNots 16 = .ok (.aload_n 0, 1) := q_aload_n0 (bat_get dg_X12_qDropsNots_0_0 8 rfl rfl)
theorem dX12_qDropsNots_17 : decode cX12_qDropsNots 17 = .ok (.dup, 1) := q_dup (bat_get dg_X12_qDropsNots_0_0 9 rfl rfl)
theorem dX12_qDropsNots_18 : decode cX12_qDropsNots 18 = .ok (.getfield 263, 3) := q_getfield (bat_get dg_X12_qDropsNots_0_0 10 rfl rfl) rfl
theorem dX12_qDropsNots_21 : decode cX12_qDropsNots 21 = .ok (.iconst 1, 1) := q_iconst1 (bat_get dg_X12_qDropsNots_0_0 11 rfl rfl)
theorem dX12_qDropsNots_22 : decode cX12_qDropsNots 22 = .ok (.isub, 1) := q_isub (bat_get dg_X12_qDropsNots_0_0 12 rfl rfl)
theorem dX12_qDropsNots_23 : decode cX12_qDropsNots 23 = .ok (.putfield 263, 3) := q_putfield (bat_get dg_X12_qDropsNots_0_0 13 rfl rfl) rfl
theorem dX12_qDropsNots_26 : decode cX12_qDropsNots 26 = .ok (.aload_n 0, 1) := q_aload_n0 (bat_get dg_X12_qDropsNots_0_0 14 rfl rfl)
theorem dX12_qDropsNots_27 : decode cX12_qDropsNots 27 = .ok (.invokevirtual 504, 3) := q_invokevirtual (bat_get dg_X12_qDropsNots_0_0 15 rfl rfl) rfl
theorem dX12_qDropsNots_30 : decode cX12_qDropsNots 30 = .ok (.goto (-30), 3) := q_goto (bat_get dg_X12_qDropsNots_0_0 16 rfl rfl) rfl
theorem w_8_182 : (Cond.code yX12_qDropsNots cX12_qDropsNots 1 none) ∈ wsL_law := sk_mem (ck_8 _ (List.mem_of_getElem? (i := 182) rfl)) rfl
theorem dg_X12_qGoesOnTest_0_0 : bqL cX12_qGoesOnTest 0 [(0, [42]), (1, [180, 0, 195]), (4, [154, 0, 72]), (76, [42]), (77, [42]), (78, [180, 0, 135]), (81, [182, 0, 222]), (84, [153, 0, 42]), (126, [42]), (127, [42]), (128, [180, 0, 138]), (131, [182, 0, 222]), (134, [153, 0, 51]), (185, [42]), (186, [180, 0, 195]), (189, [154, 0, 19]), (208, [3]), (209, [172]), (192, [42]), (193, [182, 2, 37]), (196, [153, 0, 12]), (199, [42]), (200, [4]), (201, [42]), (202, [180, 0, 201]), (205, [182, 0, 225]), (137, [42]), (138, [16, 10]), (140, [182, 2, 19]), (143, [154, 0, 12]), (155, [42]), (156, [182, 1, 248]), (159, [167, 255, 234]), (146, [42]), (147, [16, 11]), (149, [182, 2, 19]), (152, [153, 0, 10]), (162, [42]), (163, [180, 0, 183]), (166, [42])] = true := by decide +kernel
theorem dX12_qGoesOnTest_0 : decode cX12_qGoesOnTest 0 = .ok (.aload_n 0, 1) := q_aload_n0 (bat_get dg_X12_qGoesOnTest_0_0 0 rfl rfl)
theorem dX12_qGoesOnTest_1 : decode cX12_qGoesOnTest 1 = .ok (.getfield 195, 3) := q_getfield (bat_get dg_X12_qGoesOnTest_0_0 1 rfl rfl) rfl
theorem dX12_qGoesOnTest_4 : decode cX12_qGoesOnTest 4 = .ok (.ifCond .ne 72, 3) := q_ifCond_ne (bat_get dg_X12_qGoesOnTest_0_0 2 rfl rfl) rfl
theorem dX12_qGoesOnTest_76 : decode cX12_qGoesOnTest 76 = .ok (.aload_n 0, 1) := q_aload_n0 (bat_get dg_X12_qGoesOnTest_0_0 3 rfl rfl)
theorem dX12_qGoesOnTest_77 : decode cX12_qGoesOnTest 77 = .ok (.aload_n 0, 1) := q_aload_n0 (bat_get dg_X12_qGoesOnTest_0_0 4 rfl rfl)
theorem dX12_qGoesOnTest_78 : decode cX12_qGoesOnTest 78 = .ok (.getfield 135, 3) := q_getfield (bat_get dg_X12_qGoesOnTest_0_0 5 rfl rfl) rfl
theorem dX12_qGoesOnTest_81 : decode cX12_qGoesOnTest 81 = .ok (.invokevirtual 222, 3) := q_invokevirtual (bat_get dg_X12_qGoesOnTest_0_0 6 rfl rfl) rfl
theorem dX12_qGoesOnTest_84 : decode cX12_qGoesOnTest 84 = .ok (.ifCond .eq 42, 3) := q_ifCond_eq (bat_get dg_X12_qGoesOnTest_0_0 7 rfl rfl) rfl
theorem dX12_qGoesOnTest_126 : decode cX12_qGoesOnTest 126 = .ok (.aload_n 0, 1) := q_aload_n0 (bat_get dg_X12_qGoesOnTest_0_0 8 rfl rfl)
theorem dX12_qGoesOnTest_127 : decode cX12_qGoesOnTest 127 = .ok (.aload_n 0, 1) := q_aload_n0 (bat_get dg_X12_qGoesOnTest_0_0 9 rfl rfl)
theorem dX12_qGoesOnTest_128 : decode cX12_qGoesOnTest 128 = .ok (.getfield 138, 3) := q_getfield (bat_get dg_X12_qGoesOnTest_0_0 10 rfl rfl) rfl
theorem dX12_qGoesOnTest_131 : decode cX12_qGoesOnTest 131 = .ok (.invokevirtual 222, 3) := q_invokevirtual (bat_get dg_X12_qGoesOnTest_0_0 11 rfl rfl) rfl
theorem dX12_qGoesOnTest_134 : decode cX12_qGoesOnTest 134 = .ok (.ifCond .eq 51, 3) := q_ifCond_eq (bat_get dg_X12_qGoesOnTest_0_0 12 rfl rfl) rfl
theorem dX12_qGoesOnTest_185 : decode cX12_qGoesOnTest 185 = .ok (.aload_n 0, 1) := q_aload_n0 (bat_get dg_X12_qGoesOnTest_0_0 13 rfl rfl)
theorem dX12_qGoesOnTest_186 : decode cX12_qGoesOnTest 186 = .ok (.getfield 195, 3) := q_getfield (bat_get dg_X12_qGoesOnTest_0_0 14 rfl rfl) rfl
theorem dX12_qGoesOnTest_189 : decode cX12_qGoesOnTest 189 = .ok (.ifCond .ne 19, 3) := q_ifCond_ne (bat_get dg_X12_qGoesOnTest_0_0 15 rfl rfl) rfl
theorem dX12_qGoesOnTest_208 : decode cX12_qGoesOnTest 208 = .ok (.iconst 0, 1) := q_iconst0 (bat_get dg_X12_qGoesOnTest_0_0 16 rfl rfl)
theorem dX12_qGoesOnTest_209 : decode cX12_qGoesOnTest 209 = .ok (.ireturn, 1) := q_ireturn (bat_get dg_X12_qGoesOnTest_0_0 17 rfl rfl)
theorem dX12_qGoesOnTest_192 : decode cX12_qGoesOnTest 192 = .ok (.aload_n 0, 1) := q_aload_n0 (bat_get dg_X12_qGoesOnTest_0_0 18 rfl rfl)
theorem dX12_qGoesOnTest_193 : decode cX12_qGoesOnTest 193 = .ok (.invokevirtual 549, 3) := q_invokevirtual (bat_get dg_X12_qGoesOnTest_0_0 19 rfl rfl) rfl
theorem dX12_qGoesOnTest_196 : decode cX12_qGoesOnTest 196 = .ok (.ifCond .eq 12, 3) := q_ifCond_eq (bat_get dg_X12_qGoesOnTest_0_0 20 rfl rfl) rfl
theorem dX12_qGoesOnTest_199 : decode cX12_qGoesOnTest 199 = .ok (.aload_n 0, 1) := q_aload_n0 (bat_get dg_X12_qGoesOnTest_0_0 21 rfl rfl)
theorem dX12_qGoesOnTest_200 : decode cX12_qGoesOnTest 200 = .ok (.iconst 1, 1) := q_iconst1 (bat_get dg_X12_qGoesOnTest_0_0 22 rfl rfl)
theorem dX12_qGoesOnTest_201 : decode cX12_qGoesOnTest 201 = .ok (.aload_n 0, 1) := q_aload_n0 (bat_get dg_X12_qGoesOnTest_0_0 23 rfl rfl)
theorem dX12_qGoesOnTest_202 : decode cX12_qGoesOnTest 202 = .ok (.getfield 201, 3) := q_getfield (bat_get dg_X12_qGoesOnTest_0_0 24 rfl rfl) rfl
theorem dX12_qGoesOnTest_205 : decode cX12_qGoesOnTest 205 = .ok (.invokevirtual 225, 3) := q_invokevirtual (bat_get dg_X12_qGoesOnTest_0_0 25 rfl rfl) rfl
theorem dX12_qGoesOnTest_137 : decode cX12_qGoesOnTest 137 = .ok (.aload_n 0, 1) := q_aload_n0 (bat_get dg_X12_qGoesOnTest_0_0 26 rfl rfl)
theorem dX12_qGoesOnTest_138 : decode cX12_qGoesOnTest 138 = .ok (.bipush 10, 2) := q_bipush (bat_get dg_X12_qGoesOnTest_0_0 27 rfl rfl) rfl
theorem dX12_qGoesOnTest_140 : decode cX12_qGoesOnTest 140 = .ok (.invokevirtual 531, 3) := q_invokevirtual (bat_get dg_X12_qGoesOnTest_0_0 28 rfl rfl) rfl
theorem dX12_qGoesOnTest_143 : decode cX12_qGoesOnTest 143 = .ok (.ifCond .ne 12, 3) := q_ifCond_ne (bat_get dg_X12_qGoesOnTest_0_0 29 rfl rfl) rfl
theorem dX12_qGoesOnTest_155 : decode cX12_qGoesOnTest 155 = .ok (.aload_n 0, 1) := q_aload_n0 (bat_get dg_X12_qGoesOnTest_0_0 30 rfl rfl)
theorem dX12_qGoesOnTest_156 : decode cX12_qGoesOnTest 156 = .ok (.invokevirtual 504, 3) := q_invokevirtual (bat_get dg_X12_qGoesOnTest_0_0 31 rfl rfl) rfl
theorem dX12_qGoesOnTest_159 : decode cX12_qGoesOnTest 159 = .ok (.goto (-22), 3) := q_goto (bat_get dg_X12_qGoesOnTest_0_0 32 rfl rfl) rfl
theorem dX12_qGoesOnTest_146 : decode cX12_qGoesOnTest 146 = .ok (.aload_n 0, 1) := q_aload_n0 (bat_get dg_X12_qGoesOnTest_0_0 33 rfl rfl)
theorem dX12_qGoesOnTest_147 : decode cX12_qGoesOnTest 147 = .ok (.bipush 11, 2) := q_bipush (bat_get dg_X12_qGoesOnTest_0_0 34 rfl rfl) rfl
theorem dX12_qGoesOnTest_149 : decode cX12_qGoesOnTest 149 = .ok (.invokevirtual 531, 3) := q_invokevirtual (bat_get dg_X12_qGoesOnTest_0_0 35 rfl rfl) rfl
theorem dX12_qGoesOnTest_152 : decode cX12_qGoesOnTest 152 = .ok (.ifCond .eq 10, 3) := q_ifCond_eq (bat_get dg_X12_qGoesOnTest_0_0 36 rfl rfl) rfl
theorem dX12_qGoesOnTest_162 : decode cX12_qGoesOnTest 162 = .ok (.aload_n 0, 1) := q_aload_n0 (bat_get dg_X12_qGoesOnTest_0_0 37 rfl rfl)
theorem dX12_qGoesOnTest_163 : decode cX12_qGoesOnTest 163 = .ok (.getfield 183, 3) := q_getfield (bat_get dg_X12_qGoesOnTest_0_0 38 rfl rfl) rfl
theorem dX12_qGoesOnTest_166 : decode cX12_qGoesOnTest 166 = .ok (.aload_n 0, 1) := q_aload_n0 (bat_get dg_X12_qGoesOnTest_0_0 39 rfl rfl)
theorem dg_X12_qGoesOnTest_7_167 : bqL cX12_qGoesOnTest 7 [(160, [180, 1, 4]), (163, [16, 11]), (165, [79]), (166, [42]), (167, [89]), (168, [180, 1, 4]), (171, [4]), (172, [96]), (173, [181, 1, 4]), (176, [4]), (177, [172]), (80, [42]), (81, [16, 10]), (83, [182, 2, 19]), (86, [153, 0, 10]), (96, [42]), (97, [180, 0, 183]), (100, [42]), (101, [180, 1, 4]), (104, [16, 10]), (106, [79]), (107, [42]), (108, [89]), (109, [180, 1, 4]), (112, [4]), (113, [96]), (114, [181, 1, 4]), (117, [4]), (118, [172]), (89, [42]), (90, [182, 1, 248]), (93, [167, 255, 243]), (0, [42]), (1, [182, 0, 207]), (4, [16, 93]), (6, [160, 0, 63]), (9, [42]), (10, [182, 2, 37]), (13, [153, 0, 56]), (16, [42])] = true := by decide +kernel
theorem dX12_qGoesOnTest_167 : decode cX12_qGoesOnTest 167 = .ok (.getfield 260, 3) := q_getfield (bat_get dg_X12_qGoesOnTest_7_167 0 rfl rfl) rfl
theorem dX12_qGoesOnTest_170 : decode cX12_qGoesOnTest 170 = .ok (.bipush 11, 2) := q_bipush (bat_get dg_X12_qGoesOnTest_7_167 1 rfl rfl) rfl
theorem dX12_qGoesOnTest_172 : decode cX12_qGoesOnTest 172 = .ok (.iastore, 1) := q_iastore (bat_get dg_X12_qGoesOnTest_7_167 2 rfl rfl)
theorem dX12_qGoesOnTest_173 : decode cX12_qGoesOnTest 173 = .ok (.aload_n 0, 1) := q_aload_n0 (bat_get dg_X12_qGoesOnTest_7_167 3 rfl rfl)
theorem dX12_qGoesOnTest_174 : decode cX12_qGoesOnTest 174 = .ok (.dup, 1) := q_dup (bat_get dg_X12_qGoesOnTest_7_167 4 rfl rfl)
theorem dX12_qGoesOnTest_175 : decode cX12_qGoesOnTest 175 = .ok (.getfield 260, 3) := q_getfield (bat_get dg_X12_qGoesOnTest_7_167 5 rfl rfl) rfl
theorem dX12_qGoesOnTest_178 : decode cX12_qGoesOnTest 178 = .ok (.iconst 1, 1) := q_iconst1 (bat_get dg_X12_qGoesOnTest_7_167 6 rfl rfl)
theorem dX12_qGoesOnTest_179 : decode cX12_qGoesOnTest 179 = .ok (.iadd, 1) := q_iadd (bat_get dg_X12_qGoesOnTest_7_167 7 rfl rfl)
theorem dX12_qGoesOnTest_180 : decode cX12_qGoesOnTest 180 = .ok (.putfield 260, 3) := q_putfield (bat_get dg_X12_qGoesOnTest_7_167 8 rfl rfl) rfl
theorem dX12_qGoesOnTest_183 : decode cX12_qGoesOnTest 183 = .ok (.iconst 1, 1) := q_iconst1 (bat_get dg_X12_qGoesOnTest_7_167 9 rfl rfl)
theorem dX12_qGoesOnTest_184 : decode cX12_qGoesOnTest 184 = .ok (.ireturn, 1) := q_ireturn (bat_get dg_X12_qGoesOnTest_7_167 10 rfl rfl)
theorem dX12_qGoesOnTest_87 : decode cX12_qGoesOnTest 87 = .ok (.aload_n 0, 1) := q_aload_n0 (bat_get dg_X12_qGoesOnTest_7_167 11 rfl rfl)
theorem dX12_qGoesOnTest_88 : decode cX12_qGoesOnTest 88 = .ok (.bipush 10, 2) := q_bipush (bat_get dg_X12_qGoesOnTest_7_167 12 rfl rfl) rfl
theorem dX12_qGoesOnTest_90 : decode cX12_qGoesOnTest 90 = .ok (.invokevirtual 531, 3) := q_invokevirtual (bat_get dg_X12_qGoesOnTest_7_167 13 rfl rfl) rfl
theorem dX12_qGoesOnTest_93 : decode cX12_qGoesOnTest 93 = .ok (.ifCond .eq 10, 3) := q_ifCond_eq (bat_get dg_X12_qGoesOnTest_7_167 14 rfl rfl) rfl
theorem dX12_qGoesOnTest_103 : decode cX12_qGoesOnTest 103 = .ok (.aload_n 0, 1) := q_aload_n0 (bat_get dg_X12_qGoesOnTest_7_167 15 rfl rfl)
theorem dX12_qGoesOnTest_104 : decode cX12_qGoesOnTest 104 = .ok (.getfield 183, 3) := q_getfield (bat_get dg_X12_qGoesOnTest_7_167 16 rfl rfl) rfl
theorem dX12_qGoesOnTest_107 : decode cX12_qGoesOnTest 107 = .ok (.aload_n 0, 1) := q_aload_n0 (bat_get dg_X12_qGoesOnTest_7_167 17 rfl rfl)
theorem dX12_qGoesOnTest_108 : decode cX12_qGoesOnTest 108 = .ok (.getfield 260, 3) := q_getfield (bat_get dg_X12_qGoesOnTest_7_167 18 rfl rfl) rfl
theorem dX12_qGoesOnTest_111 : decode cX12_qGoesOnTest 111 = .ok (.bipush 10, 2) := q_bipush (bat_get dg_X12_qGoesOnTest_7_167 19 rfl rfl) rfl
theorem dX12_qGoesOnTest_113 : decode cX12_qGoesOnTest 113 = .ok (.iastore, 1) := q_iastore (bat_get dg_X12_qGoesOnTest_7_167 20 rfl rfl)
theorem dX12_qGoesOnTest_114 : decode cX12_qGoesOnTest 114 = .ok (.aload_n 0, 1) := q_aload_n0 (bat_get dg_X12_qGoesOnTest_7_167 21 rfl rfl)
theorem dX12_qGoesOnTest_115 : decode cX12_qGoesOnTest 115 = .ok (.dup, 1) := q_dup (bat_get dg_X12_qGoesOnTest_7_167 22 rfl rfl)
theorem dX12_qGoesOnTest_116 : decode cX12_qGoesOnTest 116 = .ok (.getfield 260, 3) := q_getfield (bat_get dg_X12_qGoesOnTest_7_167 23 rfl rfl) rfl
theorem dX12_qGoesOnTest_119 : decode cX12_qGoesOnTest 119 = .ok (.iconst 1, 1) := q_iconst1 (bat_get dg_X12_qGoesOnTest_7_167 24 rfl rfl)
theorem dX12_qGoesOnTest_120 : decode cX12_qGoesOnTest 120 = .ok (.iadd, 1) := q_iadd (bat_get dg_X12_qGoesOnTest_7_167 25 rfl rfl)
theorem dX12_qGoesOnTest_121 : decode cX12_qGoesOnTest 121 = .ok (.putfield 260, 3) := q_putfield (bat_get dg_X12_qGoesOnTest_7_167 26 rfl rfl) rfl
theorem dX12_qGoesOnTest_124 : decode cX12_qGoesOnTest 124 = .ok (.iconst 1, 1) := q_iconst1 (bat_get dg_X12_qGoesOnTest_7_167 27 rfl rfl)
theorem dX12_qGoesOnTest_125 : decode cX12_qGoesOnTest 125 = .ok (.ireturn, 1) := q_ireturn (bat_get dg_X12_qGoesOnTest_7_167 28 rfl rfl)
theorem dX12_qGoesOnTest_96 : decode cX12_qGoesOnTest 96 = .ok (.aload_n 0, 1) := q_aload_n0 (bat_get dg_X12_qGoesOnTest_7_167 29 rfl rfl)
theorem dX12_qGoesOnTest_97 : decode cX12_qGoesOnTest 97 = .ok (.invokevirtual 504, 3) := q_invokevirtual (bat_get dg_X12_qGoesOnTest_7_167 30 rfl rfl) rfl
theorem dX12_qGoesOnTest_100 : decode cX12_qGoesOnTest 100 = .ok (.goto (-13), 3) := q_goto (bat_get dg_X12_qGoesOnTest_7_167 31 rfl rfl) rfl
theorem dX12_qGoesOnTest_7 : decode cX12_qGoesOnTest 7 = .ok (.aload_n 0, 1) := q_aload_n0 (bat_get dg_X12_qGoesOnTest_7_167 32 rfl rfl)
theorem dX12_qGoesOnTest_8 : decode cX12_qGoesOnTest 8 = .ok (.invokevirtual 207, 3) := q_invokevirtual (bat_get dg_X12_qGoesOnTest_7_167 33 rfl rfl) rfl
theorem dX12_qGoesOnTest_11 : decode cX12_qGoesOnTest 11 = .ok (.bipush 93, 2) := q_bipush (bat_get dg_X12_qGoesOnTest_7_167 34 rfl rfl) rfl
theorem dX12_qGoesOnTest_13 : decode cX12_qGoesOnTest 13 = .ok (.if_icmp .ne 63, 3) := q_if_icmp_ne (bat_get dg_X12_qGoesOnTest_7_167 35 rfl rfl) rfl
theorem dX12_qGoesOnTest_16 : decode cX12_qGoesOnTest 16 = .ok (.aload_n 0, 1) := q_aload_n0 (bat_get dg_X12_qGoesOnTest_7_167 36 rfl rfl)
theorem dX12_qGoesOnTest_17 : decode cX12_qGoesOnTest 17 = .ok (.invokevirtual 549, 3) := q_invokevirtual (bat_get dg_X12_qGoesOnTest_7_167 37 rfl rfl) rfl
theorem dX12_qGoesOnTest_20 : decode cX12_qGoesOnTest 20 = .ok (.ifCond .eq 56, 3) := q_ifCond_eq (bat_get dg_X12_qGoesOnTest_7_167 38 rfl rfl) rfl
theorem dX12_qGoesOnTest_23 : decode cX12_qGoesOnTest 23 = .ok (.aload_n 0, 1) := q_aload_n0 (bat_get dg_X12_qGoesOnTest_7_167 39 rfl rfl)
theorem dg_X12_qGoesOnTest_24_24 : bqL cX12_qGoesOnTest 24 [(0, [89]), (1, [180, 0, 201]), (4, [4]), (5, [96]), (6, [181, 0, 201]), (9, [42]), (10, [16, 25]), (12, [182, 2, 19]), (15, [154, 0, 10]), (25, [42]), (26, [89]), (27, [180, 1, 4]), (30, [4]), (31, [100]), (32, [181, 1, 4]), (35, [42]), (36, [89]), (37, [180, 1, 7]), (40, [4]), (41, [100]), (42, [181, 1, 7]), (45, [42]), (46, [182, 2, 31]), (49, [167, 255, 183]), (18, [42]), (19, [182, 1, 248]), (22, [167, 255, 243])] = true := by decide +kernel
theorem dX12_qGoesOnTest_24 : decode cX12_qGoesOnTest 24 = .ok (.dup, 1) := q_dup (bat_get dg_X12_qGoesOnTest_24_24 0 rfl rfl)
theorem dX12_qGoesOnTest_25 : decode cX12_qGoesOnTest 25 = .ok (.getfield 201, 3) := q_getfield (bat_get dg_X12_qGoesOnTest_24_24 1 rfl rfl) rfl
theorem dX12_qGoesOnTest_28 : decode cX12_qGoesOnTest 28 = .ok (.iconst 1, 1) := q_iconst1 (bat_get dg_X12_qGoesOnTest_24_24 2 rfl rfl)
theorem dX12_qGoesOnTest_29 : decode cX12_qGoesOnTest 29 = .ok (.iadd, 1) := q_iadd (bat_get dg_X12_qGoesOnTest_24_24 3 rfl rfl)
theorem dX12_qGoesOnTest_30 : decode cX12_qGoesOnTest 30 = .ok (.putfield 201, 3) := q_putfield (bat_get dg_X12_qGoesOnTest_24_24 4 rfl rfl) rfl
theorem dX12_qGoesOnTest_33 : decode cX12_qGoesOnTest 33 = .ok (.aload_n 0, 1) := q_aload_n0 (bat_get dg_X12_qGoesOnTest_24_24 5 rfl rfl)
theorem dX12_qGoesOnTest_34 : decode cX12_qGoesOnTest 34 = .ok (.bipush 25, 2) := q_bipush (bat_get dg_X12_qGoesOnTest_24_24 6 rfl rfl) rfl
theorem dX12_qGoesOnTest_36 : decode cX12_qGoesOnTest 36 = .ok (.invokevirtual 531, 3) := q_invokevirtual (bat_get dg_X12_qGoesOnTest_24_24 7 rfl rfl) rfl
theorem dX12_qGoesOnTest_39 : decode cX12_qGoesOnTest 39 = .ok (.ifCond .ne 10, 3) := q_ifCond_ne (bat_get dg_X12_qGoesOnTest_24_24 8 rfl rfl) rfl
theorem dX12_qGoesOnTest_49 : decode cX12_qGoesOnTest 49 = .ok (.aload_n 0, 1) := q_aload_n0 (bat_get dg_X12_qGoesOnTest_24_24 9 rfl rfl)
theorem dX12_qGoesOnTest_50 : decode cX12_qGoesOnTest 50 = .ok (.dup, 1) := q_dup (bat_get dg_X12_qGoesOnTest_24_24 10 rfl rfl)
theorem dX12_qGoesOnTest_51 : decode cX12_qGoesOnTest 51 = .ok (.getfield 260, 3) := q_getfield (bat_get dg_X12_qGoesOnTest_24_24 11 rfl rfl) rfl
theorem dX12_qGoesOnTest_54 : decode cX12_qGoesOnTest 54 = .ok (.iconst 1, 1) := q_iconst1 (bat_get dg_X12_qGoesOnTest_24_24 12 rfl rfl)
theorem dX12_qGoesOnTest_55 : decode cX12_qGoesOnTest 55 = .ok (.isub, 1) := q_isub (bat_get dg_X12_qGoesOnTest_24_24 13 rfl rfl)
theorem dX12_qGoesOnTest_56 : decode cX12_qGoesOnTest 56 = .ok (.putfield 260, 3) := q_putfield (bat_get dg_X12_qGoesOnTest_24_24 14 rfl rfl) rfl
theorem dX12_qGoesOnTest_59 : decode cX12_qGoesOnTest 59 = .ok (.aload_n 0, 1) := q_aload_n0 (bat_get dg_X12_qGoesOnTest_24_24 15 rfl rfl)
theorem dX12_qGoesOnTest_60 : decode cX12_qGoesOnTest 60 = .ok (.dup, 1) := q_dup (bat_get dg_X12_qGoesOnTest_24_24 16 rfl rfl)
theorem dX12_qGoesOnTest_61 : decode cX12_qGoesOnTest 61 = .ok (.getfield 263, 3) := q_getfield (bat_get dg_X12_qGoesOnTest_24_24 17 rfl rfl) rfl
theorem dX12_qGoesOnTest_64 : decode cX12_qGoesOnTest 64 = .ok (.iconst 1, 1) := q_iconst1 (bat_get dg_X12_qGoesOnTest_24_24 18 rfl rfl)
theorem dX12_qGoesOnTest_65 : decode cX12_qGoesOnTest 65 = .ok (.isub, 1) := q_isub (bat_get dg_X12_qGoesOnTest_24_24 19 rfl rfl)
theorem dX12_qGoesOnTest_66 : decode cX12_qGoesOnTest 66 = .ok (.putfield 263, 3) := q_putfield (bat_get dg_X12_qGoesOnTest_24_24 20 rfl rfl) rfl
theorem dX12_qGoesOnTest_69 : decode cX12_qGoesOnTest 69 = .ok (.aload_n 0, 1) := q_aload_n0 (bat_get dg_X12_qGoesOnTest_24_24 21 rfl rfl)
theorem dX12_qGoesOnTest_70 : decode cX12_qGoesOnTest 70 = .ok (.invokevirtual 543, 3) := q_invokevirtual (bat_get dg_X12_qGoesOnTest_24_24 22 rfl rfl) rfl
theorem dX12_qGoesOnTest_73 : decode cX12_qGoesOnTest 73 = .ok (.goto (-73), 3) := q_goto (bat_get dg_X12_qGoesOnTest_24_24 23 rfl rfl) rfl
theorem dX12_qGoesOnTest_42 : decode cX12_qGoesOnTest 42 = .ok (.aload_n 0, 1) := q_aload_n0 (bat_get dg_X12_qGoesOnTest_24_24 24 rfl rfl)
theorem dX12_qGoesOnTest_43 : decode cX12_qGoesOnTest 43 = .ok (.invokevirtual 504, 3) := q_invokevirtual (bat_get dg_X12_qGoesOnTest_24_24 25 rfl rfl) rfl
theorem dX12_qGoesOnTest_46 : decode cX12_qGoesOnTest 46 = .ok (.goto (-13), 3) := q_goto (bat_get dg_X12_qGoesOnTest_24_24 26 rfl rfl) rfl
theorem w_5_220 : (Cond.fieldLink RX12 135 "SameKeeperModel" "andAsked" "[C") ∈ wsL_law := sk_mem (ck_5 _ (List.mem_of_getElem? (i := 220) rfl)) rfl
theorem w_5_221 : (Cond.fieldLink RX12 138 "SameKeeperModel" "orAsked" "[C") ∈ wsL_law := sk_mem (ck_5 _ (List.mem_of_getElem? (i := 221) rfl)) rfl
theorem w_8_187 : (Cond.methodLink RX12 549 yX12_qHasSquare) ∈ wsL_law := sk_mem (ck_8 _ (List.mem_of_getElem? (i := 187) rfl)) rfl
theorem w_8_189 : (Cond.instanceMethod yX12_qHasSquare) ∈ wsL_law := sk_mem (ck_8 _ (List.mem_of_getElem? (i := 189) rfl)) rfl
theorem w_0_115 : (Cond.selects RX12 yX12_qHasSquare yX12_qHasSquare) ∈ wsL_law := sk_mem (ck_0 _ (List.mem_of_getElem? (i := 115) rfl)) rfl
theorem w_8_179 : (Cond.methodLink RX12 543 yX12_qDropsNots) ∈ wsL_law := sk_mem (ck_8 _ (List.mem_of_getElem? (i := 179) rfl)) rfl
theorem w_8_181 : (Cond.instanceMethod yX12_qDropsNots) ∈ wsL_law := sk_mem (ck_8 _ (List.mem_of_getElem? (i := 181) rfl)) rfl
theorem w_0_113 : (Cond.selects RX12 yX12_qDropsNots yX12_qDropsNots) ∈ wsL_law := sk_mem (ck_0 _ (List.mem_of_getElem? (i := 113) rfl)) rfl
theorem w_8_186 : (Cond.code yX12_qGoesOnTest cX12_qGoesOnTest 1 (some .boolean)) ∈ wsL_law := sk_mem (ck_8 _ (List.mem_of_getElem? (i := 186) rfl)) rfl
def om_6_32 : List Bool := true :: true :: false :: false :: true :: false :: []
def om_6_31 : List Bool := true :: true :: false :: false :: false :: true :: []
def om_6_2c : List Bool := true :: false :: true :: true :: false :: false :: []
theorem hd_X12_qHasSquare_0 : skD yX12_qHasSquare 0 := by decide +kernel
theorem hd_X12_qDropsNots_0 : skD yX12_qDropsNots 0 := by decide +kernel
theorem dg_X12_qTest_0_0 : bqL cX12_qTest 0 [(0, [4]), (1, [60]), (2, [27]), (3, [153, 0, 107]), (110, [42]), (111, [180, 0, 195]), (114, [154, 0, 17]), (131, [177]), (117, [42]), (118, [180, 1, 4]), (121, [158, 0, 10]), (124, [42]), (125, [182, 1, 248]), (128, [167, 255, 238]), (6, [42]), (7, [180, 0, 195]), (10, [154, 0, 100]), (13, [42]), (14, [182, 0, 207]), (17, [61]), (18, [28]), (19, [16, 91]), (21, [160, 0, 26]), (47, [42]), (48, [42]), (49, [180, 0, 132]), (52, [182, 0, 218]), (55, [153, 0, 24]), (79, [42]), (80, [182, 2, 28]), (83, [42]), (84, [182, 2, 31]), (87, [42]), (88, [180, 0, 195]), (91, [154, 0, 14]), (105, [3]), (106, [60]), (107, [167, 255, 151]), (94, [42]), (95, [182, 2, 34])] = true := by decide +kernel
theorem dX12_qTest_0 : decode cX12_qTest 0 = .ok (.iconst 1, 1) := q_iconst1 (bat_get dg_X12_qTest_0_0 0 rfl rfl)
theorem dX12_qTest_1 : decode cX12_qTest 1 = .ok (.istore_n 1, 1) := q_istore_n1 (bat_get dg_X12_qTest_0_0 1 rfl rfl)
theorem dX12_qTest_2 : decode cX12_qTest 2 = .ok (.iload_n 1, 1) := q_iload_n1 (bat_get dg_X12_qTest_0_0 2 rfl rfl)
theorem dX12_qTest_3 : decode cX12_qTest 3 = .ok (.ifCond .eq 107, 3) := q_ifCond_eq (bat_get dg_X12_qTest_0_0 3 rfl rfl) rfl
theorem dX12_qTest_110 : decode cX12_qTest 110 = .ok (.aload_n 0, 1) := q_aload_n0 (bat_get dg_X12_qTest_0_0 4 rfl rfl)
theorem dX12_qTest_111 : decode cX12_qTest 111 = .ok (.getfield 195, 3) := q_getfield (bat_get dg_X12_qTest_0_0 5 rfl rfl) rfl
theorem dX12_qTest_114 : decode cX12_qTest 114 = .ok (.ifCond .ne 17, 3) := q_ifCond_ne (bat_get dg_X12_qTest_0_0 6 rfl rfl) rfl
theorem dX12_qTest_131 : decode cX12_qTest 131 = .ok (.return_, 1) := q_return_ (bat_get dg_X12_qTest_0_0 7 rfl rfl)
theorem dX12_qTest_117 : decode cX12_qTest 117 = .ok (.aload_n 0, 1) := q_aload_n0 (bat_get dg_X12_qTest_0_0 8 rfl rfl)
theorem dX12_qTest_118 : decode cX12_qTest 118 = .ok (.getfield 260, 3) := q_getfield (bat_get dg_X12_qTest_0_0 9 rfl rfl) rfl
theorem dX12_qTest_121 : decode cX12_qTest 121 = .ok (.ifCond .le 10, 3) := q_ifCond_le (bat_get dg_X12_qTest_0_0 10 rfl rfl) rfl
theorem dX12_qTest_124 : decode cX12_qTest 124 = .ok (.aload_n 0, 1) := q_aload_n0 (bat_get dg_X12_qTest_0_0 11 rfl rfl)
theorem dX12_qTest_125 : decode cX12_qTest 125 = .ok (.invokevirtual 504, 3) := q_invokevirtual (bat_get dg_X12_qTest_0_0 12 rfl rfl) rfl
theorem dX12_qTest_128 : decode cX12_qTest 128 = .ok (.goto (-18), 3) := q_goto (bat_get dg_X12_qTest_0_0 13 rfl rfl) rfl
theorem dX12_qTest_6 : decode cX12_qTest 6 = .ok (.aload_n 0, 1) := q_aload_n0 (bat_get dg_X12_qTest_0_0 14 rfl rfl)
theorem dX12_qTest_7 : decode cX12_qTest 7 = .ok (.getfield 195, 3) := q_getfield (bat_get dg_X12_qTest_0_0 15 rfl rfl) rfl
theorem dX12_qTest_10 : decode cX12_qTest 10 = .ok (.ifCond .ne 100, 3) := q_ifCond_ne (bat_get dg_X12_qTest_0_0 16 rfl rfl) rfl
theorem dX12_qTest_13 : decode cX12_qTest 13 = .ok (.aload_n 0, 1) := q_aload_n0 (bat_get dg_X12_qTest_0_0 17 rfl rfl)
theorem dX12_qTest_14 : decode cX12_qTest 14 = .ok (.invokevirtual 207, 3) := q_invokevirtual (bat_get dg_X12_qTest_0_0 18 rfl rfl) rfl
theorem dX12_qTest_17 : decode cX12_qTest 17 = .ok (.istore_n 2, 1) := q_istore_n2 (bat_get dg_X12_qTest_0_0 19 rfl rfl)
theorem dX12_qTest_18 : decode cX12_qTest 18 = .ok (.iload_n 2, 1) := q_iload_n2 (bat_get dg_X12_qTest_0_0 20 rfl rfl)
theorem dX12_qTest_19 : decode cX12_qTest 19 = .ok (.bipush 91, 2) := q_bipush (bat_get dg_X12_qTest_0_0 21 rfl rfl) rfl
theorem dX12_qTest_21 : decode cX12_qTest 21 = .ok (.if_icmp .ne 26, 3) := q_if_icmp_ne (bat_get dg_X12_qTest_0_0 22 rfl rfl) rfl
theorem dX12_qTest_47 : decode cX12_qTest 47 = .ok (.aload_n 0, 1) := q_aload_n0 (bat_get dg_X12_qTest_0_0 23 rfl rfl)
theorem dX12_qTest_48 : decode cX12_qTest 48 = .ok (.aload_n 0, 1) := q_aload_n0 (bat_get dg_X12_qTest_0_0 24 rfl rfl)
theorem dX12_qTest_49 : decode cX12_qTest 49 = .ok (.getfield 132, 3) := q_getfield (bat_get dg_X12_qTest_0_0 25 rfl rfl) rfl
theorem dX12_qTest_52 : decode cX12_qTest 52 = .ok (.invokevirtual 218, 3) := q_invokevirtual (bat_get dg_X12_qTest_0_0 26 rfl rfl) rfl
theorem dX12_qTest_55 : decode cX12_qTest 55 = .ok (.ifCond .eq 24, 3) := q_ifCond_eq (bat_get dg_X12_qTest_0_0 27 rfl rfl) rfl
theorem dX12_qTest_79 : decode cX12_qTest 79 = .ok (.aload_n 0, 1) := q_aload_n0 (bat_get dg_X12_qTest_0_0 28 rfl rfl)
theorem dX12_qTest_80 : decode cX12_qTest 80 = .ok (.invokevirtual 540, 3) := q_invokevirtual (bat_get dg_X12_qTest_0_0 29 rfl rfl) rfl
theorem dX12_qTest_83 : decode cX12_qTest 83 = .ok (.aload_n 0, 1) := q_aload_n0 (bat_get dg_X12_qTest_0_0 30 rfl rfl)
theorem dX12_qTest_84 : decode cX12_qTest 84 = .ok (.invokevirtual 543, 3) := q_invokevirtual (bat_get dg_X12_qTest_0_0 31 rfl rfl) rfl
theorem dX12_qTest_87 : decode cX12_qTest 87 = .ok (.aload_n 0, 1) := q_aload_n0 (bat_get dg_X12_qTest_0_0 32 rfl rfl)
theorem dX12_qTest_88 : decode cX12_qTest 88 = .ok (.getfield 195, 3) := q_getfield (bat_get dg_X12_qTest_0_0 33 rfl rfl) rfl
theorem dX12_qTest_91 : decode cX12_qTest 91 = .ok (.ifCond .ne 14, 3) := q_ifCond_ne (bat_get dg_X12_qTest_0_0 34 rfl rfl) rfl
theorem dX12_qTest_105 : decode cX12_qTest 105 = .ok (.iconst 0, 1) := q_iconst0 (bat_get dg_X12_qTest_0_0 35 rfl rfl)
theorem dX12_qTest_106 : decode cX12_qTest 106 = .ok (.istore_n 1, 1) := q_istore_n1 (bat_get dg_X12_qTest_0_0 36 rfl rfl)
theorem dX12_qTest_107 : decode cX12_qTest 107 = .ok (.goto (-105), 3) := q_goto (bat_get dg_X12_qTest_0_0 37 rfl rfl) rfl
theorem dX12_qTest_94 : decode cX12_qTest 94 = .ok (.aload_n 0, 1) := q_aload_n0 (bat_get dg_X12_qTest_0_0 38 rfl rfl)
theorem dX12_qTest_95 : decode cX12_qTest 95 = .ok (.invokevirtual 546, 3) := q_invokevirtual (bat_get dg_X12_qTest_0_0 39 rfl rfl) rfl
theorem dg_X12_qTest_24_98 : bqL cX12_qTest 24 [(74, [153, 0, 7]), (77, [4]), (78, [167, 0, 4]), (34, [42]), (35, [16, 12]), (37, [42]), (38, [180, 0, 201]), (41, [182, 2, 4]), (44, [42]), (45, [42]), (46, [180, 0, 132]), (49, [182, 0, 245]), (52, [167, 255, 182]), (0, [42]), (1, [16, 25]), (3, [42]), (4, [180, 0, 201]), (7, [182, 2, 4]), (10, [42]), (11, [89]), (12, [180, 0, 201]), (15, [4]), (16, [96]), (17, [181, 0, 201]), (20, [167, 255, 214])] = true := by decide +kernel
theorem dX12_qTest_98 : decode cX12_qTest 98 = .ok (.ifCond .eq 7, 3) := q_ifCond_eq (bat_get dg_X12_qTest_24_98 0 rfl rfl) rfl
theorem dX12_qTest_101 : decode cX12_qTest 101 = .ok (.iconst 1, 1) := q_iconst1 (bat_get dg_X12_qTest_24_98 1 rfl rfl)
theorem dX12_qTest_102 : decode cX12_qTest 102 = .ok (.goto 4, 3) := q_goto (bat_get dg_X12_qTest_24_98 2 rfl rfl) rfl
theorem dX12_qTest_58 : decode cX12_qTest 58 = .ok (.aload_n 0, 1) := q_aload_n0 (bat_get dg_X12_qTest_24_98 3 rfl rfl)
theorem dX12_qTest_59 : decode cX12_qTest 59 = .ok (.bipush 12, 2) := q_bipush (bat_get dg_X12_qTest_24_98 4 rfl rfl) rfl
theorem dX12_qTest_61 : decode cX12_qTest 61 = .ok (.aload_n 0, 1) := q_aload_n0 (bat_get dg_X12_qTest_24_98 5 rfl rfl)
theorem dX12_qTest_62 : decode cX12_qTest 62 = .ok (.getfield 201, 3) := q_getfield (bat_get dg_X12_qTest_24_98 6 rfl rfl) rfl
theorem dX12_qTest_65 : decode cX12_qTest 65 = .ok (.invokevirtual 516, 3) := q_invokevirtual (bat_get dg_X12_qTest_24_98 7 rfl rfl) rfl
theorem dX12_qTest_68 : decode cX12_qTest 68 = .ok (.aload_n 0, 1) := q_aload_n0 (bat_get dg_X12_qTest_24_98 8 rfl rfl)
theorem dX12_qTest_69 : decode cX12_qTest 69 = .ok (.aload_n 0, 1) := q_aload_n0 (bat_get dg_X12_qTest_24_98 9 rfl rfl)
theorem dX12_qTest_70 : decode cX12_qTest 70 = .ok (.getfield 132, 3) := q_getfield (bat_get dg_X12_qTest_24_98 10 rfl rfl) rfl
theorem dX12_qTest_73 : decode cX12_qTest 73 = .ok (.invokevirtual 245, 3) := q_invokevirtual (bat_get dg_X12_qTest_24_98 11 rfl rfl) rfl
theorem dX12_qTest_76 : decode cX12_qTest 76 = .ok (.goto (-74), 3) := q_goto (bat_get dg_X12_qTest_24_98 12 rfl rfl) rfl
theorem dX12_qTest_24 : decode cX12_qTest 24 = .ok (.aload_n 0, 1) := q_aload_n0 (bat_get dg_X12_qTest_24_98 13 rfl rfl)
theorem dX12_qTest_25 : decode cX12_qTest 25 = .ok (.bipush 25, 2) := q_bipush (bat_get dg_X12_qTest_24_98 14 rfl rfl) rfl
theorem dX12_qTest_27 : decode cX12_qTest 27 = .ok (.aload_n 0, 1) := q_aload_n0 (bat_get dg_X12_qTest_24_98 15 rfl rfl)
theorem dX12_qTest_28 : decode cX12_qTest 28 = .ok (.getfield 201, 3) := q_getfield (bat_get dg_X12_qTest_24_98 16 rfl rfl) rfl
theorem dX12_qTest_31 : decode cX12_qTest 31 = .ok (.invokevirtual 516, 3) := q_invokevirtual (bat_get dg_X12_qTest_24_98 17 rfl rfl) rfl
theorem dX12_qTest_34 : decode cX12_qTest 34 = .ok (.aload_n 0, 1) := q_aload_n0 (bat_get dg_X12_qTest_24_98 18 rfl rfl)
theorem dX12_qTest_35 : decode cX12_qTest 35 = .ok (.dup, 1) := q_dup (bat_get dg_X12_qTest_24_98 19 rfl rfl)
theorem dX12_qTest_36 : decode cX12_qTest 36 = .ok (.getfield 201, 3) := q_getfield (bat_get dg_X12_qTest_24_98 20 rfl rfl) rfl
theorem dX12_qTest_39 : decode cX12_qTest 39 = .ok (.iconst 1, 1) := q_iconst1 (bat_get dg_X12_qTest_24_98 21 rfl rfl)
theorem dX12_qTest_40 : decode cX12_qTest 40 = .ok (.iadd, 1) := q_iadd (bat_get dg_X12_qTest_24_98 22 rfl rfl)
theorem dX12_qTest_41 : decode cX12_qTest 41 = .ok (.putfield 201, 3) := q_putfield (bat_get dg_X12_qTest_24_98 23 rfl rfl) rfl
theorem dX12_qTest_44 : decode cX12_qTest 44 = .ok (.goto (-42), 3) := q_goto (bat_get dg_X12_qTest_24_98 24 rfl rfl) rfl
theorem w_5_219 : (Cond.fieldLink RX12 132 "SameKeeperModel" "notAsked" "[C") ∈ wsL_law := sk_mem (ck_5 _ (List.mem_of_getElem? (i := 219) rfl)) rfl
theorem w_8_175 : (Cond.methodLink RX12 540 yX12_qFact) ∈ wsL_law := sk_mem (ck_8 _ (List.mem_of_getElem? (i := 175) rfl)) rfl
theorem w_8_177 : (Cond.instanceMethod yX12_qFact) ∈ wsL_law := sk_mem (ck_8 _ (List.mem_of_getElem? (i := 177) rfl)) rfl
theorem w_0_112 : (Cond.selects RX12 yX12_qFact yX12_qFact) ∈ wsL_law := sk_mem (ck_0 _ (List.mem_of_getElem? (i := 112) rfl)) rfl
theorem w_8_183 : (Cond.methodLink RX12 546 yX12_qGoesOnTest) ∈ wsL_law := sk_mem (ck_8 _ (List.mem_of_getElem? (i := 183) rfl)) rfl
theorem w_8_185 : (Cond.instanceMethod yX12_qGoesOnTest) ∈ wsL_law := sk_mem (ck_8 _ (List.mem_of_getElem? (i := 185) rfl)) rfl
theorem w_0_114 : (Cond.selects RX12 yX12_qGoesOnTest yX12_qGoesOnTest) ∈ wsL_law := sk_mem (ck_0 _ (List.mem_of_getElem? (i := 114) rfl)) rfl
theorem w_8_174 : (Cond.code yX12_qTest cX12_qTest 3 none) ∈ wsL_law := sk_mem (ck_8 _ (List.mem_of_getElem? (i := 174) rfl)) rfl
def om_21_160000 : List Bool := true :: false :: true :: true :: false :: false :: false :: false :: false :: false :: false :: false :: false :: false :: false :: false :: false :: false :: false :: false :: false :: []
def om_21_180000 : List Bool := true :: true :: false :: false :: false :: false :: false :: false :: false :: false :: false :: false :: false :: false :: false :: false :: false :: false :: false :: false :: false :: []
def om_21_180004 : List Bool := true :: true :: false :: false :: false :: false :: false :: false :: false :: false :: false :: false :: false :: false :: false :: false :: false :: false :: true :: false :: false :: []
def om_21_1ffff8 : List Bool := true :: true :: true :: true :: true :: true :: true :: true :: true :: true :: true :: true :: true :: true :: true :: true :: true :: true :: false :: false :: false :: []
def om_21_1e0003 : List Bool := true :: true :: true :: true :: false :: false :: false :: false :: false :: false :: false :: false :: false :: false :: false :: false :: false :: false :: false :: true :: true :: []
def om_21_120000 : List Bool := true :: false :: false :: true :: false :: false :: false :: false :: false :: false :: false :: false :: false :: false :: false :: false :: false :: false :: false :: false :: false :: []
theorem hd_X12_qFact_0 : skD yX12_qFact 0 := by decide +kernel
theorem hd_X12_qGoesOnTest_0 : skD yX12_qGoesOnTest 0 := by decide +kernel
theorem dk_congr {f g : Nat → Nat} {n : Nat} (h : ∀ j, j < n → f j = g j) : dk f n = dk g n := by
  induction n with
  | zero => rfl
  | succ n ih => rw [dk, dk, ih (fun j hj => h j (by omega)), h n (by omega)]
theorem de_dk {f : Nat → Nat} {n : Nat} (h : nnc f 0 n) : de f n ≤ dk f n := by
  induction n with
  | zero => exact Nat.le_refl _
  | succ n ih =>
    have h1 := ih (fun j q1 q2 => h j q1 (by omega))
    have h2 := h n (by omega) (by omega)
    rw [dk, de]
    split
    · rw [if_neg (by omega)]; omega
    · split
      · rw [if_neg (by omega)]; omega
      · rw [if_pos (by omega)]; omega
def cpy (cs qs : Nat → Nat) (c i : Nat) (zs : Nat → Nat) : Prop := ∀ j, zs j = if c ≤ j ∧ j < c + i then qs (j - c) else cs j
theorem cpy_0 {cs qs : Nat → Nat} {c : Nat} : cpy cs qs c 0 cs := fun j => by rw [if_neg (by omega)]
theorem cpy_s {cs qs zs zs2 : Nat → Nat} {c i k v : Nat} (h : cpy cs qs c i zs) (hk : k = c + i) (e : zs2 = updN zs k v) (hv : v = qs i) : cpy cs qs c (i + 1) zs2 := by
  subst e; subst hk; subst hv
  intro j
  by_cases q : j = c + i
  · subst q; rw [updN_at, if_pos (by omega), show c + i - c = i by omega]
  · rw [updN_ne zs q, h j]
    by_cases q2 : c ≤ j ∧ j < c + i
    · rw [if_pos q2, if_pos (by omega)]
    · rw [if_neg q2, if_neg (by omega)]
theorem cpy_in {cs qs zs : Nat → Nat} {c i j : Nat} (h : cpy cs qs c i zs) (hj : j < i) : zs (c + j) = qs j := by
  rw [h (c + j), if_pos (by omega), show c + j - c = j by omega]
theorem cpy_out {cs qs zs : Nat → Nat} {c i j : Nat} (h : cpy cs qs c i zs) (hj : ¬ (c ≤ j ∧ j < c + i)) : zs j = cs j := by
  rw [h j, if_neg hj]
theorem pv_congr {f g : Nat → Nat} {o o' n : Nat} (h : ∀ j, j < n → f (o + j) = g (o' + j)) (hp : pv f o n) : pv g o' n := by
  intro j hj hc
  rw [← h j hj] at hc
  have h1 := hp j hj hc
  rw [dk_congr (f := fun i => g (o' + i)) (g := fun i => f (o + i)) (fun i hi => (h i (by omega)).symm)]
  exact h1
def lowOk (cs : Nat → Nat) (c : Nat) (x y : Int32) : Prop := x = -1 ∨ ∃ a b : Nat, a ≤ b ∧ b ≤ c ∧ x = nI a ∧ y = nI b ∧ pv cs a (b - a)
theorem low_cpy {cs qs zs : Nat → Nat} {c i k : Nat} {x y : Int32} (h : lowOk cs c x y) (hk : k = c + i) (hc : cpy cs qs c i zs) : lowOk zs k x y := by
  rcases h with h | ⟨a, b, h1, h2, h3, h4, h5⟩
  · exact Or.inl h
  · exact Or.inr ⟨a, b, h1, by omega, h3, h4, pv_congr (fun j hj => (cpy_out hc (by omega)).symm) h5⟩
theorem low_fin {cs qs zs qt : Nat → Nat} {K c i k n b w : Nat} (hk : k = c + i) (hi : i = n) (h : SJ K 0 qs n qt b w) (hc : cpy cs qs c i zs) : lowOk zs k (nI c) (nI k) := by
  subst hk; subst hi
  obtain ⟨-, h2, h3, -⟩ := h
  refine Or.inr ⟨c, c + i, by omega, by omega, rfl, rfl, ?_⟩
  rw [show c + i - c = i by omega]
  intro j hj hcc
  rw [cpy_in hc hj] at hcc
  rw [dk_congr (f := fun i => zs (c + i)) (g := qs) (fun q hq => cpy_in hc (by omega))]
  have h4 := h3 j (by omega) hj
  have h5 := (h2 j hj).2 hcc h4.1 h4.2
  have h6 := de_dk (f := qs) (n := j) (fun q q1 q2 => h3 q q1 (by omega))
  omega
theorem low_prog {cs zs : Nat → Nat} {c i : Nat} {x y : Int32} (h : lowOk cs c x y) (hi : c ≤ i) (hc2 : c ≤ 1600) (hc : cpy cs cs 1600 i zs) : progOk zs x y := by
  rcases h with h | ⟨a, b, h1, h2, h3, h4, h5⟩
  · exact Or.inl h
  · exact Or.inr ⟨a, b, h1, by omega, h3, h4, pv_congr (fun j hj => by rw [show 1600 + a + j = 1600 + (a + j) by omega, cpy_in hc (by omega)]) h5⟩
def upE (cs cs2 : Nat → Nat) : Prop := ∀ j, 1600 ≤ j → cs2 j = cs j
theorem upE_rf {cs : Nat → Nat} : upE cs cs := fun _ _ => rfl
theorem upE_tr {a b c : Nat → Nat} (h1 : upE a b) (h2 : upE b c) : upE a c := fun j h => (h2 j h).trans (h1 j h)
theorem upE_cpy {cs qs zs : Nat → Nat} {c i : Nat} (hc : cpy cs qs c i zs) (h : c + i ≤ 1600) : upE cs zs := fun j hj => cpy_out hc (by omega)
theorem prog_up {cs zs : Nat → Nat} {x y : Int32} (h : progOk cs x y) (hu : upE cs zs) : progOk zs x y := by
  rcases h with h | ⟨a, b, h1, h2, h3, h4, h5⟩
  · exact Or.inl h
  · exact Or.inr ⟨a, b, h1, h2, h3, h4, pv_congr (fun j hj => (hu _ (by omega)).symm) h5⟩
theorem dq {qs : Nat → Nat} {i z z' : Nat} (hz : z = de qs i) (h : ((1000 ≤ qs i ∨ (40 ≤ qs i ∧ qs i < 60) ∨ qs i = 13) ∧ z' = z + 1) ∨ (((60 ≤ qs i ∧ qs i < 1000) ∨ qs i = 12) ∧ z' = z) ∨ (qs i < 40 ∧ ¬ qs i = 12 ∧ ¬ qs i = 13 ∧ z' = z - 1)) : z' = de qs (i + 1) := by
  rcases h with ⟨h1, h2⟩ | ⟨h1, h2⟩ | ⟨h1, h2, h3, h4⟩
  · rw [de_p h1]; omega
  · rw [de_u h1]; omega
  · rw [de_b h1 h2 h3]; omega
theorem qof_k {b : Nat} {x : Int64} (h : b = 0 ∨ (b = 1 ∧ (0 : Int64) ≤ x ∧ x ≤ 9)) (hb : ¬ b = 0) : ∃ k : Nat, k < 10 ∧ x.toInt32 = nI k := by
  obtain ⟨-, h1, h2⟩ := h.resolve_left hb
  have q1 := Int64.le_iff_toInt_le.mp h1
  have q2 := Int64.le_iff_toInt_le.mp h2
  have e0 : (0 : Int64).toInt = 0 := rfl
  have e9 : (9 : Int64).toInt = 9 := rfl
  rw [e0] at q1
  rw [e9] at q2
  exact nl2i (n := 10) q1 (by omega) (by omega)
theorem dg_X12_lockTold_0_0 : bqL cX12_lockTold 0 [(0, [42]), (1, [42]), (2, [180, 0, 20]), (5, [182, 0, 245]), (8, [42]), (9, [180, 0, 48]), (12, [3]), (13, [42]), (14, [5]), (15, [16, 9]), (17, [182, 0, 249]), (20, [79]), (21, [42]), (22, [42]), (23, [180, 0, 24]), (26, [182, 0, 245]), (29, [42]), (30, [180, 0, 48]), (33, [4]), (34, [42]), (35, [3]), (36, [16, 9]), (38, [182, 0, 249]), (41, [79]), (42, [42]), (43, [16, 59]), (45, [182, 0, 253]), (48, [177])] = true := by decide +kernel
theorem dX12_lockTold_0 : decode cX12_lockTold 0 = .ok (.aload_n 0, 1) := q_aload_n0 (bat_get dg_X12_lockTold_0_0 0 rfl rfl)
theorem dX12_lockTold_1 : decode cX12_lockTold 1 = .ok (.aload_n 0, 1) := q_aload_n0 (bat_get dg_X12_lockTold_0_0 1 rfl rfl)
theorem dX12_lockTold_2 : decode cX12_lockTold 2 = .ok (.getfield 20, 3) := q_getfield (bat_get dg_X12_lockTold_0_0 2 rfl rfl) rfl
theorem dX12_lockTold_5 : decode cX12_lockTold 5 = .ok (.invokevirtual 245, 3) := q_invokevirtual (bat_get dg_X12_lockTold_0_0 3 rfl rfl) rfl
theorem dX12_lockTold_8 : decode cX12_lockTold 8 = .ok (.aload_n 0, 1) := q_aload_n0 (bat_get dg_X12_lockTold_0_0 4 rfl rfl)
theorem dX12_lockTold_9 : decode cX12_lockTold 9 = .ok (.getfield 48, 3) := q_getfield (bat_get dg_X12_lockTold_0_0 5 rfl rfl) rfl
theorem dX12_lockTold_12 : decode cX12_lockTold 12 = .ok (.iconst 0, 1) := q_iconst0 (bat_get dg_X12_lockTold_0_0 6 rfl rfl)
theorem dX12_lockTold_13 : decode cX12_lockTold 13 = .ok (.aload_n 0, 1) := q_aload_n0 (bat_get dg_X12_lockTold_0_0 7 rfl rfl)
theorem dX12_lockTold_14 : decode cX12_lockTold 14 = .ok (.iconst 2, 1) := q_iconst2 (bat_get dg_X12_lockTold_0_0 8 rfl rfl)
theorem dX12_lockTold_15 : decode cX12_lockTold 15 = .ok (.bipush 9, 2) := q_bipush (bat_get dg_X12_lockTold_0_0 9 rfl rfl) rfl
theorem dX12_lockTold_17 : decode cX12_lockTold 17 = .ok (.invokevirtual 249, 3) := q_invokevirtual (bat_get dg_X12_lockTold_0_0 10 rfl rfl) rfl
theorem dX12_lockTold_20 : decode cX12_lockTold 20 = .ok (.iastore, 1) := q_iastore (bat_get dg_X12_lockTold_0_0 11 rfl rfl)
theorem dX12_lockTold_21 : decode cX12_lockTold 21 = .ok (.aload_n 0, 1) := q_aload_n0 (bat_get dg_X12_lockTold_0_0 12 rfl rfl)
theorem dX12_lockTold_22 : decode cX12_lockTold 22 = .ok (.aload_n 0, 1) := q_aload_n0 (bat_get dg_X12_lockTold_0_0 13 rfl rfl)
theorem dX12_lockTold_23 : decode cX12_lockTold 23 = .ok (.getfield 24, 3) := q_getfield (bat_get dg_X12_lockTold_0_0 14 rfl rfl) rfl
theorem dX12_lockTold_26 : decode cX12_lockTold 26 = .ok (.invokevirtual 245, 3) := q_invokevirtual (bat_get dg_X12_lockTold_0_0 15 rfl rfl) rfl
theorem dX12_lockTold_29 : decode cX12_lockTold 29 = .ok (.aload_n 0, 1) := q_aload_n0 (bat_get dg_X12_lockTold_0_0 16 rfl rfl)
theorem dX12_lockTold_30 : decode cX12_lockTold 30 = .ok (.getfield 48, 3) := q_getfield (bat_get dg_X12_lockTold_0_0 17 rfl rfl) rfl
theorem dX12_lockTold_33 : decode cX12_lockTold 33 = .ok (.iconst 1, 1) := q_iconst1 (bat_get dg_X12_lockTold_0_0 18 rfl rfl)
theorem dX12_lockTold_34 : decode cX12_lockTold 34 = .ok (.aload_n 0, 1) := q_aload_n0 (bat_get dg_X12_lockTold_0_0 19 rfl rfl)
theorem dX12_lockTold_35 : decode cX12_lockTold 35 = .ok (.iconst 0, 1) := q_iconst0 (bat_get dg_X12_lockTold_0_0 20 rfl rfl)
theorem dX12_lockTold_36 : decode cX12_lockTold 36 = .ok (.bipush 9, 2) := q_bipush (bat_get dg_X12_lockTold_0_0 21 rfl rfl) rfl
theorem dX12_lockTold_38 : decode cX12_lockTold 38 = .ok (.invokevirtual 249, 3) := q_invokevirtual (bat_get dg_X12_lockTold_0_0 22 rfl rfl) rfl
theorem dX12_lockTold_41 : decode cX12_lockTold 41 = .ok (.iastore, 1) := q_iastore (bat_get dg_X12_lockTold_0_0 23 rfl rfl)
theorem dX12_lockTold_42 : decode cX12_lockTold 42 = .ok (.aload_n 0, 1) := q_aload_n0 (bat_get dg_X12_lockTold_0_0 24 rfl rfl)
theorem dX12_lockTold_43 : decode cX12_lockTold 43 = .ok (.bipush 59, 2) := q_bipush (bat_get dg_X12_lockTold_0_0 25 rfl rfl) rfl
theorem dX12_lockTold_45 : decode cX12_lockTold 45 = .ok (.invokevirtual 253, 3) := q_invokevirtual (bat_get dg_X12_lockTold_0_0 26 rfl rfl) rfl
theorem dX12_lockTold_48 : decode cX12_lockTold 48 = .ok (.return_, 1) := q_return_ (bat_get dg_X12_lockTold_0_0 27 rfl rfl)
theorem w_5_166 : (Cond.fieldLink RX12 20 "SameKeeperModel" "lockWord" "[C") ∈ wsL_law := sk_mem (ck_5 _ (List.mem_of_getElem? (i := 166) rfl)) rfl
theorem w_5_167 : (Cond.fieldLink RX12 24 "SameKeeperModel" "fromWord" "[C") ∈ wsL_law := sk_mem (ck_5 _ (List.mem_of_getElem? (i := 167) rfl)) rfl
theorem w_6_209 : (Cond.code yX12_lockTold cX12_lockTold 1 none) ∈ wsL_law := sk_mem (ck_6 _ (List.mem_of_getElem? (i := 209) rfl)) rfl
theorem dg_X12_dayTold_0_0 : bqL cX12_dayTold 0 [(0, [42]), (1, [3]), (2, [42]), (3, [180, 0, 48]), (6, [3]), (7, [46]), (8, [4]), (9, [100]), (10, [182, 0, 249]), (13, [61]), (14, [42]), (15, [3]), (16, [16, 9]), (18, [182, 0, 249]), (21, [62]), (22, [42]), (23, [180, 0, 195]), (26, [154, 0, 14]), (40, [177]), (29, [42]), (30, [180, 0, 51]), (33, [6]), (34, [28]), (35, [104]), (36, [27]), (37, [96]), (38, [29]), (39, [79])] = true := by decide +kernel
theorem dX12_dayTold_0 : decode cX12_dayTold 0 = .ok (.aload_n 0, 1) := q_aload_n0 (bat_get dg_X12_dayTold_0_0 0 rfl rfl)
theorem dX12_dayTold_1 : decode cX12_dayTold 1 = .ok (.iconst 0, 1) := q_iconst0 (bat_get dg_X12_dayTold_0_0 1 rfl rfl)
theorem dX12_dayTold_2 : decode cX12_dayTold 2 = .ok (.aload_n 0, 1) := q_aload_n0 (bat_get dg_X12_dayTold_0_0 2 rfl rfl)
theorem dX12_dayTold_3 : decode cX12_dayTold 3 = .ok (.getfield 48, 3) := q_getfield (bat_get dg_X12_dayTold_0_0 3 rfl rfl) rfl
theorem dX12_dayTold_6 : decode cX12_dayTold 6 = .ok (.iconst 0, 1) := q_iconst0 (bat_get dg_X12_dayTold_0_0 4 rfl rfl)
theorem dX12_dayTold_7 : decode cX12_dayTold 7 = .ok (.iaload, 1) := q_iaload (bat_get dg_X12_dayTold_0_0 5 rfl rfl)
theorem dX12_dayTold_8 : decode cX12_dayTold 8 = .ok (.iconst 1, 1) := q_iconst1 (bat_get dg_X12_dayTold_0_0 6 rfl rfl)
theorem dX12_dayTold_9 : decode cX12_dayTold 9 = .ok (.isub, 1) := q_isub (bat_get dg_X12_dayTold_0_0 7 rfl rfl)
theorem dX12_dayTold_10 : decode cX12_dayTold 10 = .ok (.invokevirtual 249, 3) := q_invokevirtual (bat_get dg_X12_dayTold_0_0 8 rfl rfl) rfl
theorem dX12_dayTold_13 : decode cX12_dayTold 13 = .ok (.istore_n 2, 1) := q_istore_n2 (bat_get dg_X12_dayTold_0_0 9 rfl rfl)
theorem dX12_dayTold_14 : decode cX12_dayTold 14 = .ok (.aload_n 0, 1) := q_aload_n0 (bat_get dg_X12_dayTold_0_0 10 rfl rfl)
theorem dX12_dayTold_15 : decode cX12_dayTold 15 = .ok (.iconst 0, 1) := q_iconst0 (bat_get dg_X12_dayTold_0_0 11 rfl rfl)
theorem dX12_dayTold_16 : decode cX12_dayTold 16 = .ok (.bipush 9, 2) := q_bipush (bat_get dg_X12_dayTold_0_0 12 rfl rfl) rfl
theorem dX12_dayTold_18 : decode cX12_dayTold 18 = .ok (.invokevirtual 249, 3) := q_invokevirtual (bat_get dg_X12_dayTold_0_0 13 rfl rfl) rfl
theorem dX12_dayTold_21 : decode cX12_dayTold 21 = .ok (.istore_n 3, 1) := q_istore_n3 (bat_get dg_X12_dayTold_0_0 14 rfl rfl)
theorem dX12_dayTold_22 : decode cX12_dayTold 22 = .ok (.aload_n 0, 1) := q_aload_n0 (bat_get dg_X12_dayTold_0_0 15 rfl rfl)
theorem dX12_dayTold_23 : decode cX12_dayTold 23 = .ok (.getfield 195, 3) := q_getfield (bat_get dg_X12_dayTold_0_0 16 rfl rfl) rfl
theorem dX12_dayTold_26 : decode cX12_dayTold 26 = .ok (.ifCond .ne 14, 3) := q_ifCond_ne (bat_get dg_X12_dayTold_0_0 17 rfl rfl) rfl
theorem dX12_dayTold_40 : decode cX12_dayTold 40 = .ok (.return_, 1) := q_return_ (bat_get dg_X12_dayTold_0_0 18 rfl rfl)
theorem dX12_dayTold_29 : decode cX12_dayTold 29 = .ok (.aload_n 0, 1) := q_aload_n0 (bat_get dg_X12_dayTold_0_0 19 rfl rfl)
theorem dX12_dayTold_30 : decode cX12_dayTold 30 = .ok (.getfield 51, 3) := q_getfield (bat_get dg_X12_dayTold_0_0 20 rfl rfl) rfl
theorem dX12_dayTold_33 : decode cX12_dayTold 33 = .ok (.iconst 3, 1) := q_iconst3 (bat_get dg_X12_dayTold_0_0 21 rfl rfl)
theorem dX12_dayTold_34 : decode cX12_dayTold 34 = .ok (.iload_n 2, 1) := q_iload_n2 (bat_get dg_X12_dayTold_0_0 22 rfl rfl)
theorem dX12_dayTold_35 : decode cX12_dayTold 35 = .ok (.imul, 1) := q_imul (bat_get dg_X12_dayTold_0_0 23 rfl rfl)
theorem dX12_dayTold_36 : decode cX12_dayTold 36 = .ok (.iload_n 1, 1) := q_iload_n1 (bat_get dg_X12_dayTold_0_0 24 rfl rfl)
theorem dX12_dayTold_37 : decode cX12_dayTold 37 = .ok (.iadd, 1) := q_iadd (bat_get dg_X12_dayTold_0_0 25 rfl rfl)
theorem dX12_dayTold_38 : decode cX12_dayTold 38 = .ok (.iload_n 3, 1) := q_iload_n3 (bat_get dg_X12_dayTold_0_0 26 rfl rfl)
theorem dX12_dayTold_39 : decode cX12_dayTold 39 = .ok (.iastore, 1) := q_iastore (bat_get dg_X12_dayTold_0_0 27 rfl rfl)
theorem w_5_176 : (Cond.fieldLink RX12 51 "SameKeeperModel" "days0" "[I") ∈ wsL_law := sk_mem (ck_5 _ (List.mem_of_getElem? (i := 176) rfl)) rfl
theorem w_7_18 : (Cond.code yX12_dayTold cX12_dayTold 4 none) ∈ wsL_law := sk_mem (ck_7 _ (List.mem_of_getElem? (i := 18) rfl)) rfl
theorem dg_X12_muteTold_0_0 : bqL cX12_muteTold 0 [(0, [42]), (1, [3]), (2, [42]), (3, [180, 0, 48]), (6, [3]), (7, [46]), (8, [4]), (9, [100]), (10, [182, 0, 249]), (13, [60]), (14, [42]), (15, [180, 0, 195]), (18, [154, 0, 26]), (44, [42]), (45, [180, 0, 195]), (48, [154, 0, 14]), (62, [177]), (51, [42]), (52, [180, 0, 51]), (55, [6]), (56, [27]), (57, [104]), (58, [5]), (59, [96]), (60, [4]), (61, [79]), (21, [42]), (22, [180, 0, 51]), (25, [6]), (26, [27]), (27, [104]), (28, [5]), (29, [96]), (30, [46]), (31, [4]), (32, [160, 0, 12]), (35, [42]), (36, [5]), (37, [42]), (38, [180, 0, 235])] = true := by decide +kernel
theorem dX12_muteTold_0 : decode cX12_muteTold 0 = .ok (.aload_n 0, 1) := q_aload_n0 (bat_get dg_X12_muteTold_0_0 0 rfl rfl)
theorem dX12_muteTold_1 : decode cX12_muteTold 1 = .ok (.iconst 0, 1) := q_iconst0 (bat_get dg_X12_muteTold_0_0 1 rfl rfl)
theorem dX12_muteTold_2 : decode cX12_muteTold 2 = .ok (.aload_n 0, 1) := q_aload_n0 (bat_get dg_X12_muteTold_0_0 2 rfl rfl)
theorem dX12_muteTold_3 : decode cX12_muteTold 3 = .ok (.getfield 48, 3) := q_getfield (bat_get dg_X12_muteTold_0_0 3 rfl rfl) rfl
theorem dX12_muteTold_6 : decode cX12_muteTold 6 = .ok (.iconst 0, 1) := q_iconst0 (bat_get dg_X12_muteTold_0_0 4 rfl rfl)
theorem dX12_muteTold_7 : decode cX12_muteTold 7 = .ok (.iaload, 1) := q_iaload (bat_get dg_X12_muteTold_0_0 5 rfl rfl)
theorem dX12_muteTold_8 : decode cX12_muteTold 8 = .ok (.iconst 1, 1) := q_iconst1 (bat_get dg_X12_muteTold_0_0 6 rfl rfl)
theorem dX12_muteTold_9 : decode cX12_muteTold 9 = .ok (.isub, 1) := q_isub (bat_get dg_X12_muteTold_0_0 7 rfl rfl)
theorem dX12_muteTold_10 : decode cX12_muteTold 10 = .ok (.invokevirtual 249, 3) := q_invokevirtual (bat_get dg_X12_muteTold_0_0 8 rfl rfl) rfl
theorem dX12_muteTold_13 : decode cX12_muteTold 13 = .ok (.istore_n 1, 1) := q_istore_n1 (bat_get dg_X12_muteTold_0_0 9 rfl rfl)
theorem dX12_muteTold_14 : decode cX12_muteTold 14 = .ok (.aload_n 0, 1) := q_aload_n0 (bat_get dg_X12_muteTold_0_0 10 rfl rfl)
theorem dX12_muteTold_15 : decode cX12_muteTold 15 = .ok (.getfield 195, 3) := q_getfield (bat_get dg_X12_muteTold_0_0 11 rfl rfl) rfl
theorem dX12_muteTold_18 : decode cX12_muteTold 18 = .ok (.ifCond .ne 26, 3) := q_ifCond_ne (bat_get dg_X12_muteTold_0_0 12 rfl rfl) rfl
theorem dX12_muteTold_44 : decode cX12_muteTold 44 = .ok (.aload_n 0, 1) := q_aload_n0 (bat_get dg_X12_muteTold_0_0 13 rfl rfl)
theorem dX12_muteTold_45 : decode cX12_muteTold 45 = .ok (.getfield 195, 3) := q_getfield (bat_get dg_X12_muteTold_0_0 14 rfl rfl) rfl
theorem dX12_muteTold_48 : decode cX12_muteTold 48 = .ok (.ifCond .ne 14, 3) := q_ifCond_ne (bat_get dg_X12_muteTold_0_0 15 rfl rfl) rfl
theorem dX12_muteTold_62 : decode cX12_muteTold 62 = .ok (.return_, 1) := q_return_ (bat_get dg_X12_muteTold_0_0 16 rfl rfl)
theorem dX12_muteTold_51 : decode cX12_muteTold 51 = .ok (.aload_n 0, 1) := q_aload_n0 (bat_get dg_X12_muteTold_0_0 17 rfl rfl)
theorem dX12_muteTold_52 : decode cX12_muteTold 52 = .ok (.getfield 51, 3) := q_getfield (bat_get dg_X12_muteTold_0_0 18 rfl rfl) rfl
theorem dX12_muteTold_55 : decode cX12_muteTold 55 = .ok (.iconst 3, 1) := q_iconst3 (bat_get dg_X12_muteTold_0_0 19 rfl rfl)
theorem dX12_muteTold_56 : decode cX12_muteTold 56 = .ok (.iload_n 1, 1) := q_iload_n1 (bat_get dg_X12_muteTold_0_0 20 rfl rfl)
theorem dX12_muteTold_57 : decode cX12_muteTold 57 = .ok (.imul, 1) := q_imul (bat_get dg_X12_muteTold_0_0 21 rfl rfl)
theorem dX12_muteTold_58 : decode cX12_muteTold 58 = .ok (.iconst 2, 1) := q_iconst2 (bat_get dg_X12_muteTold_0_0 22 rfl rfl)
theorem dX12_muteTold_59 : decode cX12_muteTold 59 = .ok (.iadd, 1) := q_iadd (bat_get dg_X12_muteTold_0_0 23 rfl rfl)
theorem dX12_muteTold_60 : decode cX12_muteTold 60 = .ok (.iconst 1, 1) := q_iconst1 (bat_get dg_X12_muteTold_0_0 24 rfl rfl)
theorem dX12_muteTold_61 : decode cX12_muteTold 61 = .ok (.iastore, 1) := q_iastore (bat_get dg_X12_muteTold_0_0 25 rfl rfl)
theorem dX12_muteTold_21 : decode cX12_muteTold 21 = .ok (.aload_n 0, 1) := q_aload_n0 (bat_get dg_X12_muteTold_0_0 26 rfl rfl)
theorem dX12_muteTold_22 : decode cX12_muteTold 22 = .ok (.getfield 51, 3) := q_getfield (bat_get dg_X12_muteTold_0_0 27 rfl rfl) rfl
theorem dX12_muteTold_25 : decode cX12_muteTold 25 = .ok (.iconst 3, 1) := q_iconst3 (bat_get dg_X12_muteTold_0_0 28 rfl rfl)
theorem dX12_muteTold_26 : decode cX12_muteTold 26 = .ok (.iload_n 1, 1) := q_iload_n1 (bat_get dg_X12_muteTold_0_0 29 rfl rfl)
theorem dX12_muteTold_27 : decode cX12_muteTold 27 = .ok (.imul, 1) := q_imul (bat_get dg_X12_muteTold_0_0 30 rfl rfl)
theorem dX12_muteTold_28 : decode cX12_muteTold 28 = .ok (.iconst 2, 1) := q_iconst2 (bat_get dg_X12_muteTold_0_0 31 rfl rfl)
theorem dX12_muteTold_29 : decode cX12_muteTold 29 = .ok (.iadd, 1) := q_iadd (bat_get dg_X12_muteTold_0_0 32 rfl rfl)
theorem dX12_muteTold_30 : decode cX12_muteTold 30 = .ok (.iaload, 1) := q_iaload (bat_get dg_X12_muteTold_0_0 33 rfl rfl)
theorem dX12_muteTold_31 : decode cX12_muteTold 31 = .ok (.iconst 1, 1) := q_iconst1 (bat_get dg_X12_muteTold_0_0 34 rfl rfl)
theorem dX12_muteTold_32 : decode cX12_muteTold 32 = .ok (.if_icmp .ne 12, 3) := q_if_icmp_ne (bat_get dg_X12_muteTold_0_0 35 rfl rfl) rfl
theorem dX12_muteTold_35 : decode cX12_muteTold 35 = .ok (.aload_n 0, 1) := q_aload_n0 (bat_get dg_X12_muteTold_0_0 36 rfl rfl)
theorem dX12_muteTold_36 : decode cX12_muteTold 36 = .ok (.iconst 2, 1) := q_iconst2 (bat_get dg_X12_muteTold_0_0 37 rfl rfl)
theorem dX12_muteTold_37 : decode cX12_muteTold 37 = .ok (.aload_n 0, 1) := q_aload_n0 (bat_get dg_X12_muteTold_0_0 38 rfl rfl)
theorem dX12_muteTold_38 : decode cX12_muteTold 38 = .ok (.getfield 235, 3) := q_getfield (bat_get dg_X12_muteTold_0_0 39 rfl rfl) rfl
theorem dg_X12_muteTold_41_41 : bqL cX12_muteTold 41 [(0, [182, 0, 225])] = true := by decide +kernel
theorem dX12_muteTold_41 : decode cX12_muteTold 41 = .ok (.invokevirtual 225, 3) := q_invokevirtual (bat_get dg_X12_muteTold_41_41 0 rfl rfl) rfl
theorem w_7_22 : (Cond.code yX12_muteTold cX12_muteTold 2 none) ∈ wsL_law := sk_mem (ck_7 _ (List.mem_of_getElem? (i := 22) rfl)) rfl
theorem dg_X12_codesTold_0_0 : bqL cX12_codesTold 0 [(0, [42]), (1, [180, 0, 195]), (4, [154, 0, 19]), (23, [42]), (24, [180, 0, 195]), (27, [153, 0, 4]), (31, [42]), (32, [27]), (33, [4]), (34, [160, 0, 7]), (41, [3]), (42, [181, 0, 242]), (45, [42]), (46, [3]), (47, [181, 1, 1]), (50, [42]), (51, [3]), (52, [181, 1, 4]), (55, [42]), (56, [3]), (57, [181, 1, 7]), (60, [42]), (61, [3]), (62, [181, 1, 10]), (65, [42]), (66, [182, 1, 13]), (69, [42]), (70, [180, 0, 195]), (73, [153, 0, 4]), (77, [42]), (78, [180, 0, 54]), (81, [27]), (82, [42]), (83, [180, 1, 16]), (86, [79]), (87, [3]), (88, [62]), (89, [29]), (90, [42]), (91, [180, 1, 1])] = true := by decide +kernel
theorem dX12_codesTold_0 : decode cX12_codesTold 0 = .ok (.aload_n 0, 1) := q_aload_n0 (bat_get dg_X12_codesTold_0_0 0 rfl rfl)
theorem dX12_codesTold_1 : decode cX12_codesTold 1 = .ok (.getfield 195, 3) := q_getfield (bat_get dg_X12_codesTold_0_0 1 rfl rfl) rfl
theorem dX12_codesTold_4 : decode cX12_codesTold 4 = .ok (.ifCond .ne 19, 3) := q_ifCond_ne (bat_get dg_X12_codesTold_0_0 2 rfl rfl) rfl
theorem dX12_codesTold_23 : decode cX12_codesTold 23 = .ok (.aload_n 0, 1) := q_aload_n0 (bat_get dg_X12_codesTold_0_0 3 rfl rfl)
theorem dX12_codesTold_24 : decode cX12_codesTold 24 = .ok (.getfield 195, 3) := q_getfield (bat_get dg_X12_codesTold_0_0 4 rfl rfl) rfl
theorem dX12_codesTold_27 : decode cX12_codesTold 27 = .ok (.ifCond .eq 4, 3) := q_ifCond_eq (bat_get dg_X12_codesTold_0_0 5 rfl rfl) rfl
theorem dX12_codesTold_31 : decode cX12_codesTold 31 = .ok (.aload_n 0, 1) := q_aload_n0 (bat_get dg_X12_codesTold_0_0 6 rfl rfl)
theorem dX12_codesTold_32 : decode cX12_codesTold 32 = .ok (.iload_n 1, 1) := q_iload_n1 (bat_get dg_X12_codesTold_0_0 7 rfl rfl)
theorem dX12_codesTold_33 : decode cX12_codesTold 33 = .ok (.iconst 1, 1) := q_iconst1 (bat_get dg_X12_codesTold_0_0 8 rfl rfl)
theorem dX12_codesTold_34 : decode cX12_codesTold 34 = .ok (.if_icmp .ne 7, 3) := q_if_icmp_ne (bat_get dg_X12_codesTold_0_0 9 rfl rfl) rfl
theorem dX12_codesTold_41 : decode cX12_codesTold 41 = .ok (.iconst 0, 1) := q_iconst0 (bat_get dg_X12_codesTold_0_0 10 rfl rfl)
theorem dX12_codesTold_42 : decode cX12_codesTold 42 = .ok (.putfield 242, 3) := q_putfield (bat_get dg_X12_codesTold_0_0 11 rfl rfl) rfl
theorem dX12_codesTold_45 : decode cX12_codesTold 45 = .ok (.aload_n 0, 1) := q_aload_n0 (bat_get dg_X12_codesTold_0_0 12 rfl rfl)
theorem dX12_codesTold_46 : decode cX12_codesTold 46 = .ok (.iconst 0, 1) := q_iconst0 (bat_get dg_X12_codesTold_0_0 13 rfl rfl)
theorem dX12_codesTold_47 : decode cX12_codesTold 47 = .ok (.putfield 257, 3) := q_putfield (bat_get dg_X12_codesTold_0_0 14 rfl rfl) rfl
theorem dX12_codesTold_50 : decode cX12_codesTold 50 = .ok (.aload_n 0, 1) := q_aload_n0 (bat_get dg_X12_codesTold_0_0 15 rfl rfl)
theorem dX12_codesTold_51 : decode cX12_codesTold 51 = .ok (.iconst 0, 1) := q_iconst0 (bat_get dg_X12_codesTold_0_0 16 rfl rfl)
theorem dX12_codesTold_52 : decode cX12_codesTold 52 = .ok (.putfield 260, 3) := q_putfield (bat_get dg_X12_codesTold_0_0 17 rfl rfl) rfl
theorem dX12_codesTold_55 : decode cX12_codesTold 55 = .ok (.aload_n 0, 1) := q_aload_n0 (bat_get dg_X12_codesTold_0_0 18 rfl rfl)
theorem dX12_codesTold_56 : decode cX12_codesTold 56 = .ok (.iconst 0, 1) := q_iconst0 (bat_get dg_X12_codesTold_0_0 19 rfl rfl)
theorem dX12_codesTold_57 : decode cX12_codesTold 57 = .ok (.putfield 263, 3) := q_putfield (bat_get dg_X12_codesTold_0_0 20 rfl rfl) rfl
theorem dX12_codesTold_60 : decode cX12_codesTold 60 = .ok (.aload_n 0, 1) := q_aload_n0 (bat_get dg_X12_codesTold_0_0 21 rfl rfl)
theorem dX12_codesTold_61 : decode cX12_codesTold 61 = .ok (.iconst 0, 1) := q_iconst0 (bat_get dg_X12_codesTold_0_0 22 rfl rfl)
theorem dX12_codesTold_62 : decode cX12_codesTold 62 = .ok (.putfield 266, 3) := q_putfield (bat_get dg_X12_codesTold_0_0 23 rfl rfl) rfl
theorem dX12_codesTold_65 : decode cX12_codesTold 65 = .ok (.aload_n 0, 1) := q_aload_n0 (bat_get dg_X12_codesTold_0_0 24 rfl rfl)
theorem dX12_codesTold_66 : decode cX12_codesTold 66 = .ok (.invokevirtual 269, 3) := q_invokevirtual (bat_get dg_X12_codesTold_0_0 25 rfl rfl) rfl
theorem dX12_codesTold_69 : decode cX12_codesTold 69 = .ok (.aload_n 0, 1) := q_aload_n0 (bat_get dg_X12_codesTold_0_0 26 rfl rfl)
theorem dX12_codesTold_70 : decode cX12_codesTold 70 = .ok (.getfield 195, 3) := q_getfield (bat_get dg_X12_codesTold_0_0 27 rfl rfl) rfl
theorem dX12_codesTold_73 : decode cX12_codesTold 73 = .ok (.ifCond .eq 4, 3) := q_ifCond_eq (bat_get dg_X12_codesTold_0_0 28 rfl rfl) rfl
theorem dX12_codesTold_77 : decode cX12_codesTold 77 = .ok (.aload_n 0, 1) := q_aload_n0 (bat_get dg_X12_codesTold_0_0 29 rfl rfl)
theorem dX12_codesTold_78 : decode cX12_codesTold 78 = .ok (.getfield 54, 3) := q_getfield (bat_get dg_X12_codesTold_0_0 30 rfl rfl) rfl
theorem dX12_codesTold_81 : decode cX12_codesTold 81 = .ok (.iload_n 1, 1) := q_iload_n1 (bat_get dg_X12_codesTold_0_0 31 rfl rfl)
theorem dX12_codesTold_82 : decode cX12_codesTold 82 = .ok (.aload_n 0, 1) := q_aload_n0 (bat_get dg_X12_codesTold_0_0 32 rfl rfl)
theorem dX12_codesTold_83 : decode cX12_codesTold 83 = .ok (.getfield 272, 3) := q_getfield (bat_get dg_X12_codesTold_0_0 33 rfl rfl) rfl
theorem dX12_codesTold_86 : decode cX12_codesTold 86 = .ok (.iastore, 1) := q_iastore (bat_get dg_X12_codesTold_0_0 34 rfl rfl)
theorem dX12_codesTold_87 : decode cX12_codesTold 87 = .ok (.iconst 0, 1) := q_iconst0 (bat_get dg_X12_codesTold_0_0 35 rfl rfl)
theorem dX12_codesTold_88 : decode cX12_codesTold 88 = .ok (.istore_n 3, 1) := q_istore_n3 (bat_get dg_X12_codesTold_0_0 36 rfl rfl)
theorem dX12_codesTold_89 : decode cX12_codesTold 89 = .ok (.iload_n 3, 1) := q_iload_n3 (bat_get dg_X12_codesTold_0_0 37 rfl rfl)
theorem dX12_codesTold_90 : decode cX12_codesTold 90 = .ok (.aload_n 0, 1) := q_aload_n0 (bat_get dg_X12_codesTold_0_0 38 rfl rfl)
theorem dX12_codesTold_91 : decode cX12_codesTold 91 = .ok (.getfield 257, 3) := q_getfield (bat_get dg_X12_codesTold_0_0 39 rfl rfl) rfl
theorem dg_X12_codesTold_7_94 : bqL cX12_codesTold 7 [(87, [162, 0, 34]), (121, [42]), (122, [180, 0, 57]), (125, [27]), (126, [42]), (127, [180, 1, 16]), (130, [79]), (131, [177]), (90, [42]), (91, [180, 0, 60]), (94, [42]), (95, [180, 1, 16]), (98, [42]), (99, [180, 0, 180]), (102, [29]), (103, [46]), (104, [79]), (105, [42]), (106, [89]), (107, [180, 1, 16]), (110, [4]), (111, [96]), (112, [181, 1, 16]), (115, [132, 3, 1]), (118, [167, 255, 220]), (69, [177]), (23, [177]), (0, [42]), (1, [180, 0, 54]), (4, [27]), (5, [46]), (6, [2]), (7, [159, 0, 9]), (10, [42]), (11, [8]), (12, [28]), (13, [182, 0, 225])] = true := by decide +kernel
theorem dX12_codesTold_94 : decode cX12_codesTold 94 = .ok (.if_icmp .ge 34, 3) := q_if_icmp_ge (bat_get dg_X12_codesTold_7_94 0 rfl rfl) rfl
theorem dX12_codesTold_128 : decode cX12_codesTold 128 = .ok (.aload_n 0, 1) := q_aload_n0 (bat_get dg_X12_codesTold_7_94 1 rfl rfl)
theorem dX12_codesTold_129 : decode cX12_codesTold 129 = .ok (.getfield 57, 3) := q_getfield (bat_get dg_X12_codesTold_7_94 2 rfl rfl) rfl
theorem dX12_codesTold_132 : decode cX12_codesTold 132 = .ok (.iload_n 1, 1) := q_iload_n1 (bat_get dg_X12_codesTold_7_94 3 rfl rfl)
theorem dX12_codesTold_133 : decode cX12_codesTold 133 = .ok (.aload_n 0, 1) := q_aload_n0 (bat_get dg_X12_codesTold_7_94 4 rfl rfl)
theorem dX12_codesTold_134 : decode cX12_codesTold 134 = .ok (.getfield 272, 3) := q_getfield (bat_get dg_X12_codesTold_7_94 5 rfl rfl) rfl
theorem dX12_codesTold_137 : decode cX12_codesTold 137 = .ok (.iastore, 1) := q_iastore (bat_get dg_X12_codesTold_7_94 6 rfl rfl)
theorem dX12_codesTold_138 : decode cX12_codesTold 138 = .ok (.return_, 1) := q_return_ (bat_get dg_X12_codesTold_7_94 7 rfl rfl)
theorem dX12_codesTold_97 : decode cX12_codesTold 97 = .ok (.aload_n 0, 1) := q_aload_n0 (bat_get dg_X12_codesTold_7_94 8 rfl rfl)
theorem dX12_codesTold_98 : decode cX12_codesTold 98 = .ok (.getfield 60, 3) := q_getfield (bat_get dg_X12_codesTold_7_94 9 rfl rfl) rfl
theorem dX12_codesTold_101 : decode cX12_codesTold 101 = .ok (.aload_n 0, 1) := q_aload_n0 (bat_get dg_X12_codesTold_7_94 10 rfl rfl)
theorem dX12_codesTold_102 : decode cX12_codesTold 102 = .ok (.getfield 272, 3) := q_getfield (bat_get dg_X12_codesTold_7_94 11 rfl rfl) rfl
theorem dX12_codesTold_105 : decode cX12_codesTold 105 = .ok (.aload_n 0, 1) := q_aload_n0 (bat_get dg_X12_codesTold_7_94 12 rfl rfl)
theorem dX12_codesTold_106 : decode cX12_codesTold 106 = .ok (.getfield 180, 3) := q_getfield (bat_get dg_X12_codesTold_7_94 13 rfl rfl) rfl
theorem dX12_codesTold_109 : decode cX12_codesTold 109 = .ok (.iload_n 3, 1) := q_iload_n3 (bat_get dg_X12_codesTold_7_94 14 rfl rfl)
theorem dX12_codesTold_110 : decode cX12_codesTold 110 = .ok (.iaload, 1) := q_iaload (bat_get dg_X12_codesTold_7_94 15 rfl rfl)
theorem dX12_codesTold_111 : decode cX12_codesTold 111 = .ok (.iastore, 1) := q_iastore (bat_get dg_X12_codesTold_7_94 16 rfl rfl)
theorem dX12_codesTold_112 : decode cX12_codesTold 112 = .ok (.aload_n 0, 1) := q_aload_n0 (bat_get dg_X12_codesTold_7_94 17 rfl rfl)
theorem dX12_codesTold_113 : decode cX12_codesTold 113 = .ok (.dup, 1) := q_dup (bat_get dg_X12_codesTold_7_94 18 rfl rfl)
theorem dX12_codesTold_114 : decode cX12_codesTold 114 = .ok (.getfield 272, 3) := q_getfield (bat_get dg_X12_codesTold_7_94 19 rfl rfl) rfl
theorem dX12_codesTold_117 : decode cX12_codesTold 117 = .ok (.iconst 1, 1) := q_iconst1 (bat_get dg_X12_codesTold_7_94 20 rfl rfl)
theorem dX12_codesTold_118 : decode cX12_codesTold 118 = .ok (.iadd, 1) := q_iadd (bat_get dg_X12_codesTold_7_94 21 rfl rfl)
theorem dX12_codesTold_119 : decode cX12_codesTold 119 = .ok (.putfield 272, 3) := q_putfield (bat_get dg_X12_codesTold_7_94 22 rfl rfl) rfl
theorem dX12_codesTold_122 : decode cX12_codesTold 122 = .ok (.iinc 3 1, 3) := q_iinc (bat_get dg_X12_codesTold_7_94 23 rfl rfl) rfl
theorem dX12_codesTold_125 : decode cX12_codesTold 125 = .ok (.goto (-36), 3) := q_goto (bat_get dg_X12_codesTold_7_94 24 rfl rfl) rfl
theorem dX12_codesTold_76 : decode cX12_codesTold 76 = .ok (.return_, 1) := q_return_ (bat_get dg_X12_codesTold_7_94 25 rfl rfl)
theorem dX12_codesTold_30 : decode cX12_codesTold 30 = .ok (.return_, 1) := q_return_ (bat_get dg_X12_codesTold_7_94 26 rfl rfl)
theorem dX12_codesTold_7 : decode cX12_codesTold 7 = .ok (.aload_n 0, 1) := q_aload_n0 (bat_get dg_X12_codesTold_7_94 27 rfl rfl)
theorem dX12_codesTold_8 : decode cX12_codesTold 8 = .ok (.getfield 54, 3) := q_getfield (bat_get dg_X12_codesTold_7_94 28 rfl rfl) rfl
theorem dX12_codesTold_11 : decode cX12_codesTold 11 = .ok (.iload_n 1, 1) := q_iload_n1 (bat_get dg_X12_codesTold_7_94 29 rfl rfl)
theorem dX12_codesTold_12 : decode cX12_codesTold 12 = .ok (.iaload, 1) := q_iaload (bat_get dg_X12_codesTold_7_94 30 rfl rfl)
theorem dX12_codesTold_13 : decode cX12_codesTold 13 = .ok (.iconst (-1), 1) := q_iconstm1 (bat_get dg_X12_codesTold_7_94 31 rfl rfl)
theorem dX12_codesTold_14 : decode cX12_codesTold 14 = .ok (.if_icmp .eq 9, 3) := q_if_icmp_eq (bat_get dg_X12_codesTold_7_94 32 rfl rfl) rfl
theorem dX12_codesTold_17 : decode cX12_codesTold 17 = .ok (.aload_n 0, 1) := q_aload_n0 (bat_get dg_X12_codesTold_7_94 33 rfl rfl)
theorem dX12_codesTold_18 : decode cX12_codesTold 18 = .ok (.iconst 5, 1) := q_iconst5 (bat_get dg_X12_codesTold_7_94 34 rfl rfl)
theorem dX12_codesTold_19 : decode cX12_codesTold 19 = .ok (.iload_n 2, 1) := q_iload_n2 (bat_get dg_X12_codesTold_7_94 35 rfl rfl)
theorem dX12_codesTold_20 : decode cX12_codesTold 20 = .ok (.invokevirtual 225, 3) := q_invokevirtual (bat_get dg_X12_codesTold_7_94 36 rfl rfl) rfl
theorem w_5_182 : (Cond.fieldLink RX12 272 "SameKeeperModel" "coded" "I") ∈ wsL_law := sk_mem (ck_5 _ (List.mem_of_getElem? (i := 182) rfl)) rfl
theorem w_7_26 : (Cond.code yX12_codesTold cX12_codesTold 4 none) ∈ wsL_law := sk_mem (ck_7 _ (List.mem_of_getElem? (i := 26) rfl)) rfl
def om_20_ffff8 : List Bool := true :: true :: true :: true :: true :: true :: true :: true :: true :: true :: true :: true :: true :: true :: true :: true :: true :: false :: false :: false :: []
def om_20_80000 : List Bool := true :: false :: false :: false :: false :: false :: false :: false :: false :: false :: false :: false :: false :: false :: false :: false :: false :: false :: false :: false :: []
theorem dg_X12_codesTold_37_37 : bqL cX12_codesTold 37 [(0, [4]), (1, [167, 0, 4])] = true := by decide +kernel
theorem dX12_codesTold_37 : decode cX12_codesTold 37 = .ok (.iconst 1, 1) := q_iconst1 (bat_get dg_X12_codesTold_37_37 0 rfl rfl)
theorem dX12_codesTold_38 : decode cX12_codesTold 38 = .ok (.goto 4, 3) := q_goto (bat_get dg_X12_codesTold_37_37 1 rfl rfl) rfl
theorem dg_X12_statementTold_0_0 : bqL cX12_statementTold 0 [(0, [42]), (1, [180, 0, 201]), (4, [60]), (5, [42]), (6, [180, 1, 19]), (9, [16, 60]), (11, [160, 0, 10]), (21, [42]), (22, [42]), (23, [180, 0, 27]), (26, [182, 0, 222]), (29, [153, 0, 11]), (40, [42]), (41, [42]), (42, [180, 0, 30]), (45, [182, 0, 222]), (48, [153, 0, 11]), (59, [42]), (60, [42]), (61, [180, 0, 33]), (64, [182, 0, 222]), (67, [153, 0, 10]), (77, [42]), (78, [42]), (79, [180, 0, 36]), (82, [182, 0, 222]), (85, [153, 0, 12]), (97, [42]), (98, [42]), (99, [180, 0, 39]), (102, [182, 0, 222]), (105, [153, 0, 12]), (117, [42]), (118, [42]), (119, [180, 0, 42]), (122, [182, 0, 222]), (125, [153, 0, 12]), (137, [42]), (138, [42]), (139, [180, 0, 45])] = true := by decide +kernel
theorem dX12_statementTold_0 : decode cX12_statementTold 0 = .ok (.aload_n 0, 1) := q_aload_n0 (bat_get dg_X12_statementTold_0_0 0 rfl rfl)
theorem dX12_statementTold_1 : decode cX12_statementTold 1 = .ok (.getfield 201, 3) := q_getfield (bat_get dg_X12_statementTold_0_0 1 rfl rfl) rfl
theorem dX12_statementTold_4 : decode cX12_statementTold 4 = .ok (.istore_n 1, 1) := q_istore_n1 (bat_get dg_X12_statementTold_0_0 2 rfl rfl)
theorem dX12_statementTold_5 : decode cX12_statementTold 5 = .ok (.aload_n 0, 1) := q_aload_n0 (bat_get dg_X12_statementTold_0_0 3 rfl rfl)
theorem dX12_statementTold_6 : decode cX12_statementTold 6 = .ok (.getfield 275, 3) := q_getfield (bat_get dg_X12_statementTold_0_0 4 rfl rfl) rfl
theorem dX12_statementTold_9 : decode cX12_statementTold 9 = .ok (.bipush 60, 2) := q_bipush (bat_get dg_X12_statementTold_0_0 5 rfl rfl) rfl
theorem dX12_statementTold_11 : decode cX12_statementTold 11 = .ok (.if_icmp .ne 10, 3) := q_if_icmp_ne (bat_get dg_X12_statementTold_0_0 6 rfl rfl) rfl
theorem dX12_statementTold_21 : decode cX12_statementTold 21 = .ok (.aload_n 0, 1) := q_aload_n0 (bat_get dg_X12_statementTold_0_0 7 rfl rfl)
theorem dX12_statementTold_22 : decode cX12_statementTold 22 = .ok (.aload_n 0, 1) := q_aload_n0 (bat_get dg_X12_statementTold_0_0 8 rfl rfl)
theorem dX12_statementTold_23 : decode cX12_statementTold 23 = .ok (.getfield 27, 3) := q_getfield (bat_get dg_X12_statementTold_0_0 9 rfl rfl) rfl
theorem dX12_statementTold_26 : decode cX12_statementTold 26 = .ok (.invokevirtual 222, 3) := q_invokevirtual (bat_get dg_X12_statementTold_0_0 10 rfl rfl) rfl
theorem dX12_statementTold_29 : decode cX12_statementTold 29 = .ok (.ifCond .eq 11, 3) := q_ifCond_eq (bat_get dg_X12_statementTold_0_0 11 rfl rfl) rfl
theorem dX12_statementTold_40 : decode cX12_statementTold 40 = .ok (.aload_n 0, 1) := q_aload_n0 (bat_get dg_X12_statementTold_0_0 12 rfl rfl)
theorem dX12_statementTold_41 : decode cX12_statementTold 41 = .ok (.aload_n 0, 1) := q_aload_n0 (bat_get dg_X12_statementTold_0_0 13 rfl rfl)
theorem dX12_statementTold_42 : decode cX12_statementTold 42 = .ok (.getfield 30, 3) := q_getfield (bat_get dg_X12_statementTold_0_0 14 rfl rfl) rfl
theorem dX12_statementTold_45 : decode cX12_statementTold 45 = .ok (.invokevirtual 222, 3) := q_invokevirtual (bat_get dg_X12_statementTold_0_0 15 rfl rfl) rfl
theorem dX12_statementTold_48 : decode cX12_statementTold 48 = .ok (.ifCond .eq 11, 3) := q_ifCond_eq (bat_get dg_X12_statementTold_0_0 16 rfl rfl) rfl
theorem dX12_statementTold_59 : decode cX12_statementTold 59 = .ok (.aload_n 0, 1) := q_aload_n0 (bat_get dg_X12_statementTold_0_0 17 rfl rfl)
theorem dX12_statementTold_60 : decode cX12_statementTold 60 = .ok (.aload_n 0, 1) := q_aload_n0 (bat_get dg_X12_statementTold_0_0 18 rfl rfl)
theorem dX12_statementTold_61 : decode cX12_statementTold 61 = .ok (.getfield 33, 3) := q_getfield (bat_get dg_X12_statementTold_0_0 19 rfl rfl) rfl
theorem dX12_statementTold_64 : decode cX12_statementTold 64 = .ok (.invokevirtual 222, 3) := q_invokevirtual (bat_get dg_X12_statementTold_0_0 20 rfl rfl) rfl
theorem dX12_statementTold_67 : decode cX12_statementTold 67 = .ok (.ifCond .eq 10, 3) := q_ifCond_eq (bat_get dg_X12_statementTold_0_0 21 rfl rfl) rfl
theorem dX12_statementTold_77 : decode cX12_statementTold 77 = .ok (.aload_n 0, 1) := q_aload_n0 (bat_get dg_X12_statementTold_0_0 22 rfl rfl)
theorem dX12_statementTold_78 : decode cX12_statementTold 78 = .ok (.aload_n 0, 1) := q_aload_n0 (bat_get dg_X12_statementTold_0_0 23 rfl rfl)
theorem dX12_statementTold_79 : decode cX12_statementTold 79 = .ok (.getfield 36, 3) := q_getfield (bat_get dg_X12_statementTold_0_0 24 rfl rfl) rfl
theorem dX12_statementTold_82 : decode cX12_statementTold 82 = .ok (.invokevirtual 222, 3) := q_invokevirtual (bat_get dg_X12_statementTold_0_0 25 rfl rfl) rfl
theorem dX12_statementTold_85 : decode cX12_statementTold 85 = .ok (.ifCond .eq 12, 3) := q_ifCond_eq (bat_get dg_X12_statementTold_0_0 26 rfl rfl) rfl
theorem dX12_statementTold_97 : decode cX12_statementTold 97 = .ok (.aload_n 0, 1) := q_aload_n0 (bat_get dg_X12_statementTold_0_0 27 rfl rfl)
theorem dX12_statementTold_98 : decode cX12_statementTold 98 = .ok (.aload_n 0, 1) := q_aload_n0 (bat_get dg_X12_statementTold_0_0 28 rfl rfl)
theorem dX12_statementTold_99 : decode cX12_statementTold 99 = .ok (.getfield 39, 3) := q_getfield (bat_get dg_X12_statementTold_0_0 29 rfl rfl) rfl
theorem dX12_statementTold_102 : decode cX12_statementTold 102 = .ok (.invokevirtual 222, 3) := q_invokevirtual (bat_get dg_X12_statementTold_0_0 30 rfl rfl) rfl
theorem dX12_statementTold_105 : decode cX12_statementTold 105 = .ok (.ifCond .eq 12, 3) := q_ifCond_eq (bat_get dg_X12_statementTold_0_0 31 rfl rfl) rfl
theorem dX12_statementTold_117 : decode cX12_statementTold 117 = .ok (.aload_n 0, 1) := q_aload_n0 (bat_get dg_X12_statementTold_0_0 32 rfl rfl)
theorem dX12_statementTold_118 : decode cX12_statementTold 118 = .ok (.aload_n 0, 1) := q_aload_n0 (bat_get dg_X12_statementTold_0_0 33 rfl rfl)
theorem dX12_statementTold_119 : decode cX12_statementTold 119 = .ok (.getfield 42, 3) := q_getfield (bat_get dg_X12_statementTold_0_0 34 rfl rfl) rfl
theorem dX12_statementTold_122 : decode cX12_statementTold 122 = .ok (.invokevirtual 222, 3) := q_invokevirtual (bat_get dg_X12_statementTold_0_0 35 rfl rfl) rfl
theorem dX12_statementTold_125 : decode cX12_statementTold 125 = .ok (.ifCond .eq 12, 3) := q_ifCond_eq (bat_get dg_X12_statementTold_0_0 36 rfl rfl) rfl
theorem dX12_statementTold_137 : decode cX12_statementTold 137 = .ok (.aload_n 0, 1) := q_aload_n0 (bat_get dg_X12_statementTold_0_0 37 rfl rfl)
theorem dX12_statementTold_138 : decode cX12_statementTold 138 = .ok (.aload_n 0, 1) := q_aload_n0 (bat_get dg_X12_statementTold_0_0 38 rfl rfl)
theorem dX12_statementTold_139 : decode cX12_statementTold 139 = .ok (.getfield 45, 3) := q_getfield (bat_get dg_X12_statementTold_0_0 39 rfl rfl) rfl
theorem dg_X12_statementTold_32_142 : bqL cX12_statementTold 32 [(110, [182, 0, 245]), (113, [42]), (114, [42]), (115, [3]), (116, [16, 100]), (118, [182, 0, 249]), (121, [181, 1, 31]), (124, [42]), (125, [16, 59]), (127, [182, 0, 253]), (130, [42]), (131, [89]), (132, [180, 1, 19]), (135, [4]), (136, [96]), (137, [181, 1, 19]), (140, [177]), (96, [42]), (97, [5]), (98, [27]), (99, [182, 1, 28]), (102, [167, 0, 22]), (76, [42]), (77, [4]), (78, [27]), (79, [182, 1, 28]), (82, [167, 0, 42]), (56, [42]), (57, [3]), (58, [27]), (59, [182, 1, 28]), (62, [167, 0, 62]), (38, [42]), (39, [182, 1, 25]), (42, [167, 0, 82]), (19, [42]), (20, [4]), (21, [182, 1, 22]), (24, [167, 0, 100]), (0, [42])] = true := by decide +kernel
theorem dX12_statementTold_142 : decode cX12_statementTold 142 = .ok (.invokevirtual 245, 3) := q_invokevirtual (bat_get dg_X12_statementTold_32_142 0 rfl rfl) rfl
theorem dX12_statementTold_145 : decode cX12_statementTold 145 = .ok (.aload_n 0, 1) := q_aload_n0 (bat_get dg_X12_statementTold_32_142 1 rfl rfl)
theorem dX12_statementTold_146 : decode cX12_statementTold 146 = .ok (.aload_n 0, 1) := q_aload_n0 (bat_get dg_X12_statementTold_32_142 2 rfl rfl)
theorem dX12_statementTold_147 : decode cX12_statementTold 147 = .ok (.iconst 0, 1) := q_iconst0 (bat_get dg_X12_statementTold_32_142 3 rfl rfl)
theorem dX12_statementTold_148 : decode cX12_statementTold 148 = .ok (.bipush 100, 2) := q_bipush (bat_get dg_X12_statementTold_32_142 4 rfl rfl) rfl
theorem dX12_statementTold_150 : decode cX12_statementTold 150 = .ok (.invokevirtual 249, 3) := q_invokevirtual (bat_get dg_X12_statementTold_32_142 5 rfl rfl) rfl
theorem dX12_statementTold_153 : decode cX12_statementTold 153 = .ok (.putfield 287, 3) := q_putfield (bat_get dg_X12_statementTold_32_142 6 rfl rfl) rfl
theorem dX12_statementTold_156 : decode cX12_statementTold 156 = .ok (.aload_n 0, 1) := q_aload_n0 (bat_get dg_X12_statementTold_32_142 7 rfl rfl)
theorem dX12_statementTold_157 : decode cX12_statementTold 157 = .ok (.bipush 59, 2) := q_bipush (bat_get dg_X12_statementTold_32_142 8 rfl rfl) rfl
theorem dX12_statementTold_159 : decode cX12_statementTold 159 = .ok (.invokevirtual 253, 3) := q_invokevirtual (bat_get dg_X12_statementTold_32_142 9 rfl rfl) rfl
theorem dX12_statementTold_162 : decode cX12_statementTold 162 = .ok (.aload_n 0, 1) := q_aload_n0 (bat_get dg_X12_statementTold_32_142 10 rfl rfl)
theorem dX12_statementTold_163 : decode cX12_statementTold 163 = .ok (.dup, 1) := q_dup (bat_get dg_X12_statementTold_32_142 11 rfl rfl)
theorem dX12_statementTold_164 : decode cX12_statementTold 164 = .ok (.getfield 275, 3) := q_getfield (bat_get dg_X12_statementTold_32_142 12 rfl rfl) rfl
theorem dX12_statementTold_167 : decode cX12_statementTold 167 = .ok (.iconst 1, 1) := q_iconst1 (bat_get dg_X12_statementTold_32_142 13 rfl rfl)
theorem dX12_statementTold_168 : decode cX12_statementTold 168 = .ok (.iadd, 1) := q_iadd (bat_get dg_X12_statementTold_32_142 14 rfl rfl)
theorem dX12_statementTold_169 : decode cX12_statementTold 169 = .ok (.putfield 275, 3) := q_putfield (bat_get dg_X12_statementTold_32_142 15 rfl rfl) rfl
theorem dX12_statementTold_172 : decode cX12_statementTold 172 = .ok (.return_, 1) := q_return_ (bat_get dg_X12_statementTold_32_142 16 rfl rfl)
theorem dX12_statementTold_128 : decode cX12_statementTold 128 = .ok (.aload_n 0, 1) := q_aload_n0 (bat_get dg_X12_statementTold_32_142 17 rfl rfl)
theorem dX12_statementTold_129 : decode cX12_statementTold 129 = .ok (.iconst 2, 1) := q_iconst2 (bat_get dg_X12_statementTold_32_142 18 rfl rfl)
theorem dX12_statementTold_130 : decode cX12_statementTold 130 = .ok (.iload_n 1, 1) := q_iload_n1 (bat_get dg_X12_statementTold_32_142 19 rfl rfl)
theorem dX12_statementTold_131 : decode cX12_statementTold 131 = .ok (.invokevirtual 284, 3) := q_invokevirtual (bat_get dg_X12_statementTold_32_142 20 rfl rfl) rfl
theorem dX12_statementTold_134 : decode cX12_statementTold 134 = .ok (.goto 22, 3) := q_goto (bat_get dg_X12_statementTold_32_142 21 rfl rfl) rfl
theorem dX12_statementTold_108 : decode cX12_statementTold 108 = .ok (.aload_n 0, 1) := q_aload_n0 (bat_get dg_X12_statementTold_32_142 22 rfl rfl)
theorem dX12_statementTold_109 : decode cX12_statementTold 109 = .ok (.iconst 1, 1) := q_iconst1 (bat_get dg_X12_statementTold_32_142 23 rfl rfl)
theorem dX12_statementTold_110 : decode cX12_statementTold 110 = .ok (.iload_n 1, 1) := q_iload_n1 (bat_get dg_X12_statementTold_32_142 24 rfl rfl)
theorem dX12_statementTold_111 : decode cX12_statementTold 111 = .ok (.invokevirtual 284, 3) := q_invokevirtual (bat_get dg_X12_statementTold_32_142 25 rfl rfl) rfl
theorem dX12_statementTold_114 : decode cX12_statementTold 114 = .ok (.goto 42, 3) := q_goto (bat_get dg_X12_statementTold_32_142 26 rfl rfl) rfl
theorem dX12_statementTold_88 : decode cX12_statementTold 88 = .ok (.aload_n 0, 1) := q_aload_n0 (bat_get dg_X12_statementTold_32_142 27 rfl rfl)
theorem dX12_statementTold_89 : decode cX12_statementTold 89 = .ok (.iconst 0, 1) := q_iconst0 (bat_get dg_X12_statementTold_32_142 28 rfl rfl)
theorem dX12_statementTold_90 : decode cX12_statementTold 90 = .ok (.iload_n 1, 1) := q_iload_n1 (bat_get dg_X12_statementTold_32_142 29 rfl rfl)
theorem dX12_statementTold_91 : decode cX12_statementTold 91 = .ok (.invokevirtual 284, 3) := q_invokevirtual (bat_get dg_X12_statementTold_32_142 30 rfl rfl) rfl
theorem dX12_statementTold_94 : decode cX12_statementTold 94 = .ok (.goto 62, 3) := q_goto (bat_get dg_X12_statementTold_32_142 31 rfl rfl) rfl
theorem dX12_statementTold_70 : decode cX12_statementTold 70 = .ok (.aload_n 0, 1) := q_aload_n0 (bat_get dg_X12_statementTold_32_142 32 rfl rfl)
theorem dX12_statementTold_71 : decode cX12_statementTold 71 = .ok (.invokevirtual 281, 3) := q_invokevirtual (bat_get dg_X12_statementTold_32_142 33 rfl rfl) rfl
theorem dX12_statementTold_74 : decode cX12_statementTold 74 = .ok (.goto 82, 3) := q_goto (bat_get dg_X12_statementTold_32_142 34 rfl rfl) rfl
theorem dX12_statementTold_51 : decode cX12_statementTold 51 = .ok (.aload_n 0, 1) := q_aload_n0 (bat_get dg_X12_statementTold_32_142 35 rfl rfl)
theorem dX12_statementTold_52 : decode cX12_statementTold 52 = .ok (.iconst 1, 1) := q_iconst1 (bat_get dg_X12_statementTold_32_142 36 rfl rfl)
theorem dX12_statementTold_53 : decode cX12_statementTold 53 = .ok (.invokevirtual 278, 3) := q_invokevirtual (bat_get dg_X12_statementTold_32_142 37 rfl rfl) rfl
theorem dX12_statementTold_56 : decode cX12_statementTold 56 = .ok (.goto 100, 3) := q_goto (bat_get dg_X12_statementTold_32_142 38 rfl rfl) rfl
theorem dX12_statementTold_32 : decode cX12_statementTold 32 = .ok (.aload_n 0, 1) := q_aload_n0 (bat_get dg_X12_statementTold_32_142 39 rfl rfl)
theorem dg_X12_statementTold_14_33 : bqL cX12_statementTold 14 [(19, [3]), (20, [182, 1, 22]), (23, [167, 0, 119]), (0, [42]), (1, [8]), (2, [27]), (3, [182, 0, 225]), (6, [177])] = true := by decide +kernel
theorem dX12_statementTold_33 : decode cX12_statementTold 33 = .ok (.iconst 0, 1) := q_iconst0 (bat_get dg_X12_statementTold_14_33 0 rfl rfl)
theorem dX12_statementTold_34 : decode cX12_statementTold 34 = .ok (.invokevirtual 278, 3) := q_invokevirtual (bat_get dg_X12_statementTold_14_33 1 rfl rfl) rfl
theorem dX12_statementTold_37 : decode cX12_statementTold 37 = .ok (.goto 119, 3) := q_goto (bat_get dg_X12_statementTold_14_33 2 rfl rfl) rfl
theorem dX12_statementTold_14 : decode cX12_statementTold 14 = .ok (.aload_n 0, 1) := q_aload_n0 (bat_get dg_X12_statementTold_14_33 3 rfl rfl)
theorem dX12_statementTold_15 : decode cX12_statementTold 15 = .ok (.iconst 5, 1) := q_iconst5 (bat_get dg_X12_statementTold_14_33 4 rfl rfl)
theorem dX12_statementTold_16 : decode cX12_statementTold 16 = .ok (.iload_n 1, 1) := q_iload_n1 (bat_get dg_X12_statementTold_14_33 5 rfl rfl)
theorem dX12_statementTold_17 : decode cX12_statementTold 17 = .ok (.invokevirtual 225, 3) := q_invokevirtual (bat_get dg_X12_statementTold_14_33 6 rfl rfl) rfl
theorem dX12_statementTold_20 : decode cX12_statementTold 20 = .ok (.return_, 1) := q_return_ (bat_get dg_X12_statementTold_14_33 7 rfl rfl)
theorem w_5_183 : (Cond.fieldLink RX12 275 "SameKeeperModel" "statements" "I") ∈ wsL_law := sk_mem (ck_5 _ (List.mem_of_getElem? (i := 183) rfl)) rfl
theorem w_5_168 : (Cond.fieldLink RX12 27 "SameKeeperModel" "bargeWord" "[C") ∈ wsL_law := sk_mem (ck_5 _ (List.mem_of_getElem? (i := 168) rfl)) rfl
theorem w_5_169 : (Cond.fieldLink RX12 30 "SameKeeperModel" "wetWord" "[C") ∈ wsL_law := sk_mem (ck_5 _ (List.mem_of_getElem? (i := 169) rfl)) rfl
theorem w_5_170 : (Cond.fieldLink RX12 33 "SameKeeperModel" "muteWord" "[C") ∈ wsL_law := sk_mem (ck_5 _ (List.mem_of_getElem? (i := 170) rfl)) rfl
theorem w_5_171 : (Cond.fieldLink RX12 36 "SameKeeperModel" "saysWord" "[C") ∈ wsL_law := sk_mem (ck_5 _ (List.mem_of_getElem? (i := 171) rfl)) rfl
theorem w_5_172 : (Cond.fieldLink RX12 39 "SameKeeperModel" "doesWord" "[C") ∈ wsL_law := sk_mem (ck_5 _ (List.mem_of_getElem? (i := 172) rfl)) rfl
theorem w_5_173 : (Cond.fieldLink RX12 42 "SameKeeperModel" "wageWord" "[C") ∈ wsL_law := sk_mem (ck_5 _ (List.mem_of_getElem? (i := 173) rfl)) rfl
theorem w_5_174 : (Cond.fieldLink RX12 45 "SameKeeperModel" "rainWord" "[C") ∈ wsL_law := sk_mem (ck_5 _ (List.mem_of_getElem? (i := 174) rfl)) rfl
theorem w_5_177 : (Cond.fieldLink RX12 287 "SameKeeperModel" "rainTold" "I") ∈ wsL_law := sk_mem (ck_5 _ (List.mem_of_getElem? (i := 177) rfl)) rfl
theorem w_7_23 : (Cond.methodLink RX12 284 yX12_codesTold) ∈ wsL_law := sk_mem (ck_7 _ (List.mem_of_getElem? (i := 23) rfl)) rfl
theorem w_7_25 : (Cond.instanceMethod yX12_codesTold) ∈ wsL_law := sk_mem (ck_7 _ (List.mem_of_getElem? (i := 25) rfl)) rfl
theorem w_0_53 : (Cond.selects RX12 yX12_codesTold yX12_codesTold) ∈ wsL_law := sk_mem (ck_0 _ (List.mem_of_getElem? (i := 53) rfl)) rfl
theorem w_7_19 : (Cond.methodLink RX12 281 yX12_muteTold) ∈ wsL_law := sk_mem (ck_7 _ (List.mem_of_getElem? (i := 19) rfl)) rfl
theorem w_7_21 : (Cond.instanceMethod yX12_muteTold) ∈ wsL_law := sk_mem (ck_7 _ (List.mem_of_getElem? (i := 21) rfl)) rfl
theorem w_0_52 : (Cond.selects RX12 yX12_muteTold yX12_muteTold) ∈ wsL_law := sk_mem (ck_0 _ (List.mem_of_getElem? (i := 52) rfl)) rfl
theorem w_7_15 : (Cond.methodLink RX12 278 yX12_dayTold) ∈ wsL_law := sk_mem (ck_7 _ (List.mem_of_getElem? (i := 15) rfl)) rfl
theorem w_7_17 : (Cond.instanceMethod yX12_dayTold) ∈ wsL_law := sk_mem (ck_7 _ (List.mem_of_getElem? (i := 17) rfl)) rfl
theorem w_0_51 : (Cond.selects RX12 yX12_dayTold yX12_dayTold) ∈ wsL_law := sk_mem (ck_0 _ (List.mem_of_getElem? (i := 51) rfl)) rfl
theorem w_7_14 : (Cond.code yX12_statementTold cX12_statementTold 2 none) ∈ wsL_law := sk_mem (ck_7 _ (List.mem_of_getElem? (i := 14) rfl)) rfl
def om_29_18000040 : List Bool := true :: true :: false :: false :: false :: false :: false :: false :: false :: false :: false :: false :: false :: false :: false :: false :: false :: false :: false :: false :: false :: false :: true :: false :: false :: false :: false :: false :: false :: []
def om_29_18000020 : List Bool := true :: true :: false :: false :: false :: false :: false :: false :: false :: false :: false :: false :: false :: false :: false :: false :: false :: false :: false :: false :: false :: false :: false :: true :: false :: false :: false :: false :: false :: []
def om_29_18000010 : List Bool := true :: true :: false :: false :: false :: false :: false :: false :: false :: false :: false :: false :: false :: false :: false :: false :: false :: false :: false :: false :: false :: false :: false :: false :: true :: false :: false :: false :: false :: []
def om_29_18000008 : List Bool := true :: true :: false :: false :: false :: false :: false :: false :: false :: false :: false :: false :: false :: false :: false :: false :: false :: false :: false :: false :: false :: false :: false :: false :: false :: true :: false :: false :: false :: []
def om_29_18000004 : List Bool := true :: true :: false :: false :: false :: false :: false :: false :: false :: false :: false :: false :: false :: false :: false :: false :: false :: false :: false :: false :: false :: false :: false :: false :: false :: false :: true :: false :: false :: []
def om_29_18000002 : List Bool := true :: true :: false :: false :: false :: false :: false :: false :: false :: false :: false :: false :: false :: false :: false :: false :: false :: false :: false :: false :: false :: false :: false :: false :: false :: false :: false :: true :: false :: []
def om_29_18000001 : List Bool := true :: true :: false :: false :: false :: false :: false :: false :: false :: false :: false :: false :: false :: false :: false :: false :: false :: false :: false :: false :: false :: false :: false :: false :: false :: false :: false :: false :: true :: []
def om_29_18000000 : List Bool := true :: true :: false :: false :: false :: false :: false :: false :: false :: false :: false :: false :: false :: false :: false :: false :: false :: false :: false :: false :: false :: false :: false :: false :: false :: false :: false :: false :: false :: []
def om_29_1ffffe00 : List Bool := true :: true :: true :: true :: true :: true :: true :: true :: true :: true :: true :: true :: true :: true :: true :: true :: true :: true :: true :: true :: false :: false :: false :: false :: false :: false :: false :: false :: false :: []
def om_29_18000180 : List Bool := true :: true :: false :: false :: false :: false :: false :: false :: false :: false :: false :: false :: false :: false :: false :: false :: false :: false :: false :: false :: true :: true :: false :: false :: false :: false :: false :: false :: false :: []
theorem hd_X12_codesTold_2 : skD yX12_codesTold 2 := by decide +kernel
theorem hd_X12_muteTold_0 : skD yX12_muteTold 0 := by decide +kernel
theorem hd_X12_dayTold_1 : skD yX12_dayTold 1 := by decide +kernel
