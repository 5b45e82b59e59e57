theorem dg_X12_on_0_0 : bqL cX12_on 0 [(0, [42]), (1, [180, 0, 192]), (4, [60]), (5, [42]), (6, [3]), (7, [181, 0, 192]), (10, [42]), (11, [27]), (12, [182, 2, 93]), (15, [154, 0, 15]), (30, [42]), (31, [180, 0, 63]), (34, [3]), (35, [17, 1, 0]), (38, [42]), (39, [180, 0, 7]), (42, [3]), (43, [46]), (44, [104]), (45, [42]), (46, [180, 0, 7]), (49, [4]), (50, [46]), (51, [96]), (52, [79]), (53, [42]), (54, [180, 0, 63]), (57, [4]), (58, [42]), (59, [180, 0, 7]), (62, [5]), (63, [46]), (64, [79]), (65, [3]), (66, [61]), (67, [28]), (68, [6]), (69, [42]), (70, [182, 1, 59]), (73, [104])] = true := by decide +kernel
theorem dX12_on_0 : decode cX12_on 0 = .ok (.aload_n 0, 1) := q_aload_n0 (bat_get dg_X12_on_0_0 0 rfl rfl)
theorem dX12_on_1 : decode cX12_on 1 = .ok (.getfield 192, 3) := q_getfield (bat_get dg_X12_on_0_0 1 rfl rfl) rfl
theorem dX12_on_4 : decode cX12_on 4 = .ok (.istore_n 1, 1) := q_istore_n1 (bat_get dg_X12_on_0_0 2 rfl rfl)
theorem dX12_on_5 : decode cX12_on 5 = .ok (.aload_n 0, 1) := q_aload_n0 (bat_get dg_X12_on_0_0 3 rfl rfl)
theorem dX12_on_6 : decode cX12_on 6 = .ok (.iconst 0, 1) := q_iconst0 (bat_get dg_X12_on_0_0 4 rfl rfl)
theorem dX12_on_7 : decode cX12_on 7 = .ok (.putfield 192, 3) := q_putfield (bat_get dg_X12_on_0_0 5 rfl rfl) rfl
theorem dX12_on_10 : decode cX12_on 10 = .ok (.aload_n 0, 1) := q_aload_n0 (bat_get dg_X12_on_0_0 6 rfl rfl)
theorem dX12_on_11 : decode cX12_on 11 = .ok (.iload_n 1, 1) := q_iload_n1 (bat_get dg_X12_on_0_0 7 rfl rfl)
theorem dX12_on_12 : decode cX12_on 12 = .ok (.invokevirtual 605, 3) := q_invokevirtual (bat_get dg_X12_on_0_0 8 rfl rfl) rfl
theorem dX12_on_15 : decode cX12_on 15 = .ok (.ifCond .ne 15, 3) := q_ifCond_ne (bat_get dg_X12_on_0_0 9 rfl rfl) rfl
theorem dX12_on_30 : decode cX12_on 30 = .ok (.aload_n 0, 1) := q_aload_n0 (bat_get dg_X12_on_0_0 10 rfl rfl)
theorem dX12_on_31 : decode cX12_on 31 = .ok (.getfield 63, 3) := q_getfield (bat_get dg_X12_on_0_0 11 rfl rfl) rfl
theorem dX12_on_34 : decode cX12_on 34 = .ok (.iconst 0, 1) := q_iconst0 (bat_get dg_X12_on_0_0 12 rfl rfl)
theorem dX12_on_35 : decode cX12_on 35 = .ok (.sipush 256, 3) := q_sipush (bat_get dg_X12_on_0_0 13 rfl rfl) rfl
theorem dX12_on_38 : decode cX12_on 38 = .ok (.aload_n 0, 1) := q_aload_n0 (bat_get dg_X12_on_0_0 14 rfl rfl)
theorem dX12_on_39 : decode cX12_on 39 = .ok (.getfield 7, 3) := q_getfield (bat_get dg_X12_on_0_0 15 rfl rfl) rfl
theorem dX12_on_42 : decode cX12_on 42 = .ok (.iconst 0, 1) := q_iconst0 (bat_get dg_X12_on_0_0 16 rfl rfl)
theorem dX12_on_43 : decode cX12_on 43 = .ok (.iaload, 1) := q_iaload (bat_get dg_X12_on_0_0 17 rfl rfl)
theorem dX12_on_44 : decode cX12_on 44 = .ok (.imul, 1) := q_imul (bat_get dg_X12_on_0_0 18 rfl rfl)
theorem dX12_on_45 : decode cX12_on 45 = .ok (.aload_n 0, 1) := q_aload_n0 (bat_get dg_X12_on_0_0 19 rfl rfl)
theorem dX12_on_46 : decode cX12_on 46 = .ok (.getfield 7, 3) := q_getfield (bat_get dg_X12_on_0_0 20 rfl rfl) rfl
theorem dX12_on_49 : decode cX12_on 49 = .ok (.iconst 1, 1) := q_iconst1 (bat_get dg_X12_on_0_0 21 rfl rfl)
theorem dX12_on_50 : decode cX12_on 50 = .ok (.iaload, 1) := q_iaload (bat_get dg_X12_on_0_0 22 rfl rfl)
theorem dX12_on_51 : decode cX12_on 51 = .ok (.iadd, 1) := q_iadd (bat_get dg_X12_on_0_0 23 rfl rfl)
theorem dX12_on_52 : decode cX12_on 52 = .ok (.iastore, 1) := q_iastore (bat_get dg_X12_on_0_0 24 rfl rfl)
theorem dX12_on_53 : decode cX12_on 53 = .ok (.aload_n 0, 1) := q_aload_n0 (bat_get dg_X12_on_0_0 25 rfl rfl)
theorem dX12_on_54 : decode cX12_on 54 = .ok (.getfield 63, 3) := q_getfield (bat_get dg_X12_on_0_0 26 rfl rfl) rfl
theorem dX12_on_57 : decode cX12_on 57 = .ok (.iconst 1, 1) := q_iconst1 (bat_get dg_X12_on_0_0 27 rfl rfl)
theorem dX12_on_58 : decode cX12_on 58 = .ok (.aload_n 0, 1) := q_aload_n0 (bat_get dg_X12_on_0_0 28 rfl rfl)
theorem dX12_on_59 : decode cX12_on 59 = .ok (.getfield 7, 3) := q_getfield (bat_get dg_X12_on_0_0 29 rfl rfl) rfl
theorem dX12_on_62 : decode cX12_on 62 = .ok (.iconst 2, 1) := q_iconst2 (bat_get dg_X12_on_0_0 30 rfl rfl)
theorem dX12_on_63 : decode cX12_on 63 = .ok (.iaload, 1) := q_iaload (bat_get dg_X12_on_0_0 31 rfl rfl)
theorem dX12_on_64 : decode cX12_on 64 = .ok (.iastore, 1) := q_iastore (bat_get dg_X12_on_0_0 32 rfl rfl)
theorem dX12_on_65 : decode cX12_on 65 = .ok (.iconst 0, 1) := q_iconst0 (bat_get dg_X12_on_0_0 33 rfl rfl)
theorem dX12_on_66 : decode cX12_on 66 = .ok (.istore_n 2, 1) := q_istore_n2 (bat_get dg_X12_on_0_0 34 rfl rfl)
theorem dX12_on_67 : decode cX12_on 67 = .ok (.iload_n 2, 1) := q_iload_n2 (bat_get dg_X12_on_0_0 35 rfl rfl)
theorem dX12_on_68 : decode cX12_on 68 = .ok (.iconst 3, 1) := q_iconst3 (bat_get dg_X12_on_0_0 36 rfl rfl)
theorem dX12_on_69 : decode cX12_on 69 = .ok (.aload_n 0, 1) := q_aload_n0 (bat_get dg_X12_on_0_0 37 rfl rfl)
theorem dX12_on_70 : decode cX12_on 70 = .ok (.invokevirtual 315, 3) := q_invokevirtual (bat_get dg_X12_on_0_0 38 rfl rfl) rfl
theorem dX12_on_73 : decode cX12_on 73 = .ok (.imul, 1) := q_imul (bat_get dg_X12_on_0_0 39 rfl rfl)
theorem dg_X12_on_18_74 : bqL cX12_on 18 [(56, [162, 0, 25]), (81, [42]), (82, [180, 0, 63]), (85, [16, 29]), (87, [3]), (88, [79]), (89, [42]), (90, [3]), (91, [181, 1, 53]), (94, [4]), (95, [172]), (59, [42]), (60, [180, 0, 63]), (63, [5]), (64, [28]), (65, [96]), (66, [42]), (67, [180, 0, 7]), (70, [6]), (71, [28]), (72, [96]), (73, [46]), (74, [79]), (75, [132, 2, 1]), (78, [167, 255, 227]), (0, [42]), (1, [180, 0, 17]), (4, [8]), (5, [92]), (6, [46]), (7, [4]), (8, [96]), (9, [79]), (10, [3]), (11, [172])] = true := by decide +kernel
theorem dX12_on_74 : decode cX12_on 74 = .ok (.if_icmp .ge 25, 3) := q_if_icmp_ge (bat_get dg_X12_on_18_74 0 rfl rfl) rfl
theorem dX12_on_99 : decode cX12_on 99 = .ok (.aload_n 0, 1) := q_aload_n0 (bat_get dg_X12_on_18_74 1 rfl rfl)
theorem dX12_on_100 : decode cX12_on 100 = .ok (.getfield 63, 3) := q_getfield (bat_get dg_X12_on_18_74 2 rfl rfl) rfl
theorem dX12_on_103 : decode cX12_on 103 = .ok (.bipush 29, 2) := q_bipush (bat_get dg_X12_on_18_74 3 rfl rfl) rfl
theorem dX12_on_105 : decode cX12_on 105 = .ok (.iconst 0, 1) := q_iconst0 (bat_get dg_X12_on_18_74 4 rfl rfl)
theorem dX12_on_106 : decode cX12_on 106 = .ok (.iastore, 1) := q_iastore (bat_get dg_X12_on_18_74 5 rfl rfl)
theorem dX12_on_107 : decode cX12_on 107 = .ok (.aload_n 0, 1) := q_aload_n0 (bat_get dg_X12_on_18_74 6 rfl rfl)
theorem dX12_on_108 : decode cX12_on 108 = .ok (.iconst 0, 1) := q_iconst0 (bat_get dg_X12_on_18_74 7 rfl rfl)
theorem dX12_on_109 : decode cX12_on 109 = .ok (.putfield 309, 3) := q_putfield (bat_get dg_X12_on_18_74 8 rfl rfl) rfl
theorem dX12_on_112 : decode cX12_on 112 = .ok (.iconst 1, 1) := q_iconst1 (bat_get dg_X12_on_18_74 9 rfl rfl)
theorem dX12_on_113 : decode cX12_on 113 = .ok (.ireturn, 1) := q_ireturn (bat_get dg_X12_on_18_74 10 rfl rfl)
theorem dX12_on_77 : decode cX12_on 77 = .ok (.aload_n 0, 1) := q_aload_n0 (bat_get dg_X12_on_18_74 11 rfl rfl)
theorem dX12_on_78 : decode cX12_on 78 = .ok (.getfield 63, 3) := q_getfield (bat_get dg_X12_on_18_74 12 rfl rfl) rfl
theorem dX12_on_81 : decode cX12_on 81 = .ok (.iconst 2, 1) := q_iconst2 (bat_get dg_X12_on_18_74 13 rfl rfl)
theorem dX12_on_82 : decode cX12_on 82 = .ok (.iload_n 2, 1) := q_iload_n2 (bat_get dg_X12_on_18_74 14 rfl rfl)
theorem dX12_on_83 : decode cX12_on 83 = .ok (.iadd, 1) := q_iadd (bat_get dg_X12_on_18_74 15 rfl rfl)
theorem dX12_on_84 : decode cX12_on 84 = .ok (.aload_n 0, 1) := q_aload_n0 (bat_get dg_X12_on_18_74 16 rfl rfl)
theorem dX12_on_85 : decode cX12_on 85 = .ok (.getfield 7, 3) := q_getfield (bat_get dg_X12_on_18_74 17 rfl rfl) rfl
theorem dX12_on_88 : decode cX12_on 88 = .ok (.iconst 3, 1) := q_iconst3 (bat_get dg_X12_on_18_74 18 rfl rfl)
theorem dX12_on_89 : decode cX12_on 89 = .ok (.iload_n 2, 1) := q_iload_n2 (bat_get dg_X12_on_18_74 19 rfl rfl)
theorem dX12_on_90 : decode cX12_on 90 = .ok (.iadd, 1) := q_iadd (bat_get dg_X12_on_18_74 20 rfl rfl)
theorem dX12_on_91 : decode cX12_on 91 = .ok (.iaload, 1) := q_iaload (bat_get dg_X12_on_18_74 21 rfl rfl)
theorem dX12_on_92 : decode cX12_on 92 = .ok (.iastore, 1) := q_iastore (bat_get dg_X12_on_18_74 22 rfl rfl)
theorem dX12_on_93 : decode cX12_on 93 = .ok (.iinc 2 1, 3) := q_iinc (bat_get dg_X12_on_18_74 23 rfl rfl) rfl
theorem dX12_on_96 : decode cX12_on 96 = .ok (.goto (-29), 3) := q_goto (bat_get dg_X12_on_18_74 24 rfl rfl) rfl
theorem dX12_on_18 : decode cX12_on 18 = .ok (.aload_n 0, 1) := q_aload_n0 (bat_get dg_X12_on_18_74 25 rfl rfl)
theorem dX12_on_19 : decode cX12_on 19 = .ok (.getfield 17, 3) := q_getfield (bat_get dg_X12_on_18_74 26 rfl rfl) rfl
theorem dX12_on_22 : decode cX12_on 22 = .ok (.iconst 5, 1) := q_iconst5 (bat_get dg_X12_on_18_74 27 rfl rfl)
theorem dX12_on_23 : decode cX12_on 23 = .ok (.dup2, 1) := q_dup2 (bat_get dg_X12_on_18_74 28 rfl rfl)
theorem dX12_on_24 : decode cX12_on 24 = .ok (.iaload, 1) := q_iaload (bat_get dg_X12_on_18_74 29 rfl rfl)
theorem dX12_on_25 : decode cX12_on 25 = .ok (.iconst 1, 1) := q_iconst1 (bat_get dg_X12_on_18_74 30 rfl rfl)
theorem dX12_on_26 : decode cX12_on 26 = .ok (.iadd, 1) := q_iadd (bat_get dg_X12_on_18_74 31 rfl rfl)
theorem dX12_on_27 : decode cX12_on 27 = .ok (.iastore, 1) := q_iastore (bat_get dg_X12_on_18_74 32 rfl rfl)
theorem dX12_on_28 : decode cX12_on 28 = .ok (.iconst 0, 1) := q_iconst0 (bat_get dg_X12_on_18_74 33 rfl rfl)
theorem dX12_on_29 : decode cX12_on 29 = .ok (.ireturn, 1) := q_ireturn (bat_get dg_X12_on_18_74 34 rfl rfl)
theorem w_8_222 : (Cond.methodLink RX12 605 yX12_isImage) ∈ wsL_law := sk_mem (ck_8 _ (List.mem_of_getElem? (i := 222) rfl)) rfl
theorem w_8_224 : (Cond.instanceMethod yX12_isImage) ∈ wsL_law := sk_mem (ck_8 _ (List.mem_of_getElem? (i := 224) rfl)) rfl
theorem w_0_120 : (Cond.selects RX12 yX12_isImage yX12_isImage) ∈ wsL_law := sk_mem (ck_0 _ (List.mem_of_getElem? (i := 120) rfl)) rfl
theorem w_8_221 : (Cond.code yX12_on cX12_on 3 (some .boolean)) ∈ wsL_law := sk_mem (ck_8 _ (List.mem_of_getElem? (i := 221) rfl)) rfl
def om_6_34 : List Bool := true :: true :: false :: true :: false :: false :: []
def om_6_30 : List Bool := true :: true :: false :: false :: false :: false :: []
theorem hd_X12_isImage_1 : skD yX12_isImage 1 := by decide +kernel
set_option maxHeartbeats 4000000 in
set_option maxRecDepth 100000 in
theorem c_nm_on (l : Launch) (D : va_G) (cI cJ cC cZ cS : ClassId) (mm : Nat) (g : Nat → Nat) (ta : Nat) (pa : Nat) (pe : Nat) (pd : Int32) (pb : Nat) (pp : Int32) (pf : Int32) (pg : Int32) (pn : Int32) (rt : Int32) (rn : Int32) (cd : Nat) (sn : Int32) (il : Nat) (tk : Int32) (am : Int32) (at_ : Int32) (aa : Int32) (wt : Int32) (wy : Int64) (rm : Nat) (ud : Nat) (nu : Nat) (sd : Int64) (qn : Nat) (qw : Nat) (qo : Int32) (qb : Nat) (qp : Nat) (qa : Int64) (qi : Nat) (oc : Nat) (l0 : Nat) (l1 : Nat) (dm : Nat) (l3 : Nat) (nw : Nat → Int32) (tb : Nat → Nat) (kp : Nat → Int32) (rf : Nat → Int32) (wn : Nat) (mN : Nat) (Ba : Nat → Nat) (We : Nat → Nat) (U : Nat → Bool) (ke : Nat) (lg : KLg) (su : Nat → KN) (hil : il ≤ 1) (hild : il = 1 → 1 ≤ dm) (hilb : 1 ≤ dm → il = 1) (hdm : dm ≤ 9) (hta : ta ≤ 1600) (hnu : nu < 20) (hud : ud ≤ 20) (hUd : ∀ j, U j = true → j < dm) (hnw : nwX wn mN Ba We U ke lg nw) (htb : ∀ j, tb j ≤ 255) (hkp : kpX ud nu su lg kp) : skM l yX12_on cX12_on 3 (some .boolean) 2 45 0 0 D (skT cI cJ cC cZ cS) [.ref mm] [ro_ mm 12 (mo g (nI ta) (nI pa) (nI pe) pd (nI pb) pp pf pg pn rt rn (nI cd) sn (nI il) tk am at_ aa 0 0 (-1) wt wy 0 (nI rm) (nI ud) (nI nu) sd (nI qn) (nI qw) qo (nI qb) (nI qp) qa (nI qi) (nI oc)), ra_I (g 20) cI 4 (l4 (nI l0) (nI l1) (nI dm) (nI l3)), ra_I (g 31) cI 120 nw, ra_N (g 0) cI 1600 tb, ra_I (g 54) cI 2400 kp, ra_I (g 9) cI 6 rf] (skI D (skT cI cJ cC cZ cS) (fun (r : Int32) (u : va_W) => ∃ (wn2 : Nat), ∃ (mo2 : Nat), ∃ (Ba2 : Nat → Nat), ∃ (We2 : Nat → Nat), ∃ (U2 : Nat → Bool), ∃ (ke2 : Nat), ∃ (b : Nat), ∃ (nw2 : Nat → Int32), ∃ (kp2 : Nat → Int32), ∃ (ud2 : Nat), ∃ (rf2 : Nat → Int32), nwX wn2 mo2 Ba2 We2 U2 ke2 lg nw2 ∧ kpX ud2 nu su lg kp2 ∧ ud2 ≤ 20 ∧ onR dm tb ta (wn, mN, Ba, We, U, ke) ud rf (nI b) (wn2, mo2, Ba2, We2, U2, ke2) ud2 rf2 ∧ r = nI b ∧ u = [ro_ mm 12 (mo g 0 (nI pa) (nI pe) pd (nI pb) pp pf pg pn rt rn (nI cd) sn (nI il) tk am at_ aa 0 0 (-1) wt wy 0 (nI rm) (nI ud2) (nI nu) sd (nI qn) (nI qw) qo (nI qb) (nI qp) qa (nI qi) (nI oc)), ra_I (g 20) cI 4 (l4 (nI l0) (nI l1) (nI dm) (nI l3)), ra_I (g 31) cI 120 nw2, ra_N (g 0) cI 1600 tb, ra_I (g 54) cI 2400 kp2, ra_I (g 9) cI 6 rf2])) := by
  refine skM_of pf_X12_on (Nat.le_of_ble_eq_true rfl) ?_
  intro p e s m below meth c A ls E hP hD hl
  refine skE_el E (fun hx hb hr hml hlocks hin hown hts hK hA => ?_)
  have hown : s.vm.findClass RX12 = some m.cls := hown
  have hS : va_S A s.heap s.heap [] := va_S.rf
  have hl : lv_has ls 3 [(0, .ref mm)] := hl
  refine lv_aload_n hx hb dX12_on_0 rfl (lv_at hl 0 rfl) ?_
  refine sk_get (v := .int (nI ta)) (C := RX12) (T := TX12) (N := 92) hx hb hts inlX12 hown hK hP 0 rfl rfl 1 (Nat.le_of_ble_eq_true rfl) w_5_156 rfl dX12_on_1 ?_
  refine lv_istore_n (lv' := [(1, .int (nI ta)), (0, .ref mm)]) hx hb dX12_on_4 rfl hl (by decide) rfl (fun ls hl => ?_)
  refine lv_aload_n hx hb dX12_on_5 rfl (lv_at hl 1 rfl) ?_
  refine lv_iconst (v := 0) hx hb dX12_on_6 ic_0 ?_
  refine sk_put (ws' := [ro_ mm 12 (mo g 0 (nI pa) (nI pe) pd (nI pb) pp pf pg pn rt rn (nI cd) sn (nI il) tk am at_ aa 0 0 (-1) wt wy 0 (nI rm) (nI ud) (nI nu) sd (nI qn) (nI qw) qo (nI qb) (nI qp) qa (nI qi) (nI oc)), ra_I (g 20) cI 4 (l4 (nI l0) (nI l1) (nI dm) (nI l3)), ra_I (g 31) cI 120 nw, ra_N (g 0) cI 1600 tb, ra_I (g 54) cI 2400 kp, ra_I (g 9) cI 6 rf]) (C := RX12) (T := TX12) (N := 92) (v := .int 0) hx hb hts inlX12 tyX12 tyX12_ok nmX12 hown hK hP hD hS 0 rfl rfl 1 (Nat.le_of_ble_eq_true rfl) w_5_156 rfl rfl rfl (Nat.le_of_ble_eq_true rfl) rfl dX12_on_7 (fun H locs hP hD hS => ?_)
  refine lv_aload_n hx hb dX12_on_10 rfl (lv_at hl 1 rfl) ?_
  refine lv_iload_n hx hb dX12_on_11 rfl (lv_at hl 0 rfl) ?_
  refine sk_Vi (q0 := 0) (n := 1) (rest := []) (wr := fmR om_6_34 _) ⟨hx, hb, hml, hown, hts⟩ hl.1 (c_m_isImage l D cI cJ cC cZ cS mm g 0 pa pe pd pb pp pf pg pn rt rn cd sn il tk am at_ aa wt wy rm ud nu sd qn qw qo qb qp qa qi oc ta l0 l1 dm l3 tb hil hild hdm hta htb) w_8_222 w_8_224 w_0_120 w_1_14 w_8_225 hd_X12_isImage_1 ⟨⟨(Nat.le_of_ble_eq_true rfl), (Nat.le_of_ble_eq_true rfl)⟩, (Nat.le_of_ble_eq_true rfl), (Nat.le_of_ble_eq_true rfl)⟩ hK hP hD hS hA (fmT om_6_34 0) (fmF om_6_34 0) (fm_C1 rfl rfl) (fm_R rfl rfl) (fm_nT om_6_34 0) (fm_nF om_6_34 0) (fm_di om_6_34 0) rfl rfl rfl rfl (Nat.le_of_ble_eq_true rfl) dX12_on_12 (fun r_2 u H locs hw hP hD hS => ?_)
  refine exE hw (fun b_1 hw1 => anE hw1 (fun hb1_3 hw2 => anE hw2 (fun himg_4 hw3 => anE hw3 (fun er_6 eu_5 => ?_))))
  clear hw hw1 hw2 hw3
  subst er_6
  refine o_mgE (ws' := [ro_ mm 12 (mo g 0 (nI pa) (nI pe) pd (nI pb) pp pf pg pn rt rn (nI cd) sn (nI il) tk am at_ aa 0 0 (-1) wt wy 0 (nI rm) (nI ud) (nI nu) sd (nI qn) (nI qw) qo (nI qb) (nI qp) qa (nI qi) (nI oc)), ra_I (g 20) cI 4 (l4 (nI l0) (nI l1) (nI dm) (nI l3)), ra_I (g 31) cI 120 nw, ra_N (g 0) cI 1600 tb, ra_I (g 54) cI 2400 kp, ra_I (g 9) cI 6 rf]) eu_5 hP hD rfl (fun hP hD => ?_)
  refine lv_if_ne (tgt := 30) hx hb dX12_on_15 (by decide) (fun c_7 => ?_) (fun c_7 => ?_)
  · have c_7 : ¬ (b_1 = 0) := fun h => c_7 ((neq b_1 0 (by omega) (Nat.le_of_ble_eq_true rfl)).mpr h)
    have hcc := rr_1 himg_4 (by omega)
    refine lv_aload_n hx hb dX12_on_30 rfl (lv_at hl 1 rfl) ?_
    refine sk_get (v := .ref (g 31)) (C := RX12) (T := TX12) (N := 92) hx hb hts inlX12 hown hK hP 0 rfl rfl 31 (Nat.le_of_ble_eq_true rfl) w_5_186 rfl dX12_on_31 ?_
    refine lv_iconst (v := 0) hx hb dX12_on_34 ic_0 ?_
    refine lv_sipush (v := 256) hx hb dX12_on_35 (by decide) ?_
    refine lv_aload_n hx hb dX12_on_38 rfl (lv_at hl 1 rfl) ?_
    refine sk_get (v := .ref (g 0)) (C := RX12) (T := TX12) (N := 92) hx hb hts inlX12 hown hK hP 0 rfl rfl 0 (Nat.le_of_ble_eq_true rfl) w_5_155 rfl dX12_on_39 ?_
    refine lv_iconst (v := 0) hx hb dX12_on_42 ic_0 ?_
    refine va_iald hx hb hK.1 hP 3 0 rfl rfl (by unfold vp_in; decide) dX12_on_43 ?_
    refine sk_top (nI (tb 0)) (nrd tb 0 (Nat.le_of_ble_eq_true rfl)) ?_
    have hb_8 := htb 0
    refine lv_imul hx hb dX12_on_44 ?_
    refine sk_top (nI (256 * (tb 0))) (nmul 256 (tb 0)) ?_
    refine lv_aload_n hx hb dX12_on_45 rfl (lv_at hl 1 rfl) ?_
    refine sk_get (v := .ref (g 0)) (C := RX12) (T := TX12) (N := 92) hx hb hts inlX12 hown hK hP 0 rfl rfl 0 (Nat.le_of_ble_eq_true rfl) w_5_155 rfl dX12_on_46 ?_
    refine lv_iconst (v := 1) hx hb dX12_on_49 ic_1 ?_
    refine va_iald hx hb hK.1 hP 3 0 rfl rfl (by unfold vp_in; decide) dX12_on_50 ?_
    refine sk_top (nI (tb 1)) (nrd tb 1 (Nat.le_of_ble_eq_true rfl)) ?_
    have hb_9 := htb 1
    refine lv_iadd hx hb dX12_on_51 ?_
    refine sk_top (nI (256 * (tb 0) + (tb 1))) (nI_add (256 * (tb 0)) (tb 1)) ?_
    refine sk_iastE (k := 0) (x := (nI (256 * (tb 0) + (tb 1)))) (ws' := fun f_10 => [ro_ mm 12 (mo g 0 (nI pa) (nI pe) pd (nI pb) pp pf pg pn rt rn (nI cd) sn (nI il) tk am at_ aa 0 0 (-1) wt wy 0 (nI rm) (nI ud) (nI nu) sd (nI qn) (nI qw) qo (nI qb) (nI qp) qa (nI qi) (nI oc)), ra_I (g 20) cI 4 (l4 (nI l0) (nI l1) (nI dm) (nI l3)), ra_I (g 31) cI 120 f_10, ra_N (g 0) cI 1600 tb, ra_I (g 54) cI 2400 kp, ra_I (g 9) cI 6 rf]) hx hb hK hP hD hS 2 0 rfl rfl (by omega) (by omega) (fun _ => rfl) dX12_on_52 (fun f_10 H locs ef_11 hP hD hS => ?_)
    have hq0 := nwX_up0 hnw ef_11
    refine lv_aload_n hx hb dX12_on_53 rfl (lv_at hl 1 rfl) ?_
    refine sk_get (v := .ref (g 31)) (C := RX12) (T := TX12) (N := 92) hx hb hts inlX12 hown hK hP 0 rfl rfl 31 (Nat.le_of_ble_eq_true rfl) w_5_186 rfl dX12_on_54 ?_
    refine lv_iconst (v := 1) hx hb dX12_on_57 ic_1 ?_
    refine lv_aload_n hx hb dX12_on_58 rfl (lv_at hl 1 rfl) ?_
    refine sk_get (v := .ref (g 0)) (C := RX12) (T := TX12) (N := 92) hx hb hts inlX12 hown hK hP 0 rfl rfl 0 (Nat.le_of_ble_eq_true rfl) w_5_155 rfl dX12_on_59 ?_
    refine lv_iconst (v := 2) hx hb dX12_on_62 ic_2 ?_
    refine va_iald hx hb hK.1 hP 3 0 rfl rfl (by unfold vp_in; decide) dX12_on_63 ?_
    refine sk_top (nI (tb 2)) (nrd tb 2 (Nat.le_of_ble_eq_true rfl)) ?_
    have hb_12 := htb 2
    refine sk_iastE (k := 1) (x := (nI (tb 2))) (ws' := fun f_13 => [ro_ mm 12 (mo g 0 (nI pa) (nI pe) pd (nI pb) pp pf pg pn rt rn (nI cd) sn (nI il) tk am at_ aa 0 0 (-1) wt wy 0 (nI rm) (nI ud) (nI nu) sd (nI qn) (nI qw) qo (nI qb) (nI qp) qa (nI qi) (nI oc)), ra_I (g 20) cI 4 (l4 (nI l0) (nI l1) (nI dm) (nI l3)), ra_I (g 31) cI 120 f_13, ra_N (g 0) cI 1600 tb, ra_I (g 54) cI 2400 kp, ra_I (g 9) cI 6 rf]) hx hb hK hP hD hS 2 0 rfl rfl (by omega) (by omega) (fun _ => rfl) dX12_on_64 (fun f_13 H locs ef_14 hP hD hS => ?_)
    have hq1 := nwX_up1 hq0 ef_14 (by have h9 := (hcc.2.2.2.2 2 (by omega) (by omega)).1; omega)
    refine lv_iconst (v := 0) hx hb dX12_on_65 ic_0 ?_
    refine lv_istore_n (lv' := [(2, .int 0), (1, .int (nI ta)), (0, .ref mm)]) hx hb dX12_on_66 rfl hl (by decide) rfl (fun ls hl => ?_)
    have lp_15 : ∀ (n_16 : Nat) (i : Nat) (zn : Nat → Int32) (H : Heap) (locs : List Loc) (ls : Array Slot), 3 * dm - i < n_16 → (i ≤ 3 * dm) → (oiR tb i f_13 zn) → va_P D vwCl [ro_ mm 12 (mo g 0 (nI pa) (nI pe) pd (nI pb) pp pf pg pn rt rn (nI cd) sn (nI il) tk am at_ aa 0 0 (-1) wt wy 0 (nI rm) (nI ud) (nI nu) sd (nI qn) (nI qw) qo (nI qb) (nI qp) qa (nI qi) (nI oc)), ra_I (g 20) cI 4 (l4 (nI l0) (nI l1) (nI dm) (nI l3)), ra_I (g 31) cI 120 zn, ra_N (g 0) cI 1600 tb, ra_I (g 54) cI 2400 kp, ra_I (g 9) cI 6 rf] H → va_D A [ro_ mm 12 (mo g 0 (nI pa) (nI pe) pd (nI pb) pp pf pg pn rt rn (nI cd) sn (nI il) tk am at_ aa 0 0 (-1) wt wy 0 (nI rm) (nI ud) (nI nu) sd (nI qn) (nI qw) qo (nI qb) (nI qp) qa (nI qi) (nI oc)), ra_I (g 20) cI 4 (l4 (nI l0) (nI l1) (nI dm) (nI l3)), ra_I (g 31) cI 120 zn, ra_N (g 0) cI 1600 tb, ra_I (g 54) cI 2400 kp, ra_I (g 9) cI 6 rf] → va_S A s.heap H locs → lv_has ls 3 [(2, .int (nI i)), (1, .int (nI ta)), (0, .ref mm)] → W p l e { frames := 2, cells := 0, slots := 0, locals := 45 } s m ([.ref mm] : List Value).toArray below meth c H locs 0 0 (MQ below (skI D (skT cI cJ cC cZ cS) (fun (r : Int32) (u : va_W) => ∃ (wn2 : Nat), ∃ (mo2 : Nat), ∃ (Ba2 : Nat → Nat), ∃ (We2 : Nat → Nat), ∃ (U2 : Nat → Bool), ∃ (ke2 : Nat), ∃ (b : Nat), ∃ (nw2 : Nat → Int32), ∃ (kp2 : Nat → Int32), ∃ (ud2 : Nat), ∃ (rf2 : Nat → Int32), nwX wn2 mo2 Ba2 We2 U2 ke2 lg nw2 ∧ kpX ud2 nu su lg kp2 ∧ ud2 ≤ 20 ∧ onR dm tb ta (wn, mN, Ba, We, U, ke) ud rf (nI b) (wn2, mo2, Ba2, We2, U2, ke2) ud2 rf2 ∧ r = nI b ∧ u = [ro_ mm 12 (mo g 0 (nI pa) (nI pe) pd (nI pb) pp pf pg pn rt rn (nI cd) sn (nI il) tk am at_ aa 0 0 (-1) wt wy 0 (nI rm) (nI ud2) (nI nu) sd (nI qn) (nI qw) qo (nI qb) (nI qp) qa (nI qi) (nI oc)), ra_I (g 20) cI 4 (l4 (nI l0) (nI l1) (nI dm) (nI l3)), ra_I (g 31) cI 120 nw2, ra_N (g 0) cI 1600 tb, ra_I (g 54) cI 2400 kp2, ra_I (g 9) cI 6 rf2]) A) ([.ref mm] : List Value).toArray s 0 0 A) (F0 m 67 ls []) := by
      intro n_16
      induction n_16 with
      | zero => intro i zn H locs ls hm; exact absurd hm (Nat.not_lt_zero _)
      | succ n_16 ih_lp_15 =>
        intro i zn H locs ls hm hi hoi hP hD hS hl
        refine lv_iload_n hx hb dX12_on_67 rfl (lv_at hl 0 rfl) ?_
        refine lv_iconst (v := 3) hx hb dX12_on_68 ic_3 ?_
        refine lv_aload_n hx hb dX12_on_69 rfl (lv_at hl 2 rfl) ?_
        refine sk_Vi (q0 := 0) (n := 0) (rest := [.int 3, .int (nI i)]) (wr := fmR om_6_30 _) ⟨hx, hb, hml, hown, hts⟩ hl.1 (c_m_dayMany l D cI cJ cC cZ cS mm g 0 pa pe pd pb pp pf pg pn rt rn cd sn il tk am at_ aa 0 0 (-1) wt wy 0 rm ud nu sd qn qw qo qb qp qa qi oc l0 l1 dm l3) w_7_98 w_7_100 w_0_69 w_1_14 w_7_101 hd_X12_dayMany_0 ⟨⟨(Nat.le_of_ble_eq_true rfl), (Nat.le_of_ble_eq_true rfl)⟩, (Nat.le_of_ble_eq_true rfl), (Nat.le_of_ble_eq_true rfl)⟩ hK hP hD hS hA (fmT om_6_30 0) (fmF om_6_30 0) (fm_C1 rfl rfl) (fm_R rfl rfl) (fm_nT om_6_30 0) (fm_nF om_6_30 0) (fm_di om_6_30 0) rfl rfl rfl rfl (Nat.le_of_ble_eq_true rfl) dX12_on_70 (fun r_17 u H locs hw hP hD hS => ?_)
        refine anE hw (fun er_19 eu_18 => ?_)
        clear hw
        subst er_19
        refine o_mgE (ws' := [ro_ mm 12 (mo g 0 (nI pa) (nI pe) pd (nI pb) pp pf pg pn rt rn (nI cd) sn (nI il) tk am at_ aa 0 0 (-1) wt wy 0 (nI rm) (nI ud) (nI nu) sd (nI qn) (nI qw) qo (nI qb) (nI qp) qa (nI qi) (nI oc)), ra_I (g 20) cI 4 (l4 (nI l0) (nI l1) (nI dm) (nI l3)), ra_I (g 31) cI 120 zn, ra_N (g 0) cI 1600 tb, ra_I (g 54) cI 2400 kp, ra_I (g 9) cI 6 rf]) eu_18 hP hD rfl (fun hP hD => ?_)
        refine lv_imul hx hb dX12_on_73 ?_
        refine sk_top (nI (3 * dm)) (nmul 3 dm) ?_
        refine lv_icmp_ge (tgt := 99) hx hb dX12_on_74 (by decide) (fun c_20 => ?_) (fun c_20 => ?_)
        · have c_20 : 3 * dm ≤ i := (nle (3 * dm) i (by omega) (by omega)).mp c_20
          refine lv_aload_n hx hb dX12_on_99 rfl (lv_at hl 2 rfl) ?_
          refine sk_get (v := .ref (g 31)) (C := RX12) (T := TX12) (N := 92) hx hb hts inlX12 hown hK hP 0 rfl rfl 31 (Nat.le_of_ble_eq_true rfl) w_5_186 rfl dX12_on_100 ?_
          refine lv_bipush (v := 29) hx hb dX12_on_103 (by decide) ?_
          refine lv_iconst (v := 0) hx hb dX12_on_105 ic_0 ?_
          refine sk_iastE (k := 29) (x := 0) (ws' := fun f_21 => [ro_ mm 12 (mo g 0 (nI pa) (nI pe) pd (nI pb) pp pf pg pn rt rn (nI cd) sn (nI il) tk am at_ aa 0 0 (-1) wt wy 0 (nI rm) (nI ud) (nI nu) sd (nI qn) (nI qw) qo (nI qb) (nI qp) qa (nI qi) (nI oc)), ra_I (g 20) cI 4 (l4 (nI l0) (nI l1) (nI dm) (nI l3)), ra_I (g 31) cI 120 f_21, ra_N (g 0) cI 1600 tb, ra_I (g 54) cI 2400 kp, ra_I (g 9) cI 6 rf]) hx hb hK hP hD hS 2 0 rfl rfl (by omega) (by omega) (fun _ => rfl) dX12_on_106 (fun f_21 H locs ef_22 hP hD hS => ?_)
          have hnN : nwX (256 * tb 0 + tb 1) (tb 2) (onB tb Ba 3 dm) (onB tb We 4 dm) (onU tb dm) 0 lg f_21 := oiR_X hq1 (show oiR tb (3 * dm) f_13 zn by rw [show 3 * dm = i by omega]; exact hoi) ef_22 (by omega) hcc.2 hUd
          refine lv_aload_n hx hb dX12_on_107 rfl (lv_at hl 2 rfl) ?_
          refine lv_iconst (v := 0) hx hb dX12_on_108 ic_0 ?_
          refine sk_put (ws' := [ro_ mm 12 (mo g 0 (nI pa) (nI pe) pd (nI pb) pp pf pg pn rt rn (nI cd) sn (nI il) tk am at_ aa 0 0 (-1) wt wy 0 (nI rm) 0 (nI nu) sd (nI qn) (nI qw) qo (nI qb) (nI qp) qa (nI qi) (nI oc)), ra_I (g 20) cI 4 (l4 (nI l0) (nI l1) (nI dm) (nI l3)), ra_I (g 31) cI 120 f_21, ra_N (g 0) cI 1600 tb, ra_I (g 54) cI 2400 kp, ra_I (g 9) cI 6 rf]) (C := RX12) (T := TX12) (N := 92) (v := .int 0) hx hb hts inlX12 tyX12 tyX12_ok nmX12 hown hK hP hD hS 0 rfl rfl 55 (Nat.le_of_ble_eq_true rfl) w_5_210 rfl rfl rfl (Nat.le_of_ble_eq_true rfl) rfl dX12_on_109 (fun H locs hP hD hS => ?_)
          refine lv_iconst (v := 1) hx hb dX12_on_112 ic_1 ?_
          exact sk_iret hx hb hr rfl hlocks hK hP hD hS (⟨(256 * tb 0 + tb 1), (tb 2), (onB tb Ba 3 dm), (onB tb We 4 dm), (onU tb dm), 0, 1, f_21, kp, 0, rf, hnN, (kpX_0 nu su lg _), by omega, (by rw [show 256 * tb 0 + tb 1 = tb 0 * 256 + tb 1 by omega]; exact on_y (n := (wn, mN, Ba, We, U, ke)) ⟨by omega, hcc.2⟩ rfl), rfl, rfl⟩) (Nat.le_of_ble_eq_true rfl) (Nat.le_of_ble_eq_true rfl) dX12_on_113
        · have c_20 : ¬ (3 * dm ≤ i) := fun h => c_20 ((nle (3 * dm) i (by omega) (by omega)).mpr h)
          refine lv_aload_n hx hb dX12_on_77 rfl (lv_at hl 2 rfl) ?_
          refine sk_get (v := .ref (g 31)) (C := RX12) (T := TX12) (N := 92) hx hb hts inlX12 hown hK hP 0 rfl rfl 31 (Nat.le_of_ble_eq_true rfl) w_5_186 rfl dX12_on_78 ?_
          refine lv_iconst (v := 2) hx hb dX12_on_81 ic_2 ?_
          refine lv_iload_n hx hb dX12_on_82 rfl (lv_at hl 0 rfl) ?_
          refine lv_iadd hx hb dX12_on_83 ?_
          refine sk_top (nI (2 + i)) (nI_add 2 i) ?_
          refine lv_aload_n hx hb dX12_on_84 rfl (lv_at hl 2 rfl) ?_
          refine sk_get (v := .ref (g 0)) (C := RX12) (T := TX12) (N := 92) hx hb hts inlX12 hown hK hP 0 rfl rfl 0 (Nat.le_of_ble_eq_true rfl) w_5_155 rfl dX12_on_85 ?_
          refine lv_iconst (v := 3) hx hb dX12_on_88 ic_3 ?_
          refine lv_iload_n hx hb dX12_on_89 rfl (lv_at hl 0 rfl) ?_
          refine lv_iadd hx hb dX12_on_90 ?_
          refine sk_top (nI (3 + i)) (nI_add 3 i) ?_
          refine va_iald hx hb hK.1 hP 3 0 rfl rfl (vin (3 + i) 1600 (by omega) (Nat.le_of_ble_eq_true rfl)) dX12_on_91 ?_
          refine sk_top (nI (tb (3 + i))) (nrd tb (3 + i) (by omega)) ?_
          have hb_23 := htb (3 + i)
          refine sk_iastE (k := (2 + i)) (x := (nI (tb (3 + i)))) (ws' := fun f_24 => [ro_ mm 12 (mo g 0 (nI pa) (nI pe) pd (nI pb) pp pf pg pn rt rn (nI cd) sn (nI il) tk am at_ aa 0 0 (-1) wt wy 0 (nI rm) (nI ud) (nI nu) sd (nI qn) (nI qw) qo (nI qb) (nI qp) qa (nI qi) (nI oc)), ra_I (g 20) cI 4 (l4 (nI l0) (nI l1) (nI dm) (nI l3)), ra_I (g 31) cI 120 f_24, ra_N (g 0) cI 1600 tb, ra_I (g 54) cI 2400 kp, ra_I (g 9) cI 6 rf]) hx hb hK hP hD hS 2 0 rfl rfl (by omega) (by omega) (fun _ => rfl) dX12_on_92 (fun f_24 H locs ef_25 hP hD hS => ?_)
          refine lv_iinc (v := nI (i + 1)) (lv' := [(2, .int (nI (i + 1))), (1, .int (nI ta)), (0, .ref mm)]) hx hb dX12_on_93 hl (k := 0) rfl (ninc i 1 (by decide)) (by decide) rfl (fun ls hl => ?_)
          refine lv_goto (tgt := 67) hx hb dX12_on_96 (by decide) ?_
          exact ih_lp_15 (i + 1) f_24 _ _ _ (by omega) (by omega) (oiR_s hoi ef_25 rfl) hP hD hS (lv_sub hl [0, 1, 2] rfl)
    exact lp_15 (3 * dm - 0 + 1) 0 f_13 _ _ _ (Nat.lt_succ_self _) (by omega) (oiR_0 _ _) hP hD hS (lv_sub hl [0, 1, 2] rfl)
  · have c_7 : b_1 = 0 := (neq b_1 0 (by omega) (Nat.le_of_ble_eq_true rfl)).mp c_7
    refine lv_aload_n hx hb dX12_on_18 rfl (lv_at hl 1 rfl) ?_
    refine sk_get (v := .ref (g 9)) (C := RX12) (T := TX12) (N := 92) hx hb hts inlX12 hown hK hP 0 rfl rfl 9 (Nat.le_of_ble_eq_true rfl) w_5_164 rfl dX12_on_19 ?_
    refine lv_iconst (v := 5) hx hb dX12_on_22 ic_5 ?_
    refine lv_dup2_11 hx hb dX12_on_23 rfl rfl ?_
    refine va_iald hx hb hK.1 hP 5 0 rfl rfl (by unfold vp_in; decide) dX12_on_24 ?_
    refine sk_top (rf 5) (rfl) ?_
    refine lv_iconst (v := 1) hx hb dX12_on_25 ic_1 ?_
    refine lv_iadd hx hb dX12_on_26 ?_
    refine sk_iastE (k := 5) (ws' := fun f_26 => [ro_ mm 12 (mo g 0 (nI pa) (nI pe) pd (nI pb) pp pf pg pn rt rn (nI cd) sn (nI il) tk am at_ aa 0 0 (-1) wt wy 0 (nI rm) (nI ud) (nI nu) sd (nI qn) (nI qw) qo (nI qb) (nI qp) qa (nI qi) (nI oc)), ra_I (g 20) cI 4 (l4 (nI l0) (nI l1) (nI dm) (nI l3)), ra_I (g 31) cI 120 nw, ra_N (g 0) cI 1600 tb, ra_I (g 54) cI 2400 kp, ra_I (g 9) cI 6 f_26]) hx hb hK hP hD hS 5 0 rfl rfl (by omega) (by omega) (fun _ => rfl) dX12_on_27 (fun f_26 H locs ef_27 hP hD hS => ?_)
    refine lv_iconst (v := 0) hx hb dX12_on_28 ic_0 ?_
    exact sk_iret hx hb hr rfl hlocks hK hP hD hS (⟨wn, mN, Ba, We, U, ke, 0, nw, kp, ud, f_26, hnw, hkp, hud, (on_n (fun hq => rr_0 himg_4 (by omega) ⟨Nat.le_of_eq (hilb hq.1).symm, hq.2⟩) ef_27), rfl, rfl⟩) (Nat.le_of_ble_eq_true rfl) (Nat.le_of_ble_eq_true rfl) dX12_on_29
theorem dg_X12_canBeTold_0_0 : bqL cX12_canBeTold 0 [(0, [42]), (1, [27]), (2, [182, 1, 157]), (5, [153, 0, 23]), (28, [3]), (29, [172]), (8, [42]), (9, [27]), (10, [182, 1, 103]), (13, [154, 0, 15]), (16, [42]), (17, [28]), (18, [182, 1, 162]), (21, [153, 0, 7]), (24, [4]), (25, [167, 0, 4])] = true := by decide +kernel
theorem dX12_canBeTold_0 : decode cX12_canBeTold 0 = .ok (.aload_n 0, 1) := q_aload_n0 (bat_get dg_X12_canBeTold_0_0 0 rfl rfl)
theorem dX12_canBeTold_1 : decode cX12_canBeTold 1 = .ok (.iload_n 1, 1) := q_iload_n1 (bat_get dg_X12_canBeTold_0_0 1 rfl rfl)
theorem dX12_canBeTold_2 : decode cX12_canBeTold 2 = .ok (.invokevirtual 413, 3) := q_invokevirtual (bat_get dg_X12_canBeTold_0_0 2 rfl rfl) rfl
theorem dX12_canBeTold_5 : decode cX12_canBeTold 5 = .ok (.ifCond .eq 23, 3) := q_ifCond_eq (bat_get dg_X12_canBeTold_0_0 3 rfl rfl) rfl
theorem dX12_canBeTold_28 : decode cX12_canBeTold 28 = .ok (.iconst 0, 1) := q_iconst0 (bat_get dg_X12_canBeTold_0_0 4 rfl rfl)
theorem dX12_canBeTold_29 : decode cX12_canBeTold 29 = .ok (.ireturn, 1) := q_ireturn (bat_get dg_X12_canBeTold_0_0 5 rfl rfl)
theorem dX12_canBeTold_8 : decode cX12_canBeTold 8 = .ok (.aload_n 0, 1) := q_aload_n0 (bat_get dg_X12_canBeTold_0_0 6 rfl rfl)
theorem dX12_canBeTold_9 : decode cX12_canBeTold 9 = .ok (.iload_n 1, 1) := q_iload_n1 (bat_get dg_X12_canBeTold_0_0 7 rfl rfl)
theorem dX12_canBeTold_10 : decode cX12_canBeTold 10 = .ok (.invokevirtual 359, 3) := q_invokevirtual (bat_get dg_X12_canBeTold_0_0 8 rfl rfl) rfl
theorem dX12_canBeTold_13 : decode cX12_canBeTold 13 = .ok (.ifCond .ne 15, 3) := q_ifCond_ne (bat_get dg_X12_canBeTold_0_0 9 rfl rfl) rfl
theorem dX12_canBeTold_16 : decode cX12_canBeTold 16 = .ok (.aload_n 0, 1) := q_aload_n0 (bat_get dg_X12_canBeTold_0_0 10 rfl rfl)
theorem dX12_canBeTold_17 : decode cX12_canBeTold 17 = .ok (.iload_n 2, 1) := q_iload_n2 (bat_get dg_X12_canBeTold_0_0 11 rfl rfl)
theorem dX12_canBeTold_18 : decode cX12_canBeTold 18 = .ok (.invokevirtual 418, 3) := q_invokevirtual (bat_get dg_X12_canBeTold_0_0 12 rfl rfl) rfl
theorem dX12_canBeTold_21 : decode cX12_canBeTold 21 = .ok (.ifCond .eq 7, 3) := q_ifCond_eq (bat_get dg_X12_canBeTold_0_0 13 rfl rfl) rfl
theorem dX12_canBeTold_24 : decode cX12_canBeTold 24 = .ok (.iconst 1, 1) := q_iconst1 (bat_get dg_X12_canBeTold_0_0 14 rfl rfl)
theorem dX12_canBeTold_25 : decode cX12_canBeTold 25 = .ok (.goto 4, 3) := q_goto (bat_get dg_X12_canBeTold_0_0 15 rfl rfl) rfl
theorem w_8_80 : (Cond.code yX12_canBeTold cX12_canBeTold 3 (some .boolean)) ∈ wsL_law := sk_mem (ck_8 _ (List.mem_of_getElem? (i := 80) rfl)) rfl
set_option maxHeartbeats 4000000 in
set_option maxRecDepth 100000 in
theorem c_nm_canBeToldN (l : Launch) (D : va_G) (cI cJ cC cZ cS : ClassId) (mm : Nat) (g : Nat → Nat) (ta : Nat) (pa : Nat) (pe : Nat) (pd : Int32) (pb : Nat) (pp : Int32) (pf : Int32) (pg : Int32) (pn : Int32) (rt : Int32) (rn : Int32) (cd : Nat) (sn : Int32) (il : Nat) (tk : Int32) (am : Int32) (at_ : Int32) (aa : Int32) (wt : Int32) (wy : Int64) (rm : Nat) (ud : Nat) (nu : Nat) (sd : Int64) (qn : Nat) (qw : Nat) (qo : Int32) (qb : Nat) (qp : Nat) (qa : Int64) (qi : Nat) (oc : Nat) (aw : Nat) (cw : Nat) (l0 : Nat) (l1 : Nat) (dm : Nat) (l3 : Nat) (nw : Nat → Int32) (wn : Nat) (mN : Nat) (Ba : Nat → Nat) (We : Nat → Nat) (U : Nat → Bool) (ke : Nat) (lg : KLg) (hdm : dm ≤ 9) (ha9 : aw ≤ 255) (hc9 : cw ≤ 255) (hnw : nwX wn mN Ba We U ke lg nw) : skM l yX12_canBeTold cX12_canBeTold 3 (some .boolean) 2 46 0 0 D (skT cI cJ cC cZ cS) [.ref mm, .int (nI aw), .int (nI cw)] [ro_ mm 12 (mo g (nI ta) (nI pa) (nI pe) pd (nI pb) pp pf pg pn rt rn (nI cd) sn (nI il) tk am at_ aa 0 0 (-1) wt wy 0 (nI rm) (nI ud) (nI nu) sd (nI qn) (nI qw) qo (nI qb) (nI qp) qa (nI qi) (nI oc)), ra_I (g 20) cI 4 (l4 (nI l0) (nI l1) (nI dm) (nI l3)), ra_I (g 31) cI 120 nw] (skI D (skT cI cJ cC cZ cS) (fun (r : Int32) (u : va_W) => ∃ (b : Nat), ((b = 0 ∧ ¬ (aw < dm ∧ ¬ U aw = true ∧ cw < 10)) ∨ (b = 1 ∧ aw < dm ∧ ¬ U aw = true ∧ cw < 10)) ∧ r = nI b ∧ u = [ro_ mm 12 (mo g (nI ta) (nI pa) (nI pe) pd (nI pb) pp pf pg pn rt rn (nI cd) sn (nI il) tk am at_ aa 0 0 (-1) wt wy 0 (nI rm) (nI ud) (nI nu) sd (nI qn) (nI qw) qo (nI qb) (nI qp) qa (nI qi) (nI oc)), ra_I (g 20) cI 4 (l4 (nI l0) (nI l1) (nI dm) (nI l3)), ra_I (g 31) cI 120 nw])) := by
  refine skM_of pf_X12_canBeTold (Nat.le_of_ble_eq_true rfl) ?_
  intro p e s m below meth c A ls E hP hD hl
  refine skE_el E (fun hx hb hr hml hlocks hin hown hts hK hA => ?_)
  have hown : s.vm.findClass RX12 = some m.cls := hown
  have hS : va_S A s.heap s.heap [] := va_S.rf
  have hl : lv_has ls 3 [(0, .ref mm), (1, .int (nI aw)), (2, .int (nI cw))] := hl
  refine lv_aload_n hx hb dX12_canBeTold_0 rfl (lv_at hl 0 rfl) ?_
  refine lv_iload_n hx hb dX12_canBeTold_1 rfl (lv_at hl 1 rfl) ?_
  refine sk_Vi (q0 := 0) (n := 1) (rest := []) (wr := fmR om_3_6 _) ⟨hx, hb, hml, hown, hts⟩ hl.1 (c_nm_isDay l D cI cJ cC cZ cS mm g ta pa pe pd pb pp pf pg pn rt rn cd sn il tk am at_ aa wt wy rm ud nu sd qn qw qo qb qp qa qi oc (nI aw) l0 l1 dm l3 hdm) w_7_117 w_7_119 w_0_72 w_1_14 w_7_120 hd_X12_isDay_1 ⟨⟨(Nat.le_of_ble_eq_true rfl), (Nat.le_of_ble_eq_true rfl)⟩, (Nat.le_of_ble_eq_true rfl), (Nat.le_of_ble_eq_true rfl)⟩ hK hP hD hS hA (fmT om_3_6 0) (fmF om_3_6 0) (fm_C1 rfl rfl) (fm_R rfl rfl) (fm_nT om_3_6 0) (fm_nF om_3_6 0) (fm_di om_3_6 0) rfl rfl rfl rfl (Nat.le_of_ble_eq_true rfl) dX12_canBeTold_2 (fun r_2 u H locs hw hP hD hS => ?_)
  refine exE hw (fun b_1 hw1 => anE hw1 (fun hb1_3 hw2 => anE hw2 (fun er_5 eu_4 => ?_)))
  clear hw hw1 hw2
  subst er_5
  refine o_mgE (ws' := [ro_ mm 12 (mo g (nI ta) (nI pa) (nI pe) pd (nI pb) pp pf pg pn rt rn (nI cd) sn (nI il) tk am at_ aa 0 0 (-1) wt wy 0 (nI rm) (nI ud) (nI nu) sd (nI qn) (nI qw) qo (nI qb) (nI qp) qa (nI qi) (nI oc)), ra_I (g 20) cI 4 (l4 (nI l0) (nI l1) (nI dm) (nI l3)), ra_I (g 31) cI 120 nw]) eu_4 hP hD rfl (fun hP hD => ?_)
  refine lv_if_eq (tgt := 28) hx hb dX12_canBeTold_5 (by decide) (fun c_6 => ?_) (fun c_6 => ?_)
  · have c_6 : b_1 = 0 := (neq b_1 0 (by omega) (Nat.le_of_ble_eq_true rfl)).mp c_6
    refine lv_iconst (v := 0) hx hb dX12_canBeTold_28 ic_0 ?_
    exact sk_iret hx hb hr rfl hlocks hK hP hD hS (⟨0, Or.inl ⟨rfl, fun hq => (rr_0 hb1_3 (by omega)) ⟨aw, hq.1, rfl⟩⟩, rfl, rfl⟩) (Nat.le_of_ble_eq_true rfl) (Nat.le_of_ble_eq_true rfl) dX12_canBeTold_29
  · have c_6 : ¬ (b_1 = 0) := fun h => c_6 ((neq b_1 0 (by omega) (Nat.le_of_ble_eq_true rfl)).mpr h)
    obtain ⟨kd_7, hkd_7, ekd_7⟩ := rr_1 hb1_3 (by omega)
    have ekd_7 := (neq aw kd_7 (by omega) (by omega)).mp ekd_7
    refine lv_aload_n hx hb dX12_canBeTold_8 rfl (lv_at hl 0 rfl) ?_
    refine lv_iload_n hx hb dX12_canBeTold_9 rfl (lv_at hl 1 rfl) ?_
    refine sk_Vi (q0 := 0) (n := 1) (rest := []) (wr := fmR om_3_5 _) ⟨hx, hb, hml, hown, hts⟩ hl.1 (c_nm_isMute l D cI cJ cC cZ cS mm g ta pa pe pd pb pp pf pg pn rt rn cd sn il tk am at_ aa wt wy rm ud nu sd qn qw qo qb qp qa qi oc aw nw wn mN Ba We U ke lg (by omega) hnw) w_7_106 w_7_108 w_0_71 w_1_14 w_7_109 hd_X12_isMute_1 ⟨⟨(Nat.le_of_ble_eq_true rfl), (Nat.le_of_ble_eq_true rfl)⟩, (Nat.le_of_ble_eq_true rfl), (Nat.le_of_ble_eq_true rfl)⟩ hK hP hD hS hA (fmT om_3_5 0) (fmF om_3_5 0) (fm_C1 rfl rfl) (fm_R rfl rfl) (fm_nT om_3_5 0) (fm_nF om_3_5 0) (fm_di om_3_5 0) rfl rfl rfl rfl (Nat.le_of_ble_eq_true rfl) dX12_canBeTold_10 (fun r_9 u H locs hw hP hD hS => ?_)
    refine exE hw (fun b_8 hw1 => anE hw1 (fun hb1_10 hw2 => anE hw2 (fun er_12 eu_11 => ?_)))
    clear hw hw1 hw2
    subst er_12
    refine o_mgE (ws' := [ro_ mm 12 (mo g (nI ta) (nI pa) (nI pe) pd (nI pb) pp pf pg pn rt rn (nI cd) sn (nI il) tk am at_ aa 0 0 (-1) wt wy 0 (nI rm) (nI ud) (nI nu) sd (nI qn) (nI qw) qo (nI qb) (nI qp) qa (nI qi) (nI oc)), ra_I (g 20) cI 4 (l4 (nI l0) (nI l1) (nI dm) (nI l3)), ra_I (g 31) cI 120 nw]) eu_11 hP hD rfl (fun hP hD => ?_)
    refine lv_if_ne (tgt := 28) hx hb dX12_canBeTold_13 (by decide) (fun c_13 => ?_) (fun c_13 => ?_)
    · have c_13 : ¬ (b_8 = 0) := fun h => c_13 ((neq b_8 0 (by omega) (Nat.le_of_ble_eq_true rfl)).mpr h)
      refine lv_iconst (v := 0) hx hb dX12_canBeTold_28 ic_0 ?_
      exact sk_iret hx hb hr rfl hlocks hK hP hD hS (⟨0, Or.inl ⟨rfl, fun hq => hq.2.1 (km_1 hb1_10 (by omega))⟩, rfl, rfl⟩) (Nat.le_of_ble_eq_true rfl) (Nat.le_of_ble_eq_true rfl) dX12_canBeTold_29
    · have c_13 : b_8 = 0 := (neq b_8 0 (by omega) (Nat.le_of_ble_eq_true rfl)).mp c_13
      refine lv_aload_n hx hb dX12_canBeTold_16 rfl (lv_at hl 0 rfl) ?_
      refine lv_iload_n hx hb dX12_canBeTold_17 rfl (lv_at hl 2 rfl) ?_
      refine sk_Vi (q0 := 0) (n := 1) (rest := []) (wr := fmR om_3_4 _) ⟨hx, hb, hml, hown, hts⟩ hl.1 (c_nm_isMood l D cI cJ cC cZ cS mm g ta pa pe pd pb pp pf pg pn rt rn cd sn il tk am at_ aa wt wy rm ud nu sd qn qw qo qb qp qa qi oc (nI cw)) w_7_126 w_7_128 w_0_73 w_1_14 w_7_129 hd_X12_isMood_1 ⟨⟨(Nat.le_of_ble_eq_true rfl), (Nat.le_of_ble_eq_true rfl)⟩, (Nat.le_of_ble_eq_true rfl), (Nat.le_of_ble_eq_true rfl)⟩ hK hP hD hS hA (fmT om_3_4 0) (fmF om_3_4 0) (fm_C1 rfl rfl) (fm_R rfl rfl) (fm_nT om_3_4 0) (fm_nF om_3_4 0) (fm_di om_3_4 0) rfl rfl rfl rfl (Nat.le_of_ble_eq_true rfl) dX12_canBeTold_18 (fun r_15 u H locs hw hP hD hS => ?_)
      refine exE hw (fun b_14 hw1 => anE hw1 (fun hb1_16 hw2 => anE hw2 (fun er_18 eu_17 => ?_)))
      clear hw hw1 hw2
      subst er_18
      refine o_mgE (ws' := [ro_ mm 12 (mo g (nI ta) (nI pa) (nI pe) pd (nI pb) pp pf pg pn rt rn (nI cd) sn (nI il) tk am at_ aa 0 0 (-1) wt wy 0 (nI rm) (nI ud) (nI nu) sd (nI qn) (nI qw) qo (nI qb) (nI qp) qa (nI qi) (nI oc)), ra_I (g 20) cI 4 (l4 (nI l0) (nI l1) (nI dm) (nI l3)), ra_I (g 31) cI 120 nw]) eu_17 hP hD rfl (fun hP hD => ?_)
      refine lv_if_eq (tgt := 28) hx hb dX12_canBeTold_21 (by decide) (fun c_19 => ?_) (fun c_19 => ?_)
      · have c_19 : b_14 = 0 := (neq b_14 0 (by omega) (Nat.le_of_ble_eq_true rfl)).mp c_19
        refine lv_iconst (v := 0) hx hb dX12_canBeTold_28 ic_0 ?_
        exact sk_iret hx hb hr rfl hlocks hK hP hD hS (⟨0, Or.inl ⟨rfl, fun hq => (rr_0 hb1_16 (by omega)) ⟨cw, hq.2.2, rfl⟩⟩, rfl, rfl⟩) (Nat.le_of_ble_eq_true rfl) (Nat.le_of_ble_eq_true rfl) dX12_canBeTold_29
      · have c_19 : ¬ (b_14 = 0) := fun h => c_19 ((neq b_14 0 (by omega) (Nat.le_of_ble_eq_true rfl)).mpr h)
        obtain ⟨kd_20, hkd_20, ekd_20⟩ := rr_1 hb1_16 (by omega)
        have ekd_20 := (neq cw kd_20 (by omega) (by omega)).mp ekd_20
        refine lv_iconst (v := 1) hx hb dX12_canBeTold_24 ic_1 ?_
        refine lv_goto (tgt := 29) hx hb dX12_canBeTold_25 (by decide) ?_
        exact sk_iret hx hb hr rfl hlocks hK hP hD hS (⟨1, Or.inr ⟨rfl, by omega, km_0 hb1_10 (by omega), by omega⟩, rfl, rfl⟩) (Nat.le_of_ble_eq_true rfl) (Nat.le_of_ble_eq_true rfl) dX12_canBeTold_29
theorem hr_rows {dm ta : Nat} {U : Nat → Bool} {tb : Nat → Nat} {f : Nat → Int32} (h : ∀ k, k < ta → f k = nI (tb k)) (hc : hearC dm U tb ta) : ∀ j, j < ta / 2 → f (2 * j) = nI (hrR tb j / 10) ∧ f (2 * j + 1) = nI (hrR tb j % 10) := fun j hj => by
  have h1 := hc.2.2.2.2 j (by omega)
  rw [h _ (by omega), h _ (by omega)]
  unfold hrR
  rw [show (tb (2 * j) * 10 + tb (2 * j + 1)) / 10 = tb (2 * j) by omega, show (tb (2 * j) * 10 + tb (2 * j + 1)) % 10 = tb (2 * j + 1) by omega]
  exact ⟨rfl, rfl⟩
theorem kc_n {tb : Nat → Nat} {i : Nat} {f g : Nat → Int32} (h : ∀ k, k < i → f k = nI (tb k)) (e : g = upd f i (nI (tb i))) : ∀ k, k < i + 1 → g k = nI (tb k) := fun k hk => by
  by_cases q : k = i
  · subst q; rw [kui_s e]
  · rw [kui_n e q]; exact h k (by omega)
theorem dg_X12_hear_0_0 : bqL cX12_hear 0 [(0, [42]), (1, [180, 0, 192]), (4, [60]), (5, [42]), (6, [3]), (7, [181, 0, 192]), (40, [61]), (41, [3]), (42, [62]), (43, [29]), (44, [27]), (45, [162, 0, 32]), (77, [28]), (78, [154, 0, 9]), (87, [3]), (88, [62]), (89, [29]), (90, [27]), (91, [162, 0, 21]), (112, [42]), (113, [27]), (114, [5]), (115, [108]), (116, [181, 1, 56]), (119, [42]), (120, [180, 1, 56]), (123, [172]), (94, [42]), (95, [180, 0, 104]), (98, [29]), (99, [42]), (100, [180, 0, 7]), (103, [29]), (104, [46]), (105, [79]), (106, [132, 3, 1]), (109, [167, 255, 236]), (81, [42]), (82, [4]), (83, [182, 1, 207])] = true := by decide +kernel
theorem dX12_hear_0 : decode cX12_hear 0 = .ok (.aload_n 0, 1) := q_aload_n0 (bat_get dg_X12_hear_0_0 0 rfl rfl)
theorem dX12_hear_1 : decode cX12_hear 1 = .ok (.getfield 192, 3) := q_getfield (bat_get dg_X12_hear_0_0 1 rfl rfl) rfl
theorem dX12_hear_4 : decode cX12_hear 4 = .ok (.istore_n 1, 1) := q_istore_n1 (bat_get dg_X12_hear_0_0 2 rfl rfl)
theorem dX12_hear_5 : decode cX12_hear 5 = .ok (.aload_n 0, 1) := q_aload_n0 (bat_get dg_X12_hear_0_0 3 rfl rfl)
theorem dX12_hear_6 : decode cX12_hear 6 = .ok (.iconst 0, 1) := q_iconst0 (bat_get dg_X12_hear_0_0 4 rfl rfl)
theorem dX12_hear_7 : decode cX12_hear 7 = .ok (.putfield 192, 3) := q_putfield (bat_get dg_X12_hear_0_0 5 rfl rfl) rfl
theorem dX12_hear_40 : decode cX12_hear 40 = .ok (.istore_n 2, 1) := q_istore_n2 (bat_get dg_X12_hear_0_0 6 rfl rfl)
theorem dX12_hear_41 : decode cX12_hear 41 = .ok (.iconst 0, 1) := q_iconst0 (bat_get dg_X12_hear_0_0 7 rfl rfl)
theorem dX12_hear_42 : decode cX12_hear 42 = .ok (.istore_n 3, 1) := q_istore_n3 (bat_get dg_X12_hear_0_0 8 rfl rfl)
theorem dX12_hear_43 : decode cX12_hear 43 = .ok (.iload_n 3, 1) := q_iload_n3 (bat_get dg_X12_hear_0_0 9 rfl rfl)
theorem dX12_hear_44 : decode cX12_hear 44 = .ok (.iload_n 1, 1) := q_iload_n1 (bat_get dg_X12_hear_0_0 10 rfl rfl)
theorem dX12_hear_45 : decode cX12_hear 45 = .ok (.if_icmp .ge 32, 3) := q_if_icmp_ge (bat_get dg_X12_hear_0_0 11 rfl rfl) rfl
theorem dX12_hear_77 : decode cX12_hear 77 = .ok (.iload_n 2, 1) := q_iload_n2 (bat_get dg_X12_hear_0_0 12 rfl rfl)
theorem dX12_hear_78 : decode cX12_hear 78 = .ok (.ifCond .ne 9, 3) := q_ifCond_ne (bat_get dg_X12_hear_0_0 13 rfl rfl) rfl
theorem dX12_hear_87 : decode cX12_hear 87 = .ok (.iconst 0, 1) := q_iconst0 (bat_get dg_X12_hear_0_0 14 rfl rfl)
theorem dX12_hear_88 : decode cX12_hear 88 = .ok (.istore_n 3, 1) := q_istore_n3 (bat_get dg_X12_hear_0_0 15 rfl rfl)
theorem dX12_hear_89 : decode cX12_hear 89 = .ok (.iload_n 3, 1) := q_iload_n3 (bat_get dg_X12_hear_0_0 16 rfl rfl)
theorem dX12_hear_90 : decode cX12_hear 90 = .ok (.iload_n 1, 1) := q_iload_n1 (bat_get dg_X12_hear_0_0 17 rfl rfl)
theorem dX12_hear_91 : decode cX12_hear 91 = .ok (.if_icmp .ge 21, 3) := q_if_icmp_ge (bat_get dg_X12_hear_0_0 18 rfl rfl) rfl
theorem dX12_hear_112 : decode cX12_hear 112 = .ok (.aload_n 0, 1) := q_aload_n0 (bat_get dg_X12_hear_0_0 19 rfl rfl)
theorem dX12_hear_113 : decode cX12_hear 113 = .ok (.iload_n 1, 1) := q_iload_n1 (bat_get dg_X12_hear_0_0 20 rfl rfl)
theorem dX12_hear_114 : decode cX12_hear 114 = .ok (.iconst 2, 1) := q_iconst2 (bat_get dg_X12_hear_0_0 21 rfl rfl)
theorem dX12_hear_115 : decode cX12_hear 115 = .ok (.idiv, 1) := q_idiv (bat_get dg_X12_hear_0_0 22 rfl rfl)
theorem dX12_hear_116 : decode cX12_hear 116 = .ok (.putfield 312, 3) := q_putfield (bat_get dg_X12_hear_0_0 23 rfl rfl) rfl
theorem dX12_hear_119 : decode cX12_hear 119 = .ok (.aload_n 0, 1) := q_aload_n0 (bat_get dg_X12_hear_0_0 24 rfl rfl)
theorem dX12_hear_120 : decode cX12_hear 120 = .ok (.getfield 312, 3) := q_getfield (bat_get dg_X12_hear_0_0 25 rfl rfl) rfl
theorem dX12_hear_123 : decode cX12_hear 123 = .ok (.ireturn, 1) := q_ireturn (bat_get dg_X12_hear_0_0 26 rfl rfl)
theorem dX12_hear_94 : decode cX12_hear 94 = .ok (.aload_n 0, 1) := q_aload_n0 (bat_get dg_X12_hear_0_0 27 rfl rfl)
theorem dX12_hear_95 : decode cX12_hear 95 = .ok (.getfield 104, 3) := q_getfield (bat_get dg_X12_hear_0_0 28 rfl rfl) rfl
theorem dX12_hear_98 : decode cX12_hear 98 = .ok (.iload_n 3, 1) := q_iload_n3 (bat_get dg_X12_hear_0_0 29 rfl rfl)
theorem dX12_hear_99 : decode cX12_hear 99 = .ok (.aload_n 0, 1) := q_aload_n0 (bat_get dg_X12_hear_0_0 30 rfl rfl)
theorem dX12_hear_100 : decode cX12_hear 100 = .ok (.getfield 7, 3) := q_getfield (bat_get dg_X12_hear_0_0 31 rfl rfl) rfl
theorem dX12_hear_103 : decode cX12_hear 103 = .ok (.iload_n 3, 1) := q_iload_n3 (bat_get dg_X12_hear_0_0 32 rfl rfl)
theorem dX12_hear_104 : decode cX12_hear 104 = .ok (.iaload, 1) := q_iaload (bat_get dg_X12_hear_0_0 33 rfl rfl)
theorem dX12_hear_105 : decode cX12_hear 105 = .ok (.iastore, 1) := q_iastore (bat_get dg_X12_hear_0_0 34 rfl rfl)
theorem dX12_hear_106 : decode cX12_hear 106 = .ok (.iinc 3 1, 3) := q_iinc (bat_get dg_X12_hear_0_0 35 rfl rfl) rfl
theorem dX12_hear_109 : decode cX12_hear 109 = .ok (.goto (-20), 3) := q_goto (bat_get dg_X12_hear_0_0 36 rfl rfl) rfl
theorem dX12_hear_81 : decode cX12_hear 81 = .ok (.aload_n 0, 1) := q_aload_n0 (bat_get dg_X12_hear_0_0 37 rfl rfl)
theorem dX12_hear_82 : decode cX12_hear 82 = .ok (.iconst 1, 1) := q_iconst1 (bat_get dg_X12_hear_0_0 38 rfl rfl)
theorem dX12_hear_83 : decode cX12_hear 83 = .ok (.invokevirtual 463, 3) := q_invokevirtual (bat_get dg_X12_hear_0_0 39 rfl rfl) rfl
theorem dg_X12_hear_10_86 : bqL cX12_hear 10 [(76, [172]), (38, [28]), (39, [153, 0, 28]), (42, [42]), (43, [42]), (44, [180, 0, 7]), (47, [29]), (48, [46]), (49, [42]), (50, [180, 0, 7]), (53, [29]), (54, [4]), (55, [96]), (56, [46]), (57, [182, 1, 198]), (60, [61]), (61, [132, 3, 2]), (64, [167, 255, 225]), (0, [42]), (1, [180, 1, 46]), (4, [153, 0, 25]), (29, [3]), (7, [27]), (8, [158, 0, 21]), (11, [27]), (12, [5]), (13, [112]), (14, [154, 0, 15]), (17, [27]), (18, [5]), (19, [108]), (20, [16, 16]), (22, [163, 0, 7]), (25, [4]), (26, [167, 0, 4])] = true := by decide +kernel
theorem dX12_hear_86 : decode cX12_hear 86 = .ok (.ireturn, 1) := q_ireturn (bat_get dg_X12_hear_10_86 0 rfl rfl)
theorem dX12_hear_48 : decode cX12_hear 48 = .ok (.iload_n 2, 1) := q_iload_n2 (bat_get dg_X12_hear_10_86 1 rfl rfl)
theorem dX12_hear_49 : decode cX12_hear 49 = .ok (.ifCond .eq 28, 3) := q_ifCond_eq (bat_get dg_X12_hear_10_86 2 rfl rfl) rfl
theorem dX12_hear_52 : decode cX12_hear 52 = .ok (.aload_n 0, 1) := q_aload_n0 (bat_get dg_X12_hear_10_86 3 rfl rfl)
theorem dX12_hear_53 : decode cX12_hear 53 = .ok (.aload_n 0, 1) := q_aload_n0 (bat_get dg_X12_hear_10_86 4 rfl rfl)
theorem dX12_hear_54 : decode cX12_hear 54 = .ok (.getfield 7, 3) := q_getfield (bat_get dg_X12_hear_10_86 5 rfl rfl) rfl
theorem dX12_hear_57 : decode cX12_hear 57 = .ok (.iload_n 3, 1) := q_iload_n3 (bat_get dg_X12_hear_10_86 6 rfl rfl)
theorem dX12_hear_58 : decode cX12_hear 58 = .ok (.iaload, 1) := q_iaload (bat_get dg_X12_hear_10_86 7 rfl rfl)
theorem dX12_hear_59 : decode cX12_hear 59 = .ok (.aload_n 0, 1) := q_aload_n0 (bat_get dg_X12_hear_10_86 8 rfl rfl)
theorem dX12_hear_60 : decode cX12_hear 60 = .ok (.getfield 7, 3) := q_getfield (bat_get dg_X12_hear_10_86 9 rfl rfl) rfl
theorem dX12_hear_63 : decode cX12_hear 63 = .ok (.iload_n 3, 1) := q_iload_n3 (bat_get dg_X12_hear_10_86 10 rfl rfl)
theorem dX12_hear_64 : decode cX12_hear 64 = .ok (.iconst 1, 1) := q_iconst1 (bat_get dg_X12_hear_10_86 11 rfl rfl)
theorem dX12_hear_65 : decode cX12_hear 65 = .ok (.iadd, 1) := q_iadd (bat_get dg_X12_hear_10_86 12 rfl rfl)
theorem dX12_hear_66 : decode cX12_hear 66 = .ok (.iaload, 1) := q_iaload (bat_get dg_X12_hear_10_86 13 rfl rfl)
theorem dX12_hear_67 : decode cX12_hear 67 = .ok (.invokevirtual 454, 3) := q_invokevirtual (bat_get dg_X12_hear_10_86 14 rfl rfl) rfl
theorem dX12_hear_70 : decode cX12_hear 70 = .ok (.istore_n 2, 1) := q_istore_n2 (bat_get dg_X12_hear_10_86 15 rfl rfl)
theorem dX12_hear_71 : decode cX12_hear 71 = .ok (.iinc 3 2, 3) := q_iinc (bat_get dg_X12_hear_10_86 16 rfl rfl) rfl
theorem dX12_hear_74 : decode cX12_hear 74 = .ok (.goto (-31), 3) := q_goto (bat_get dg_X12_hear_10_86 17 rfl rfl) rfl
theorem dX12_hear_10 : decode cX12_hear 10 = .ok (.aload_n 0, 1) := q_aload_n0 (bat_get dg_X12_hear_10_86 18 rfl rfl)
theorem dX12_hear_11 : decode cX12_hear 11 = .ok (.getfield 302, 3) := q_getfield (bat_get dg_X12_hear_10_86 19 rfl rfl) rfl
theorem dX12_hear_14 : decode cX12_hear 14 = .ok (.ifCond .eq 25, 3) := q_ifCond_eq (bat_get dg_X12_hear_10_86 20 rfl rfl) rfl
theorem dX12_hear_39 : decode cX12_hear 39 = .ok (.iconst 0, 1) := q_iconst0 (bat_get dg_X12_hear_10_86 21 rfl rfl)
theorem dX12_hear_17 : decode cX12_hear 17 = .ok (.iload_n 1, 1) := q_iload_n1 (bat_get dg_X12_hear_10_86 22 rfl rfl)
theorem dX12_hear_18 : decode cX12_hear 18 = .ok (.ifCond .le 21, 3) := q_ifCond_le (bat_get dg_X12_hear_10_86 23 rfl rfl) rfl
theorem dX12_hear_21 : decode cX12_hear 21 = .ok (.iload_n 1, 1) := q_iload_n1 (bat_get dg_X12_hear_10_86 24 rfl rfl)
theorem dX12_hear_22 : decode cX12_hear 22 = .ok (.iconst 2, 1) := q_iconst2 (bat_get dg_X12_hear_10_86 25 rfl rfl)
theorem dX12_hear_23 : decode cX12_hear 23 = .ok (.irem, 1) := q_irem (bat_get dg_X12_hear_10_86 26 rfl rfl)
theorem dX12_hear_24 : decode cX12_hear 24 = .ok (.ifCond .ne 15, 3) := q_ifCond_ne (bat_get dg_X12_hear_10_86 27 rfl rfl) rfl
theorem dX12_hear_27 : decode cX12_hear 27 = .ok (.iload_n 1, 1) := q_iload_n1 (bat_get dg_X12_hear_10_86 28 rfl rfl)
theorem dX12_hear_28 : decode cX12_hear 28 = .ok (.iconst 2, 1) := q_iconst2 (bat_get dg_X12_hear_10_86 29 rfl rfl)
theorem dX12_hear_29 : decode cX12_hear 29 = .ok (.idiv, 1) := q_idiv (bat_get dg_X12_hear_10_86 30 rfl rfl)
theorem dX12_hear_30 : decode cX12_hear 30 = .ok (.bipush 16, 2) := q_bipush (bat_get dg_X12_hear_10_86 31 rfl rfl) rfl
theorem dX12_hear_32 : decode cX12_hear 32 = .ok (.if_icmp .gt 7, 3) := q_if_icmp_gt (bat_get dg_X12_hear_10_86 32 rfl rfl) rfl
theorem dX12_hear_35 : decode cX12_hear 35 = .ok (.iconst 1, 1) := q_iconst1 (bat_get dg_X12_hear_10_86 33 rfl rfl)
theorem dX12_hear_36 : decode cX12_hear 36 = .ok (.goto 4, 3) := q_goto (bat_get dg_X12_hear_10_86 34 rfl rfl) rfl
theorem w_5_208 : (Cond.fieldLink RX12 104 "SameKeeperModel" "rows" "[I") ∈ wsL_law := sk_mem (ck_5 _ (List.mem_of_getElem? (i := 208) rfl)) rfl
theorem w_8_77 : (Cond.methodLink RX12 454 yX12_canBeTold) ∈ wsL_law := sk_mem (ck_8 _ (List.mem_of_getElem? (i := 77) rfl)) rfl
theorem w_8_79 : (Cond.instanceMethod yX12_canBeTold) ∈ wsL_law := sk_mem (ck_8 _ (List.mem_of_getElem? (i := 79) rfl)) rfl
theorem w_0_101 : (Cond.selects RX12 yX12_canBeTold yX12_canBeTold) ∈ wsL_law := sk_mem (ck_0 _ (List.mem_of_getElem? (i := 101) rfl)) rfl
theorem w_8_96 : (Cond.code yX12_hear cX12_hear 4 (some .int)) ∈ wsL_law := sk_mem (ck_8 _ (List.mem_of_getElem? (i := 96) rfl)) rfl
def om_6_38 : List Bool := true :: true :: true :: false :: false :: false :: []
theorem hd_X12_canBeTold_2 : skD yX12_canBeTold 2 := by decide +kernel
set_option maxHeartbeats 4000000 in
set_option maxRecDepth 100000 in
theorem c_nm_hear (l : Launch) (D : va_G) (cI cJ cC cZ cS : ClassId) (mm : Nat) (g : Nat → Nat) (ta : Nat) (pa : Nat) (pe : Nat) (pd : Int32) (pb : Nat) (pp : Int32) (pf : Int32) (pg : Int32) (pn : Int32) (rt : Int32) (rn : Int32) (cd : Nat) (sn : Int32) (il : Nat) (tk : Int32) (am : Int32) (at_ : Int32) (aa : Int32) (wt : Int32) (wy : Int64) (rm : Nat) (ud : Nat) (nu : Nat) (sd : Int64) (qn : Nat) (qw : Nat) (qo : Int32) (qb : Nat) (qp : Nat) (qa : Int64) (qi : Nat) (oc : Nat) (l0 : Nat) (l1 : Nat) (dm : Nat) (l3 : Nat) (nw : Nat → Int32) (tb : Nat → Nat) (rw_ : Nat → Int32) (rf : Nat → Int32) (wn : Nat) (mN : Nat) (Ba : Nat → Nat) (We : Nat → Nat) (U : Nat → Bool) (ke : Nat) (lg : KLg) (hR : Nat → Nat) (hil : il ≤ 1) (hild : il = 1 → 1 ≤ dm) (hilb : 1 ≤ dm → il = 1) (hdm : dm ≤ 9) (hta : ta ≤ 1600) (hrm : rm ≤ 16) (hhr : ∀ j, j < rm → rw_ (2 * j) = nI (hR j / 10) ∧ rw_ (2 * j + 1) = nI (hR j % 10)) (hnw : nwX wn mN Ba We U ke lg nw) (htb : ∀ j, tb j ≤ 255) : skM l yX12_hear cX12_hear 4 (some .int) 3 68 0 0 D (skT cI cJ cC cZ cS) [.ref mm] [ro_ mm 12 (mo g (nI ta) (nI pa) (nI pe) pd (nI pb) pp pf pg pn rt rn (nI cd) sn (nI il) tk am at_ aa 0 0 (-1) wt wy 0 (nI rm) (nI ud) (nI nu) sd (nI qn) (nI qw) qo (nI qb) (nI qp) qa (nI qi) (nI oc)), ra_I (g 20) cI 4 (l4 (nI l0) (nI l1) (nI dm) (nI l3)), ra_I (g 31) cI 120 nw, ra_N (g 0) cI 1600 tb, ra_I (g 53) cI 32 rw_, ra_I (g 9) cI 6 rf] (skI D (skT cI cJ cC cZ cS) (fun (r : Int32) (u : va_W) => ∃ (hR2 : Nat → Nat), ∃ (rm2 : Nat), ∃ (rw_2 : Nat → Int32), ∃ (rf2 : Nat → Int32), rm2 ≤ 16 ∧ (∀ j, j < rm2 → rw_2 (2 * j) = nI (hR2 j / 10) ∧ rw_2 (2 * j + 1) = nI (hR2 j % 10)) ∧ hearR dm U tb ta rm hR rf r rm2 hR2 rf2 ∧ u = [ro_ mm 12 (mo g 0 (nI pa) (nI pe) pd (nI pb) pp pf pg pn rt rn (nI cd) sn (nI il) tk am at_ aa 0 0 (-1) wt wy 0 (nI rm2) (nI ud) (nI nu) sd (nI qn) (nI qw) qo (nI qb) (nI qp) qa (nI qi) (nI oc)), ra_I (g 20) cI 4 (l4 (nI l0) (nI l1) (nI dm) (nI l3)), ra_I (g 31) cI 120 nw, ra_N (g 0) cI 1600 tb, ra_I (g 53) cI 32 rw_2, ra_I (g 9) cI 6 rf2])) := by
  refine skM_of pf_X12_hear (Nat.le_of_ble_eq_true rfl) ?_
  intro p e s m below meth c A ls E hP hD hl
  refine skE_el E (fun hx hb hr hml hlocks hin hown hts hK hA => ?_)
  have hown : s.vm.findClass RX12 = some m.cls := hown
  have hS : va_S A s.heap s.heap [] := va_S.rf
  have hl : lv_has ls 4 [(0, .ref mm)] := hl
  refine lv_aload_n hx hb dX12_hear_0 rfl (lv_at hl 0 rfl) ?_
  refine sk_get (v := .int (nI ta)) (C := RX12) (T := TX12) (N := 92) hx hb hts inlX12 hown hK hP 0 rfl rfl 1 (Nat.le_of_ble_eq_true rfl) w_5_156 rfl dX12_hear_1 ?_
  refine lv_istore_n (lv' := [(1, .int (nI ta)), (0, .ref mm)]) hx hb dX12_hear_4 rfl hl (by decide) rfl (fun ls hl => ?_)
  refine lv_aload_n hx hb dX12_hear_5 rfl (lv_at hl 1 rfl) ?_
  refine lv_iconst (v := 0) hx hb dX12_hear_6 ic_0 ?_
  refine sk_put (ws' := [ro_ mm 12 (mo g 0 (nI pa) (nI pe) pd (nI pb) pp pf pg pn rt rn (nI cd) sn (nI il) tk am at_ aa 0 0 (-1) wt wy 0 (nI rm) (nI ud) (nI nu) sd (nI qn) (nI qw) qo (nI qb) (nI qp) qa (nI qi) (nI oc)), ra_I (g 20) cI 4 (l4 (nI l0) (nI l1) (nI dm) (nI l3)), ra_I (g 31) cI 120 nw, ra_N (g 0) cI 1600 tb, ra_I (g 53) cI 32 rw_, ra_I (g 9) cI 6 rf]) (C := RX12) (T := TX12) (N := 92) (v := .int 0) hx hb hts inlX12 tyX12 tyX12_ok nmX12 hown hK hP hD hS 0 rfl rfl 1 (Nat.le_of_ble_eq_true rfl) w_5_156 rfl rfl rfl (Nat.le_of_ble_eq_true rfl) rfl dX12_hear_7 (fun H locs hP hD hS => ?_)
  have jn_1 : ∀ (bq : Nat) (H : Heap) (locs : List Loc) (ls : Array Slot), (bq ≤ 1) → ((bq = 0 ∧ ¬ hearC dm U tb ta) ∨ (bq = 1 ∧ 1 ≤ dm ∧ 2 ≤ ta ∧ ta ≤ 32 ∧ ta % 2 = 0)) → va_P D vwCl [ro_ mm 12 (mo g 0 (nI pa) (nI pe) pd (nI pb) pp pf pg pn rt rn (nI cd) sn (nI il) tk am at_ aa 0 0 (-1) wt wy 0 (nI rm) (nI ud) (nI nu) sd (nI qn) (nI qw) qo (nI qb) (nI qp) qa (nI qi) (nI oc)), ra_I (g 20) cI 4 (l4 (nI l0) (nI l1) (nI dm) (nI l3)), ra_I (g 31) cI 120 nw, ra_N (g 0) cI 1600 tb, ra_I (g 53) cI 32 rw_, ra_I (g 9) cI 6 rf] H → va_D A [ro_ mm 12 (mo g 0 (nI pa) (nI pe) pd (nI pb) pp pf pg pn rt rn (nI cd) sn (nI il) tk am at_ aa 0 0 (-1) wt wy 0 (nI rm) (nI ud) (nI nu) sd (nI qn) (nI qw) qo (nI qb) (nI qp) qa (nI qi) (nI oc)), ra_I (g 20) cI 4 (l4 (nI l0) (nI l1) (nI dm) (nI l3)), ra_I (g 31) cI 120 nw, ra_N (g 0) cI 1600 tb, ra_I (g 53) cI 32 rw_, ra_I (g 9) cI 6 rf] → va_S A s.heap H locs → lv_has ls 4 [(1, .int (nI ta)), (0, .ref mm)] → W p l e { frames := 3, cells := 0, slots := 0, locals := 68 } s m ([.ref mm] : List Value).toArray below meth c H locs 0 0 (MQ below (skI D (skT cI cJ cC cZ cS) (fun (r : Int32) (u : va_W) => ∃ (hR2 : Nat → Nat), ∃ (rm2 : Nat), ∃ (rw_2 : Nat → Int32), ∃ (rf2 : Nat → Int32), rm2 ≤ 16 ∧ (∀ j, j < rm2 → rw_2 (2 * j) = nI (hR2 j / 10) ∧ rw_2 (2 * j + 1) = nI (hR2 j % 10)) ∧ hearR dm U tb ta rm hR rf r rm2 hR2 rf2 ∧ u = [ro_ mm 12 (mo g 0 (nI pa) (nI pe) pd (nI pb) pp pf pg pn rt rn (nI cd) sn (nI il) tk am at_ aa 0 0 (-1) wt wy 0 (nI rm2) (nI ud) (nI nu) sd (nI qn) (nI qw) qo (nI qb) (nI qp) qa (nI qi) (nI oc)), ra_I (g 20) cI 4 (l4 (nI l0) (nI l1) (nI dm) (nI l3)), ra_I (g 31) cI 120 nw, ra_N (g 0) cI 1600 tb, ra_I (g 53) cI 32 rw_2, ra_I (g 9) cI 6 rf2]) A) ([.ref mm] : List Value).toArray s 0 0 A) (F0 m 40 ls [.int (nI bq)]) := by
    intro bq H locs ls hbq1 hbq hP hD hS hl
    refine lv_istore_n (lv' := [(2, .int (nI bq)), (1, .int (nI ta)), (0, .ref mm)]) hx hb dX12_hear_40 rfl hl (by decide) rfl (fun ls hl => ?_)
    refine lv_iconst (v := 0) hx hb dX12_hear_41 ic_0 ?_
    refine lv_istore_n (lv' := [(3, .int 0), (2, .int (nI bq)), (1, .int (nI ta)), (0, .ref mm)]) hx hb dX12_hear_42 rfl hl (by decide) rfl (fun ls hl => ?_)
    have lp_2 : ∀ (n_3 : Nat) (i : Nat) (gb : Nat) (H : Heap) (locs : List Loc) (ls : Array Slot), ta + 2 - i < n_3 → (i ≤ ta + 1) → (gb = 0 ∨ (i % 2 = 0 ∧ ta % 2 = 0 ∧ i ≤ ta)) → (gb ≤ 1) → ((gb = 0 ∧ ¬ hearC dm U tb ta) ∨ (gb = 1 ∧ 1 ≤ dm ∧ 2 ≤ ta ∧ ta ≤ 32 ∧ ta % 2 = 0 ∧ hrC dm U tb i)) → va_P D vwCl [ro_ mm 12 (mo g 0 (nI pa) (nI pe) pd (nI pb) pp pf pg pn rt rn (nI cd) sn (nI il) tk am at_ aa 0 0 (-1) wt wy 0 (nI rm) (nI ud) (nI nu) sd (nI qn) (nI qw) qo (nI qb) (nI qp) qa (nI qi) (nI oc)), ra_I (g 20) cI 4 (l4 (nI l0) (nI l1) (nI dm) (nI l3)), ra_I (g 31) cI 120 nw, ra_N (g 0) cI 1600 tb, ra_I (g 53) cI 32 rw_, ra_I (g 9) cI 6 rf] H → va_D A [ro_ mm 12 (mo g 0 (nI pa) (nI pe) pd (nI pb) pp pf pg pn rt rn (nI cd) sn (nI il) tk am at_ aa 0 0 (-1) wt wy 0 (nI rm) (nI ud) (nI nu) sd (nI qn) (nI qw) qo (nI qb) (nI qp) qa (nI qi) (nI oc)), ra_I (g 20) cI 4 (l4 (nI l0) (nI l1) (nI dm) (nI l3)), ra_I (g 31) cI 120 nw, ra_N (g 0) cI 1600 tb, ra_I (g 53) cI 32 rw_, ra_I (g 9) cI 6 rf] → va_S A s.heap H locs → lv_has ls 4 [(3, .int (nI i)), (2, .int (nI gb)), (1, .int (nI ta)), (0, .ref mm)] → W p l e { frames := 3, cells := 0, slots := 0, locals := 68 } s m ([.ref mm] : List Value).toArray below meth c H locs 0 0 (MQ below (skI D (skT cI cJ cC cZ cS) (fun (r : Int32) (u : va_W) => ∃ (hR2 : Nat → Nat), ∃ (rm2 : Nat), ∃ (rw_2 : Nat → Int32), ∃ (rf2 : Nat → Int32), rm2 ≤ 16 ∧ (∀ j, j < rm2 → rw_2 (2 * j) = nI (hR2 j / 10) ∧ rw_2 (2 * j + 1) = nI (hR2 j % 10)) ∧ hearR dm U tb ta rm hR rf r rm2 hR2 rf2 ∧ u = [ro_ mm 12 (mo g 0 (nI pa) (nI pe) pd (nI pb) pp pf pg pn rt rn (nI cd) sn (nI il) tk am at_ aa 0 0 (-1) wt wy 0 (nI rm2) (nI ud) (nI nu) sd (nI qn) (nI qw) qo (nI qb) (nI qp) qa (nI qi) (nI oc)), ra_I (g 20) cI 4 (l4 (nI l0) (nI l1) (nI dm) (nI l3)), ra_I (g 31) cI 120 nw, ra_N (g 0) cI 1600 tb, ra_I (g 53) cI 32 rw_2, ra_I (g 9) cI 6 rf2]) A) ([.ref mm] : List Value).toArray s 0 0 A) (F0 m 43 ls []) := by
      intro n_3
      induction n_3 with
      | zero => intro i gb H locs ls hm; exact absurd hm (Nat.not_lt_zero _)
      | succ n_3 ih_lp_2 =>
        intro i gb H locs ls hm hi hi2 hgb1 hgb hP hD hS hl
        refine lv_iload_n hx hb dX12_hear_43 rfl (lv_at hl 0 rfl) ?_
        refine lv_iload_n hx hb dX12_hear_44 rfl (lv_at hl 2 rfl) ?_
        refine lv_icmp_ge (tgt := 77) hx hb dX12_hear_45 (by decide) (fun c_4 => ?_) (fun c_4 => ?_)
        · have c_4 : ta ≤ i := (nle ta i (by omega) (by omega)).mp c_4
          refine lv_iload_n hx hb dX12_hear_77 rfl (lv_at hl 1 rfl) ?_
          refine lv_if_ne (tgt := 87) hx hb dX12_hear_78 (by decide) (fun c_5 => ?_) (fun c_5 => ?_)
          · have c_5 : ¬ (gb = 0) := fun h => c_5 ((neq gb 0 (by omega) (Nat.le_of_ble_eq_true rfl)).mpr h)
            have hcc : hearC dm U tb ta := (by obtain ⟨h1, h2, h3, h4, h5, h6⟩ := hgb.resolve_left (fun q => absurd q.1 (by omega)); exact ⟨h2, h3, h4, h5, hrC_e h6 (by omega)⟩)
            have hl32 := hcc.2.2.1
            refine lv_iconst (v := 0) hx hb dX12_hear_87 ic_0 ?_
            refine lv_istore_n (lv' := [(3, .int 0), (2, .int (nI gb)), (1, .int (nI ta)), (0, .ref mm)]) hx hb dX12_hear_88 rfl hl (by decide) rfl (fun ls hl => ?_)
            have lp_6 : ∀ (n_7 : Nat) (i : Nat) (zr : Nat → Int32) (H : Heap) (locs : List Loc) (ls : Array Slot), ta - i < n_7 → (i ≤ ta) → (∀ k, k < i → zr k = nI (tb k)) → va_P D vwCl [ro_ mm 12 (mo g 0 (nI pa) (nI pe) pd (nI pb) pp pf pg pn rt rn (nI cd) sn (nI il) tk am at_ aa 0 0 (-1) wt wy 0 (nI rm) (nI ud) (nI nu) sd (nI qn) (nI qw) qo (nI qb) (nI qp) qa (nI qi) (nI oc)), ra_I (g 20) cI 4 (l4 (nI l0) (nI l1) (nI dm) (nI l3)), ra_I (g 31) cI 120 nw, ra_N (g 0) cI 1600 tb, ra_I (g 53) cI 32 zr, ra_I (g 9) cI 6 rf] H → va_D A [ro_ mm 12 (mo g 0 (nI pa) (nI pe) pd (nI pb) pp pf pg pn rt rn (nI cd) sn (nI il) tk am at_ aa 0 0 (-1) wt wy 0 (nI rm) (nI ud) (nI nu) sd (nI qn) (nI qw) qo (nI qb) (nI qp) qa (nI qi) (nI oc)), ra_I (g 20) cI 4 (l4 (nI l0) (nI l1) (nI dm) (nI l3)), ra_I (g 31) cI 120 nw, ra_N (g 0) cI 1600 tb, ra_I (g 53) cI 32 zr, ra_I (g 9) cI 6 rf] → va_S A s.heap H locs → lv_has ls 4 [(3, .int (nI i)), (2, .int (nI gb)), (1, .int (nI ta)), (0, .ref mm)] → W p l e { frames := 3, cells := 0, slots := 0, locals := 68 } s m ([.ref mm] : List Value).toArray below meth c H locs 0 0 (MQ below (skI D (skT cI cJ cC cZ cS) (fun (r : Int32) (u : va_W) => ∃ (hR2 : Nat → Nat), ∃ (rm2 : Nat), ∃ (rw_2 : Nat → Int32), ∃ (rf2 : Nat → Int32), rm2 ≤ 16 ∧ (∀ j, j < rm2 → rw_2 (2 * j) = nI (hR2 j / 10) ∧ rw_2 (2 * j + 1) = nI (hR2 j % 10)) ∧ hearR dm U tb ta rm hR rf r rm2 hR2 rf2 ∧ u = [ro_ mm 12 (mo g 0 (nI pa) (nI pe) pd (nI pb) pp pf pg pn rt rn (nI cd) sn (nI il) tk am at_ aa 0 0 (-1) wt wy 0 (nI rm2) (nI ud) (nI nu) sd (nI qn) (nI qw) qo (nI qb) (nI qp) qa (nI qi) (nI oc)), ra_I (g 20) cI 4 (l4 (nI l0) (nI l1) (nI dm) (nI l3)), ra_I (g 31) cI 120 nw, ra_N (g 0) cI 1600 tb, ra_I (g 53) cI 32 rw_2, ra_I (g 9) cI 6 rf2]) A) ([.ref mm] : List Value).toArray s 0 0 A) (F0 m 89 ls []) := by
              intro n_7
              induction n_7 with
              | zero => intro i zr H locs ls hm; exact absurd hm (Nat.not_lt_zero _)
              | succ n_7 ih_lp_6 =>
                intro i zr H locs ls hm hi hrw hP hD hS hl
                refine lv_iload_n hx hb dX12_hear_89 rfl (lv_at hl 0 rfl) ?_
                refine lv_iload_n hx hb dX12_hear_90 rfl (lv_at hl 2 rfl) ?_
                refine lv_icmp_ge (tgt := 112) hx hb dX12_hear_91 (by decide) (fun c_8 => ?_) (fun c_8 => ?_)
                · have c_8 : ta ≤ i := (nle ta i (by omega) (by omega)).mp c_8
                  refine lv_aload_n hx hb dX12_hear_112 rfl (lv_at hl 3 rfl) ?_
                  refine lv_iload_n hx hb dX12_hear_113 rfl (lv_at hl 2 rfl) ?_
                  refine lv_iconst (v := 2) hx hb dX12_hear_114 ic_2 ?_
                  refine lv_idiv hx hb dX12_hear_115 (by decide) ?_
                  refine sk_top (nI (ta / 2)) (ndiv ta 2 (by omega) (by omega) (by omega)) ?_
                  refine sk_put (ws' := [ro_ mm 12 (mo g 0 (nI pa) (nI pe) pd (nI pb) pp pf pg pn rt rn (nI cd) sn (nI il) tk am at_ aa 0 0 (-1) wt wy 0 (nI (ta / 2)) (nI ud) (nI nu) sd (nI qn) (nI qw) qo (nI qb) (nI qp) qa (nI qi) (nI oc)), ra_I (g 20) cI 4 (l4 (nI l0) (nI l1) (nI dm) (nI l3)), ra_I (g 31) cI 120 nw, ra_N (g 0) cI 1600 tb, ra_I (g 53) cI 32 zr, ra_I (g 9) cI 6 rf]) (C := RX12) (T := TX12) (N := 92) (v := .int (nI (ta / 2))) hx hb hts inlX12 tyX12 tyX12_ok nmX12 hown hK hP hD hS 0 rfl rfl 52 (Nat.le_of_ble_eq_true rfl) w_5_207 rfl rfl rfl (Nat.le_of_ble_eq_true rfl) rfl dX12_hear_116 (fun H locs hP hD hS => ?_)
                  refine lv_aload_n hx hb dX12_hear_119 rfl (lv_at hl 3 rfl) ?_
                  refine sk_get (v := .int (nI (ta / 2))) (C := RX12) (T := TX12) (N := 92) hx hb hts inlX12 hown hK hP 0 rfl rfl 52 (Nat.le_of_ble_eq_true rfl) w_5_207 rfl dX12_hear_120 ?_
                  exact sk_iret hx hb hr rfl hlocks hK hP hD hS (⟨(hrR tb), ta / 2, zr, rf, by omega, (hr_rows (fun k hk => hrw k (by omega)) hcc), kB_1 hcc ⟨rfl, rfl, rfl, rfl⟩, rfl⟩) (Nat.le_of_ble_eq_true rfl) (Nat.le_of_ble_eq_true rfl) dX12_hear_123
                · have c_8 : ¬ (ta ≤ i) := fun h => c_8 ((nle ta i (by omega) (by omega)).mpr h)
                  refine lv_aload_n hx hb dX12_hear_94 rfl (lv_at hl 3 rfl) ?_
                  refine sk_get (v := .ref (g 53)) (C := RX12) (T := TX12) (N := 92) hx hb hts inlX12 hown hK hP 0 rfl rfl 53 (Nat.le_of_ble_eq_true rfl) w_5_208 rfl dX12_hear_95 ?_
                  refine lv_iload_n hx hb dX12_hear_98 rfl (lv_at hl 0 rfl) ?_
                  refine lv_aload_n hx hb dX12_hear_99 rfl (lv_at hl 3 rfl) ?_
                  refine sk_get (v := .ref (g 0)) (C := RX12) (T := TX12) (N := 92) hx hb hts inlX12 hown hK hP 0 rfl rfl 0 (Nat.le_of_ble_eq_true rfl) w_5_155 rfl dX12_hear_100 ?_
                  refine lv_iload_n hx hb dX12_hear_103 rfl (lv_at hl 0 rfl) ?_
                  refine va_iald hx hb hK.1 hP 3 0 rfl rfl (vin i 1600 (by omega) (Nat.le_of_ble_eq_true rfl)) dX12_hear_104 ?_
                  refine sk_top (nI (tb i)) (nrd tb i (by omega)) ?_
                  have hb_9 := htb i
                  refine sk_iastE (k := i) (ws' := fun f_10 => [ro_ mm 12 (mo g 0 (nI pa) (nI pe) pd (nI pb) pp pf pg pn rt rn (nI cd) sn (nI il) tk am at_ aa 0 0 (-1) wt wy 0 (nI rm) (nI ud) (nI nu) sd (nI qn) (nI qw) qo (nI qb) (nI qp) qa (nI qi) (nI oc)), ra_I (g 20) cI 4 (l4 (nI l0) (nI l1) (nI dm) (nI l3)), ra_I (g 31) cI 120 nw, ra_N (g 0) cI 1600 tb, ra_I (g 53) cI 32 f_10, ra_I (g 9) cI 6 rf]) hx hb hK hP hD hS 4 0 rfl rfl (by omega) (by omega) (fun _ => rfl) dX12_hear_105 (fun f_10 H locs ef_11 hP hD hS => ?_)
                  refine lv_iinc (v := nI (i + 1)) (lv' := [(3, .int (nI (i + 1))), (2, .int (nI gb)), (1, .int (nI ta)), (0, .ref mm)]) hx hb dX12_hear_106 hl (k := 0) rfl (ninc i 1 (by decide)) (by decide) rfl (fun ls hl => ?_)
                  refine lv_goto (tgt := 89) hx hb dX12_hear_109 (by decide) ?_
                  exact ih_lp_6 (i + 1) f_10 _ _ _ (by omega) (by omega) (kc_n hrw ef_11) hP hD hS (lv_sub hl [0, 1, 2, 3] rfl)
            exact lp_6 (ta - 0 + 1) 0 rw_ _ _ _ (Nat.lt_succ_self _) (by omega) (fun k hk => absurd hk (Nat.not_lt_zero k)) hP hD hS (lv_sub hl [0, 1, 2, 3] rfl)
          · have c_5 : gb = 0 := (neq gb 0 (by omega) (Nat.le_of_ble_eq_true rfl)).mp c_5
            refine lv_aload_n hx hb dX12_hear_81 rfl (lv_at hl 3 rfl) ?_
            refine lv_iconst (v := 1) hx hb dX12_hear_82 ic_1 ?_
            refine sk_Vi (q0 := 0) (n := 1) (rest := []) (wr := fmR om_6_21 _) ⟨hx, hb, hml, hown, hts⟩ hl.1 (c_nm_refuses l D cI cJ cC cZ cS mm g 0 pa pe pd pb pp pf pg pn rt rn cd sn il tk am at_ aa wt wy rm ud nu sd qn qw qo qb qp qa qi oc 1 rf (by omega)) w_8_97 w_8_99 w_0_104 w_1_14 w_8_100 hd_X12_refuses_1 ⟨⟨(Nat.le_of_ble_eq_true rfl), (Nat.le_of_ble_eq_true rfl)⟩, (Nat.le_of_ble_eq_true rfl), (Nat.le_of_ble_eq_true rfl)⟩ hK hP hD hS hA (fmT om_6_21 0) (fmF om_6_21 0) (fm_C1 rfl rfl) (fm_R rfl rfl) (fm_nT om_6_21 0) (fm_nF om_6_21 0) (fm_di om_6_21 0) rfl rfl rfl rfl (Nat.le_of_ble_eq_true rfl) dX12_hear_83 (fun r_13 u H locs hw hP hD hS => ?_)
            refine exE hw (fun rf2_12 hw1 => anE hw1 (fun hrf_14 hw2 => anE hw2 (fun er_16 eu_15 => ?_)))
            clear hw hw1 hw2
            subst er_16
            refine o_mgE (ws' := [ro_ mm 12 (mo g 0 (nI pa) (nI pe) pd (nI pb) pp pf pg pn rt rn (nI cd) sn (nI il) tk am at_ aa 0 0 (-1) wt wy 0 (nI rm) (nI ud) (nI nu) sd (nI qn) (nI qw) qo (nI qb) (nI qp) qa (nI qi) (nI oc)), ra_I (g 20) cI 4 (l4 (nI l0) (nI l1) (nI dm) (nI l3)), ra_I (g 31) cI 120 nw, ra_N (g 0) cI 1600 tb, ra_I (g 53) cI 32 rw_, ra_I (g 9) cI 6 rf2_12]) eu_15 hP hD rfl (fun hP hD => ?_)
            exact sk_iret hx hb hr rfl hlocks hK hP hD hS (⟨hR, rm, rw_, rf2_12, hrm, hhr, kB_0 (by obtain ⟨h1, h2⟩ := hgb.resolve_right (fun q => absurd q.1 (by omega)); exact h2) ⟨rfl, rfl, rfl, hrf_14⟩, rfl⟩) (Nat.le_of_ble_eq_true rfl) (Nat.le_of_ble_eq_true rfl) dX12_hear_86
        · have c_4 : ¬ (ta ≤ i) := fun h => c_4 ((nle ta i (by omega) (by omega)).mpr h)
          refine lv_iload_n hx hb dX12_hear_48 rfl (lv_at hl 1 rfl) ?_
          refine lv_if_eq (tgt := 77) hx hb dX12_hear_49 (by decide) (fun c_17 => ?_) (fun c_17 => ?_)
          · have c_17 : gb = 0 := (neq gb 0 (by omega) (Nat.le_of_ble_eq_true rfl)).mp c_17
            refine lv_iload_n hx hb dX12_hear_77 rfl (lv_at hl 1 rfl) ?_
            refine lv_if_ne (tgt := 87) hx hb dX12_hear_78 (by decide) (fun c_18 => ?_) (fun c_18 => ?_)
            · have c_18 : ¬ (gb = 0) := fun h => c_18 ((neq gb 0 (by omega) (Nat.le_of_ble_eq_true rfl)).mpr h)
              have hcc : hearC dm U tb ta := (by obtain ⟨h1, h2, h3, h4, h5, h6⟩ := hgb.resolve_left (fun q => absurd q.1 (by omega)); exact ⟨h2, h3, h4, h5, hrC_e h6 (by omega)⟩)
              have hl32 := hcc.2.2.1
              refine lv_iconst (v := 0) hx hb dX12_hear_87 ic_0 ?_
              refine lv_istore_n (lv' := [(3, .int 0), (2, .int (nI gb)), (1, .int (nI ta)), (0, .ref mm)]) hx hb dX12_hear_88 rfl hl (by decide) rfl (fun ls hl => ?_)
              have lp_19 : ∀ (n_20 : Nat) (i : Nat) (zr : Nat → Int32) (H : Heap) (locs : List Loc) (ls : Array Slot), ta - i < n_20 → (i ≤ ta) → (∀ k, k < i → zr k = nI (tb k)) → va_P D vwCl [ro_ mm 12 (mo g 0 (nI pa) (nI pe) pd (nI pb) pp pf pg pn rt rn (nI cd) sn (nI il) tk am at_ aa 0 0 (-1) wt wy 0 (nI rm) (nI ud) (nI nu) sd (nI qn) (nI qw) qo (nI qb) (nI qp) qa (nI qi) (nI oc)), ra_I (g 20) cI 4 (l4 (nI l0) (nI l1) (nI dm) (nI l3)), ra_I (g 31) cI 120 nw, ra_N (g 0) cI 1600 tb, ra_I (g 53) cI 32 zr, ra_I (g 9) cI 6 rf] H → va_D A [ro_ mm 12 (mo g 0 (nI pa) (nI pe) pd (nI pb) pp pf pg pn rt rn (nI cd) sn (nI il) tk am at_ aa 0 0 (-1) wt wy 0 (nI rm) (nI ud) (nI nu) sd (nI qn) (nI qw) qo (nI qb) (nI qp) qa (nI qi) (nI oc)), ra_I (g 20) cI 4 (l4 (nI l0) (nI l1) (nI dm) (nI l3)), ra_I (g 31) cI 120 nw, ra_N (g 0) cI 1600 tb, ra_I (g 53) cI 32 zr, ra_I (g 9) cI 6 rf] → va_S A s.heap H locs → lv_has ls 4 [(3, .int (nI i)), (2, .int (nI gb)), (1, .int (nI ta)), (0, .ref mm)] → W p l e { frames := 3, cells := 0, slots := 0, locals := 68 } s m ([.ref mm] : List Value).toArray below meth c H locs 0 0 (MQ below (skI D (skT cI cJ cC cZ cS) (fun (r : Int32) (u : va_W) => ∃ (hR2 : Nat → Nat), ∃ (rm2 : Nat), ∃ (rw_2 : Nat → Int32), ∃ (rf2 : Nat → Int32), rm2 ≤ 16 ∧ (∀ j, j < rm2 → rw_2 (2 * j) = nI (hR2 j / 10) ∧ rw_2 (2 * j + 1) = nI (hR2 j % 10)) ∧ hearR dm U tb ta rm hR rf r rm2 hR2 rf2 ∧ u = [ro_ mm 12 (mo g 0 (nI pa) (nI pe) pd (nI pb) pp pf pg pn rt rn (nI cd) sn (nI il) tk am at_ aa 0 0 (-1) wt wy 0 (nI rm2) (nI ud) (nI nu) sd (nI qn) (nI qw) qo (nI qb) (nI qp) qa (nI qi) (nI oc)), ra_I (g 20) cI 4 (l4 (nI l0) (nI l1) (nI dm) (nI l3)), ra_I (g 31) cI 120 nw, ra_N (g 0) cI 1600 tb, ra_I (g 53) cI 32 rw_2, ra_I (g 9) cI 6 rf2]) A) ([.ref mm] : List Value).toArray s 0 0 A) (F0 m 89 ls []) := by
                intro n_20
                induction n_20 with
                | zero => intro i zr H locs ls hm; exact absurd hm (Nat.not_lt_zero _)
                | succ n_20 ih_lp_19 =>
                  intro i zr H locs ls hm hi hrw hP hD hS hl
                  refine lv_iload_n hx hb dX12_hear_89 rfl (lv_at hl 0 rfl) ?_
                  refine lv_iload_n hx hb dX12_hear_90 rfl (lv_at hl 2 rfl) ?_
                  refine lv_icmp_ge (tgt := 112) hx hb dX12_hear_91 (by decide) (fun c_21 => ?_) (fun c_21 => ?_)
                  · have c_21 : ta ≤ i := (nle ta i (by omega) (by omega)).mp c_21
                    refine lv_aload_n hx hb dX12_hear_112 rfl (lv_at hl 3 rfl) ?_
                    refine lv_iload_n hx hb dX12_hear_113 rfl (lv_at hl 2 rfl) ?_
                    refine lv_iconst (v := 2) hx hb dX12_hear_114 ic_2 ?_
                    refine lv_idiv hx hb dX12_hear_115 (by decide) ?_
                    refine sk_top (nI (ta / 2)) (ndiv ta 2 (by omega) (by omega) (by omega)) ?_
                    refine sk_put (ws' := [ro_ mm 12 (mo g 0 (nI pa) (nI pe) pd (nI pb) pp pf pg pn rt rn (nI cd) sn (nI il) tk am at_ aa 0 0 (-1) wt wy 0 (nI (ta / 2)) (nI ud) (nI nu) sd (nI qn) (nI qw) qo (nI qb) (nI qp) qa (nI qi) (nI oc)), ra_I (g 20) cI 4 (l4 (nI l0) (nI l1) (nI dm) (nI l3)), ra_I (g 31) cI 120 nw, ra_N (g 0) cI 1600 tb, ra_I (g 53) cI 32 zr, ra_I (g 9) cI 6 rf]) (C := RX12) (T := TX12) (N := 92) (v := .int (nI (ta / 2))) hx hb hts inlX12 tyX12 tyX12_ok nmX12 hown hK hP hD hS 0 rfl rfl 52 (Nat.le_of_ble_eq_true rfl) w_5_207 rfl rfl rfl (Nat.le_of_ble_eq_true rfl) rfl dX12_hear_116 (fun H locs hP hD hS => ?_)
                    refine lv_aload_n hx hb dX12_hear_119 rfl (lv_at hl 3 rfl) ?_
                    refine sk_get (v := .int (nI (ta / 2))) (C := RX12) (T := TX12) (N := 92) hx hb hts inlX12 hown hK hP 0 rfl rfl 52 (Nat.le_of_ble_eq_true rfl) w_5_207 rfl dX12_hear_120 ?_
                    exact sk_iret hx hb hr rfl hlocks hK hP hD hS (⟨(hrR tb), ta / 2, zr, rf, by omega, (hr_rows (fun k hk => hrw k (by omega)) hcc), kB_1 hcc ⟨rfl, rfl, rfl, rfl⟩, rfl⟩) (Nat.le_of_ble_eq_true rfl) (Nat.le_of_ble_eq_true rfl) dX12_hear_123
                  · have c_21 : ¬ (ta ≤ i) := fun h => c_21 ((nle ta i (by omega) (by omega)).mpr h)
                    refine lv_aload_n hx hb dX12_hear_94 rfl (lv_at hl 3 rfl) ?_
                    refine sk_get (v := .ref (g 53)) (C := RX12) (T := TX12) (N := 92) hx hb hts inlX12 hown hK hP 0 rfl rfl 53 (Nat.le_of_ble_eq_true rfl) w_5_208 rfl dX12_hear_95 ?_
                    refine lv_iload_n hx hb dX12_hear_98 rfl (lv_at hl 0 rfl) ?_
                    refine lv_aload_n hx hb dX12_hear_99 rfl (lv_at hl 3 rfl) ?_
                    refine sk_get (v := .ref (g 0)) (C := RX12) (T := TX12) (N := 92) hx hb hts inlX12 hown hK hP 0 rfl rfl 0 (Nat.le_of_ble_eq_true rfl) w_5_155 rfl dX12_hear_100 ?_
                    refine lv_iload_n hx hb dX12_hear_103 rfl (lv_at hl 0 rfl) ?_
                    refine va_iald hx hb hK.1 hP 3 0 rfl rfl (vin i 1600 (by omega) (Nat.le_of_ble_eq_true rfl)) dX12_hear_104 ?_
                    refine sk_top (nI (tb i)) (nrd tb i (by omega)) ?_
                    have hb_22 := htb i
                    refine sk_iastE (k := i) (ws' := fun f_23 => [ro_ mm 12 (mo g 0 (nI pa) (nI pe) pd (nI pb) pp pf pg pn rt rn (nI cd) sn (nI il) tk am at_ aa 0 0 (-1) wt wy 0 (nI rm) (nI ud) (nI nu) sd (nI qn) (nI qw) qo (nI qb) (nI qp) qa (nI qi) (nI oc)), ra_I (g 20) cI 4 (l4 (nI l0) (nI l1) (nI dm) (nI l3)), ra_I (g 31) cI 120 nw, ra_N (g 0) cI 1600 tb, ra_I (g 53) cI 32 f_23, ra_I (g 9) cI 6 rf]) hx hb hK hP hD hS 4 0 rfl rfl (by omega) (by omega) (fun _ => rfl) dX12_hear_105 (fun f_23 H locs ef_24 hP hD hS => ?_)
                    refine lv_iinc (v := nI (i + 1)) (lv' := [(3, .int (nI (i + 1))), (2, .int (nI gb)), (1, .int (nI ta)), (0, .ref mm)]) hx hb dX12_hear_106 hl (k := 0) rfl (ninc i 1 (by decide)) (by decide) rfl (fun ls hl => ?_)
                    refine lv_goto (tgt := 89) hx hb dX12_hear_109 (by decide) ?_
                    exact ih_lp_19 (i + 1) f_23 _ _ _ (by omega) (by omega) (kc_n hrw ef_24) hP hD hS (lv_sub hl [0, 1, 2, 3] rfl)
              exact lp_19 (ta - 0 + 1) 0 rw_ _ _ _ (Nat.lt_succ_self _) (by omega) (fun k hk => absurd hk (Nat.not_lt_zero k)) hP hD hS (lv_sub hl [0, 1, 2, 3] rfl)
            · have c_18 : gb = 0 := (neq gb 0 (by omega) (Nat.le_of_ble_eq_true rfl)).mp c_18
              refine lv_aload_n hx hb dX12_hear_81 rfl (lv_at hl 3 rfl) ?_
              refine lv_iconst (v := 1) hx hb dX12_hear_82 ic_1 ?_
              refine sk_Vi (q0 := 0) (n := 1) (rest := []) (wr := fmR om_6_21 _) ⟨hx, hb, hml, hown, hts⟩ hl.1 (c_nm_refuses l D cI cJ cC cZ cS mm g 0 pa pe pd pb pp pf pg pn rt rn cd sn il tk am at_ aa wt wy rm ud nu sd qn qw qo qb qp qa qi oc 1 rf (by omega)) w_8_97 w_8_99 w_0_104 w_1_14 w_8_100 hd_X12_refuses_1 ⟨⟨(Nat.le_of_ble_eq_true rfl), (Nat.le_of_ble_eq_true rfl)⟩, (Nat.le_of_ble_eq_true rfl), (Nat.le_of_ble_eq_true rfl)⟩ hK hP hD hS hA (fmT om_6_21 0) (fmF om_6_21 0) (fm_C1 rfl rfl) (fm_R rfl rfl) (fm_nT om_6_21 0) (fm_nF om_6_21 0) (fm_di om_6_21 0) rfl rfl rfl rfl (Nat.le_of_ble_eq_true rfl) dX12_hear_83 (fun r_26 u H locs hw hP hD hS => ?_)
              refine exE hw (fun rf2_25 hw1 => anE hw1 (fun hrf_27 hw2 => anE hw2 (fun er_29 eu_28 => ?_)))
              clear hw hw1 hw2
              subst er_29
              refine o_mgE (ws' := [ro_ mm 12 (mo g 0 (nI pa) (nI pe) pd (nI pb) pp pf pg pn rt rn (nI cd) sn (nI il) tk am at_ aa 0 0 (-1) wt wy 0 (nI rm) (nI ud) (nI nu) sd (nI qn) (nI qw) qo (nI qb) (nI qp) qa (nI qi) (nI oc)), ra_I (g 20) cI 4 (l4 (nI l0) (nI l1) (nI dm) (nI l3)), ra_I (g 31) cI 120 nw, ra_N (g 0) cI 1600 tb, ra_I (g 53) cI 32 rw_, ra_I (g 9) cI 6 rf2_25]) eu_28 hP hD rfl (fun hP hD => ?_)
              exact sk_iret hx hb hr rfl hlocks hK hP hD hS (⟨hR, rm, rw_, rf2_25, hrm, hhr, kB_0 (by obtain ⟨h1, h2⟩ := hgb.resolve_right (fun q => absurd q.1 (by omega)); exact h2) ⟨rfl, rfl, rfl, hrf_27⟩, rfl⟩) (Nat.le_of_ble_eq_true rfl) (Nat.le_of_ble_eq_true rfl) dX12_hear_86
          · have c_17 : ¬ (gb = 0) := fun h => c_17 ((neq gb 0 (by omega) (Nat.le_of_ble_eq_true rfl)).mpr h)
            refine lv_aload_n hx hb dX12_hear_52 rfl (lv_at hl 3 rfl) ?_
            refine lv_aload_n hx hb dX12_hear_53 rfl (lv_at hl 3 rfl) ?_
            refine sk_get (v := .ref (g 0)) (C := RX12) (T := TX12) (N := 92) hx hb hts inlX12 hown hK hP 0 rfl rfl 0 (Nat.le_of_ble_eq_true rfl) w_5_155 rfl dX12_hear_54 ?_
            refine lv_iload_n hx hb dX12_hear_57 rfl (lv_at hl 0 rfl) ?_
            refine va_iald hx hb hK.1 hP 3 0 rfl rfl (vin i 1600 (by omega) (Nat.le_of_ble_eq_true rfl)) dX12_hear_58 ?_
            refine sk_top (nI (tb i)) (nrd tb i (by omega)) ?_
            have hb_30 := htb i
            refine lv_aload_n hx hb dX12_hear_59 rfl (lv_at hl 3 rfl) ?_
            refine sk_get (v := .ref (g 0)) (C := RX12) (T := TX12) (N := 92) hx hb hts inlX12 hown hK hP 0 rfl rfl 0 (Nat.le_of_ble_eq_true rfl) w_5_155 rfl dX12_hear_60 ?_
            refine lv_iload_n hx hb dX12_hear_63 rfl (lv_at hl 0 rfl) ?_
            refine lv_iconst (v := 1) hx hb dX12_hear_64 ic_1 ?_
            refine lv_iadd hx hb dX12_hear_65 ?_
            refine sk_top (nI (i + 1)) (nI_add i 1) ?_
            refine va_iald hx hb hK.1 hP 3 0 rfl rfl (vin (i + 1) 1600 (by omega) (Nat.le_of_ble_eq_true rfl)) dX12_hear_66 ?_
            refine sk_top (nI (tb (i + 1))) (nrd tb (i + 1) (by omega)) ?_
            have hb_31 := htb (i + 1)
            refine sk_Vi (q0 := 0) (n := 2) (rest := []) (wr := fmR om_6_38 _) ⟨hx, hb, hml, hown, hts⟩ hl.1 (c_nm_canBeToldN l D cI cJ cC cZ cS mm g 0 pa pe pd pb pp pf pg pn rt rn cd sn il tk am at_ aa wt wy rm ud nu sd qn qw qo qb qp qa qi oc (tb i) (tb (i + 1)) l0 l1 dm l3 nw wn mN Ba We U ke lg hdm (by omega) (by omega) hnw) w_8_77 w_8_79 w_0_101 w_1_14 w_8_80 hd_X12_canBeTold_2 ⟨⟨(Nat.le_of_ble_eq_true rfl), (Nat.le_of_ble_eq_true rfl)⟩, (Nat.le_of_ble_eq_true rfl), (Nat.le_of_ble_eq_true rfl)⟩ hK hP hD hS hA (fmT om_6_38 0) (fmF om_6_38 0) (fm_C1 rfl rfl) (fm_R rfl rfl) (fm_nT om_6_38 0) (fm_nF om_6_38 0) (fm_di om_6_38 0) rfl rfl rfl rfl (Nat.le_of_ble_eq_true rfl) dX12_hear_67 (fun r_33 u H locs hw hP hD hS => ?_)
            refine exE hw (fun b_32 hw1 => anE hw1 (fun hcb_34 hw2 => anE hw2 (fun er_36 eu_35 => ?_)))
            clear hw hw1 hw2
            subst er_36
            refine o_mgE (ws' := [ro_ mm 12 (mo g 0 (nI pa) (nI pe) pd (nI pb) pp pf pg pn rt rn (nI cd) sn (nI il) tk am at_ aa 0 0 (-1) wt wy 0 (nI rm) (nI ud) (nI nu) sd (nI qn) (nI qw) qo (nI qb) (nI qp) qa (nI qi) (nI oc)), ra_I (g 20) cI 4 (l4 (nI l0) (nI l1) (nI dm) (nI l3)), ra_I (g 31) cI 120 nw, ra_N (g 0) cI 1600 tb, ra_I (g 53) cI 32 rw_, ra_I (g 9) cI 6 rf]) eu_35 hP hD rfl (fun hP hD => ?_)
            refine lv_istore_n (lv' := [(2, .int (nI b_32)), (3, .int (nI i)), (1, .int (nI ta)), (0, .ref mm)]) hx hb dX12_hear_70 rfl hl (by decide) rfl (fun ls hl => ?_)
            refine lv_iinc (v := nI (i + 2)) (lv' := [(3, .int (nI (i + 2))), (2, .int (nI b_32)), (1, .int (nI ta)), (0, .ref mm)]) hx hb dX12_hear_71 hl (k := 1) rfl (ninc i 2 (by decide)) (by decide) rfl (fun ls hl => ?_)
            refine lv_goto (tgt := 43) hx hb dX12_hear_74 (by decide) ?_
            exact ih_lp_2 (i + 2) b_32 _ _ _ (by omega) (by omega) (by omega) (by omega) (by obtain ⟨h1, h2, h3, h4, h5, h6⟩ := hgb.resolve_left (fun q => absurd q.1 (by omega)); rcases hcb_34 with ⟨q1, q2⟩ | ⟨q1, q2⟩; exact Or.inl ⟨q1, fun hq => hrC_n (by omega) (by omega) q2 hq.2.2.2.2⟩; exact Or.inr ⟨q1, h2, h3, h4, h5, hrC_s h6 (by omega) q2⟩) hP hD hS (lv_sub hl [0, 1, 2, 3] rfl)
    exact lp_2 (ta + 2 - 0 + 1) 0 bq _ _ _ (Nat.lt_succ_self _) (by omega) (by omega) hbq1 (by rcases hbq with ⟨h1, h2⟩ | ⟨h1, h2, h3, h4, h5⟩; exact Or.inl ⟨h1, h2⟩; exact Or.inr ⟨h1, h2, h3, h4, h5, hrC_0 _ _ _⟩) hP hD hS (lv_sub hl [0, 1, 2, 3] rfl)
  refine lv_aload_n hx hb dX12_hear_10 rfl (lv_at hl 1 rfl) ?_
  refine sk_get (v := .int (nI il)) (C := RX12) (T := TX12) (N := 92) hx hb hts inlX12 hown hK hP 0 rfl rfl 29 (Nat.le_of_ble_eq_true rfl) w_5_184 rfl dX12_hear_11 ?_
  refine lv_if_eq (tgt := 39) hx hb dX12_hear_14 (by decide) (fun c_37 => ?_) (fun c_37 => ?_)
  · have c_37 : il = 0 := (neq il 0 (by omega) (Nat.le_of_ble_eq_true rfl)).mp c_37
    refine lv_iconst (v := 0) hx hb dX12_hear_39 ic_0 ?_
    exact jn_1 0 _ _ _ (by omega) (Or.inl ⟨rfl, fun hq => by obtain ⟨h1, h2, h3, h4, h5⟩ := hq; have h6 := hilb h1; omega⟩) hP hD hS (lv_sub hl [0, 1] rfl)
  · have c_37 : ¬ (il = 0) := fun h => c_37 ((neq il 0 (by omega) (Nat.le_of_ble_eq_true rfl)).mpr h)
    refine lv_iload_n hx hb dX12_hear_17 rfl (lv_at hl 0 rfl) ?_
    refine lv_if_le (tgt := 39) hx hb dX12_hear_18 (by decide) (fun c_38 => ?_) (fun c_38 => ?_)
    · have c_38 : ta ≤ 0 := (nle ta 0 (by omega) (Nat.le_of_ble_eq_true rfl)).mp c_38
      refine lv_iconst (v := 0) hx hb dX12_hear_39 ic_0 ?_
      exact jn_1 0 _ _ _ (by omega) (Or.inl ⟨rfl, fun hq => by obtain ⟨h1, h2, h3, h4, h5⟩ := hq; have h6 := hilb h1; omega⟩) hP hD hS (lv_sub hl [0, 1] rfl)
    · have c_38 : ¬ (ta ≤ 0) := fun h => c_38 ((nle ta 0 (by omega) (Nat.le_of_ble_eq_true rfl)).mpr h)
      refine lv_iload_n hx hb dX12_hear_21 rfl (lv_at hl 0 rfl) ?_
      refine lv_iconst (v := 2) hx hb dX12_hear_22 ic_2 ?_
      refine lv_irem hx hb dX12_hear_23 (by decide) ?_
      refine sk_top (nI (ta % 2)) (nrem ta 2 (by omega) (by omega) (by omega)) ?_
      refine lv_if_ne (tgt := 39) hx hb dX12_hear_24 (by decide) (fun c_39 => ?_) (fun c_39 => ?_)
      · have c_39 : ¬ (ta % 2 = 0) := fun h => c_39 ((neq (ta % 2) 0 (by omega) (Nat.le_of_ble_eq_true rfl)).mpr h)
        refine lv_iconst (v := 0) hx hb dX12_hear_39 ic_0 ?_
        exact jn_1 0 _ _ _ (by omega) (Or.inl ⟨rfl, fun hq => by obtain ⟨h1, h2, h3, h4, h5⟩ := hq; have h6 := hilb h1; omega⟩) hP hD hS (lv_sub hl [0, 1] rfl)
      · have c_39 : ta % 2 = 0 := (neq (ta % 2) 0 (by omega) (Nat.le_of_ble_eq_true rfl)).mp c_39
        refine lv_iload_n hx hb dX12_hear_27 rfl (lv_at hl 0 rfl) ?_
        refine lv_iconst (v := 2) hx hb dX12_hear_28 ic_2 ?_
        refine lv_idiv hx hb dX12_hear_29 (by decide) ?_
        refine sk_top (nI (ta / 2)) (ndiv ta 2 (by omega) (by omega) (by omega)) ?_
        refine lv_bipush (v := 16) hx hb dX12_hear_30 (by decide) ?_
        refine lv_icmp_gt (tgt := 39) hx hb dX12_hear_32 (by decide) (fun c_40 => ?_) (fun c_40 => ?_)
        · have c_40 : 16 < ta / 2 := (nlt 16 (ta / 2) (Nat.le_of_ble_eq_true rfl) (by omega)).mp c_40
          refine lv_iconst (v := 0) hx hb dX12_hear_39 ic_0 ?_
          exact jn_1 0 _ _ _ (by omega) (Or.inl ⟨rfl, fun hq => by obtain ⟨h1, h2, h3, h4, h5⟩ := hq; have h6 := hilb h1; omega⟩) hP hD hS (lv_sub hl [0, 1] rfl)
        · have c_40 : ¬ (16 < ta / 2) := fun h => c_40 ((nlt 16 (ta / 2) (Nat.le_of_ble_eq_true rfl) (by omega)).mpr h)
          refine lv_iconst (v := 1) hx hb dX12_hear_35 ic_1 ?_
          refine lv_goto (tgt := 40) hx hb dX12_hear_36 (by decide) ?_
          exact jn_1 1 _ _ _ (by omega) (Or.inr ⟨rfl, by omega, by omega, by omega, by omega⟩) hP hD hS (lv_sub hl [0, 1] rfl)
theorem dg_X12_putsAside_0_0 : bqL cX12_putsAside 0 [(0, [42]), (1, [4]), (2, [181, 1, 135]), (5, [3]), (6, [60]), (7, [27]), (8, [16, 29]), (10, [162, 0, 21]), (31, [177]), (13, [42]), (14, [180, 0, 66]), (17, [27]), (18, [42]), (19, [180, 0, 63]), (22, [27]), (23, [46]), (24, [79]), (25, [132, 1, 1]), (28, [167, 255, 235])] = true := by decide +kernel
theorem dX12_putsAside_0 : decode cX12_putsAside 0 = .ok (.aload_n 0, 1) := q_aload_n0 (bat_get dg_X12_putsAside_0_0 0 rfl rfl)
theorem dX12_putsAside_1 : decode cX12_putsAside 1 = .ok (.iconst 1, 1) := q_iconst1 (bat_get dg_X12_putsAside_0_0 1 rfl rfl)
theorem dX12_putsAside_2 : decode cX12_putsAside 2 = .ok (.putfield 391, 3) := q_putfield (bat_get dg_X12_putsAside_0_0 2 rfl rfl) rfl
theorem dX12_putsAside_5 : decode cX12_putsAside 5 = .ok (.iconst 0, 1) := q_iconst0 (bat_get dg_X12_putsAside_0_0 3 rfl rfl)
theorem dX12_putsAside_6 : decode cX12_putsAside 6 = .ok (.istore_n 1, 1) := q_istore_n1 (bat_get dg_X12_putsAside_0_0 4 rfl rfl)
theorem dX12_putsAside_7 : decode cX12_putsAside 7 = .ok (.iload_n 1, 1) := q_iload_n1 (bat_get dg_X12_putsAside_0_0 5 rfl rfl)
theorem dX12_putsAside_8 : decode cX12_putsAside 8 = .ok (.bipush 29, 2) := q_bipush (bat_get dg_X12_putsAside_0_0 6 rfl rfl) rfl
theorem dX12_putsAside_10 : decode cX12_putsAside 10 = .ok (.if_icmp .ge 21, 3) := q_if_icmp_ge (bat_get dg_X12_putsAside_0_0 7 rfl rfl) rfl
theorem dX12_putsAside_31 : decode cX12_putsAside 31 = .ok (.return_, 1) := q_return_ (bat_get dg_X12_putsAside_0_0 8 rfl rfl)
theorem dX12_putsAside_13 : decode cX12_putsAside 13 = .ok (.aload_n 0, 1) := q_aload_n0 (bat_get dg_X12_putsAside_0_0 9 rfl rfl)
theorem dX12_putsAside_14 : decode cX12_putsAside 14 = .ok (.getfield 66, 3) := q_getfield (bat_get dg_X12_putsAside_0_0 10 rfl rfl) rfl
theorem dX12_putsAside_17 : decode cX12_putsAside 17 = .ok (.iload_n 1, 1) := q_iload_n1 (bat_get dg_X12_putsAside_0_0 11 rfl rfl)
theorem dX12_putsAside_18 : decode cX12_putsAside 18 = .ok (.aload_n 0, 1) := q_aload_n0 (bat_get dg_X12_putsAside_0_0 12 rfl rfl)
theorem dX12_putsAside_19 : decode cX12_putsAside 19 = .ok (.getfield 63, 3) := q_getfield (bat_get dg_X12_putsAside_0_0 13 rfl rfl) rfl
theorem dX12_putsAside_22 : decode cX12_putsAside 22 = .ok (.iload_n 1, 1) := q_iload_n1 (bat_get dg_X12_putsAside_0_0 14 rfl rfl)
theorem dX12_putsAside_23 : decode cX12_putsAside 23 = .ok (.iaload, 1) := q_iaload (bat_get dg_X12_putsAside_0_0 15 rfl rfl)
theorem dX12_putsAside_24 : decode cX12_putsAside 24 = .ok (.iastore, 1) := q_iastore (bat_get dg_X12_putsAside_0_0 16 rfl rfl)
theorem dX12_putsAside_25 : decode cX12_putsAside 25 = .ok (.iinc 1 1, 3) := q_iinc (bat_get dg_X12_putsAside_0_0 17 rfl rfl) rfl
theorem dX12_putsAside_28 : decode cX12_putsAside 28 = .ok (.goto (-21), 3) := q_goto (bat_get dg_X12_putsAside_0_0 18 rfl rfl) rfl
theorem w_5_187 : (Cond.fieldLink RX12 66 "SameKeeperModel" "aside" "[I") ∈ wsL_law := sk_mem (ck_5 _ (List.mem_of_getElem? (i := 187) rfl)) rfl
theorem w_8_12 : (Cond.code yX12_putsAside cX12_putsAside 2 none) ∈ wsL_law := sk_mem (ck_8 _ (List.mem_of_getElem? (i := 12) rfl)) rfl
set_option maxHeartbeats 4000000 in
set_option maxRecDepth 100000 in
theorem c_nm_putsAside (l : Launch) (D : va_G) (cI cJ cC cZ cS : ClassId) (mm : Nat) (g : Nat → Nat) (ta : Nat) (pa : Nat) (pe : Nat) (pd : Int32) (pb : Nat) (pp : Int32) (pf : Int32) (pg : Int32) (pn : Int32) (rt : Int32) (rn : Int32) (cd : Nat) (sn : Int32) (il : Nat) (tk : Int32) (am : Int32) (at_ : Int32) (aa : Int32) (wt : Int32) (wy : Int64) (rm : Nat) (ud : Nat) (nu : Nat) (sd : Int64) (qn : Nat) (qw : Nat) (qo : Int32) (qb : Nat) (qp : Nat) (qa : Int64) (qi : Nat) (oc : Nat) (nw : Nat → Int32) (az : Nat → Int32) (wn : Nat) (mN : Nat) (Ba : Nat → Nat) (We : Nat → Nat) (U : Nat → Bool) (ke : Nat) (lg : KLg) (hnw : nwX wn mN Ba We U ke lg nw) : skM l yX12_putsAside cX12_putsAside 2 none 0 0 0 0 D (skT cI cJ cC cZ cS) [.ref mm] [ro_ mm 12 (mo g (nI ta) (nI pa) (nI pe) pd (nI pb) pp pf pg pn rt rn (nI cd) sn (nI il) tk am at_ aa 0 0 (-1) wt wy 0 (nI rm) (nI ud) (nI nu) sd (nI qn) (nI qw) qo (nI qb) (nI qp) qa (nI qi) (nI oc)), ra_I (g 31) cI 120 nw, ra_I (g 32) cI 29 az] (skV D (skT cI cJ cC cZ cS) (fun (u : va_W) => ∃ (az2 : Nat → Int32), asX wn mN Ba We U az2 ∧ u = [ro_ mm 12 (mo g (nI ta) (nI pa) (nI pe) pd (nI pb) pp pf pg pn rt rn (nI cd) sn (nI il) tk am at_ aa 0 0 (-1) wt wy 1 (nI rm) (nI ud) (nI nu) sd (nI qn) (nI qw) qo (nI qb) (nI qp) qa (nI qi) (nI oc)), ra_I (g 31) cI 120 nw, ra_I (g 32) cI 29 az2])) := by
  refine skM_of pf_X12_putsAside (Nat.le_of_ble_eq_true rfl) ?_
  intro p e s m below meth c A ls E hP hD hl
  refine skE_el E (fun hx hb hr hml hlocks hin hown hts hK hA => ?_)
  have hown : s.vm.findClass RX12 = some m.cls := hown
  have hS : va_S A s.heap s.heap [] := va_S.rf
  have hl : lv_has ls 2 [(0, .ref mm)] := hl
  refine lv_aload_n hx hb dX12_putsAside_0 rfl (lv_at hl 0 rfl) ?_
  refine lv_iconst (v := 1) hx hb dX12_putsAside_1 ic_1 ?_
  refine sk_put (ws' := [ro_ mm 12 (mo g (nI ta) (nI pa) (nI pe) pd (nI pb) pp pf pg pn rt rn (nI cd) sn (nI il) tk am at_ aa 0 0 (-1) wt wy 1 (nI rm) (nI ud) (nI nu) sd (nI qn) (nI qw) qo (nI qb) (nI qp) qa (nI qi) (nI oc)), ra_I (g 31) cI 120 nw, ra_I (g 32) cI 29 az]) (C := RX12) (T := TX12) (N := 92) (v := .int 1) hx hb hts inlX12 tyX12 tyX12_ok nmX12 hown hK hP hD hS 0 rfl rfl 47 (Nat.le_of_ble_eq_true rfl) w_5_202 rfl rfl rfl (Nat.le_of_ble_eq_true rfl) rfl dX12_putsAside_2 (fun H locs hP hD hS => ?_)
  refine lv_iconst (v := 0) hx hb dX12_putsAside_5 ic_0 ?_
  refine lv_istore_n (lv' := [(1, .int 0), (0, .ref mm)]) hx hb dX12_putsAside_6 rfl hl (by decide) rfl (fun ls hl => ?_)
  have lp_1 : ∀ (n_2 : Nat) (i : Nat) (zz : Nat → Int32) (H : Heap) (locs : List Loc) (ls : Array Slot), 29 - i < n_2 → (i ≤ 29) → (kc0 i nw zz) → va_P D vwCl [ro_ mm 12 (mo g (nI ta) (nI pa) (nI pe) pd (nI pb) pp pf pg pn rt rn (nI cd) sn (nI il) tk am at_ aa 0 0 (-1) wt wy 1 (nI rm) (nI ud) (nI nu) sd (nI qn) (nI qw) qo (nI qb) (nI qp) qa (nI qi) (nI oc)), ra_I (g 31) cI 120 nw, ra_I (g 32) cI 29 zz] H → va_D A [ro_ mm 12 (mo g (nI ta) (nI pa) (nI pe) pd (nI pb) pp pf pg pn rt rn (nI cd) sn (nI il) tk am at_ aa 0 0 (-1) wt wy 1 (nI rm) (nI ud) (nI nu) sd (nI qn) (nI qw) qo (nI qb) (nI qp) qa (nI qi) (nI oc)), ra_I (g 31) cI 120 nw, ra_I (g 32) cI 29 zz] → va_S A s.heap H locs → lv_has ls 2 [(1, .int (nI i)), (0, .ref mm)] → W p l e { frames := 0, cells := 0, slots := 0, locals := 0 } s m ([.ref mm] : List Value).toArray below meth c H locs 0 0 (MQ below (skV D (skT cI cJ cC cZ cS) (fun (u : va_W) => ∃ (az2 : Nat → Int32), asX wn mN Ba We U az2 ∧ u = [ro_ mm 12 (mo g (nI ta) (nI pa) (nI pe) pd (nI pb) pp pf pg pn rt rn (nI cd) sn (nI il) tk am at_ aa 0 0 (-1) wt wy 1 (nI rm) (nI ud) (nI nu) sd (nI qn) (nI qw) qo (nI qb) (nI qp) qa (nI qi) (nI oc)), ra_I (g 31) cI 120 nw, ra_I (g 32) cI 29 az2]) A) ([.ref mm] : List Value).toArray s 0 0 A) (F0 m 7 ls []) := by
    intro n_2
    induction n_2 with
    | zero => intro i zz H locs ls hm; exact absurd hm (Nat.not_lt_zero _)
    | succ n_2 ih_lp_1 =>
      intro i zz H locs ls hm hi hzz hP hD hS hl
      refine lv_iload_n hx hb dX12_putsAside_7 rfl (lv_at hl 0 rfl) ?_
      refine lv_bipush (v := 29) hx hb dX12_putsAside_8 (by decide) ?_
      refine lv_icmp_ge (tgt := 31) hx hb dX12_putsAside_10 (by decide) (fun c_3 => ?_) (fun c_3 => ?_)
      · have c_3 : 29 ≤ i := (nle 29 i (Nat.le_of_ble_eq_true rfl) (by omega)).mp c_3
        exact sk_vret hx hb hr hlocks hK hP hD hS (⟨zz, (asX_of hnw (show kc0 29 nw zz by rw [show 29 = i by omega]; exact hzz)), rfl⟩) (Nat.le_of_ble_eq_true rfl) (Nat.le_of_ble_eq_true rfl) dX12_putsAside_31
      · have c_3 : ¬ (29 ≤ i) := fun h => c_3 ((nle 29 i (Nat.le_of_ble_eq_true rfl) (by omega)).mpr h)
        refine lv_aload_n hx hb dX12_putsAside_13 rfl (lv_at hl 1 rfl) ?_
        refine sk_get (v := .ref (g 32)) (C := RX12) (T := TX12) (N := 92) hx hb hts inlX12 hown hK hP 0 rfl rfl 32 (Nat.le_of_ble_eq_true rfl) w_5_187 rfl dX12_putsAside_14 ?_
        refine lv_iload_n hx hb dX12_putsAside_17 rfl (lv_at hl 0 rfl) ?_
        refine lv_aload_n hx hb dX12_putsAside_18 rfl (lv_at hl 1 rfl) ?_
        refine sk_get (v := .ref (g 31)) (C := RX12) (T := TX12) (N := 92) hx hb hts inlX12 hown hK hP 0 rfl rfl 31 (Nat.le_of_ble_eq_true rfl) w_5_186 rfl dX12_putsAside_19 ?_
        refine lv_iload_n hx hb dX12_putsAside_22 rfl (lv_at hl 0 rfl) ?_
        refine va_iald hx hb hK.1 hP 1 0 rfl rfl (vin i 120 (by omega) (Nat.le_of_ble_eq_true rfl)) dX12_putsAside_23 ?_
        refine sk_top (nw i) (by rw [nI_clamp (by omega)]) ?_
        refine sk_iastE (k := i) (x := (nw i)) (ws' := fun f_4 => [ro_ mm 12 (mo g (nI ta) (nI pa) (nI pe) pd (nI pb) pp pf pg pn rt rn (nI cd) sn (nI il) tk am at_ aa 0 0 (-1) wt wy 1 (nI rm) (nI ud) (nI nu) sd (nI qn) (nI qw) qo (nI qb) (nI qp) qa (nI qi) (nI oc)), ra_I (g 31) cI 120 nw, ra_I (g 32) cI 29 f_4]) hx hb hK hP hD hS 2 0 rfl rfl (by omega) (by omega) (fun _ => rfl) dX12_putsAside_24 (fun f_4 H locs ef_5 hP hD hS => ?_)
        refine lv_iinc (v := nI (i + 1)) (lv' := [(1, .int (nI (i + 1))), (0, .ref mm)]) hx hb dX12_putsAside_25 hl (k := 0) rfl (ninc i 1 (by decide)) (by decide) rfl (fun ls hl => ?_)
        refine lv_goto (tgt := 7) hx hb dX12_putsAside_28 (by decide) ?_
        exact ih_lp_1 (i + 1) f_4 _ _ _ (by omega) (by omega) (kc0_s hzz ef_5 rfl) hP hD hS (lv_sub hl [0, 1] rfl)
  exact lp_1 (29 - 0 + 1) 0 az _ _ _ (Nat.lt_succ_self _) (by omega) (kc0_0 _ _) hP hD hS (lv_sub hl [0, 1] rfl)
theorem dg_X12_takesBack_0_0 : bqL cX12_takesBack 0 [(0, [3]), (1, [60]), (2, [27]), (3, [16, 29]), (5, [162, 0, 21]), (26, [42]), (27, [3]), (28, [181, 1, 135]), (31, [177]), (8, [42]), (9, [180, 0, 63]), (12, [27]), (13, [42]), (14, [180, 0, 66]), (17, [27]), (18, [46]), (19, [79]), (20, [132, 1, 1]), (23, [167, 255, 235])] = true := by decide +kernel
theorem dX12_takesBack_0 : decode cX12_takesBack 0 = .ok (.iconst 0, 1) := q_iconst0 (bat_get dg_X12_takesBack_0_0 0 rfl rfl)
theorem dX12_takesBack_1 : decode cX12_takesBack 1 = .ok (.istore_n 1, 1) := q_istore_n1 (bat_get dg_X12_takesBack_0_0 1 rfl rfl)
theorem dX12_takesBack_2 : decode cX12_takesBack 2 = .ok (.iload_n 1, 1) := q_iload_n1 (bat_get dg_X12_takesBack_0_0 2 rfl rfl)
theorem dX12_takesBack_3 : decode cX12_takesBack 3 = .ok (.bipush 29, 2) := q_bipush (bat_get dg_X12_takesBack_0_0 3 rfl rfl) rfl
theorem dX12_takesBack_5 : decode cX12_takesBack 5 = .ok (.if_icmp .ge 21, 3) := q_if_icmp_ge (bat_get dg_X12_takesBack_0_0 4 rfl rfl) rfl
theorem dX12_takesBack_26 : decode cX12_takesBack 26 = .ok (.aload_n 0, 1) := q_aload_n0 (bat_get dg_X12_takesBack_0_0 5 rfl rfl)
theorem dX12_takesBack_27 : decode cX12_takesBack 27 = .ok (.iconst 0, 1) := q_iconst0 (bat_get dg_X12_takesBack_0_0 6 rfl rfl)
theorem dX12_takesBack_28 : decode cX12_takesBack 28 = .ok (.putfield 391, 3) := q_putfield (bat_get dg_X12_takesBack_0_0 7 rfl rfl) rfl
theorem dX12_takesBack_31 : decode cX12_takesBack 31 = .ok (.return_, 1) := q_return_ (bat_get dg_X12_takesBack_0_0 8 rfl rfl)
theorem dX12_takesBack_8 : decode cX12_takesBack 8 = .ok (.aload_n 0, 1) := q_aload_n0 (bat_get dg_X12_takesBack_0_0 9 rfl rfl)
theorem dX12_takesBack_9 : decode cX12_takesBack 9 = .ok (.getfield 63, 3) := q_getfield (bat_get dg_X12_takesBack_0_0 10 rfl rfl) rfl
theorem dX12_takesBack_12 : decode cX12_takesBack 12 = .ok (.iload_n 1, 1) := q_iload_n1 (bat_get dg_X12_takesBack_0_0 11 rfl rfl)
theorem dX12_takesBack_13 : decode cX12_takesBack 13 = .ok (.aload_n 0, 1) := q_aload_n0 (bat_get dg_X12_takesBack_0_0 12 rfl rfl)
theorem dX12_takesBack_14 : decode cX12_takesBack 14 = .ok (.getfield 66, 3) := q_getfield (bat_get dg_X12_takesBack_0_0 13 rfl rfl) rfl
theorem dX12_takesBack_17 : decode cX12_takesBack 17 = .ok (.iload_n 1, 1) := q_iload_n1 (bat_get dg_X12_takesBack_0_0 14 rfl rfl)
theorem dX12_takesBack_18 : decode cX12_takesBack 18 = .ok (.iaload, 1) := q_iaload (bat_get dg_X12_takesBack_0_0 15 rfl rfl)
theorem dX12_takesBack_19 : decode cX12_takesBack 19 = .ok (.iastore, 1) := q_iastore (bat_get dg_X12_takesBack_0_0 16 rfl rfl)
theorem dX12_takesBack_20 : decode cX12_takesBack 20 = .ok (.iinc 1 1, 3) := q_iinc (bat_get dg_X12_takesBack_0_0 17 rfl rfl) rfl
theorem dX12_takesBack_23 : decode cX12_takesBack 23 = .ok (.goto (-21), 3) := q_goto (bat_get dg_X12_takesBack_0_0 18 rfl rfl) rfl
theorem w_8_28 : (Cond.code yX12_takesBack cX12_takesBack 2 none) ∈ wsL_law := sk_mem (ck_8 _ (List.mem_of_getElem? (i := 28) rfl)) rfl
set_option maxHeartbeats 4000000 in
set_option maxRecDepth 100000 in
theorem c_nm_takesBack (l : Launch) (D : va_G) (cI cJ cC cZ cS : ClassId) (mm : Nat) (g : Nat → Nat) (ta : Nat) (pa : Nat) (pe : Nat) (pd : Int32) (pb : Nat) (pp : Int32) (pf : Int32) (pg : Int32) (pn : Int32) (rt : Int32) (rn : Int32) (cd : Nat) (sn : Int32) (il : Nat) (tk : Int32) (am : Int32) (at_ : Int32) (aa : Int32) (wt : Int32) (wy : Int64) (rm : Nat) (ud : Nat) (nu : Nat) (sd : Int64) (qn : Nat) (qw : Nat) (qo : Int32) (qb : Nat) (qp : Nat) (qa : Int64) (qi : Nat) (oc : Nat) (nw : Nat → Int32) (az : Nat → Int32) (wn : Nat) (mN : Nat) (Ba : Nat → Nat) (We : Nat → Nat) (U : Nat → Bool) (ke : Nat) (lg : KLg) (wv : Nat) (mv : Nat) (Bv : Nat → Nat) (Wv : Nat → Nat) (Uv : Nat → Bool) (haz : asX wn mN Ba We U az) (hnw : nwX wv mv Bv Wv Uv ke lg nw) : skM l yX12_takesBack cX12_takesBack 2 none 0 0 0 0 D (skT cI cJ cC cZ cS) [.ref mm] [ro_ mm 12 (mo g (nI ta) (nI pa) (nI pe) pd (nI pb) pp pf pg pn rt rn (nI cd) sn (nI il) tk am at_ aa 0 0 (-1) wt wy 1 (nI rm) (nI ud) (nI nu) sd (nI qn) (nI qw) qo (nI qb) (nI qp) qa (nI qi) (nI oc)), ra_I (g 31) cI 120 nw, ra_I (g 32) cI 29 az] (skV D (skT cI cJ cC cZ cS) (fun (u : va_W) => ∃ (nw2 : Nat → Int32), nwX wn mN Ba We U ke lg nw2 ∧ u = [ro_ mm 12 (mo g (nI ta) (nI pa) (nI pe) pd (nI pb) pp pf pg pn rt rn (nI cd) sn (nI il) tk am at_ aa 0 0 (-1) wt wy 0 (nI rm) (nI ud) (nI nu) sd (nI qn) (nI qw) qo (nI qb) (nI qp) qa (nI qi) (nI oc)), ra_I (g 31) cI 120 nw2, ra_I (g 32) cI 29 az])) := by
  refine skM_of pf_X12_takesBack (Nat.le_of_ble_eq_true rfl) ?_
  intro p e s m below meth c A ls E hP hD hl
  refine skE_el E (fun hx hb hr hml hlocks hin hown hts hK hA => ?_)
  have hown : s.vm.findClass RX12 = some m.cls := hown
  have hS : va_S A s.heap s.heap [] := va_S.rf
  have hl : lv_has ls 2 [(0, .ref mm)] := hl
  refine lv_iconst (v := 0) hx hb dX12_takesBack_0 ic_0 ?_
  refine lv_istore_n (lv' := [(1, .int 0), (0, .ref mm)]) hx hb dX12_takesBack_1 rfl hl (by decide) rfl (fun ls hl => ?_)
  have lp_1 : ∀ (n_2 : Nat) (i : Nat) (zn : Nat → Int32) (H : Heap) (locs : List Loc) (ls : Array Slot), 29 - i < n_2 → (i ≤ 29) → (tbC i az nw zn) → va_P D vwCl [ro_ mm 12 (mo g (nI ta) (nI pa) (nI pe) pd (nI pb) pp pf pg pn rt rn (nI cd) sn (nI il) tk am at_ aa 0 0 (-1) wt wy 1 (nI rm) (nI ud) (nI nu) sd (nI qn) (nI qw) qo (nI qb) (nI qp) qa (nI qi) (nI oc)), ra_I (g 31) cI 120 zn, ra_I (g 32) cI 29 az] H → va_D A [ro_ mm 12 (mo g (nI ta) (nI pa) (nI pe) pd (nI pb) pp pf pg pn rt rn (nI cd) sn (nI il) tk am at_ aa 0 0 (-1) wt wy 1 (nI rm) (nI ud) (nI nu) sd (nI qn) (nI qw) qo (nI qb) (nI qp) qa (nI qi) (nI oc)), ra_I (g 31) cI 120 zn, ra_I (g 32) cI 29 az] → va_S A s.heap H locs → lv_has ls 2 [(1, .int (nI i)), (0, .ref mm)] → W p l e { frames := 0, cells := 0, slots := 0, locals := 0 } s m ([.ref mm] : List Value).toArray below meth c H locs 0 0 (MQ below (skV D (skT cI cJ cC cZ cS) (fun (u : va_W) => ∃ (nw2 : Nat → Int32), nwX wn mN Ba We U ke lg nw2 ∧ u = [ro_ mm 12 (mo g (nI ta) (nI pa) (nI pe) pd (nI pb) pp pf pg pn rt rn (nI cd) sn (nI il) tk am at_ aa 0 0 (-1) wt wy 0 (nI rm) (nI ud) (nI nu) sd (nI qn) (nI qw) qo (nI qb) (nI qp) qa (nI qi) (nI oc)), ra_I (g 31) cI 120 nw2, ra_I (g 32) cI 29 az]) A) ([.ref mm] : List Value).toArray s 0 0 A) (F0 m 2 ls []) := by
    intro n_2
    induction n_2 with
    | zero => intro i zn H locs ls hm; exact absurd hm (Nat.not_lt_zero _)
    | succ n_2 ih_lp_1 =>
      intro i zn H locs ls hm hi htc hP hD hS hl
      refine lv_iload_n hx hb dX12_takesBack_2 rfl (lv_at hl 0 rfl) ?_
      refine lv_bipush (v := 29) hx hb dX12_takesBack_3 (by decide) ?_
      refine lv_icmp_ge (tgt := 26) hx hb dX12_takesBack_5 (by decide) (fun c_3 => ?_) (fun c_3 => ?_)
      · have c_3 : 29 ≤ i := (nle 29 i (Nat.le_of_ble_eq_true rfl) (by omega)).mp c_3
        have hnN : nwX wn mN Ba We U ke lg zn := tbX hnw haz (show tbC 29 az nw zn by rw [show 29 = i by omega]; exact htc)
        refine lv_aload_n hx hb dX12_takesBack_26 rfl (lv_at hl 1 rfl) ?_
        refine lv_iconst (v := 0) hx hb dX12_takesBack_27 ic_0 ?_
        refine sk_put (ws' := [ro_ mm 12 (mo g (nI ta) (nI pa) (nI pe) pd (nI pb) pp pf pg pn rt rn (nI cd) sn (nI il) tk am at_ aa 0 0 (-1) wt wy 0 (nI rm) (nI ud) (nI nu) sd (nI qn) (nI qw) qo (nI qb) (nI qp) qa (nI qi) (nI oc)), ra_I (g 31) cI 120 zn, ra_I (g 32) cI 29 az]) (C := RX12) (T := TX12) (N := 92) (v := .int 0) hx hb hts inlX12 tyX12 tyX12_ok nmX12 hown hK hP hD hS 0 rfl rfl 47 (Nat.le_of_ble_eq_true rfl) w_5_202 rfl rfl rfl (Nat.le_of_ble_eq_true rfl) rfl dX12_takesBack_28 (fun H locs hP hD hS => ?_)
        exact sk_vret hx hb hr hlocks hK hP hD hS (⟨zn, hnN, rfl⟩) (Nat.le_of_ble_eq_true rfl) (Nat.le_of_ble_eq_true rfl) dX12_takesBack_31
      · have c_3 : ¬ (29 ≤ i) := fun h => c_3 ((nle 29 i (Nat.le_of_ble_eq_true rfl) (by omega)).mpr h)
        refine lv_aload_n hx hb dX12_takesBack_8 rfl (lv_at hl 1 rfl) ?_
        refine sk_get (v := .ref (g 31)) (C := RX12) (T := TX12) (N := 92) hx hb hts inlX12 hown hK hP 0 rfl rfl 31 (Nat.le_of_ble_eq_true rfl) w_5_186 rfl dX12_takesBack_9 ?_
        refine lv_iload_n hx hb dX12_takesBack_12 rfl (lv_at hl 0 rfl) ?_
        refine lv_aload_n hx hb dX12_takesBack_13 rfl (lv_at hl 1 rfl) ?_
        refine sk_get (v := .ref (g 32)) (C := RX12) (T := TX12) (N := 92) hx hb hts inlX12 hown hK hP 0 rfl rfl 32 (Nat.le_of_ble_eq_true rfl) w_5_187 rfl dX12_takesBack_14 ?_
        refine lv_iload_n hx hb dX12_takesBack_17 rfl (lv_at hl 0 rfl) ?_
        refine va_iald hx hb hK.1 hP 2 0 rfl rfl (vin i 29 (by omega) (Nat.le_of_ble_eq_true rfl)) dX12_takesBack_18 ?_
        refine sk_top (az i) (by rw [nI_clamp (by omega)]) ?_
        refine sk_iastE (k := i) (x := (az i)) (ws' := fun f_4 => [ro_ mm 12 (mo g (nI ta) (nI pa) (nI pe) pd (nI pb) pp pf pg pn rt rn (nI cd) sn (nI il) tk am at_ aa 0 0 (-1) wt wy 1 (nI rm) (nI ud) (nI nu) sd (nI qn) (nI qw) qo (nI qb) (nI qp) qa (nI qi) (nI oc)), ra_I (g 31) cI 120 f_4, ra_I (g 32) cI 29 az]) hx hb hK hP hD hS 1 0 rfl rfl (by omega) (by omega) (fun _ => rfl) dX12_takesBack_19 (fun f_4 H locs ef_5 hP hD hS => ?_)
        refine lv_iinc (v := nI (i + 1)) (lv' := [(1, .int (nI (i + 1))), (0, .ref mm)]) hx hb dX12_takesBack_20 hl (k := 0) rfl (ninc i 1 (by decide)) (by decide) rfl (fun ls hl => ?_)
        refine lv_goto (tgt := 2) hx hb dX12_takesBack_23 (by decide) ?_
        exact ih_lp_1 (i + 1) f_4 _ _ _ (by omega) (by omega) (tbC_s htc ef_5 rfl (by omega)) hP hD hS (lv_sub hl [0, 1] rfl)
  exact lp_1 (29 - 0 + 1) 0 nw _ _ _ (Nat.lt_succ_self _) (by omega) (tbC_0 _ _) hP hD hS (lv_sub hl [0, 1] rfl)
theorem dg_X12_doGo_0_0 : bqL cX12_doGo 0 [(0, [42]), (1, [182, 1, 144]), (4, [42]), (5, [180, 1, 126]), (8, [9]), (9, [148]), (10, [154, 0, 5]), (15, [42]), (16, [9]), (17, [182, 1, 147]), (20, [4]), (21, [172]), (13, [3]), (14, [172])] = true := by decide +kernel
theorem dX12_doGo_0 : decode cX12_doGo 0 = .ok (.aload_n 0, 1) := q_aload_n0 (bat_get dg_X12_doGo_0_0 0 rfl rfl)
theorem dX12_doGo_1 : decode cX12_doGo 1 = .ok (.invokevirtual 400, 3) := q_invokevirtual (bat_get dg_X12_doGo_0_0 1 rfl rfl) rfl
theorem dX12_doGo_4 : decode cX12_doGo 4 = .ok (.aload_n 0, 1) := q_aload_n0 (bat_get dg_X12_doGo_0_0 2 rfl rfl)
theorem dX12_doGo_5 : decode cX12_doGo 5 = .ok (.getfield 382, 3) := q_getfield (bat_get dg_X12_doGo_0_0 3 rfl rfl) rfl
theorem dX12_doGo_8 : decode cX12_doGo 8 = .ok (.lconst 0, 1) := q_lconst0 (bat_get dg_X12_doGo_0_0 4 rfl rfl)
theorem dX12_doGo_9 : decode cX12_doGo 9 = .ok (.lcmp, 1) := q_lcmp (bat_get dg_X12_doGo_0_0 5 rfl rfl)
theorem dX12_doGo_10 : decode cX12_doGo 10 = .ok (.ifCond .ne 5, 3) := q_ifCond_ne (bat_get dg_X12_doGo_0_0 6 rfl rfl) rfl
theorem dX12_doGo_15 : decode cX12_doGo 15 = .ok (.aload_n 0, 1) := q_aload_n0 (bat_get dg_X12_doGo_0_0 7 rfl rfl)
theorem dX12_doGo_16 : decode cX12_doGo 16 = .ok (.lconst 0, 1) := q_lconst0 (bat_get dg_X12_doGo_0_0 8 rfl rfl)
theorem dX12_doGo_17 : decode cX12_doGo 17 = .ok (.invokevirtual 403, 3) := q_invokevirtual (bat_get dg_X12_doGo_0_0 9 rfl rfl) rfl
theorem dX12_doGo_20 : decode cX12_doGo 20 = .ok (.iconst 1, 1) := q_iconst1 (bat_get dg_X12_doGo_0_0 10 rfl rfl)
theorem dX12_doGo_21 : decode cX12_doGo 21 = .ok (.ireturn, 1) := q_ireturn (bat_get dg_X12_doGo_0_0 11 rfl rfl)
theorem dX12_doGo_13 : decode cX12_doGo 13 = .ok (.iconst 0, 1) := q_iconst0 (bat_get dg_X12_doGo_0_0 12 rfl rfl)
theorem dX12_doGo_14 : decode cX12_doGo 14 = .ok (.ireturn, 1) := q_ireturn (bat_get dg_X12_doGo_0_0 13 rfl rfl)
theorem w_8_16 : (Cond.code yX12_doGo cX12_doGo 1 (some .boolean)) ∈ wsL_law := sk_mem (ck_8 _ (List.mem_of_getElem? (i := 16) rfl)) rfl
set_option maxHeartbeats 4000000 in
set_option maxRecDepth 100000 in
theorem c_nm_doGo (l : Launch) (D : va_G) (cI cJ cC cZ cS : ClassId) (mm : Nat) (g : Nat → Nat) (ta : Nat) (pa : Nat) (pe : Nat) (pd : Int32) (pb : Nat) (pp : Int32) (pf : Int32) (pg : Int32) (pn : Int32) (rt : Int32) (rn : Int32) (cd : Nat) (sn : Int32) (il : Nat) (tk : Int32) (am : Int32) (at_ : Int32) (aa : Int32) (wt : Int32) (wy : Int64) (rm : Nat) (ud : Nat) (nu : Nat) (sd : Int64) (qn : Nat) (qw : Nat) (qo : Int32) (qb : Nat) (qp : Nat) (qa : Int64) (qi : Nat) (oc : Nat) (u0 : Int32) (u1 : Int32) (u2 : Int32) (u3 : Int32) (u4 : Int32) (u5 : Int32) (v0 : Int32) (v1 : Int32) (v2 : Int32) (v3 : Int32) (v4 : Int32) (v5 : Int32) (cs : Nat → Nat) (nw : Nat → Int32) (pt : Nat → Nat) (ql : Nat → Int64) (l0 : Nat) (l1 : Nat) (dm : Nat) (l3 : Nat) (ws_ : Nat → Int32) (yw : Nat → Int32) (yo : Nat → Int32) (be : Nat → Int64) (bf : Nat → Int64) (wn : Nat) (mN : Nat) (Ba : Nat → Nat) (We : Nat → Nat) (U : Nat → Bool) (ke : Nat) (lg : KLg) (L : LkS) (hdm : dm ≤ 9) (hdm1 : 1 ≤ dm) (hLk : kcLk L) (hkl : (lK L).length ≤ 1600) (hmw0 : mwO L 0 u3 v3 cs) (hmw1 : mwO L 1 u4 v4 cs) (hB9 : ∀ j, Ba j ≤ 9) (hW9 : ∀ j, We j ≤ 9) (hwk : wn ≤ 999) (hcs : ∀ j, cs j ≤ 20000) (hnw : nwX wn mN Ba We U ke lg nw) (hpt : ∀ j, pt j ≤ 9) : skM l yX12_doGo cX12_doGo 1 (some .boolean) 6 142 0 0 D (skT cI cJ cC cZ cS) [.ref mm] [ro_ mm 12 (mo g (nI ta) (nI pa) (nI pe) pd (nI pb) pp pf pg pn rt rn (nI cd) sn (nI il) tk am at_ aa 0 0 (-1) wt wy 1 (nI rm) (nI ud) (nI nu) sd (nI qn) (nI qw) qo (nI qb) (nI qp) qa (nI qi) (nI oc)), ra_I (g 24) cI 6 (l6 u0 u1 u2 u3 u4 u5), ra_I (g 25) cI 6 (l6 v0 v1 v2 v3 v4 v5), ra_N (g 26) cI 3200 cs, ra_I (g 31) cI 120 nw, ra_N (g 46) cI 9 pt, ra_J (g 86) cJ 1700 ql, ra_I (g 20) cI 4 (l4 (nI l0) (nI l1) (nI dm) (nI l3)), ra_I (g 38) cI 90 ws_, ra_I (g 36) cZ 900 yw, ra_I (g 37) cZ 900 yo, ra_J (g 43) cJ 90 be, ra_J (g 44) cJ 90 bf] (skI D (skT cI cJ cC cZ cS) (fun (r : Int32) (u : va_W) => ∃ (wv2 : Nat), ∃ (mv2 : Nat), ∃ (b : Nat), ∃ (nw2 : Nat → Int32), ∃ (tk2 : Int32), ∃ (qp2 : Nat), ∃ (am2 : Int32), ∃ (at_2 : Int32), ∃ (aa2 : Int32), ∃ (wy2 : Int64), ∃ (pt2 : Nat → Nat), ∃ (ql2 : Nat → Int64), ∃ (ws_2 : Nat → Int32), ∃ (yw2 : Nat → Int32), ∃ (yo2 : Nat → Int32), ∃ (be2 : Nat → Int64), ∃ (bf2 : Nat → Int64), nwX wv2 mv2 Ba We U ke lg nw2 ∧ ((b = 0 ∧ kcC (kcFo L wn Ba We U 0) dm 0 mN = 0 ∧ wv2 = wn ∧ mv2 = mN) ∨ (b = 1 ∧ 0 < kcC (kcFo L wn Ba We U 0) dm 0 mN ∧ wv2 = wn + 1 ∧ mv2 = kLast L dm (wn, mN, Ba, We, U, ke) 0)) ∧ (∀ j, pt2 j ≤ 9) ∧ r = nI b ∧ u = [ro_ mm 12 (mo g (nI ta) (nI pa) (nI pe) pd (nI pb) pp pf pg pn rt rn (nI cd) sn (nI il) tk2 am2 at_2 aa2 0 0 (-1) wt wy2 1 (nI rm) (nI ud) (nI nu) sd (nI qn) (nI qw) qo (nI qb) (nI qp2) qa (nI qi) (nI oc)), ra_I (g 24) cI 6 (l6 u0 u1 u2 u3 u4 u5), ra_I (g 25) cI 6 (l6 v0 v1 v2 v3 v4 v5), ra_N (g 26) cI 3200 cs, ra_I (g 31) cI 120 nw2, ra_N (g 46) cI 9 pt2, ra_J (g 86) cJ 1700 ql2, ra_I (g 20) cI 4 (l4 (nI l0) (nI l1) (nI dm) (nI l3)), ra_I (g 38) cI 90 ws_2, ra_I (g 36) cZ 900 yw2, ra_I (g 37) cZ 900 yo2, ra_J (g 43) cJ 90 be2, ra_J (g 44) cJ 90 bf2])) := by
  refine skM_of pf_X12_doGo (Nat.le_of_ble_eq_true rfl) ?_
  intro p e s m below meth c A ls E hP hD hl
  refine skE_el E (fun hx hb hr hml hlocks hin hown hts hK hA => ?_)
  have hown : s.vm.findClass RX12 = some m.cls := hown
  have hS : va_S A s.heap s.heap [] := va_S.rf
  have hl : lv_has ls 1 [(0, .ref mm)] := hl
  refine lv_aload_n hx hb dX12_doGo_0 rfl (lv_at hl 0 rfl) ?_
  refine sk_Vv (q0 := 0) (n := 0) (rest := []) (wr := fmR om_13_1fff _) ⟨hx, hb, hml, hown, hts⟩ hl.1 (c_nm_laysAll l D cI cJ cC cZ cS mm g ta pa pe pd pb pp pf pg pn rt rn cd sn il tk am at_ aa wt wy 1 rm ud nu sd qn qw qo qb qp qa qi oc u0 u1 u2 u3 u4 u5 v0 v1 v2 v3 v4 v5 cs nw pt ql l0 l1 dm l3 ws_ yw yo be bf wn mN Ba We U ke lg L hdm hdm1 hLk hkl hmw0 hmw1 hB9 hW9 hwk hcs hnw hpt) w_7_189 w_7_191 w_0_82 w_1_14 w_7_192 hd_X12_laysAll_0 ⟨⟨(Nat.le_of_ble_eq_true rfl), (Nat.le_of_ble_eq_true rfl)⟩, (Nat.le_of_ble_eq_true rfl), (Nat.le_of_ble_eq_true rfl)⟩ hK hP hD hS hA (fmT om_13_1fff 0) (fmF om_13_1fff 0) (fm_C1 rfl rfl) (fm_R rfl rfl) (fm_nT om_13_1fff 0) (fm_nF om_13_1fff 0) (fm_di om_13_1fff 0) rfl rfl rfl rfl (Nat.le_of_ble_eq_true rfl) dX12_doGo_1 (fun u H locs hw hP hD hS => ?_)
  refine exE hw (fun tk2_1 hw1 => exE hw1 (fun qp2_2 hw2 => exE hw2 (fun am2_3 hw3 => exE hw3 (fun at_2_4 hw4 => exE hw4 (fun aa2_5 hw5 => exE hw5 (fun wy2_6 hw6 => exE hw6 (fun ql2_7 hw7 => exE hw7 (fun ws_2_8 hw8 => exE hw8 (fun yw2_9 hw9 => exE hw9 (fun yo2_10 hw10 => exE hw10 (fun be2_11 hw11 => exE hw11 (fun bf2_12 hw12 => anE hw12 (fun hbe_13 hw13 => anE hw13 (fun hcf_14 hw14 => anE hw14 (fun hwy_15 eu_16 => ?_)))))))))))))))
  clear hw hw1 hw2 hw3 hw4 hw5 hw6 hw7 hw8 hw9 hw10 hw11 hw12 hw13 hw14
  refine o_mgE (ws' := [ro_ mm 12 (mo g (nI ta) (nI pa) (nI pe) pd (nI pb) pp pf pg pn rt rn (nI cd) sn (nI il) tk2_1 am2_3 at_2_4 aa2_5 0 0 (-1) wt wy2_6 1 (nI rm) (nI ud) (nI nu) sd (nI qn) (nI qw) qo (nI qb) (nI qp2_2) qa (nI qi) (nI oc)), ra_I (g 24) cI 6 (l6 u0 u1 u2 u3 u4 u5), ra_I (g 25) cI 6 (l6 v0 v1 v2 v3 v4 v5), ra_N (g 26) cI 3200 cs, ra_I (g 31) cI 120 nw, ra_N (g 46) cI 9 pt, ra_J (g 86) cJ 1700 ql2_7, ra_I (g 20) cI 4 (l4 (nI l0) (nI l1) (nI dm) (nI l3)), ra_I (g 38) cI 90 ws_2_8, ra_I (g 36) cZ 900 yw2_9, ra_I (g 37) cZ 900 yo2_10, ra_J (g 43) cJ 90 be2_11, ra_J (g 44) cJ 90 bf2_12]) eu_16 hP hD rfl (fun hP hD => ?_)
  refine lv_aload_n hx hb dX12_doGo_4 rfl (lv_at hl 0 rfl) ?_
  refine sk_get (v := .long wy2_6) (C := RX12) (T := TX12) (N := 92) hx hb hts inlX12 hown hK hP 0 rfl rfl 45 (Nat.le_of_ble_eq_true rfl) w_5_200 rfl dX12_doGo_5 ?_
  refine lv_lconst (v := 0) hx hb dX12_doGo_8 (by decide) ?_
  refine W.lcmp hx hb dX12_doGo_9 ?_
  refine lv_if_ne (tgt := 15) hx hb dX12_doGo_10 (by decide) (fun c_17 => ?_) (fun c_17 => ?_)
  · have hnx : 0 < kcC (kcFo L wn Ba We U 0) dm 0 mN := Nat.pos_of_ne_zero (fun hq => c_17 (by rw [hwy_15, hq]; rfl))
    refine lv_aload_n hx hb dX12_doGo_15 rfl (lv_at hl 0 rfl) ?_
    refine lv_lconst (v := 0) hx hb dX12_doGo_16 (by decide) ?_
    refine sk_topl (nL 0) rfl ?_
    refine sk_Vv (q0 := 0) (n := 1) (rest := []) (wr := fmR om_13_11ae _) ⟨hx, hb, hml, hown, hts⟩ hl.1 (c_nm_goesBy1 l D cI cJ cC cZ cS mm g ta pa pe pd pb pp pf pg pn rt rn cd sn il tk2_1 am2_3 at_2_4 aa2_5 wt wy2_6 rm ud nu sd qn qw qo qb qp2_2 qa qi oc l0 l1 dm l3 nw yo2_10 yw2_9 be2_11 pt wn mN Ba We U ke lg L 0 hdm hdm1 hbe_13 hcf_14 hwy_15 hnx hnw hpt) w_8_17 w_8_19 w_0_93 w_1_14 w_8_20 hd_X12_goesBy_1 ⟨⟨(Nat.le_of_ble_eq_true rfl), (Nat.le_of_ble_eq_true rfl)⟩, (Nat.le_of_ble_eq_true rfl), (Nat.le_of_ble_eq_true rfl)⟩ hK hP hD hS hA [0, 7, 4, 10, 9, 11, 5] (fmF om_13_11ae 0) rfl (fm_R rfl rfl) (by decide +kernel) (fm_nF om_13_11ae 0) (by decide +kernel) rfl rfl rfl rfl (Nat.le_of_ble_eq_true rfl) dX12_doGo_17 (fun u H locs hw hP hD hS => ?_)
    refine exE hw (fun nw2_18 hw1 => exE hw1 (fun pt2_19 hw2 => anE hw2 (fun hnw2_20 hw3 => anE hw3 (fun hpt2_21 eu_22 => ?_))))
    clear hw hw1 hw2 hw3
    refine o_mgqE (ux := [ro_ mm 12 (mo g (nI ta) (nI pa) (nI pe) pd (nI pb) pp pf pg pn rt rn (nI cd) sn (nI il) tk2_1 am2_3 at_2_4 aa2_5 0 0 (-1) wt wy2_6 1 (nI rm) (nI ud) (nI nu) sd (nI qn) (nI qw) qo (nI qb) (nI qp2_2) qa (nI qi) (nI oc)), ra_I (g 31) cI 120 nw2_18, ra_N (g 46) cI 9 pt2_19, ra_I (g 20) cI 4 (l4 (nI l0) (nI l1) (nI dm) (nI l3)), ra_I (g 36) cZ 900 yw2_9, ra_I (g 37) cZ 900 yo2_10, ra_J (g 43) cJ 90 be2_11]) (ws' := [ro_ mm 12 (mo g (nI ta) (nI pa) (nI pe) pd (nI pb) pp pf pg pn rt rn (nI cd) sn (nI il) tk2_1 am2_3 at_2_4 aa2_5 0 0 (-1) wt wy2_6 1 (nI rm) (nI ud) (nI nu) sd (nI qn) (nI qw) qo (nI qb) (nI qp2_2) qa (nI qi) (nI oc)), ra_I (g 24) cI 6 (l6 u0 u1 u2 u3 u4 u5), ra_I (g 25) cI 6 (l6 v0 v1 v2 v3 v4 v5), ra_N (g 26) cI 3200 cs, ra_I (g 31) cI 120 nw2_18, ra_N (g 46) cI 9 pt2_19, ra_J (g 86) cJ 1700 ql2_7, ra_I (g 20) cI 4 (l4 (nI l0) (nI l1) (nI dm) (nI l3)), ra_I (g 38) cI 90 ws_2_8, ra_I (g 36) cZ 900 yw2_9, ra_I (g 37) cZ 900 yo2_10, ra_J (g 43) cJ 90 be2_11, ra_J (g 44) cJ 90 bf2_12]) eu_22 [0, 2, 6, 1, 4, 3, 5] (by decide +kernel) rfl hP hD rfl (fun hP hD => ?_)
    refine lv_iconst (v := 1) hx hb dX12_doGo_20 ic_1 ?_
    exact sk_iret hx hb hr rfl hlocks hK hP hD hS (⟨(wn + 1), (kLast L dm (wn, mN, Ba, We, U, ke) 0), 1, nw2_18, tk2_1, qp2_2, am2_3, at_2_4, aa2_5, wy2_6, pt2_19, ql2_7, ws_2_8, yw2_9, yo2_10, be2_11, bf2_12, hnw2_20, Or.inr ⟨rfl, hnx, rfl, rfl⟩, hpt2_21, rfl, rfl⟩) (Nat.le_of_ble_eq_true rfl) (Nat.le_of_ble_eq_true rfl) dX12_doGo_21
  · have hz0 : kcC (kcFo L wn Ba We U 0) dm 0 mN = 0 := kz_0 (by rw [← hwy_15]; exact c_17) (by have := kcC_9 (kcFo L wn Ba We U 0) (show dm ≤ 9 by omega) 0 mN; omega)
    refine lv_iconst (v := 0) hx hb dX12_doGo_13 ic_0 ?_
    exact sk_iret hx hb hr rfl hlocks hK hP hD hS (⟨wn, mN, 0, nw, tk2_1, qp2_2, am2_3, at_2_4, aa2_5, wy2_6, pt, ql2_7, ws_2_8, yw2_9, yo2_10, be2_11, bf2_12, hnw, Or.inl ⟨rfl, hz0, rfl, rfl⟩, hpt, rfl, rfl⟩) (Nat.le_of_ble_eq_true rfl) (Nat.le_of_ble_eq_true rfl) dX12_doGo_14
/-! the reference's ways through a mood -/
theorem kcB_cg {E F : Nat → Nat → Nat → Bool} {a0 : Nat} (h0 : a0 < 10) : ∀ d m, (∀ e, e ≤ d → ∀ x y, x < 10 → y < 10 → E e x y = F e x y) → m < 10 → kcB E a0 d m = kcB F a0 d m
  | 0, m, h, hm => by rw [kcB_0, kcB_0, h 0 (Nat.le_refl 0) a0 m h0 hm]
  | d + 1, m, h, hm => by
    rw [kcB_s, kcB_s]
    refine kcS_cg 10 (fun a ha => ?_)
    rw [h (d + 1) (Nat.le_refl _) a m ha hm, kcB_cg h0 d a (fun e he => h e (by omega)) ha]
def mwY (E : Nat → Nat → Nat → Bool) (dm a0 : Nat) (be bf : Nat → Int64) : Prop := ∀ d, d < dm → ∀ m, m < 10 → be (10 * d + m) = nL (kcC E (dm - (d + 1)) (d + 1) m) ∧ bf (10 * d + m) = nL (kcB E a0 d m)
theorem mwX {C E : Nat → Nat → Nat → Bool} {nw : Nat → Int32} {dm mo : Nat} {be bf : Nat → Int64} (h : ∀ d, d < dm → ∀ a m, a < 10 → m < 10 → C d a m = E d a m) (ha : a0N nw = mo) (hmo : mo ≤ 9) (h1 : beOk C dm 0 be) (h2 : bfOk C (a0N nw) dm bf) : mwY E dm mo be bf := fun d hd m hm => by
  refine ⟨?_, ?_⟩
  · rw [h1 d (Nat.zero_le d) hd m hm, bk_C, show dm - 1 - d = dm - (d + 1) by omega, kcC_cg (F := E) (dm - (d + 1)) (d + 1) m (fun e _ h4 x y hx hy => h e (by omega) x y hx hy) hm]
  · rw [h2 d hd m hm, bfo_B, ha, kcB_cg (by omega) d m (fun e he x y hx hy => h e (by omega) x y hx hy) hm]
theorem mw_p {E : Nat → Nat → Nat → Bool} {dm a0 d m : Nat} {be bf : Nat → Int64} (h : mwY E dm a0 be bf) (hd : d < dm) (hm : m < 10) : bf (10 * d + m) * be (10 * d + m) = nL (kcT2 E dm a0 d m) := by
  obtain ⟨h1, h2⟩ := h d hd m hm
  rw [h1, h2, kofn_mul]
  rfl
theorem kcB_le (E : Nat → Nat → Nat → Bool) (a0 : Nat) : ∀ d m, kcB E a0 d m ≤ 10 ^ d
  | 0, m => by
    rw [kcB_0]
    split
    · exact Nat.le_refl _
    · exact Nat.zero_le _
  | d + 1, m => by
    rw [kcB_s, Nat.pow_succ, Nat.mul_comm]
    refine kcS_le 10 (fun a _ => ?_)
    split
    · exact kcB_le E a0 d a
    · exact Nat.zero_le _
theorem kcB_9 (E : Nat → Nat → Nat → Bool) (a0 : Nat) {d : Nat} (h : d ≤ 9) (m : Nat) : kcB E a0 d m ≤ 1000000000 := Nat.le_trans (kcB_le E a0 d m) (kc_9 h)
theorem mo_gt {b : Nat} (h : b < 9223372036854775808) : ¬ lg_cmp (nL b) 0 ≤ 0 ↔ 0 < b := by
  constructor
  · intro q
    refine Nat.pos_of_ne_zero (fun z => q ?_)
    subst z
    decide
  · exact fun q => kofn_pos q h
/-- the moods of a day, so far -/
def mwK (E : Nat → Nat → Nat → Bool) (dm a0 d i : Nat) : Nat := kcK (fun m => decide (0 < kcT2 E dm a0 d m)) i
theorem mwK_y {E : Nat → Nat → Nat → Bool} {dm a0 d i : Nat} {ms : Int32} {x y : Int64} (h : ms = nI (mwK E dm a0 d i)) (hi : i < 10) (hx : x = nL (kcB E a0 d i)) (hy : y = nL (kcC E (dm - (d + 1)) (d + 1) i)) (h1 : ¬ lg_cmp x 0 ≤ 0) (h2 : ¬ lg_cmp y 0 ≤ 0) (h9 : dm ≤ 9) (hd : d < dm) : ms ||| ((1 : Int32) <<< (nI i &&& 31)) = nI (mwK E dm a0 d (i + 1)) := by
  have b1 := kcB_9 E a0 (show d ≤ 9 by omega) i
  have b2 := kcC_9 E (show dm - (d + 1) ≤ 9 by omega) (d + 1) i
  rw [hx, mo_gt (by omega)] at h1
  rw [hy, mo_gt (by omega)] at h2
  rw [h, kor_10 (show mwK E dm a0 d i < 1024 from kK_lt10 _ (by omega)) hi]
  exact congrArg nI (kcK_or _ i (decide_eq_true (show 0 < kcT2 E dm a0 d i from Nat.mul_pos h1 h2)))
theorem mwK_0 {E : Nat → Nat → Nat → Bool} {dm a0 d i : Nat} {ms : Int32} {x : Int64} (h : ms = nI (mwK E dm a0 d i)) (hx : x = nL (kcB E a0 d i)) (h1 : lg_cmp x 0 ≤ 0) (h9 : dm ≤ 9) (hd : d < dm) : ms = nI (mwK E dm a0 d (i + 1)) := by
  have b1 := kcB_9 E a0 (show d ≤ 9 by omega) i
  rw [hx] at h1
  have h3 : kcB E a0 d i = 0 := Nat.eq_zero_of_not_pos (fun q => (mo_gt (by omega)).mpr q h1)
  rw [h]
  exact congrArg nI (kcK_no _ i (fun q => by
    have h4 : 0 < kcT2 E dm a0 d i := of_decide_eq_true q
    unfold kcT2 at h4
    rw [h3, Nat.zero_mul] at h4
    exact Nat.lt_irrefl 0 h4)).symm
theorem mwK_1 {E : Nat → Nat → Nat → Bool} {dm a0 d i : Nat} {ms : Int32} {y : Int64} (h : ms = nI (mwK E dm a0 d i)) (hy : y = nL (kcC E (dm - (d + 1)) (d + 1) i)) (h1 : lg_cmp y 0 ≤ 0) (h9 : dm ≤ 9) (hd : d < dm) : ms = nI (mwK E dm a0 d (i + 1)) := by
  have b1 := kcC_9 E (show dm - (d + 1) ≤ 9 by omega) (d + 1) i
  rw [hy] at h1
  have h3 : kcC E (dm - (d + 1)) (d + 1) i = 0 := Nat.eq_zero_of_not_pos (fun q => (mo_gt (by omega)).mpr q h1)
  rw [h]
  exact congrArg nI (kcK_no _ i (fun q => by
    have h4 : 0 < kcT2 E dm a0 d i := of_decide_eq_true q
    unfold kcT2 at h4
    rw [h3, Nat.mul_zero] at h4
    exact Nat.lt_irrefl 0 h4)).symm
theorem mwK_e {E : Nat → Nat → Nat → Bool} {dm a0 d i : Nat} (h : i = 10) : mwK E dm a0 d i = kcMs E dm a0 d := by
  subst h; rfl
set_option maxHeartbeats 4000000 in
set_option maxRecDepth 100000 in
theorem c_vm_laysWaysF (l : Launch) (D : va_G) (cI cJ cC cZ cS : ClassId) (mm : Nat) (g : Nat → Nat) (ta : Nat) (pa : Nat) (pe : Nat) (pd : Int32) (pb : Nat) (pp : Int32) (pf : Int32) (pg : Int32) (pn : Int32) (rt : Int32) (rn : Int32) (cd : Nat) (sn : Int32) (il : Nat) (tk : Int32) (am : Int32) (at_ : Int32) (aa : Int32) (mt_ : Int32) (wt : Int32) (wy : Int64) (it_ : Nat) (rm : Nat) (ud : Nat) (nu : Nat) (sd : Int64) (qn : Nat) (qw : Nat) (qo : Int32) (qb : Nat) (qp : Nat) (qa : Int64) (qi : Nat) (oc : Nat) (l0 : Nat) (l1 : Nat) (dm : Nat) (l3 : Nat) (nw : Nat → Int32) (yo : Nat → Int32) (yw : Nat → Int32) (be : Nat → Int64) (bf : Nat → Int64) (hdm : dm ≤ 9) (hdm1 : 1 ≤ dm) (hnw : nowOk nw) : skM l yX12_laysWays cX12_laysWays 7 none 3 66 0 0 D (skT cI cJ cC cZ cS) [.ref mm] [ro_ mm 12 (mo g (nI ta) (nI pa) (nI pe) pd (nI pb) pp pf pg pn rt rn (nI cd) sn (nI il) tk am at_ aa mt_ 0 (-1) wt wy (nI it_) (nI rm) (nI ud) (nI nu) sd (nI qn) (nI qw) qo (nI qb) (nI qp) qa (nI qi) (nI oc)), ra_I (g 20) cI 4 (l4 (nI l0) (nI l1) (nI dm) (nI l3)), ra_I (g 31) cI 120 nw, ra_I (g 37) cZ 900 yo, ra_I (g 36) cZ 900 yw, ra_J (g 43) cJ 90 be, ra_J (g 44) cJ 90 bf] (skV D (skT cI cJ cC cZ cS) (fun (u : va_W) => ∃ (wy2 : Int64), ∃ (be2 : Nat → Int64), ∃ (bf2 : Nat → Int64), beOk (cfN nw yw yo mt_) dm 0 be2 ∧ bfOk (cfN nw yw yo mt_) (a0N nw) dm bf2 ∧ wy2 = nL (wys (cfN nw yw yo mt_) (a0N nw) (dm - 1)) ∧ u = [ro_ mm 12 (mo g (nI ta) (nI pa) (nI pe) pd (nI pb) pp pf pg pn rt rn (nI cd) sn (nI il) tk am at_ aa mt_ 0 (-1) wt wy2 (nI it_) (nI rm) (nI ud) (nI nu) sd (nI qn) (nI qw) qo (nI qb) (nI qp) qa (nI qi) (nI oc)), ra_I (g 20) cI 4 (l4 (nI l0) (nI l1) (nI dm) (nI l3)), ra_I (g 31) cI 120 nw, ra_I (g 37) cZ 900 yo, ra_I (g 36) cZ 900 yw, ra_J (g 43) cJ 90 be2, ra_J (g 44) cJ 90 bf2])) := by
  refine skM_of pf_X12_laysWays (Nat.le_of_ble_eq_true rfl) ?_
  intro p e s m below meth c A ls E hP hD hl
  refine skE_el E (fun hx hb hr hml hlocks hin hown hts hK hA => ?_)
  have hown : s.vm.findClass RX12 = some m.cls := hown
  have hS : va_S A s.heap s.heap [] := va_S.rf
  have hl : lv_has ls 7 [(0, .ref mm)] := hl
  refine lv_aload_n hx hb dX12_laysWays_0 rfl (lv_at hl 0 rfl) ?_
  refine sk_Vi (q0 := 0) (n := 0) (rest := []) (wr := fmR om_7_60 _) ⟨hx, hb, hml, hown, hts⟩ hl.1 (c_m_dayMany l D cI cJ cC cZ cS mm g ta pa pe pd pb pp pf pg pn rt rn cd sn il tk am at_ aa mt_ 0 (-1) wt wy it_ rm ud nu sd qn qw qo qb qp qa qi oc l0 l1 dm l3) w_7_98 w_7_100 w_0_69 w_1_14 w_7_101 hd_X12_dayMany_0 ⟨⟨(Nat.le_of_ble_eq_true rfl), (Nat.le_of_ble_eq_true rfl)⟩, (Nat.le_of_ble_eq_true rfl), (Nat.le_of_ble_eq_true rfl)⟩ hK hP hD hS hA (fmT om_7_60 0) (fmF om_7_60 0) (fm_C1 rfl rfl) (fm_R rfl rfl) (fm_nT om_7_60 0) (fm_nF om_7_60 0) (fm_di om_7_60 0) rfl rfl rfl rfl (Nat.le_of_ble_eq_true rfl) dX12_laysWays_1 (fun r_1 u H locs hw hP hD hS => ?_)
  refine anE hw (fun er_3 eu_2 => ?_)
  clear hw
  subst er_3
  refine o_mgE (ws' := [ro_ mm 12 (mo g (nI ta) (nI pa) (nI pe) pd (nI pb) pp pf pg pn rt rn (nI cd) sn (nI il) tk am at_ aa mt_ 0 (-1) wt wy (nI it_) (nI rm) (nI ud) (nI nu) sd (nI qn) (nI qw) qo (nI qb) (nI qp) qa (nI qi) (nI oc)), ra_I (g 20) cI 4 (l4 (nI l0) (nI l1) (nI dm) (nI l3)), ra_I (g 31) cI 120 nw, ra_I (g 37) cZ 900 yo, ra_I (g 36) cZ 900 yw, ra_J (g 43) cJ 90 be, ra_J (g 44) cJ 90 bf]) eu_2 hP hD rfl (fun hP hD => ?_)
  refine lv_iconst (v := 1) hx hb dX12_laysWays_4 ic_1 ?_
  refine lv_isub hx hb dX12_laysWays_5 ?_
  refine lv_istore_n (lv' := [(1, .int (nI dm - 1)), (0, .ref mm)]) hx hb dX12_laysWays_6 rfl hl (by decide) rfl (fun ls hl => ?_)
  refine lv_iload_n hx hb dX12_laysWays_7 rfl (lv_at hl 0 rfl) ?_
  refine lv_istore_n (lv' := [(2, .int (nI dm - 1)), (1, .int (nI dm - 1)), (0, .ref mm)]) hx hb dX12_laysWays_8 rfl hl (by decide) rfl (fun ls hl => ?_)
  have lp_4 : ∀ (n_5 : Nat) (dd : Nat) (zb : Nat → Int64) (H : Heap) (locs : List Loc) (ls : Array Slot), dd < n_5 → (dd ≤ dm) → (beOk (cfN nw yw yo mt_) dm dd zb) → va_P D vwCl [ro_ mm 12 (mo g (nI ta) (nI pa) (nI pe) pd (nI pb) pp pf pg pn rt rn (nI cd) sn (nI il) tk am at_ aa mt_ 0 (-1) wt wy (nI it_) (nI rm) (nI ud) (nI nu) sd (nI qn) (nI qw) qo (nI qb) (nI qp) qa (nI qi) (nI oc)), ra_I (g 20) cI 4 (l4 (nI l0) (nI l1) (nI dm) (nI l3)), ra_I (g 31) cI 120 nw, ra_I (g 37) cZ 900 yo, ra_I (g 36) cZ 900 yw, ra_J (g 43) cJ 90 zb, ra_J (g 44) cJ 90 bf] H → va_D A [ro_ mm 12 (mo g (nI ta) (nI pa) (nI pe) pd (nI pb) pp pf pg pn rt rn (nI cd) sn (nI il) tk am at_ aa mt_ 0 (-1) wt wy (nI it_) (nI rm) (nI ud) (nI nu) sd (nI qn) (nI qw) qo (nI qb) (nI qp) qa (nI qi) (nI oc)), ra_I (g 20) cI 4 (l4 (nI l0) (nI l1) (nI dm) (nI l3)), ra_I (g 31) cI 120 nw, ra_I (g 37) cZ 900 yo, ra_I (g 36) cZ 900 yw, ra_J (g 43) cJ 90 zb, ra_J (g 44) cJ 90 bf] → va_S A s.heap H locs → lv_has ls 7 [(2, .int (nI dd - 1)), (1, .int (nI dm - 1)), (0, .ref mm)] → W p l e { frames := 3, cells := 0, slots := 0, locals := 66 } s m ([.ref mm] : List Value).toArray below meth c H locs 0 0 (MQ below (skV D (skT cI cJ cC cZ cS) (fun (u : va_W) => ∃ (wy2 : Int64), ∃ (be2 : Nat → Int64), ∃ (bf2 : Nat → Int64), beOk (cfN nw yw yo mt_) dm 0 be2 ∧ bfOk (cfN nw yw yo mt_) (a0N nw) dm bf2 ∧ wy2 = nL (wys (cfN nw yw yo mt_) (a0N nw) (dm - 1)) ∧ u = [ro_ mm 12 (mo g (nI ta) (nI pa) (nI pe) pd (nI pb) pp pf pg pn rt rn (nI cd) sn (nI il) tk am at_ aa mt_ 0 (-1) wt wy2 (nI it_) (nI rm) (nI ud) (nI nu) sd (nI qn) (nI qw) qo (nI qb) (nI qp) qa (nI qi) (nI oc)), ra_I (g 20) cI 4 (l4 (nI l0) (nI l1) (nI dm) (nI l3)), ra_I (g 31) cI 120 nw, ra_I (g 37) cZ 900 yo, ra_I (g 36) cZ 900 yw, ra_J (g 43) cJ 90 be2, ra_J (g 44) cJ 90 bf2]) A) ([.ref mm] : List Value).toArray s 0 0 A) (F0 m 9 ls []) := by
    intro n_5
    induction n_5 with
    | zero => intro dd zb H locs ls hm; exact absurd hm (Nat.not_lt_zero _)
    | succ n_5 ih_lp_4 =>
      intro dd zb H locs ls hm hdd hbe hP hD hS hl
      refine lv_iload_n hx hb dX12_laysWays_9 rfl (lv_at hl 0 rfl) ?_
      refine lv_if_lt (tgt := 111) hx hb dX12_laysWays_10 (by decide) (fun c_6 => ?_) (fun c_6 => ?_)
      · have c_6 : dd = 0 := npm0 dd (by omega) c_6
        refine lv_aload_n hx hb dX12_laysWays_111 rfl (lv_at hl 2 rfl) ?_
        refine lv_lconst (v := 0) hx hb dX12_laysWays_112 (by decide) ?_
        refine sk_put (ws' := [ro_ mm 12 (mo g (nI ta) (nI pa) (nI pe) pd (nI pb) pp pf pg pn rt rn (nI cd) sn (nI il) tk am at_ aa mt_ 0 (-1) wt 0 (nI it_) (nI rm) (nI ud) (nI nu) sd (nI qn) (nI qw) qo (nI qb) (nI qp) qa (nI qi) (nI oc)), ra_I (g 20) cI 4 (l4 (nI l0) (nI l1) (nI dm) (nI l3)), ra_I (g 31) cI 120 nw, ra_I (g 37) cZ 900 yo, ra_I (g 36) cZ 900 yw, ra_J (g 43) cJ 90 zb, ra_J (g 44) cJ 90 bf]) (C := RX12) (T := TX12) (N := 92) (v := .long 0) hx hb hts inlX12 tyX12 tyX12_ok nmX12 hown hK hP hD hS 0 rfl rfl 45 (Nat.le_of_ble_eq_true rfl) w_5_200 rfl rfl rfl (Nat.le_of_ble_eq_true rfl) rfl dX12_laysWays_113 (fun H locs hP hD hS => ?_)
        refine lv_iconst (v := 0) hx hb dX12_laysWays_116 ic_0 ?_
        refine lv_istore_n (lv' := [(2, .int 0), (1, .int (nI dm - 1)), (0, .ref mm)]) hx hb dX12_laysWays_117 rfl hl (by decide) rfl (fun ls hl => ?_)
        have lp_7 : ∀ (n_8 : Nat) (i : Nat) (zy : Int64) (zf : Nat → Int64) (H : Heap) (locs : List Loc) (ls : Array Slot), dm - i < n_8 → (i ≤ dm) → (bfOk (cfN nw yw yo mt_) (a0N nw) i zf) → (wyAt (cfN nw yw yo mt_) (a0N nw) dm i zy) → va_P D vwCl [ro_ mm 12 (mo g (nI ta) (nI pa) (nI pe) pd (nI pb) pp pf pg pn rt rn (nI cd) sn (nI il) tk am at_ aa mt_ 0 (-1) wt zy (nI it_) (nI rm) (nI ud) (nI nu) sd (nI qn) (nI qw) qo (nI qb) (nI qp) qa (nI qi) (nI oc)), ra_I (g 20) cI 4 (l4 (nI l0) (nI l1) (nI dm) (nI l3)), ra_I (g 31) cI 120 nw, ra_I (g 37) cZ 900 yo, ra_I (g 36) cZ 900 yw, ra_J (g 43) cJ 90 zb, ra_J (g 44) cJ 90 zf] H → va_D A [ro_ mm 12 (mo g (nI ta) (nI pa) (nI pe) pd (nI pb) pp pf pg pn rt rn (nI cd) sn (nI il) tk am at_ aa mt_ 0 (-1) wt zy (nI it_) (nI rm) (nI ud) (nI nu) sd (nI qn) (nI qw) qo (nI qb) (nI qp) qa (nI qi) (nI oc)), ra_I (g 20) cI 4 (l4 (nI l0) (nI l1) (nI dm) (nI l3)), ra_I (g 31) cI 120 nw, ra_I (g 37) cZ 900 yo, ra_I (g 36) cZ 900 yw, ra_J (g 43) cJ 90 zb, ra_J (g 44) cJ 90 zf] → va_S A s.heap H locs → lv_has ls 7 [(2, .int (nI i)), (1, .int (nI dm - 1)), (0, .ref mm)] → W p l e { frames := 3, cells := 0, slots := 0, locals := 66 } s m ([.ref mm] : List Value).toArray below meth c H locs 0 0 (MQ below (skV D (skT cI cJ cC cZ cS) (fun (u : va_W) => ∃ (wy2 : Int64), ∃ (be2 : Nat → Int64), ∃ (bf2 : Nat → Int64), beOk (cfN nw yw yo mt_) dm 0 be2 ∧ bfOk (cfN nw yw yo mt_) (a0N nw) dm bf2 ∧ wy2 = nL (wys (cfN nw yw yo mt_) (a0N nw) (dm - 1)) ∧ u = [ro_ mm 12 (mo g (nI ta) (nI pa) (nI pe) pd (nI pb) pp pf pg pn rt rn (nI cd) sn (nI il) tk am at_ aa mt_ 0 (-1) wt wy2 (nI it_) (nI rm) (nI ud) (nI nu) sd (nI qn) (nI qw) qo (nI qb) (nI qp) qa (nI qi) (nI oc)), ra_I (g 20) cI 4 (l4 (nI l0) (nI l1) (nI dm) (nI l3)), ra_I (g 31) cI 120 nw, ra_I (g 37) cZ 900 yo, ra_I (g 36) cZ 900 yw, ra_J (g 43) cJ 90 be2, ra_J (g 44) cJ 90 bf2]) A) ([.ref mm] : List Value).toArray s 0 0 A) (F0 m 118 ls []) := by
          intro n_8
          induction n_8 with
          | zero => intro i zy zf H locs ls hm; exact absurd hm (Nat.not_lt_zero _)
          | succ n_8 ih_lp_7 =>
            intro i zy zf H locs ls hm hi hbf hzy hP hD hS hl
            refine lv_iload_n hx hb dX12_laysWays_118 rfl (lv_at hl 0 rfl) ?_
            refine lv_iload_n hx hb dX12_laysWays_119 rfl (lv_at hl 1 rfl) ?_
            refine lv_icmp_gt (tgt := 248) hx hb dX12_laysWays_120 (by decide) (fun c_9 => ?_) (fun c_9 => ?_)
            · have c_9 : ((dm : Nat) : Int) - 1 < ((i : Nat) : Int) := (ilt (ivp dm (by omega)) (ivn i (by omega))).mp c_9
              exact sk_vret hx hb hr hlocks hK hP hD hS (⟨zy, zb, zf, (be_z hbe (by omega)), (show bfOk (cfN nw yw yo mt_) (a0N nw) dm zf by rw [show dm = i by omega]; exact hbf), wyAt_n hzy (by omega), rfl⟩) (Nat.le_of_ble_eq_true rfl) (Nat.le_of_ble_eq_true rfl) dX12_laysWays_248
            · have c_9 : ¬ (((dm : Nat) : Int) - 1 < ((i : Nat) : Int)) := fun h => c_9 ((ilt (ivp dm (by omega)) (ivn i (by omega))).mpr h)
              refine lv_iconst (v := 0) hx hb dX12_laysWays_123 ic_0 ?_
              refine lv_istore_n (lv' := [(3, .int 0), (2, .int (nI i)), (1, .int (nI dm - 1)), (0, .ref mm)]) hx hb dX12_laysWays_124 rfl hl (by decide) rfl (fun ls hl => ?_)
              have lp_10 : ∀ (n_11 : Nat) (jm : Nat) (zyb : Int64) (zg : Nat → Int64) (H : Heap) (locs : List Loc) (ls : Array Slot), 10 - jm < n_11 → (jm ≤ 10) → (bfOk2 (cfN nw yw yo mt_) (a0N nw) i jm zg) → (wyOk (cfN nw yw yo mt_) (a0N nw) dm i jm zyb) → va_P D vwCl [ro_ mm 12 (mo g (nI ta) (nI pa) (nI pe) pd (nI pb) pp pf pg pn rt rn (nI cd) sn (nI il) tk am at_ aa mt_ 0 (-1) wt zyb (nI it_) (nI rm) (nI ud) (nI nu) sd (nI qn) (nI qw) qo (nI qb) (nI qp) qa (nI qi) (nI oc)), ra_I (g 20) cI 4 (l4 (nI l0) (nI l1) (nI dm) (nI l3)), ra_I (g 31) cI 120 nw, ra_I (g 37) cZ 900 yo, ra_I (g 36) cZ 900 yw, ra_J (g 43) cJ 90 zb, ra_J (g 44) cJ 90 zg] H → va_D A [ro_ mm 12 (mo g (nI ta) (nI pa) (nI pe) pd (nI pb) pp pf pg pn rt rn (nI cd) sn (nI il) tk am at_ aa mt_ 0 (-1) wt zyb (nI it_) (nI rm) (nI ud) (nI nu) sd (nI qn) (nI qw) qo (nI qb) (nI qp) qa (nI qi) (nI oc)), ra_I (g 20) cI 4 (l4 (nI l0) (nI l1) (nI dm) (nI l3)), ra_I (g 31) cI 120 nw, ra_I (g 37) cZ 900 yo, ra_I (g 36) cZ 900 yw, ra_J (g 43) cJ 90 zb, ra_J (g 44) cJ 90 zg] → va_S A s.heap H locs → lv_has ls 7 [(3, .int (nI jm)), (2, .int (nI i)), (1, .int (nI dm - 1)), (0, .ref mm)] → W p l e { frames := 3, cells := 0, slots := 0, locals := 66 } s m ([.ref mm] : List Value).toArray below meth c H locs 0 0 (MQ below (skV D (skT cI cJ cC cZ cS) (fun (u : va_W) => ∃ (wy2 : Int64), ∃ (be2 : Nat → Int64), ∃ (bf2 : Nat → Int64), beOk (cfN nw yw yo mt_) dm 0 be2 ∧ bfOk (cfN nw yw yo mt_) (a0N nw) dm bf2 ∧ wy2 = nL (wys (cfN nw yw yo mt_) (a0N nw) (dm - 1)) ∧ u = [ro_ mm 12 (mo g (nI ta) (nI pa) (nI pe) pd (nI pb) pp pf pg pn rt rn (nI cd) sn (nI il) tk am at_ aa mt_ 0 (-1) wt wy2 (nI it_) (nI rm) (nI ud) (nI nu) sd (nI qn) (nI qw) qo (nI qb) (nI qp) qa (nI qi) (nI oc)), ra_I (g 20) cI 4 (l4 (nI l0) (nI l1) (nI dm) (nI l3)), ra_I (g 31) cI 120 nw, ra_I (g 37) cZ 900 yo, ra_I (g 36) cZ 900 yw, ra_J (g 43) cJ 90 be2, ra_J (g 44) cJ 90 bf2]) A) ([.ref mm] : List Value).toArray s 0 0 A) (F0 m 125 ls []) := by
                intro n_11
                induction n_11 with
                | zero => intro jm zyb zg H locs ls hm; exact absurd hm (Nat.not_lt_zero _)
                | succ n_11 ih_lp_10 =>
                  intro jm zyb zg H locs ls hm hjm hbf2 hzyb hP hD hS hl
                  refine lv_iload_n hx hb dX12_laysWays_125 rfl (lv_at hl 0 rfl) ?_
                  refine lv_bipush (v := 10) hx hb dX12_laysWays_126 (by decide) ?_
                  refine lv_icmp_ge (tgt := 242) hx hb dX12_laysWays_128 (by decide) (fun c_12 => ?_) (fun c_12 => ?_)
                  · have c_12 : 10 ≤ jm := (nle 10 jm (Nat.le_of_ble_eq_true rfl) (by omega)).mp c_12
                    refine lv_iinc (v := nI (i + 1)) (lv' := [(2, .int (nI (i + 1))), (3, .int (nI jm)), (1, .int (nI dm - 1)), (0, .ref mm)]) hx hb dX12_laysWays_242 hl (k := 1) rfl (ninc i 1 (by decide)) (by decide) rfl (fun ls hl => ?_)
                    refine lv_goto (tgt := 118) hx hb dX12_laysWays_245 (by decide) ?_
                    exact ih_lp_7 (i + 1) zyb zg _ _ _ (by omega) (by omega) (bf_fin hbf2 (by omega)) (wy_fin hzyb (by omega)) hP hD hS (lv_sub hl [0, 2, 3] rfl)
                  · have c_12 : ¬ (10 ≤ jm) := fun h => c_12 ((nle 10 jm (Nat.le_of_ble_eq_true rfl) (by omega)).mpr h)
                    refine lv_iload_n hx hb dX12_laysWays_131 rfl (lv_at hl 1 rfl) ?_
                    refine lv_if_ne (tgt := 154) hx hb dX12_laysWays_132 (by decide) (fun c_13 => ?_) (fun c_13 => ?_)
                    · have c_13 : ¬ (i = 0) := fun h => c_13 ((neq i 0 (by omega) (Nat.le_of_ble_eq_true rfl)).mpr h)
                      refine lv_lconst (v := 0) hx hb dX12_laysWays_154 (by decide) ?_
                      refine lv_lstore (lv' := [(4, .long 0), (3, .int (nI jm)), (2, .int (nI i)), (1, .int (nI dm - 1)), (0, .ref mm)]) hx hb dX12_laysWays_155 hl (by decide) rfl (fun ls hl => ?_)
                      refine lv_iconst (v := 0) hx hb dX12_laysWays_157 ic_0 ?_
                      refine lv_istore (lv' := [(6, .int 0), (4, .long 0), (3, .int (nI jm)), (2, .int (nI i)), (1, .int (nI dm - 1)), (0, .ref mm)]) hx hb dX12_laysWays_158 hl (by decide) rfl (fun ls hl => ?_)
                      have lp_14 : ∀ (n_15 : Nat) (kk : Nat) (xn : Int64) (H : Heap) (locs : List Loc) (ls : Array Slot), 10 - kk < n_15 → (kk ≤ 10) → (fx (cfN nw yw yo mt_) (a0N nw) i jm kk xn) → va_P D vwCl [ro_ mm 12 (mo g (nI ta) (nI pa) (nI pe) pd (nI pb) pp pf pg pn rt rn (nI cd) sn (nI il) tk am at_ aa mt_ 0 (-1) wt zyb (nI it_) (nI rm) (nI ud) (nI nu) sd (nI qn) (nI qw) qo (nI qb) (nI qp) qa (nI qi) (nI oc)), ra_I (g 20) cI 4 (l4 (nI l0) (nI l1) (nI dm) (nI l3)), ra_I (g 31) cI 120 nw, ra_I (g 37) cZ 900 yo, ra_I (g 36) cZ 900 yw, ra_J (g 43) cJ 90 zb, ra_J (g 44) cJ 90 zg] H → va_D A [ro_ mm 12 (mo g (nI ta) (nI pa) (nI pe) pd (nI pb) pp pf pg pn rt rn (nI cd) sn (nI il) tk am at_ aa mt_ 0 (-1) wt zyb (nI it_) (nI rm) (nI ud) (nI nu) sd (nI qn) (nI qw) qo (nI qb) (nI qp) qa (nI qi) (nI oc)), ra_I (g 20) cI 4 (l4 (nI l0) (nI l1) (nI dm) (nI l3)), ra_I (g 31) cI 120 nw, ra_I (g 37) cZ 900 yo, ra_I (g 36) cZ 900 yw, ra_J (g 43) cJ 90 zb, ra_J (g 44) cJ 90 zg] → va_S A s.heap H locs → lv_has ls 7 [(6, .int (nI kk)), (4, .long xn), (3, .int (nI jm)), (2, .int (nI i)), (1, .int (nI dm - 1)), (0, .ref mm)] → W p l e { frames := 3, cells := 0, slots := 0, locals := 66 } s m ([.ref mm] : List Value).toArray below meth c H locs 0 0 (MQ below (skV D (skT cI cJ cC cZ cS) (fun (u : va_W) => ∃ (wy2 : Int64), ∃ (be2 : Nat → Int64), ∃ (bf2 : Nat → Int64), beOk (cfN nw yw yo mt_) dm 0 be2 ∧ bfOk (cfN nw yw yo mt_) (a0N nw) dm bf2 ∧ wy2 = nL (wys (cfN nw yw yo mt_) (a0N nw) (dm - 1)) ∧ u = [ro_ mm 12 (mo g (nI ta) (nI pa) (nI pe) pd (nI pb) pp pf pg pn rt rn (nI cd) sn (nI il) tk am at_ aa mt_ 0 (-1) wt wy2 (nI it_) (nI rm) (nI ud) (nI nu) sd (nI qn) (nI qw) qo (nI qb) (nI qp) qa (nI qi) (nI oc)), ra_I (g 20) cI 4 (l4 (nI l0) (nI l1) (nI dm) (nI l3)), ra_I (g 31) cI 120 nw, ra_I (g 37) cZ 900 yo, ra_I (g 36) cZ 900 yw, ra_J (g 43) cJ 90 be2, ra_J (g 44) cJ 90 bf2]) A) ([.ref mm] : List Value).toArray s 0 0 A) (F0 m 160 ls []) := by
                        intro n_15
                        induction n_15 with
                        | zero => intro kk xn H locs ls hm; exact absurd hm (Nat.not_lt_zero _)
                        | succ n_15 ih_lp_14 =>
                          intro kk xn H locs ls hm hkk hfx hP hD hS hl
                          refine lv_iload hx hb dX12_laysWays_160 (lv_at hl 0 rfl) ?_
                          refine lv_bipush (v := 10) hx hb dX12_laysWays_162 (by decide) ?_
                          refine lv_icmp_ge (tgt := 207) hx hb dX12_laysWays_164 (by decide) (fun c_16 => ?_) (fun c_16 => ?_)
                          · have c_16 : 10 ≤ kk := (nle 10 kk (Nat.le_of_ble_eq_true rfl) (by omega)).mp c_16
                            refine lv_aload_n hx hb dX12_laysWays_207 rfl (lv_at hl 5 rfl) ?_
                            refine sk_get (v := .ref (g 44)) (C := RX12) (T := TX12) (N := 92) hx hb hts inlX12 hown hK hP 0 rfl rfl 44 (Nat.le_of_ble_eq_true rfl) w_5_199 rfl dX12_laysWays_208 ?_
                            refine lv_bipush (v := 10) hx hb dX12_laysWays_211 (by decide) ?_
                            refine lv_iload_n hx hb dX12_laysWays_213 rfl (lv_at hl 3 rfl) ?_
                            refine lv_imul hx hb dX12_laysWays_214 ?_
                            refine sk_top (nI (10 * i)) (nmul 10 i) ?_
                            refine lv_iload_n hx hb dX12_laysWays_215 rfl (lv_at hl 2 rfl) ?_
                            refine lv_iadd hx hb dX12_laysWays_216 ?_
                            refine sk_top (nI (10 * i + jm)) (nI_add (10 * i) jm) ?_
                            refine lv_lload hx hb dX12_laysWays_217 (lv_at hl 1 rfl) ?_
                            refine sk_lastP (Pr := bfOk2 (cfN nw yw yo mt_) (a0N nw) i (jm + 1)) (ws' := fun f_17 => [ro_ mm 12 (mo g (nI ta) (nI pa) (nI pe) pd (nI pb) pp pf pg pn rt rn (nI cd) sn (nI il) tk am at_ aa mt_ 0 (-1) wt zyb (nI it_) (nI rm) (nI ud) (nI nu) sd (nI qn) (nI qw) qo (nI qb) (nI qp) qa (nI qi) (nI oc)), ra_I (g 20) cI 4 (l4 (nI l0) (nI l1) (nI dm) (nI l3)), ra_I (g 31) cI 120 nw, ra_I (g 37) cZ 900 yo, ra_I (g 36) cZ 900 yw, ra_J (g 43) cJ 90 zb, ra_J (g 44) cJ 90 f_17]) hx hb hK hP hD hS 6 1 rfl rfl (vin (10 * i + jm) 90 (by omega) (Nat.le_of_ble_eq_true rfl)) (fun _ => rfl) (bf_store hbf2 (by omega) (by omega) (fx_fin hfx (by omega))) dX12_laysWays_219 (fun f_17 H locs hf_18 hP hD hS => ?_)
                            refine lv_iload_n hx hb dX12_laysWays_220 rfl (lv_at hl 3 rfl) ?_
                            refine lv_iload_n hx hb dX12_laysWays_221 rfl (lv_at hl 4 rfl) ?_
                            refine lv_icmp_ne (tgt := 236) hx hb dX12_laysWays_222 (by decide) (fun c_19 => ?_) (fun c_19 => ?_)
                            · have c_19 : ¬ (((i : Nat) : Int) = ((dm : Nat) : Int) - 1) := fun h => c_19 ((ieq (ivn i (by omega)) (ivp dm (by omega))).mpr h)
                              refine lv_iinc (v := nI (jm + 1)) (lv' := [(3, .int (nI (jm + 1))), (6, .int (nI kk)), (4, .long xn), (2, .int (nI i)), (1, .int (nI dm - 1)), (0, .ref mm)]) hx hb dX12_laysWays_236 hl (k := 2) rfl (ninc jm 1 (by decide)) (by decide) rfl (fun ls hl => ?_)
                              refine lv_goto (tgt := 125) hx hb dX12_laysWays_239 (by decide) ?_
                              exact ih_lp_10 (jm + 1) zyb f_17 _ _ _ (by omega) (by omega) hf_18 (wy_keep hzyb (by omega)) hP hD hS (lv_sub hl [0, 3, 4, 5] rfl)
                            · have c_19 : ((i : Nat) : Int) = ((dm : Nat) : Int) - 1 := (ieq (ivn i (by omega)) (ivp dm (by omega))).mp c_19
                              refine lv_aload_n hx hb dX12_laysWays_225 rfl (lv_at hl 5 rfl) ?_
                              refine lv_dup hx hb dX12_laysWays_226 rfl ?_
                              refine sk_get (v := .long zyb) (C := RX12) (T := TX12) (N := 92) hx hb hts inlX12 hown hK hP 0 rfl rfl 45 (Nat.le_of_ble_eq_true rfl) w_5_200 rfl dX12_laysWays_227 ?_
                              refine lv_lload hx hb dX12_laysWays_230 (lv_at hl 1 rfl) ?_
                              refine lv_ladd hx hb dX12_laysWays_232 ?_
                              refine lv_topl (fun v_20 ev_20 => ?_)
                              refine sk_put (ws' := [ro_ mm 12 (mo g (nI ta) (nI pa) (nI pe) pd (nI pb) pp pf pg pn rt rn (nI cd) sn (nI il) tk am at_ aa mt_ 0 (-1) wt v_20 (nI it_) (nI rm) (nI ud) (nI nu) sd (nI qn) (nI qw) qo (nI qb) (nI qp) qa (nI qi) (nI oc)), ra_I (g 20) cI 4 (l4 (nI l0) (nI l1) (nI dm) (nI l3)), ra_I (g 31) cI 120 nw, ra_I (g 37) cZ 900 yo, ra_I (g 36) cZ 900 yw, ra_J (g 43) cJ 90 zb, ra_J (g 44) cJ 90 f_17]) (C := RX12) (T := TX12) (N := 92) (v := .long v_20) hx hb hts inlX12 tyX12 tyX12_ok nmX12 hown hK hP hD hS 0 rfl rfl 45 (Nat.le_of_ble_eq_true rfl) w_5_200 rfl rfl rfl (Nat.le_of_ble_eq_true rfl) rfl dX12_laysWays_233 (fun H locs hP hD hS => ?_)
                              refine lv_iinc (v := nI (jm + 1)) (lv' := [(3, .int (nI (jm + 1))), (6, .int (nI kk)), (4, .long xn), (2, .int (nI i)), (1, .int (nI dm - 1)), (0, .ref mm)]) hx hb dX12_laysWays_236 hl (k := 2) rfl (ninc jm 1 (by decide)) (by decide) rfl (fun ls hl => ?_)
                              refine lv_goto (tgt := 125) hx hb dX12_laysWays_239 (by decide) ?_
                              exact ih_lp_10 (jm + 1) v_20 f_17 _ _ _ (by omega) (by omega) hf_18 (wy_add hzyb (fx_fin hfx (by omega)) (by omega) ev_20) hP hD hS (lv_sub hl [0, 3, 4, 5] rfl)
                          · have c_16 : ¬ (10 ≤ kk) := fun h => c_16 ((nle 10 kk (Nat.le_of_ble_eq_true rfl) (by omega)).mpr h)
                            refine lv_iload_n hx hb dX12_laysWays_167 rfl (lv_at hl 3 rfl) ?_
                            refine lv_if_le (tgt := 207) hx hb dX12_laysWays_168 (by decide) (fun c_21 => ?_) (fun c_21 => ?_)
                            · have c_21 : i ≤ 0 := (nle i 0 (by omega) (Nat.le_of_ble_eq_true rfl)).mp c_21
                              refine lv_aload_n hx hb dX12_laysWays_207 rfl (lv_at hl 5 rfl) ?_
                              refine sk_get (v := .ref (g 44)) (C := RX12) (T := TX12) (N := 92) hx hb hts inlX12 hown hK hP 0 rfl rfl 44 (Nat.le_of_ble_eq_true rfl) w_5_199 rfl dX12_laysWays_208 ?_
                              refine lv_bipush (v := 10) hx hb dX12_laysWays_211 (by decide) ?_
                              refine lv_iload_n hx hb dX12_laysWays_213 rfl (lv_at hl 3 rfl) ?_
                              refine lv_imul hx hb dX12_laysWays_214 ?_
                              refine sk_top (nI (10 * i)) (nmul 10 i) ?_
                              refine lv_iload_n hx hb dX12_laysWays_215 rfl (lv_at hl 2 rfl) ?_
                              refine lv_iadd hx hb dX12_laysWays_216 ?_
                              refine sk_top (nI (10 * i + jm)) (nI_add (10 * i) jm) ?_
                              refine lv_lload hx hb dX12_laysWays_217 (lv_at hl 1 rfl) ?_
                              refine sk_lastP (Pr := bfOk2 (cfN nw yw yo mt_) (a0N nw) i (jm + 1)) (ws' := fun f_22 => [ro_ mm 12 (mo g (nI ta) (nI pa) (nI pe) pd (nI pb) pp pf pg pn rt rn (nI cd) sn (nI il) tk am at_ aa mt_ 0 (-1) wt zyb (nI it_) (nI rm) (nI ud) (nI nu) sd (nI qn) (nI qw) qo (nI qb) (nI qp) qa (nI qi) (nI oc)), ra_I (g 20) cI 4 (l4 (nI l0) (nI l1) (nI dm) (nI l3)), ra_I (g 31) cI 120 nw, ra_I (g 37) cZ 900 yo, ra_I (g 36) cZ 900 yw, ra_J (g 43) cJ 90 zb, ra_J (g 44) cJ 90 f_22]) hx hb hK hP hD hS 6 1 rfl rfl (vin (10 * i + jm) 90 (by omega) (Nat.le_of_ble_eq_true rfl)) (fun _ => rfl) (bf_store hbf2 (by omega) (by omega) (fx_fin hfx (by omega))) dX12_laysWays_219 (fun f_22 H locs hf_23 hP hD hS => ?_)
                              refine lv_iload_n hx hb dX12_laysWays_220 rfl (lv_at hl 3 rfl) ?_
                              refine lv_iload_n hx hb dX12_laysWays_221 rfl (lv_at hl 4 rfl) ?_
                              refine lv_icmp_ne (tgt := 236) hx hb dX12_laysWays_222 (by decide) (fun c_24 => ?_) (fun c_24 => ?_)
                              · have c_24 : ¬ (((i : Nat) : Int) = ((dm : Nat) : Int) - 1) := fun h => c_24 ((ieq (ivn i (by omega)) (ivp dm (by omega))).mpr h)
                                refine lv_iinc (v := nI (jm + 1)) (lv' := [(3, .int (nI (jm + 1))), (6, .int (nI kk)), (4, .long xn), (2, .int (nI i)), (1, .int (nI dm - 1)), (0, .ref mm)]) hx hb dX12_laysWays_236 hl (k := 2) rfl (ninc jm 1 (by decide)) (by decide) rfl (fun ls hl => ?_)
                                refine lv_goto (tgt := 125) hx hb dX12_laysWays_239 (by decide) ?_
                                exact ih_lp_10 (jm + 1) zyb f_22 _ _ _ (by omega) (by omega) hf_23 (wy_keep hzyb (by omega)) hP hD hS (lv_sub hl [0, 3, 4, 5] rfl)
                              · have c_24 : ((i : Nat) : Int) = ((dm : Nat) : Int) - 1 := (ieq (ivn i (by omega)) (ivp dm (by omega))).mp c_24
                                refine lv_aload_n hx hb dX12_laysWays_225 rfl (lv_at hl 5 rfl) ?_
                                refine lv_dup hx hb dX12_laysWays_226 rfl ?_
                                refine sk_get (v := .long zyb) (C := RX12) (T := TX12) (N := 92) hx hb hts inlX12 hown hK hP 0 rfl rfl 45 (Nat.le_of_ble_eq_true rfl) w_5_200 rfl dX12_laysWays_227 ?_
                                refine lv_lload hx hb dX12_laysWays_230 (lv_at hl 1 rfl) ?_
                                refine lv_ladd hx hb dX12_laysWays_232 ?_
                                refine lv_topl (fun v_25 ev_25 => ?_)
                                refine sk_put (ws' := [ro_ mm 12 (mo g (nI ta) (nI pa) (nI pe) pd (nI pb) pp pf pg pn rt rn (nI cd) sn (nI il) tk am at_ aa mt_ 0 (-1) wt v_25 (nI it_) (nI rm) (nI ud) (nI nu) sd (nI qn) (nI qw) qo (nI qb) (nI qp) qa (nI qi) (nI oc)), ra_I (g 20) cI 4 (l4 (nI l0) (nI l1) (nI dm) (nI l3)), ra_I (g 31) cI 120 nw, ra_I (g 37) cZ 900 yo, ra_I (g 36) cZ 900 yw, ra_J (g 43) cJ 90 zb, ra_J (g 44) cJ 90 f_22]) (C := RX12) (T := TX12) (N := 92) (v := .long v_25) hx hb hts inlX12 tyX12 tyX12_ok nmX12 hown hK hP hD hS 0 rfl rfl 45 (Nat.le_of_ble_eq_true rfl) w_5_200 rfl rfl rfl (Nat.le_of_ble_eq_true rfl) rfl dX12_laysWays_233 (fun H locs hP hD hS => ?_)
                                refine lv_iinc (v := nI (jm + 1)) (lv' := [(3, .int (nI (jm + 1))), (6, .int (nI kk)), (4, .long xn), (2, .int (nI i)), (1, .int (nI dm - 1)), (0, .ref mm)]) hx hb dX12_laysWays_236 hl (k := 2) rfl (ninc jm 1 (by decide)) (by decide) rfl (fun ls hl => ?_)
                                refine lv_goto (tgt := 125) hx hb dX12_laysWays_239 (by decide) ?_
                                exact ih_lp_10 (jm + 1) v_25 f_22 _ _ _ (by omega) (by omega) hf_23 (wy_add hzyb (fx_fin hfx (by omega)) (by omega) ev_25) hP hD hS (lv_sub hl [0, 3, 4, 5] rfl)
                            · have c_21 : ¬ (i ≤ 0) := fun h => c_21 ((nle i 0 (by omega) (Nat.le_of_ble_eq_true rfl)).mpr h)
                              refine lv_aload_n hx hb dX12_laysWays_171 rfl (lv_at hl 5 rfl) ?_
                              refine lv_iload_n hx hb dX12_laysWays_172 rfl (lv_at hl 3 rfl) ?_
                              refine lv_iload hx hb dX12_laysWays_173 (lv_at hl 0 rfl) ?_
                              refine lv_iload_n hx hb dX12_laysWays_175 rfl (lv_at hl 2 rfl) ?_
                              refine sk_Vi (q0 := 0) (n := 3) (rest := []) (wr := fmR om_7_5c _) ⟨hx, hb, hml, hown, hts⟩ hl.1 (c_m_canFollow0 l D cI cJ cC cZ cS mm g ta pa pe pd pb pp pf pg pn rt rn cd sn il tk am at_ aa mt_ wt zyb it_ rm ud nu sd qn qw qo qb qp qa qi oc i kk jm nw yo yw (by omega) (by omega) (by omega) hnw) w_7_201 w_7_203 w_0_85 w_1_14 w_7_204 hd_X12_canFollow_3 ⟨⟨(Nat.le_of_ble_eq_true rfl), (Nat.le_of_ble_eq_true rfl)⟩, (Nat.le_of_ble_eq_true rfl), (Nat.le_of_ble_eq_true rfl)⟩ hK hP hD hS hA (fmT om_7_5c 0) (fmF om_7_5c 0) (fm_C1 rfl rfl) (fm_R rfl rfl) (fm_nT om_7_5c 0) (fm_nF om_7_5c 0) (fm_di om_7_5c 0) rfl rfl rfl rfl (Nat.le_of_ble_eq_true rfl) dX12_laysWays_176 (fun r_27 u H locs hw hP hD hS => ?_)
                              refine exE hw (fun b_26 hw1 => anE hw1 (fun hb1_28 hw2 => anE hw2 (fun hb2_29 hw3 => anE hw3 (fun er_31 eu_30 => ?_))))
                              clear hw hw1 hw2 hw3
                              subst er_31
                              refine o_mgE (ws' := [ro_ mm 12 (mo g (nI ta) (nI pa) (nI pe) pd (nI pb) pp pf pg pn rt rn (nI cd) sn (nI il) tk am at_ aa mt_ 0 (-1) wt zyb (nI it_) (nI rm) (nI ud) (nI nu) sd (nI qn) (nI qw) qo (nI qb) (nI qp) qa (nI qi) (nI oc)), ra_I (g 20) cI 4 (l4 (nI l0) (nI l1) (nI dm) (nI l3)), ra_I (g 31) cI 120 nw, ra_I (g 37) cZ 900 yo, ra_I (g 36) cZ 900 yw, ra_J (g 43) cJ 90 zb, ra_J (g 44) cJ 90 zg]) eu_30 hP hD rfl (fun hP hD => ?_)
                              refine lv_if_eq (tgt := 201) hx hb dX12_laysWays_179 (by decide) (fun c_32 => ?_) (fun c_32 => ?_)
                              · have c_32 : b_26 = 0 := (neq b_26 0 (by omega) (Nat.le_of_ble_eq_true rfl)).mp c_32
                                refine lv_iinc (v := nI (kk + 1)) (lv' := [(6, .int (nI (kk + 1))), (4, .long xn), (3, .int (nI jm)), (2, .int (nI i)), (1, .int (nI dm - 1)), (0, .ref mm)]) hx hb dX12_laysWays_201 hl (k := 0) rfl (ninc kk 1 (by decide)) (by decide) rfl (fun ls hl => ?_)
                                refine lv_goto (tgt := 160) hx hb dX12_laysWays_204 (by decide) ?_
                                exact ih_lp_14 (kk + 1) xn _ _ _ (by omega) (by omega) (fx_no hfx (by omega) (or_0 hb1_28 (by omega))) hP hD hS (lv_sub hl [0, 1, 2, 3, 4, 5] rfl)
                              · have c_32 : ¬ (b_26 = 0) := fun h => c_32 ((neq b_26 0 (by omega) (Nat.le_of_ble_eq_true rfl)).mpr h)
                                refine lv_lload hx hb dX12_laysWays_182 (lv_at hl 1 rfl) ?_
                                refine lv_aload_n hx hb dX12_laysWays_184 rfl (lv_at hl 5 rfl) ?_
                                refine sk_get (v := .ref (g 44)) (C := RX12) (T := TX12) (N := 92) hx hb hts inlX12 hown hK hP 0 rfl rfl 44 (Nat.le_of_ble_eq_true rfl) w_5_199 rfl dX12_laysWays_185 ?_
                                refine lv_bipush (v := 10) hx hb dX12_laysWays_188 (by decide) ?_
                                refine lv_iload_n hx hb dX12_laysWays_190 rfl (lv_at hl 3 rfl) ?_
                                refine lv_iconst (v := 1) hx hb dX12_laysWays_191 ic_1 ?_
                                refine lv_isub hx hb dX12_laysWays_192 ?_
                                refine sk_top (nI (i - 1)) (nsub i 1 (by omega)) ?_
                                refine lv_imul hx hb dX12_laysWays_193 ?_
                                refine sk_top (nI (10 * (i - 1))) (nmul 10 (i - 1)) ?_
                                refine lv_iload hx hb dX12_laysWays_194 (lv_at hl 0 rfl) ?_
                                refine lv_iadd hx hb dX12_laysWays_196 ?_
                                refine sk_top (nI (10 * (i - 1) + kk)) (nI_add (10 * (i - 1)) kk) ?_
                                refine va_lald hx hb hK.1 hP 6 1 rfl rfl (vin (10 * (i - 1) + kk) 90 (by omega) (Nat.le_of_ble_eq_true rfl)) dX12_laysWays_197 ?_
                                refine lv_topl (fun v_33 ev_33 => ?_)
                                refine lv_ladd hx hb dX12_laysWays_198 ?_
                                refine lv_topl (fun v_34 ev_34 => ?_)
                                refine lv_lstore (lv' := [(4, .long v_34), (6, .int (nI kk)), (3, .int (nI jm)), (2, .int (nI i)), (1, .int (nI dm - 1)), (0, .ref mm)]) hx hb dX12_laysWays_199 hl (by decide) rfl (fun ls hl => ?_)
                                refine lv_iinc (v := nI (kk + 1)) (lv' := [(6, .int (nI (kk + 1))), (4, .long v_34), (3, .int (nI jm)), (2, .int (nI i)), (1, .int (nI dm - 1)), (0, .ref mm)]) hx hb dX12_laysWays_201 hl (k := 1) rfl (ninc kk 1 (by decide)) (by decide) rfl (fun ls hl => ?_)
                                refine lv_goto (tgt := 160) hx hb dX12_laysWays_204 (by decide) ?_
                                exact ih_lp_14 (kk + 1) v_34 _ _ _ (by omega) (by omega) (fx_yes hfx (by omega) (or_1 hb1_28 (by omega)) (bf_get hbf2.1 (by omega) (by omega) (by omega) ev_33) ev_34) hP hD hS (lv_sub hl [0, 1, 2, 3, 4, 5] rfl)
                      exact lp_14 (10 - 0 + 1) 0 0 _ _ _ (Nat.lt_succ_self _) (by omega) (fx_3 (by omega)) hP hD hS (lv_sub hl [0, 1, 2, 3, 4, 5] rfl)
                    · have c_13 : i = 0 := (neq i 0 (by omega) (Nat.le_of_ble_eq_true rfl)).mp c_13
                      refine lv_aload_n hx hb dX12_laysWays_135 rfl (lv_at hl 3 rfl) ?_
                      refine lv_iconst (v := 0) hx hb dX12_laysWays_136 ic_0 ?_
                      refine lv_aload_n hx hb dX12_laysWays_137 rfl (lv_at hl 3 rfl) ?_
                      refine sk_get (v := .ref (g 31)) (C := RX12) (T := TX12) (N := 92) hx hb hts inlX12 hown hK hP 0 rfl rfl 31 (Nat.le_of_ble_eq_true rfl) w_5_186 rfl dX12_laysWays_138 ?_
                      refine lv_iconst (v := 1) hx hb dX12_laysWays_141 ic_1 ?_
                      refine va_iald hx hb hK.1 hP 2 0 rfl rfl (by unfold vp_in; decide) dX12_laysWays_142 ?_
                      obtain ⟨k_35, hk_35, ek_35⟩ := nowOk_1 hnw
                      refine sk_top (nI k_35) ek_35 ?_
                      refine lv_iload_n hx hb dX12_laysWays_143 rfl (lv_at hl 0 rfl) ?_
                      refine sk_Vi (q0 := 0) (n := 3) (rest := []) (wr := fmR om_7_5c _) ⟨hx, hb, hml, hown, hts⟩ hl.1 (c_m_canFollow0 l D cI cJ cC cZ cS mm g ta pa pe pd pb pp pf pg pn rt rn cd sn il tk am at_ aa mt_ wt zyb it_ rm ud nu sd qn qw qo qb qp qa qi oc 0 k_35 jm nw yo yw (by omega) (by omega) (by omega) hnw) w_7_201 w_7_203 w_0_85 w_1_14 w_7_204 hd_X12_canFollow_3 ⟨⟨(Nat.le_of_ble_eq_true rfl), (Nat.le_of_ble_eq_true rfl)⟩, (Nat.le_of_ble_eq_true rfl), (Nat.le_of_ble_eq_true rfl)⟩ hK hP hD hS hA (fmT om_7_5c 0) (fmF om_7_5c 0) (fm_C1 rfl rfl) (fm_R rfl rfl) (fm_nT om_7_5c 0) (fm_nF om_7_5c 0) (fm_di om_7_5c 0) rfl rfl rfl rfl (Nat.le_of_ble_eq_true rfl) dX12_laysWays_144 (fun r_37 u H locs hw hP hD hS => ?_)
                      refine exE hw (fun b_36 hw1 => anE hw1 (fun hb1_38 hw2 => anE hw2 (fun hb2_39 hw3 => anE hw3 (fun er_41 eu_40 => ?_))))
                      clear hw hw1 hw2 hw3
                      subst er_41
                      refine o_mgE (ws' := [ro_ mm 12 (mo g (nI ta) (nI pa) (nI pe) pd (nI pb) pp pf pg pn rt rn (nI cd) sn (nI il) tk am at_ aa mt_ 0 (-1) wt zyb (nI it_) (nI rm) (nI ud) (nI nu) sd (nI qn) (nI qw) qo (nI qb) (nI qp) qa (nI qi) (nI oc)), ra_I (g 20) cI 4 (l4 (nI l0) (nI l1) (nI dm) (nI l3)), ra_I (g 31) cI 120 nw, ra_I (g 37) cZ 900 yo, ra_I (g 36) cZ 900 yw, ra_J (g 43) cJ 90 zb, ra_J (g 44) cJ 90 zg]) eu_40 hP hD rfl (fun hP hD => ?_)
                      have ha0 := a0_eq ek_35 hk_35
                      refine lv_if_eq (tgt := 154) hx hb dX12_laysWays_147 (by decide) (fun c_42 => ?_) (fun c_42 => ?_)
                      · have c_42 : b_36 = 0 := (neq b_36 0 (by omega) (Nat.le_of_ble_eq_true rfl)).mp c_42
                        refine lv_lconst (v := 0) hx hb dX12_laysWays_154 (by decide) ?_
                        refine lv_lstore (lv' := [(4, .long 0), (3, .int (nI jm)), (2, .int (nI i)), (1, .int (nI dm - 1)), (0, .ref mm)]) hx hb dX12_laysWays_155 hl (by decide) rfl (fun ls hl => ?_)
                        refine lv_iconst (v := 0) hx hb dX12_laysWays_157 ic_0 ?_
                        refine lv_istore (lv' := [(6, .int 0), (4, .long 0), (3, .int (nI jm)), (2, .int (nI i)), (1, .int (nI dm - 1)), (0, .ref mm)]) hx hb dX12_laysWays_158 hl (by decide) rfl (fun ls hl => ?_)
                        have lp_43 : ∀ (n_44 : Nat) (kk : Nat) (xn : Int64) (H : Heap) (locs : List Loc) (ls : Array Slot), 10 - kk < n_44 → (kk ≤ 10) → (fx (cfN nw yw yo mt_) (a0N nw) i jm kk xn) → va_P D vwCl [ro_ mm 12 (mo g (nI ta) (nI pa) (nI pe) pd (nI pb) pp pf pg pn rt rn (nI cd) sn (nI il) tk am at_ aa mt_ 0 (-1) wt zyb (nI it_) (nI rm) (nI ud) (nI nu) sd (nI qn) (nI qw) qo (nI qb) (nI qp) qa (nI qi) (nI oc)), ra_I (g 20) cI 4 (l4 (nI l0) (nI l1) (nI dm) (nI l3)), ra_I (g 31) cI 120 nw, ra_I (g 37) cZ 900 yo, ra_I (g 36) cZ 900 yw, ra_J (g 43) cJ 90 zb, ra_J (g 44) cJ 90 zg] H → va_D A [ro_ mm 12 (mo g (nI ta) (nI pa) (nI pe) pd (nI pb) pp pf pg pn rt rn (nI cd) sn (nI il) tk am at_ aa mt_ 0 (-1) wt zyb (nI it_) (nI rm) (nI ud) (nI nu) sd (nI qn) (nI qw) qo (nI qb) (nI qp) qa (nI qi) (nI oc)), ra_I (g 20) cI 4 (l4 (nI l0) (nI l1) (nI dm) (nI l3)), ra_I (g 31) cI 120 nw, ra_I (g 37) cZ 900 yo, ra_I (g 36) cZ 900 yw, ra_J (g 43) cJ 90 zb, ra_J (g 44) cJ 90 zg] → va_S A s.heap H locs → lv_has ls 7 [(6, .int (nI kk)), (4, .long xn), (3, .int (nI jm)), (2, .int (nI i)), (1, .int (nI dm - 1)), (0, .ref mm)] → W p l e { frames := 3, cells := 0, slots := 0, locals := 66 } s m ([.ref mm] : List Value).toArray below meth c H locs 0 0 (MQ below (skV D (skT cI cJ cC cZ cS) (fun (u : va_W) => ∃ (wy2 : Int64), ∃ (be2 : Nat → Int64), ∃ (bf2 : Nat → Int64), beOk (cfN nw yw yo mt_) dm 0 be2 ∧ bfOk (cfN nw yw yo mt_) (a0N nw) dm bf2 ∧ wy2 = nL (wys (cfN nw yw yo mt_) (a0N nw) (dm - 1)) ∧ u = [ro_ mm 12 (mo g (nI ta) (nI pa) (nI pe) pd (nI pb) pp pf pg pn rt rn (nI cd) sn (nI il) tk am at_ aa mt_ 0 (-1) wt wy2 (nI it_) (nI rm) (nI ud) (nI nu) sd (nI qn) (nI qw) qo (nI qb) (nI qp) qa (nI qi) (nI oc)), ra_I (g 20) cI 4 (l4 (nI l0) (nI l1) (nI dm) (nI l3)), ra_I (g 31) cI 120 nw, ra_I (g 37) cZ 900 yo, ra_I (g 36) cZ 900 yw, ra_J (g 43) cJ 90 be2, ra_J (g 44) cJ 90 bf2]) A) ([.ref mm] : List Value).toArray s 0 0 A) (F0 m 160 ls []) := by
                          intro n_44
                          induction n_44 with
                          | zero => intro kk xn H locs ls hm; exact absurd hm (Nat.not_lt_zero _)
                          | succ n_44 ih_lp_43 =>
                            intro kk xn H locs ls hm hkk hfx hP hD hS hl
                            refine lv_iload hx hb dX12_laysWays_160 (lv_at hl 0 rfl) ?_
                            refine lv_bipush (v := 10) hx hb dX12_laysWays_162 (by decide) ?_
                            refine lv_icmp_ge (tgt := 207) hx hb dX12_laysWays_164 (by decide) (fun c_45 => ?_) (fun c_45 => ?_)
                            · have c_45 : 10 ≤ kk := (nle 10 kk (Nat.le_of_ble_eq_true rfl) (by omega)).mp c_45
                              refine lv_aload_n hx hb dX12_laysWays_207 rfl (lv_at hl 5 rfl) ?_
                              refine sk_get (v := .ref (g 44)) (C := RX12) (T := TX12) (N := 92) hx hb hts inlX12 hown hK hP 0 rfl rfl 44 (Nat.le_of_ble_eq_true rfl) w_5_199 rfl dX12_laysWays_208 ?_
                              refine lv_bipush (v := 10) hx hb dX12_laysWays_211 (by decide) ?_
                              refine lv_iload_n hx hb dX12_laysWays_213 rfl (lv_at hl 3 rfl) ?_
                              refine lv_imul hx hb dX12_laysWays_214 ?_
                              refine sk_top (nI (10 * i)) (nmul 10 i) ?_
                              refine lv_iload_n hx hb dX12_laysWays_215 rfl (lv_at hl 2 rfl) ?_
                              refine lv_iadd hx hb dX12_laysWays_216 ?_
                              refine sk_top (nI (10 * i + jm)) (nI_add (10 * i) jm) ?_
                              refine lv_lload hx hb dX12_laysWays_217 (lv_at hl 1 rfl) ?_
                              refine sk_lastP (Pr := bfOk2 (cfN nw yw yo mt_) (a0N nw) i (jm + 1)) (ws' := fun f_46 => [ro_ mm 12 (mo g (nI ta) (nI pa) (nI pe) pd (nI pb) pp pf pg pn rt rn (nI cd) sn (nI il) tk am at_ aa mt_ 0 (-1) wt zyb (nI it_) (nI rm) (nI ud) (nI nu) sd (nI qn) (nI qw) qo (nI qb) (nI qp) qa (nI qi) (nI oc)), ra_I (g 20) cI 4 (l4 (nI l0) (nI l1) (nI dm) (nI l3)), ra_I (g 31) cI 120 nw, ra_I (g 37) cZ 900 yo, ra_I (g 36) cZ 900 yw, ra_J (g 43) cJ 90 zb, ra_J (g 44) cJ 90 f_46]) hx hb hK hP hD hS 6 1 rfl rfl (vin (10 * i + jm) 90 (by omega) (Nat.le_of_ble_eq_true rfl)) (fun _ => rfl) (bf_store hbf2 (by omega) (by omega) (fx_fin hfx (by omega))) dX12_laysWays_219 (fun f_46 H locs hf_47 hP hD hS => ?_)
                              refine lv_iload_n hx hb dX12_laysWays_220 rfl (lv_at hl 3 rfl) ?_
                              refine lv_iload_n hx hb dX12_laysWays_221 rfl (lv_at hl 4 rfl) ?_
                              refine lv_icmp_ne (tgt := 236) hx hb dX12_laysWays_222 (by decide) (fun c_48 => ?_) (fun c_48 => ?_)
                              · have c_48 : ¬ (((i : Nat) : Int) = ((dm : Nat) : Int) - 1) := fun h => c_48 ((ieq (ivn i (by omega)) (ivp dm (by omega))).mpr h)
                                refine lv_iinc (v := nI (jm + 1)) (lv' := [(3, .int (nI (jm + 1))), (6, .int (nI kk)), (4, .long xn), (2, .int (nI i)), (1, .int (nI dm - 1)), (0, .ref mm)]) hx hb dX12_laysWays_236 hl (k := 2) rfl (ninc jm 1 (by decide)) (by decide) rfl (fun ls hl => ?_)
                                refine lv_goto (tgt := 125) hx hb dX12_laysWays_239 (by decide) ?_
                                exact ih_lp_10 (jm + 1) zyb f_46 _ _ _ (by omega) (by omega) hf_47 (wy_keep hzyb (by omega)) hP hD hS (lv_sub hl [0, 3, 4, 5] rfl)
                              · have c_48 : ((i : Nat) : Int) = ((dm : Nat) : Int) - 1 := (ieq (ivn i (by omega)) (ivp dm (by omega))).mp c_48
                                refine lv_aload_n hx hb dX12_laysWays_225 rfl (lv_at hl 5 rfl) ?_
                                refine lv_dup hx hb dX12_laysWays_226 rfl ?_
                                refine sk_get (v := .long zyb) (C := RX12) (T := TX12) (N := 92) hx hb hts inlX12 hown hK hP 0 rfl rfl 45 (Nat.le_of_ble_eq_true rfl) w_5_200 rfl dX12_laysWays_227 ?_
                                refine lv_lload hx hb dX12_laysWays_230 (lv_at hl 1 rfl) ?_
                                refine lv_ladd hx hb dX12_laysWays_232 ?_
                                refine lv_topl (fun v_49 ev_49 => ?_)
                                refine sk_put (ws' := [ro_ mm 12 (mo g (nI ta) (nI pa) (nI pe) pd (nI pb) pp pf pg pn rt rn (nI cd) sn (nI il) tk am at_ aa mt_ 0 (-1) wt v_49 (nI it_) (nI rm) (nI ud) (nI nu) sd (nI qn) (nI qw) qo (nI qb) (nI qp) qa (nI qi) (nI oc)), ra_I (g 20) cI 4 (l4 (nI l0) (nI l1) (nI dm) (nI l3)), ra_I (g 31) cI 120 nw, ra_I (g 37) cZ 900 yo, ra_I (g 36) cZ 900 yw, ra_J (g 43) cJ 90 zb, ra_J (g 44) cJ 90 f_46]) (C := RX12) (T := TX12) (N := 92) (v := .long v_49) hx hb hts inlX12 tyX12 tyX12_ok nmX12 hown hK hP hD hS 0 rfl rfl 45 (Nat.le_of_ble_eq_true rfl) w_5_200 rfl rfl rfl (Nat.le_of_ble_eq_true rfl) rfl dX12_laysWays_233 (fun H locs hP hD hS => ?_)
                                refine lv_iinc (v := nI (jm + 1)) (lv' := [(3, .int (nI (jm + 1))), (6, .int (nI kk)), (4, .long xn), (2, .int (nI i)), (1, .int (nI dm - 1)), (0, .ref mm)]) hx hb dX12_laysWays_236 hl (k := 2) rfl (ninc jm 1 (by decide)) (by decide) rfl (fun ls hl => ?_)
                                refine lv_goto (tgt := 125) hx hb dX12_laysWays_239 (by decide) ?_
                                exact ih_lp_10 (jm + 1) v_49 f_46 _ _ _ (by omega) (by omega) hf_47 (wy_add hzyb (fx_fin hfx (by omega)) (by omega) ev_49) hP hD hS (lv_sub hl [0, 3, 4, 5] rfl)
                            · have c_45 : ¬ (10 ≤ kk) := fun h => c_45 ((nle 10 kk (Nat.le_of_ble_eq_true rfl) (by omega)).mpr h)
                              refine lv_iload_n hx hb dX12_laysWays_167 rfl (lv_at hl 3 rfl) ?_
                              refine lv_if_le (tgt := 207) hx hb dX12_laysWays_168 (by decide) (fun c_50 => ?_) (fun c_50 => ?_)
                              · have c_50 : i ≤ 0 := (nle i 0 (by omega) (Nat.le_of_ble_eq_true rfl)).mp c_50
                                refine lv_aload_n hx hb dX12_laysWays_207 rfl (lv_at hl 5 rfl) ?_
                                refine sk_get (v := .ref (g 44)) (C := RX12) (T := TX12) (N := 92) hx hb hts inlX12 hown hK hP 0 rfl rfl 44 (Nat.le_of_ble_eq_true rfl) w_5_199 rfl dX12_laysWays_208 ?_
                                refine lv_bipush (v := 10) hx hb dX12_laysWays_211 (by decide) ?_
                                refine lv_iload_n hx hb dX12_laysWays_213 rfl (lv_at hl 3 rfl) ?_
                                refine lv_imul hx hb dX12_laysWays_214 ?_
                                refine sk_top (nI (10 * i)) (nmul 10 i) ?_
                                refine lv_iload_n hx hb dX12_laysWays_215 rfl (lv_at hl 2 rfl) ?_
                                refine lv_iadd hx hb dX12_laysWays_216 ?_
                                refine sk_top (nI (10 * i + jm)) (nI_add (10 * i) jm) ?_
                                refine lv_lload hx hb dX12_laysWays_217 (lv_at hl 1 rfl) ?_
                                refine sk_lastP (Pr := bfOk2 (cfN nw yw yo mt_) (a0N nw) i (jm + 1)) (ws' := fun f_51 => [ro_ mm 12 (mo g (nI ta) (nI pa) (nI pe) pd (nI pb) pp pf pg pn rt rn (nI cd) sn (nI il) tk am at_ aa mt_ 0 (-1) wt zyb (nI it_) (nI rm) (nI ud) (nI nu) sd (nI qn) (nI qw) qo (nI qb) (nI qp) qa (nI qi) (nI oc)), ra_I (g 20) cI 4 (l4 (nI l0) (nI l1) (nI dm) (nI l3)), ra_I (g 31) cI 120 nw, ra_I (g 37) cZ 900 yo, ra_I (g 36) cZ 900 yw, ra_J (g 43) cJ 90 zb, ra_J (g 44) cJ 90 f_51]) hx hb hK hP hD hS 6 1 rfl rfl (vin (10 * i + jm) 90 (by omega) (Nat.le_of_ble_eq_true rfl)) (fun _ => rfl) (bf_store hbf2 (by omega) (by omega) (fx_fin hfx (by omega))) dX12_laysWays_219 (fun f_51 H locs hf_52 hP hD hS => ?_)
                                refine lv_iload_n hx hb dX12_laysWays_220 rfl (lv_at hl 3 rfl) ?_
                                refine lv_iload_n hx hb dX12_laysWays_221 rfl (lv_at hl 4 rfl) ?_
                                refine lv_icmp_ne (tgt := 236) hx hb dX12_laysWays_222 (by decide) (fun c_53 => ?_) (fun c_53 => ?_)
                                · have c_53 : ¬ (((i : Nat) : Int) = ((dm : Nat) : Int) - 1) := fun h => c_53 ((ieq (ivn i (by omega)) (ivp dm (by omega))).mpr h)
                                  refine lv_iinc (v := nI (jm + 1)) (lv' := [(3, .int (nI (jm + 1))), (6, .int (nI kk)), (4, .long xn), (2, .int (nI i)), (1, .int (nI dm - 1)), (0, .ref mm)]) hx hb dX12_laysWays_236 hl (k := 2) rfl (ninc jm 1 (by decide)) (by decide) rfl (fun ls hl => ?_)
                                  refine lv_goto (tgt := 125) hx hb dX12_laysWays_239 (by decide) ?_
                                  exact ih_lp_10 (jm + 1) zyb f_51 _ _ _ (by omega) (by omega) hf_52 (wy_keep hzyb (by omega)) hP hD hS (lv_sub hl [0, 3, 4, 5] rfl)
                                · have c_53 : ((i : Nat) : Int) = ((dm : Nat) : Int) - 1 := (ieq (ivn i (by omega)) (ivp dm (by omega))).mp c_53
                                  refine lv_aload_n hx hb dX12_laysWays_225 rfl (lv_at hl 5 rfl) ?_
                                  refine lv_dup hx hb dX12_laysWays_226 rfl ?_
                                  refine sk_get (v := .long zyb) (C := RX12) (T := TX12) (N := 92) hx hb hts inlX12 hown hK hP 0 rfl rfl 45 (Nat.le_of_ble_eq_true rfl) w_5_200 rfl dX12_laysWays_227 ?_
                                  refine lv_lload hx hb dX12_laysWays_230 (lv_at hl 1 rfl) ?_
                                  refine lv_ladd hx hb dX12_laysWays_232 ?_
                                  refine lv_topl (fun v_54 ev_54 => ?_)
                                  refine sk_put (ws' := [ro_ mm 12 (mo g (nI ta) (nI pa) (nI pe) pd (nI pb) pp pf pg pn rt rn (nI cd) sn (nI il) tk am at_ aa mt_ 0 (-1) wt v_54 (nI it_) (nI rm) (nI ud) (nI nu) sd (nI qn) (nI qw) qo (nI qb) (nI qp) qa (nI qi) (nI oc)), ra_I (g 20) cI 4 (l4 (nI l0) (nI l1) (nI dm) (nI l3)), ra_I (g 31) cI 120 nw, ra_I (g 37) cZ 900 yo, ra_I (g 36) cZ 900 yw, ra_J (g 43) cJ 90 zb, ra_J (g 44) cJ 90 f_51]) (C := RX12) (T := TX12) (N := 92) (v := .long v_54) hx hb hts inlX12 tyX12 tyX12_ok nmX12 hown hK hP hD hS 0 rfl rfl 45 (Nat.le_of_ble_eq_true rfl) w_5_200 rfl rfl rfl (Nat.le_of_ble_eq_true rfl) rfl dX12_laysWays_233 (fun H locs hP hD hS => ?_)
                                  refine lv_iinc (v := nI (jm + 1)) (lv' := [(3, .int (nI (jm + 1))), (6, .int (nI kk)), (4, .long xn), (2, .int (nI i)), (1, .int (nI dm - 1)), (0, .ref mm)]) hx hb dX12_laysWays_236 hl (k := 2) rfl (ninc jm 1 (by decide)) (by decide) rfl (fun ls hl => ?_)
                                  refine lv_goto (tgt := 125) hx hb dX12_laysWays_239 (by decide) ?_
                                  exact ih_lp_10 (jm + 1) v_54 f_51 _ _ _ (by omega) (by omega) hf_52 (wy_add hzyb (fx_fin hfx (by omega)) (by omega) ev_54) hP hD hS (lv_sub hl [0, 3, 4, 5] rfl)
                              · have c_50 : ¬ (i ≤ 0) := fun h => c_50 ((nle i 0 (by omega) (Nat.le_of_ble_eq_true rfl)).mpr h)
                                refine lv_aload_n hx hb dX12_laysWays_171 rfl (lv_at hl 5 rfl) ?_
                                refine lv_iload_n hx hb dX12_laysWays_172 rfl (lv_at hl 3 rfl) ?_
                                refine lv_iload hx hb dX12_laysWays_173 (lv_at hl 0 rfl) ?_
                                refine lv_iload_n hx hb dX12_laysWays_175 rfl (lv_at hl 2 rfl) ?_
                                refine sk_Vi (q0 := 0) (n := 3) (rest := []) (wr := fmR om_7_5c _) ⟨hx, hb, hml, hown, hts⟩ hl.1 (c_m_canFollow0 l D cI cJ cC cZ cS mm g ta pa pe pd pb pp pf pg pn rt rn cd sn il tk am at_ aa mt_ wt zyb it_ rm ud nu sd qn qw qo qb qp qa qi oc i kk jm nw yo yw (by omega) (by omega) (by omega) hnw) w_7_201 w_7_203 w_0_85 w_1_14 w_7_204 hd_X12_canFollow_3 ⟨⟨(Nat.le_of_ble_eq_true rfl), (Nat.le_of_ble_eq_true rfl)⟩, (Nat.le_of_ble_eq_true rfl), (Nat.le_of_ble_eq_true rfl)⟩ hK hP hD hS hA (fmT om_7_5c 0) (fmF om_7_5c 0) (fm_C1 rfl rfl) (fm_R rfl rfl) (fm_nT om_7_5c 0) (fm_nF om_7_5c 0) (fm_di om_7_5c 0) rfl rfl rfl rfl (Nat.le_of_ble_eq_true rfl) dX12_laysWays_176 (fun r_56 u H locs hw hP hD hS => ?_)
                                refine exE hw (fun b_55 hw1 => anE hw1 (fun hb1_57 hw2 => anE hw2 (fun hb2_58 hw3 => anE hw3 (fun er_60 eu_59 => ?_))))
                                clear hw hw1 hw2 hw3
                                subst er_60
                                refine o_mgE (ws' := [ro_ mm 12 (mo g (nI ta) (nI pa) (nI pe) pd (nI pb) pp pf pg pn rt rn (nI cd) sn (nI il) tk am at_ aa mt_ 0 (-1) wt zyb (nI it_) (nI rm) (nI ud) (nI nu) sd (nI qn) (nI qw) qo (nI qb) (nI qp) qa (nI qi) (nI oc)), ra_I (g 20) cI 4 (l4 (nI l0) (nI l1) (nI dm) (nI l3)), ra_I (g 31) cI 120 nw, ra_I (g 37) cZ 900 yo, ra_I (g 36) cZ 900 yw, ra_J (g 43) cJ 90 zb, ra_J (g 44) cJ 90 zg]) eu_59 hP hD rfl (fun hP hD => ?_)
                                refine lv_if_eq (tgt := 201) hx hb dX12_laysWays_179 (by decide) (fun c_61 => ?_) (fun c_61 => ?_)
                                · have c_61 : b_55 = 0 := (neq b_55 0 (by omega) (Nat.le_of_ble_eq_true rfl)).mp c_61
                                  refine lv_iinc (v := nI (kk + 1)) (lv' := [(6, .int (nI (kk + 1))), (4, .long xn), (3, .int (nI jm)), (2, .int (nI i)), (1, .int (nI dm - 1)), (0, .ref mm)]) hx hb dX12_laysWays_201 hl (k := 0) rfl (ninc kk 1 (by decide)) (by decide) rfl (fun ls hl => ?_)
                                  refine lv_goto (tgt := 160) hx hb dX12_laysWays_204 (by decide) ?_
                                  exact ih_lp_43 (kk + 1) xn _ _ _ (by omega) (by omega) (fx_no hfx (by omega) (or_0 hb1_57 (by omega))) hP hD hS (lv_sub hl [0, 1, 2, 3, 4, 5] rfl)
                                · have c_61 : ¬ (b_55 = 0) := fun h => c_61 ((neq b_55 0 (by omega) (Nat.le_of_ble_eq_true rfl)).mpr h)
                                  refine lv_lload hx hb dX12_laysWays_182 (lv_at hl 1 rfl) ?_
                                  refine lv_aload_n hx hb dX12_laysWays_184 rfl (lv_at hl 5 rfl) ?_
                                  refine sk_get (v := .ref (g 44)) (C := RX12) (T := TX12) (N := 92) hx hb hts inlX12 hown hK hP 0 rfl rfl 44 (Nat.le_of_ble_eq_true rfl) w_5_199 rfl dX12_laysWays_185 ?_
                                  refine lv_bipush (v := 10) hx hb dX12_laysWays_188 (by decide) ?_
                                  refine lv_iload_n hx hb dX12_laysWays_190 rfl (lv_at hl 3 rfl) ?_
                                  refine lv_iconst (v := 1) hx hb dX12_laysWays_191 ic_1 ?_
                                  refine lv_isub hx hb dX12_laysWays_192 ?_
                                  refine sk_top (nI (i - 1)) (nsub i 1 (by omega)) ?_
                                  refine lv_imul hx hb dX12_laysWays_193 ?_
                                  refine sk_top (nI (10 * (i - 1))) (nmul 10 (i - 1)) ?_
                                  refine lv_iload hx hb dX12_laysWays_194 (lv_at hl 0 rfl) ?_
                                  refine lv_iadd hx hb dX12_laysWays_196 ?_
                                  refine sk_top (nI (10 * (i - 1) + kk)) (nI_add (10 * (i - 1)) kk) ?_
                                  refine va_lald hx hb hK.1 hP 6 1 rfl rfl (vin (10 * (i - 1) + kk) 90 (by omega) (Nat.le_of_ble_eq_true rfl)) dX12_laysWays_197 ?_
                                  refine lv_topl (fun v_62 ev_62 => ?_)
                                  refine lv_ladd hx hb dX12_laysWays_198 ?_
                                  refine lv_topl (fun v_63 ev_63 => ?_)
                                  refine lv_lstore (lv' := [(4, .long v_63), (6, .int (nI kk)), (3, .int (nI jm)), (2, .int (nI i)), (1, .int (nI dm - 1)), (0, .ref mm)]) hx hb dX12_laysWays_199 hl (by decide) rfl (fun ls hl => ?_)
                                  refine lv_iinc (v := nI (kk + 1)) (lv' := [(6, .int (nI (kk + 1))), (4, .long v_63), (3, .int (nI jm)), (2, .int (nI i)), (1, .int (nI dm - 1)), (0, .ref mm)]) hx hb dX12_laysWays_201 hl (k := 1) rfl (ninc kk 1 (by decide)) (by decide) rfl (fun ls hl => ?_)
                                  refine lv_goto (tgt := 160) hx hb dX12_laysWays_204 (by decide) ?_
                                  exact ih_lp_43 (kk + 1) v_63 _ _ _ (by omega) (by omega) (fx_yes hfx (by omega) (or_1 hb1_57 (by omega)) (bf_get hbf2.1 (by omega) (by omega) (by omega) ev_62) ev_63) hP hD hS (lv_sub hl [0, 1, 2, 3, 4, 5] rfl)
                        exact lp_43 (10 - 0 + 1) 0 0 _ _ _ (Nat.lt_succ_self _) (by omega) (fx_2 (by omega) (by rw [← ha0]; exact or_0 hb1_38 (by omega))) hP hD hS (lv_sub hl [0, 1, 2, 3, 4, 5] rfl)
                      · have c_42 : ¬ (b_36 = 0) := fun h => c_42 ((neq b_36 0 (by omega) (Nat.le_of_ble_eq_true rfl)).mpr h)
                        refine lv_lconst (v := 1) hx hb dX12_laysWays_150 (by decide) ?_
                        refine lv_goto (tgt := 155) hx hb dX12_laysWays_151 (by decide) ?_
                        refine lv_lstore (lv' := [(4, .long 1), (3, .int (nI jm)), (2, .int (nI i)), (1, .int (nI dm - 1)), (0, .ref mm)]) hx hb dX12_laysWays_155 hl (by decide) rfl (fun ls hl => ?_)
                        refine lv_iconst (v := 0) hx hb dX12_laysWays_157 ic_0 ?_
                        refine lv_istore (lv' := [(6, .int 0), (4, .long 1), (3, .int (nI jm)), (2, .int (nI i)), (1, .int (nI dm - 1)), (0, .ref mm)]) hx hb dX12_laysWays_158 hl (by decide) rfl (fun ls hl => ?_)
                        have lp_64 : ∀ (n_65 : Nat) (kk : Nat) (xn : Int64) (H : Heap) (locs : List Loc) (ls : Array Slot), 10 - kk < n_65 → (kk ≤ 10) → (fx (cfN nw yw yo mt_) (a0N nw) i jm kk xn) → va_P D vwCl [ro_ mm 12 (mo g (nI ta) (nI pa) (nI pe) pd (nI pb) pp pf pg pn rt rn (nI cd) sn (nI il) tk am at_ aa mt_ 0 (-1) wt zyb (nI it_) (nI rm) (nI ud) (nI nu) sd (nI qn) (nI qw) qo (nI qb) (nI qp) qa (nI qi) (nI oc)), ra_I (g 20) cI 4 (l4 (nI l0) (nI l1) (nI dm) (nI l3)), ra_I (g 31) cI 120 nw, ra_I (g 37) cZ 900 yo, ra_I (g 36) cZ 900 yw, ra_J (g 43) cJ 90 zb, ra_J (g 44) cJ 90 zg] H → va_D A [ro_ mm 12 (mo g (nI ta) (nI pa) (nI pe) pd (nI pb) pp pf pg pn rt rn (nI cd) sn (nI il) tk am at_ aa mt_ 0 (-1) wt zyb (nI it_) (nI rm) (nI ud) (nI nu) sd (nI qn) (nI qw) qo (nI qb) (nI qp) qa (nI qi) (nI oc)), ra_I (g 20) cI 4 (l4 (nI l0) (nI l1) (nI dm) (nI l3)), ra_I (g 31) cI 120 nw, ra_I (g 37) cZ 900 yo, ra_I (g 36) cZ 900 yw, ra_J (g 43) cJ 90 zb, ra_J (g 44) cJ 90 zg] → va_S A s.heap H locs → lv_has ls 7 [(6, .int (nI kk)), (4, .long xn), (3, .int (nI jm)), (2, .int (nI i)), (1, .int (nI dm - 1)), (0, .ref mm)] → W p l e { frames := 3, cells := 0, slots := 0, locals := 66 } s m ([.ref mm] : List Value).toArray below meth c H locs 0 0 (MQ below (skV D (skT cI cJ cC cZ cS) (fun (u : va_W) => ∃ (wy2 : Int64), ∃ (be2 : Nat → Int64), ∃ (bf2 : Nat → Int64), beOk (cfN nw yw yo mt_) dm 0 be2 ∧ bfOk (cfN nw yw yo mt_) (a0N nw) dm bf2 ∧ wy2 = nL (wys (cfN nw yw yo mt_) (a0N nw) (dm - 1)) ∧ u = [ro_ mm 12 (mo g (nI ta) (nI pa) (nI pe) pd (nI pb) pp pf pg pn rt rn (nI cd) sn (nI il) tk am at_ aa mt_ 0 (-1) wt wy2 (nI it_) (nI rm) (nI ud) (nI nu) sd (nI qn) (nI qw) qo (nI qb) (nI qp) qa (nI qi) (nI oc)), ra_I (g 20) cI 4 (l4 (nI l0) (nI l1) (nI dm) (nI l3)), ra_I (g 31) cI 120 nw, ra_I (g 37) cZ 900 yo, ra_I (g 36) cZ 900 yw, ra_J (g 43) cJ 90 be2, ra_J (g 44) cJ 90 bf2]) A) ([.ref mm] : List Value).toArray s 0 0 A) (F0 m 160 ls []) := by
                          intro n_65
                          induction n_65 with
                          | zero => intro kk xn H locs ls hm; exact absurd hm (Nat.not_lt_zero _)
                          | succ n_65 ih_lp_64 =>
                            intro kk xn H locs ls hm hkk hfx hP hD hS hl
                            refine lv_iload hx hb dX12_laysWays_160 (lv_at hl 0 rfl) ?_
                            refine lv_bipush (v := 10) hx hb dX12_laysWays_162 (by decide) ?_
                            refine lv_icmp_ge (tgt := 207) hx hb dX12_laysWays_164 (by decide) (fun c_66 => ?_) (fun c_66 => ?_)
                            · have c_66 : 10 ≤ kk := (nle 10 kk (Nat.le_of_ble_eq_true rfl) (by omega)).mp c_66
                              refine lv_aload_n hx hb dX12_laysWays_207 rfl (lv_at hl 5 rfl) ?_
                              refine sk_get (v := .ref (g 44)) (C := RX12) (T := TX12) (N := 92) hx hb hts inlX12 hown hK hP 0 rfl rfl 44 (Nat.le_of_ble_eq_true rfl) w_5_199 rfl dX12_laysWays_208 ?_
                              refine lv_bipush (v := 10) hx hb dX12_laysWays_211 (by decide) ?_
                              refine lv_iload_n hx hb dX12_laysWays_213 rfl (lv_at hl 3 rfl) ?_
                              refine lv_imul hx hb dX12_laysWays_214 ?_
                              refine sk_top (nI (10 * i)) (nmul 10 i) ?_
                              refine lv_iload_n hx hb dX12_laysWays_215 rfl (lv_at hl 2 rfl) ?_
                              refine lv_iadd hx hb dX12_laysWays_216 ?_
                              refine sk_top (nI (10 * i + jm)) (nI_add (10 * i) jm) ?_
                              refine lv_lload hx hb dX12_laysWays_217 (lv_at hl 1 rfl) ?_
                              refine sk_lastP (Pr := bfOk2 (cfN nw yw yo mt_) (a0N nw) i (jm + 1)) (ws' := fun f_67 => [ro_ mm 12 (mo g (nI ta) (nI pa) (nI pe) pd (nI pb) pp pf pg pn rt rn (nI cd) sn (nI il) tk am at_ aa mt_ 0 (-1) wt zyb (nI it_) (nI rm) (nI ud) (nI nu) sd (nI qn) (nI qw) qo (nI qb) (nI qp) qa (nI qi) (nI oc)), ra_I (g 20) cI 4 (l4 (nI l0) (nI l1) (nI dm) (nI l3)), ra_I (g 31) cI 120 nw, ra_I (g 37) cZ 900 yo, ra_I (g 36) cZ 900 yw, ra_J (g 43) cJ 90 zb, ra_J (g 44) cJ 90 f_67]) hx hb hK hP hD hS 6 1 rfl rfl (vin (10 * i + jm) 90 (by omega) (Nat.le_of_ble_eq_true rfl)) (fun _ => rfl) (bf_store hbf2 (by omega) (by omega) (fx_fin hfx (by omega))) dX12_laysWays_219 (fun f_67 H locs hf_68 hP hD hS => ?_)
                              refine lv_iload_n hx hb dX12_laysWays_220 rfl (lv_at hl 3 rfl) ?_
                              refine lv_iload_n hx hb dX12_laysWays_221 rfl (lv_at hl 4 rfl) ?_
                              refine lv_icmp_ne (tgt := 236) hx hb dX12_laysWays_222 (by decide) (fun c_69 => ?_) (fun c_69 => ?_)
                              · have c_69 : ¬ (((i : Nat) : Int) = ((dm : Nat) : Int) - 1) := fun h => c_69 ((ieq (ivn i (by omega)) (ivp dm (by omega))).mpr h)
                                refine lv_iinc (v := nI (jm + 1)) (lv' := [(3, .int (nI (jm + 1))), (6, .int (nI kk)), (4, .long xn), (2, .int (nI i)), (1, .int (nI dm - 1)), (0, .ref mm)]) hx hb dX12_laysWays_236 hl (k := 2) rfl (ninc jm 1 (by decide)) (by decide) rfl (fun ls hl => ?_)
                                refine lv_goto (tgt := 125) hx hb dX12_laysWays_239 (by decide) ?_
                                exact ih_lp_10 (jm + 1) zyb f_67 _ _ _ (by omega) (by omega) hf_68 (wy_keep hzyb (by omega)) hP hD hS (lv_sub hl [0, 3, 4, 5] rfl)
                              · have c_69 : ((i : Nat) : Int) = ((dm : Nat) : Int) - 1 := (ieq (ivn i (by omega)) (ivp dm (by omega))).mp c_69
                                refine lv_aload_n hx hb dX12_laysWays_225 rfl (lv_at hl 5 rfl) ?_
                                refine lv_dup hx hb dX12_laysWays_226 rfl ?_
                                refine sk_get (v := .long zyb) (C := RX12) (T := TX12) (N := 92) hx hb hts inlX12 hown hK hP 0 rfl rfl 45 (Nat.le_of_ble_eq_true rfl) w_5_200 rfl dX12_laysWays_227 ?_
                                refine lv_lload hx hb dX12_laysWays_230 (lv_at hl 1 rfl) ?_
                                refine lv_ladd hx hb dX12_laysWays_232 ?_
                                refine lv_topl (fun v_70 ev_70 => ?_)
                                refine sk_put (ws' := [ro_ mm 12 (mo g (nI ta) (nI pa) (nI pe) pd (nI pb) pp pf pg pn rt rn (nI cd) sn (nI il) tk am at_ aa mt_ 0 (-1) wt v_70 (nI it_) (nI rm) (nI ud) (nI nu) sd (nI qn) (nI qw) qo (nI qb) (nI qp) qa (nI qi) (nI oc)), ra_I (g 20) cI 4 (l4 (nI l0) (nI l1) (nI dm) (nI l3)), ra_I (g 31) cI 120 nw, ra_I (g 37) cZ 900 yo, ra_I (g 36) cZ 900 yw, ra_J (g 43) cJ 90 zb, ra_J (g 44) cJ 90 f_67]) (C := RX12) (T := TX12) (N := 92) (v := .long v_70) hx hb hts inlX12 tyX12 tyX12_ok nmX12 hown hK hP hD hS 0 rfl rfl 45 (Nat.le_of_ble_eq_true rfl) w_5_200 rfl rfl rfl (Nat.le_of_ble_eq_true rfl) rfl dX12_laysWays_233 (fun H locs hP hD hS => ?_)
                                refine lv_iinc (v := nI (jm + 1)) (lv' := [(3, .int (nI (jm + 1))), (6, .int (nI kk)), (4, .long xn), (2, .int (nI i)), (1, .int (nI dm - 1)), (0, .ref mm)]) hx hb dX12_laysWays_236 hl (k := 2) rfl (ninc jm 1 (by decide)) (by decide) rfl (fun ls hl => ?_)
                                refine lv_goto (tgt := 125) hx hb dX12_laysWays_239 (by decide) ?_
                                exact ih_lp_10 (jm + 1) v_70 f_67 _ _ _ (by omega) (by omega) hf_68 (wy_add hzyb (fx_fin hfx (by omega)) (by omega) ev_70) hP hD hS (lv_sub hl [0, 3, 4, 5] rfl)
                            · have c_66 : ¬ (10 ≤ kk) := fun h => c_66 ((nle 10 kk (Nat.le_of_ble_eq_true rfl) (by omega)).mpr h)
                              refine lv_iload_n hx hb dX12_laysWays_167 rfl (lv_at hl 3 rfl) ?_
                              refine lv_if_le (tgt := 207) hx hb dX12_laysWays_168 (by decide) (fun c_71 => ?_) (fun c_71 => ?_)
                              · have c_71 : i ≤ 0 := (nle i 0 (by omega) (Nat.le_of_ble_eq_true rfl)).mp c_71
                                refine lv_aload_n hx hb dX12_laysWays_207 rfl (lv_at hl 5 rfl) ?_
                                refine sk_get (v := .ref (g 44)) (C := RX12) (T := TX12) (N := 92) hx hb hts inlX12 hown hK hP 0 rfl rfl 44 (Nat.le_of_ble_eq_true rfl) w_5_199 rfl dX12_laysWays_208 ?_
                                refine lv_bipush (v := 10) hx hb dX12_laysWays_211 (by decide) ?_
                                refine lv_iload_n hx hb dX12_laysWays_213 rfl (lv_at hl 3 rfl) ?_
                                refine lv_imul hx hb dX12_laysWays_214 ?_
                                refine sk_top (nI (10 * i)) (nmul 10 i) ?_
                                refine lv_iload_n hx hb dX12_laysWays_215 rfl (lv_at hl 2 rfl) ?_
                                refine lv_iadd hx hb dX12_laysWays_216 ?_
                                refine sk_top (nI (10 * i + jm)) (nI_add (10 * i) jm) ?_
                                refine lv_lload hx hb dX12_laysWays_217 (lv_at hl 1 rfl) ?_
                                refine sk_lastP (Pr := bfOk2 (cfN nw yw yo mt_) (a0N nw) i (jm + 1)) (ws' := fun f_72 => [ro_ mm 12 (mo g (nI ta) (nI pa) (nI pe) pd (nI pb) pp pf pg pn rt rn (nI cd) sn (nI il) tk am at_ aa mt_ 0 (-1) wt zyb (nI it_) (nI rm) (nI ud) (nI nu) sd (nI qn) (nI qw) qo (nI qb) (nI qp) qa (nI qi) (nI oc)), ra_I (g 20) cI 4 (l4 (nI l0) (nI l1) (nI dm) (nI l3)), ra_I (g 31) cI 120 nw, ra_I (g 37) cZ 900 yo, ra_I (g 36) cZ 900 yw, ra_J (g 43) cJ 90 zb, ra_J (g 44) cJ 90 f_72]) hx hb hK hP hD hS 6 1 rfl rfl (vin (10 * i + jm) 90 (by omega) (Nat.le_of_ble_eq_true rfl)) (fun _ => rfl) (bf_store hbf2 (by omega) (by omega) (fx_fin hfx (by omega))) dX12_laysWays_219 (fun f_72 H locs hf_73 hP hD hS => ?_)
                                refine lv_iload_n hx hb dX12_laysWays_220 rfl (lv_at hl 3 rfl) ?_
                                refine lv_iload_n hx hb dX12_laysWays_221 rfl (lv_at hl 4 rfl) ?_
                                refine lv_icmp_ne (tgt := 236) hx hb dX12_laysWays_222 (by decide) (fun c_74 => ?_) (fun c_74 => ?_)
                                · have c_74 : ¬ (((i : Nat) : Int) = ((dm : Nat) : Int) - 1) := fun h => c_74 ((ieq (ivn i (by omega)) (ivp dm (by omega))).mpr h)
                                  refine lv_iinc (v := nI (jm + 1)) (lv' := [(3, .int (nI (jm + 1))), (6, .int (nI kk)), (4, .long xn), (2, .int (nI i)), (1, .int (nI dm - 1)), (0, .ref mm)]) hx hb dX12_laysWays_236 hl (k := 2) rfl (ninc jm 1 (by decide)) (by decide) rfl (fun ls hl => ?_)
                                  refine lv_goto (tgt := 125) hx hb dX12_laysWays_239 (by decide) ?_
                                  exact ih_lp_10 (jm + 1) zyb f_72 _ _ _ (by omega) (by omega) hf_73 (wy_keep hzyb (by omega)) hP hD hS (lv_sub hl [0, 3, 4, 5] rfl)
                                · have c_74 : ((i : Nat) : Int) = ((dm : Nat) : Int) - 1 := (ieq (ivn i (by omega)) (ivp dm (by omega))).mp c_74
                                  refine lv_aload_n hx hb dX12_laysWays_225 rfl (lv_at hl 5 rfl) ?_
                                  refine lv_dup hx hb dX12_laysWays_226 rfl ?_
                                  refine sk_get (v := .long zyb) (C := RX12) (T := TX12) (N := 92) hx hb hts inlX12 hown hK hP 0 rfl rfl 45 (Nat.le_of_ble_eq_true rfl) w_5_200 rfl dX12_laysWays_227 ?_
                                  refine lv_lload hx hb dX12_laysWays_230 (lv_at hl 1 rfl) ?_
                                  refine lv_ladd hx hb dX12_laysWays_232 ?_
                                  refine lv_topl (fun v_75 ev_75 => ?_)
                                  refine sk_put (ws' := [ro_ mm 12 (mo g (nI ta) (nI pa) (nI pe) pd (nI pb) pp pf pg pn rt rn (nI cd) sn (nI il) tk am at_ aa mt_ 0 (-1) wt v_75 (nI it_) (nI rm) (nI ud) (nI nu) sd (nI qn) (nI qw) qo (nI qb) (nI qp) qa (nI qi) (nI oc)), ra_I (g 20) cI 4 (l4 (nI l0) (nI l1) (nI dm) (nI l3)), ra_I (g 31) cI 120 nw, ra_I (g 37) cZ 900 yo, ra_I (g 36) cZ 900 yw, ra_J (g 43) cJ 90 zb, ra_J (g 44) cJ 90 f_72]) (C := RX12) (T := TX12) (N := 92) (v := .long v_75) hx hb hts inlX12 tyX12 tyX12_ok nmX12 hown hK hP hD hS 0 rfl rfl 45 (Nat.le_of_ble_eq_true rfl) w_5_200 rfl rfl rfl (Nat.le_of_ble_eq_true rfl) rfl dX12_laysWays_233 (fun H locs hP hD hS => ?_)
                                  refine lv_iinc (v := nI (jm + 1)) (lv' := [(3, .int (nI (jm + 1))), (6, .int (nI kk)), (4, .long xn), (2, .int (nI i)), (1, .int (nI dm - 1)), (0, .ref mm)]) hx hb dX12_laysWays_236 hl (k := 2) rfl (ninc jm 1 (by decide)) (by decide) rfl (fun ls hl => ?_)
                                  refine lv_goto (tgt := 125) hx hb dX12_laysWays_239 (by decide) ?_
                                  exact ih_lp_10 (jm + 1) v_75 f_72 _ _ _ (by omega) (by omega) hf_73 (wy_add hzyb (fx_fin hfx (by omega)) (by omega) ev_75) hP hD hS (lv_sub hl [0, 3, 4, 5] rfl)
                              · have c_71 : ¬ (i ≤ 0) := fun h => c_71 ((nle i 0 (by omega) (Nat.le_of_ble_eq_true rfl)).mpr h)
                                refine lv_aload_n hx hb dX12_laysWays_171 rfl (lv_at hl 5 rfl) ?_
                                refine lv_iload_n hx hb dX12_laysWays_172 rfl (lv_at hl 3 rfl) ?_
                                refine lv_iload hx hb dX12_laysWays_173 (lv_at hl 0 rfl) ?_
                                refine lv_iload_n hx hb dX12_laysWays_175 rfl (lv_at hl 2 rfl) ?_
                                refine sk_Vi (q0 := 0) (n := 3) (rest := []) (wr := fmR om_7_5c _) ⟨hx, hb, hml, hown, hts⟩ hl.1 (c_m_canFollow0 l D cI cJ cC cZ cS mm g ta pa pe pd pb pp pf pg pn rt rn cd sn il tk am at_ aa mt_ wt zyb it_ rm ud nu sd qn qw qo qb qp qa qi oc i kk jm nw yo yw (by omega) (by omega) (by omega) hnw) w_7_201 w_7_203 w_0_85 w_1_14 w_7_204 hd_X12_canFollow_3 ⟨⟨(Nat.le_of_ble_eq_true rfl), (Nat.le_of_ble_eq_true rfl)⟩, (Nat.le_of_ble_eq_true rfl), (Nat.le_of_ble_eq_true rfl)⟩ hK hP hD hS hA (fmT om_7_5c 0) (fmF om_7_5c 0) (fm_C1 rfl rfl) (fm_R rfl rfl) (fm_nT om_7_5c 0) (fm_nF om_7_5c 0) (fm_di om_7_5c 0) rfl rfl rfl rfl (Nat.le_of_ble_eq_true rfl) dX12_laysWays_176 (fun r_77 u H locs hw hP hD hS => ?_)
                                refine exE hw (fun b_76 hw1 => anE hw1 (fun hb1_78 hw2 => anE hw2 (fun hb2_79 hw3 => anE hw3 (fun er_81 eu_80 => ?_))))
                                clear hw hw1 hw2 hw3
                                subst er_81
                                refine o_mgE (ws' := [ro_ mm 12 (mo g (nI ta) (nI pa) (nI pe) pd (nI pb) pp pf pg pn rt rn (nI cd) sn (nI il) tk am at_ aa mt_ 0 (-1) wt zyb (nI it_) (nI rm) (nI ud) (nI nu) sd (nI qn) (nI qw) qo (nI qb) (nI qp) qa (nI qi) (nI oc)), ra_I (g 20) cI 4 (l4 (nI l0) (nI l1) (nI dm) (nI l3)), ra_I (g 31) cI 120 nw, ra_I (g 37) cZ 900 yo, ra_I (g 36) cZ 900 yw, ra_J (g 43) cJ 90 zb, ra_J (g 44) cJ 90 zg]) eu_80 hP hD rfl (fun hP hD => ?_)
                                refine lv_if_eq (tgt := 201) hx hb dX12_laysWays_179 (by decide) (fun c_82 => ?_) (fun c_82 => ?_)
                                · have c_82 : b_76 = 0 := (neq b_76 0 (by omega) (Nat.le_of_ble_eq_true rfl)).mp c_82
                                  refine lv_iinc (v := nI (kk + 1)) (lv' := [(6, .int (nI (kk + 1))), (4, .long xn), (3, .int (nI jm)), (2, .int (nI i)), (1, .int (nI dm - 1)), (0, .ref mm)]) hx hb dX12_laysWays_201 hl (k := 0) rfl (ninc kk 1 (by decide)) (by decide) rfl (fun ls hl => ?_)
                                  refine lv_goto (tgt := 160) hx hb dX12_laysWays_204 (by decide) ?_
                                  exact ih_lp_64 (kk + 1) xn _ _ _ (by omega) (by omega) (fx_no hfx (by omega) (or_0 hb1_78 (by omega))) hP hD hS (lv_sub hl [0, 1, 2, 3, 4, 5] rfl)
                                · have c_82 : ¬ (b_76 = 0) := fun h => c_82 ((neq b_76 0 (by omega) (Nat.le_of_ble_eq_true rfl)).mpr h)
                                  refine lv_lload hx hb dX12_laysWays_182 (lv_at hl 1 rfl) ?_
                                  refine lv_aload_n hx hb dX12_laysWays_184 rfl (lv_at hl 5 rfl) ?_
                                  refine sk_get (v := .ref (g 44)) (C := RX12) (T := TX12) (N := 92) hx hb hts inlX12 hown hK hP 0 rfl rfl 44 (Nat.le_of_ble_eq_true rfl) w_5_199 rfl dX12_laysWays_185 ?_
                                  refine lv_bipush (v := 10) hx hb dX12_laysWays_188 (by decide) ?_
                                  refine lv_iload_n hx hb dX12_laysWays_190 rfl (lv_at hl 3 rfl) ?_
                                  refine lv_iconst (v := 1) hx hb dX12_laysWays_191 ic_1 ?_
                                  refine lv_isub hx hb dX12_laysWays_192 ?_
                                  refine sk_top (nI (i - 1)) (nsub i 1 (by omega)) ?_
                                  refine lv_imul hx hb dX12_laysWays_193 ?_
                                  refine sk_top (nI (10 * (i - 1))) (nmul 10 (i - 1)) ?_
                                  refine lv_iload hx hb dX12_laysWays_194 (lv_at hl 0 rfl) ?_
                                  refine lv_iadd hx hb dX12_laysWays_196 ?_
                                  refine sk_top (nI (10 * (i - 1) + kk)) (nI_add (10 * (i - 1)) kk) ?_
                                  refine va_lald hx hb hK.1 hP 6 1 rfl rfl (vin (10 * (i - 1) + kk) 90 (by omega) (Nat.le_of_ble_eq_true rfl)) dX12_laysWays_197 ?_
                                  refine lv_topl (fun v_83 ev_83 => ?_)
                                  refine lv_ladd hx hb dX12_laysWays_198 ?_
                                  refine lv_topl (fun v_84 ev_84 => ?_)
                                  refine lv_lstore (lv' := [(4, .long v_84), (6, .int (nI kk)), (3, .int (nI jm)), (2, .int (nI i)), (1, .int (nI dm - 1)), (0, .ref mm)]) hx hb dX12_laysWays_199 hl (by decide) rfl (fun ls hl => ?_)
                                  refine lv_iinc (v := nI (kk + 1)) (lv' := [(6, .int (nI (kk + 1))), (4, .long v_84), (3, .int (nI jm)), (2, .int (nI i)), (1, .int (nI dm - 1)), (0, .ref mm)]) hx hb dX12_laysWays_201 hl (k := 1) rfl (ninc kk 1 (by decide)) (by decide) rfl (fun ls hl => ?_)
                                  refine lv_goto (tgt := 160) hx hb dX12_laysWays_204 (by decide) ?_
                                  exact ih_lp_64 (kk + 1) v_84 _ _ _ (by omega) (by omega) (fx_yes hfx (by omega) (or_1 hb1_78 (by omega)) (bf_get hbf2.1 (by omega) (by omega) (by omega) ev_83) ev_84) hP hD hS (lv_sub hl [0, 1, 2, 3, 4, 5] rfl)
                        exact lp_64 (10 - 0 + 1) 0 1 _ _ _ (Nat.lt_succ_self _) (by omega) (fx_1 (by omega) (by rw [← ha0]; exact or_1 hb1_38 (by omega))) hP hD hS (lv_sub hl [0, 1, 2, 3, 4, 5] rfl)
              exact lp_10 (10 - 0 + 1) 0 zy zf _ _ _ (Nat.lt_succ_self _) (by omega) (bf_0 hbf) (wy_0 hzy (by omega)) hP hD hS (lv_sub hl [0, 1, 2, 3] rfl)
        exact lp_7 (dm - 0 + 1) 0 0 bf _ _ _ (Nat.lt_succ_self _) (by omega) (bf_init _ _ _) (wy_init _ _ (by omega)) hP hD hS (lv_sub hl [0, 1, 2] rfl)
      · have c_6 : 1 ≤ dd := npm1 dd c_6
        rw [npred dd (by omega)] at hl
        refine lv_iconst (v := 0) hx hb dX12_laysWays_13 ic_0 ?_
        refine lv_istore_n (lv' := [(3, .int 0), (2, .int (nI (dd - 1))), (1, .int (nI dm - 1)), (0, .ref mm)]) hx hb dX12_laysWays_14 rfl hl (by decide) rfl (fun ls hl => ?_)
        have lp_85 : ∀ (n_86 : Nat) (jm : Nat) (zc : Nat → Int64) (H : Heap) (locs : List Loc) (ls : Array Slot), 10 - jm < n_86 → (jm ≤ 10) → (beOk2 (cfN nw yw yo mt_) dm (dd - 1) jm zc) → va_P D vwCl [ro_ mm 12 (mo g (nI ta) (nI pa) (nI pe) pd (nI pb) pp pf pg pn rt rn (nI cd) sn (nI il) tk am at_ aa mt_ 0 (-1) wt wy (nI it_) (nI rm) (nI ud) (nI nu) sd (nI qn) (nI qw) qo (nI qb) (nI qp) qa (nI qi) (nI oc)), ra_I (g 20) cI 4 (l4 (nI l0) (nI l1) (nI dm) (nI l3)), ra_I (g 31) cI 120 nw, ra_I (g 37) cZ 900 yo, ra_I (g 36) cZ 900 yw, ra_J (g 43) cJ 90 zc, ra_J (g 44) cJ 90 bf] H → va_D A [ro_ mm 12 (mo g (nI ta) (nI pa) (nI pe) pd (nI pb) pp pf pg pn rt rn (nI cd) sn (nI il) tk am at_ aa mt_ 0 (-1) wt wy (nI it_) (nI rm) (nI ud) (nI nu) sd (nI qn) (nI qw) qo (nI qb) (nI qp) qa (nI qi) (nI oc)), ra_I (g 20) cI 4 (l4 (nI l0) (nI l1) (nI dm) (nI l3)), ra_I (g 31) cI 120 nw, ra_I (g 37) cZ 900 yo, ra_I (g 36) cZ 900 yw, ra_J (g 43) cJ 90 zc, ra_J (g 44) cJ 90 bf] → va_S A s.heap H locs → lv_has ls 7 [(3, .int (nI jm)), (2, .int (nI (dd - 1))), (1, .int (nI dm - 1)), (0, .ref mm)] → W p l e { frames := 3, cells := 0, slots := 0, locals := 66 } s m ([.ref mm] : List Value).toArray below meth c H locs 0 0 (MQ below (skV D (skT cI cJ cC cZ cS) (fun (u : va_W) => ∃ (wy2 : Int64), ∃ (be2 : Nat → Int64), ∃ (bf2 : Nat → Int64), beOk (cfN nw yw yo mt_) dm 0 be2 ∧ bfOk (cfN nw yw yo mt_) (a0N nw) dm bf2 ∧ wy2 = nL (wys (cfN nw yw yo mt_) (a0N nw) (dm - 1)) ∧ u = [ro_ mm 12 (mo g (nI ta) (nI pa) (nI pe) pd (nI pb) pp pf pg pn rt rn (nI cd) sn (nI il) tk am at_ aa mt_ 0 (-1) wt wy2 (nI it_) (nI rm) (nI ud) (nI nu) sd (nI qn) (nI qw) qo (nI qb) (nI qp) qa (nI qi) (nI oc)), ra_I (g 20) cI 4 (l4 (nI l0) (nI l1) (nI dm) (nI l3)), ra_I (g 31) cI 120 nw, ra_I (g 37) cZ 900 yo, ra_I (g 36) cZ 900 yw, ra_J (g 43) cJ 90 be2, ra_J (g 44) cJ 90 bf2]) A) ([.ref mm] : List Value).toArray s 0 0 A) (F0 m 15 ls []) := by
          intro n_86
          induction n_86 with
          | zero => intro jm zc H locs ls hm; exact absurd hm (Nat.not_lt_zero _)
          | succ n_86 ih_lp_85 =>
            intro jm zc H locs ls hm hjm hbe2 hP hD hS hl
            refine lv_iload_n hx hb dX12_laysWays_15 rfl (lv_at hl 0 rfl) ?_
            refine lv_bipush (v := 10) hx hb dX12_laysWays_16 (by decide) ?_
            refine lv_icmp_ge (tgt := 105) hx hb dX12_laysWays_18 (by decide) (fun c_87 => ?_) (fun c_87 => ?_)
            · have c_87 : 10 ≤ jm := (nle 10 jm (Nat.le_of_ble_eq_true rfl) (by omega)).mp c_87
              refine lv_iinc (v := nI (dd - 1) - 1) (lv' := [(2, .int (nI (dd - 1) - 1)), (3, .int (nI jm)), (1, .int (nI dm - 1)), (0, .ref mm)]) hx hb dX12_laysWays_105 hl (k := 1) rfl (ndn _) (by decide) rfl (fun ls hl => ?_)
              refine lv_goto (tgt := 9) hx hb dX12_laysWays_108 (by decide) ?_
              exact ih_lp_4 (dd - 1) zc _ _ _ (by omega) (by omega) (be_fin hbe2 (by omega)) hP hD hS (lv_sub hl [0, 2, 3] rfl)
            · have c_87 : ¬ (10 ≤ jm) := fun h => c_87 ((nle 10 jm (Nat.le_of_ble_eq_true rfl) (by omega)).mpr h)
              refine lv_iload_n hx hb dX12_laysWays_21 rfl (lv_at hl 1 rfl) ?_
              refine lv_iload_n hx hb dX12_laysWays_22 rfl (lv_at hl 2 rfl) ?_
              refine lv_icmp_ne (tgt := 30) hx hb dX12_laysWays_23 (by decide) (fun c_88 => ?_) (fun c_88 => ?_)
              · have c_88 : ¬ (((dd - 1 : Nat) : Int) = ((dm : Nat) : Int) - 1) := fun h => c_88 ((ieq (ivn (dd - 1) (by omega)) (ivp dm (by omega))).mpr h)
                refine lv_lconst (v := 0) hx hb dX12_laysWays_30 (by decide) ?_
                refine lv_lstore (lv' := [(4, .long 0), (3, .int (nI jm)), (2, .int (nI (dd - 1))), (1, .int (nI dm - 1)), (0, .ref mm)]) hx hb dX12_laysWays_31 hl (by decide) rfl (fun ls hl => ?_)
                refine lv_iconst (v := 0) hx hb dX12_laysWays_33 ic_0 ?_
                refine lv_istore (lv' := [(6, .int 0), (4, .long 0), (3, .int (nI jm)), (2, .int (nI (dd - 1))), (1, .int (nI dm - 1)), (0, .ref mm)]) hx hb dX12_laysWays_34 hl (by decide) rfl (fun ls hl => ?_)
                have lp_89 : ∀ (n_90 : Nat) (kk : Nat) (xn : Int64) (H : Heap) (locs : List Loc) (ls : Array Slot), 10 - kk < n_90 → (kk ≤ 10) → (bx (cfN nw yw yo mt_) dm (dd - 1) jm kk xn) → va_P D vwCl [ro_ mm 12 (mo g (nI ta) (nI pa) (nI pe) pd (nI pb) pp pf pg pn rt rn (nI cd) sn (nI il) tk am at_ aa mt_ 0 (-1) wt wy (nI it_) (nI rm) (nI ud) (nI nu) sd (nI qn) (nI qw) qo (nI qb) (nI qp) qa (nI qi) (nI oc)), ra_I (g 20) cI 4 (l4 (nI l0) (nI l1) (nI dm) (nI l3)), ra_I (g 31) cI 120 nw, ra_I (g 37) cZ 900 yo, ra_I (g 36) cZ 900 yw, ra_J (g 43) cJ 90 zc, ra_J (g 44) cJ 90 bf] H → va_D A [ro_ mm 12 (mo g (nI ta) (nI pa) (nI pe) pd (nI pb) pp pf pg pn rt rn (nI cd) sn (nI il) tk am at_ aa mt_ 0 (-1) wt wy (nI it_) (nI rm) (nI ud) (nI nu) sd (nI qn) (nI qw) qo (nI qb) (nI qp) qa (nI qi) (nI oc)), ra_I (g 20) cI 4 (l4 (nI l0) (nI l1) (nI dm) (nI l3)), ra_I (g 31) cI 120 nw, ra_I (g 37) cZ 900 yo, ra_I (g 36) cZ 900 yw, ra_J (g 43) cJ 90 zc, ra_J (g 44) cJ 90 bf] → va_S A s.heap H locs → lv_has ls 7 [(6, .int (nI kk)), (4, .long xn), (3, .int (nI jm)), (2, .int (nI (dd - 1))), (1, .int (nI dm - 1)), (0, .ref mm)] → W p l e { frames := 3, cells := 0, slots := 0, locals := 66 } s m ([.ref mm] : List Value).toArray below meth c H locs 0 0 (MQ below (skV D (skT cI cJ cC cZ cS) (fun (u : va_W) => ∃ (wy2 : Int64), ∃ (be2 : Nat → Int64), ∃ (bf2 : Nat → Int64), beOk (cfN nw yw yo mt_) dm 0 be2 ∧ bfOk (cfN nw yw yo mt_) (a0N nw) dm bf2 ∧ wy2 = nL (wys (cfN nw yw yo mt_) (a0N nw) (dm - 1)) ∧ u = [ro_ mm 12 (mo g (nI ta) (nI pa) (nI pe) pd (nI pb) pp pf pg pn rt rn (nI cd) sn (nI il) tk am at_ aa mt_ 0 (-1) wt wy2 (nI it_) (nI rm) (nI ud) (nI nu) sd (nI qn) (nI qw) qo (nI qb) (nI qp) qa (nI qi) (nI oc)), ra_I (g 20) cI 4 (l4 (nI l0) (nI l1) (nI dm) (nI l3)), ra_I (g 31) cI 120 nw, ra_I (g 37) cZ 900 yo, ra_I (g 36) cZ 900 yw, ra_J (g 43) cJ 90 be2, ra_J (g 44) cJ 90 bf2]) A) ([.ref mm] : List Value).toArray s 0 0 A) (F0 m 36 ls []) := by
                  intro n_90
                  induction n_90 with
                  | zero => intro kk xn H locs ls hm; exact absurd hm (Nat.not_lt_zero _)
                  | succ n_90 ih_lp_89 =>
                    intro kk xn H locs ls hm hkk hbx hP hD hS hl
                    refine lv_iload hx hb dX12_laysWays_36 (lv_at hl 0 rfl) ?_
                    refine lv_bipush (v := 10) hx hb dX12_laysWays_38 (by decide) ?_
                    refine lv_icmp_ge (tgt := 86) hx hb dX12_laysWays_40 (by decide) (fun c_91 => ?_) (fun c_91 => ?_)
                    · have c_91 : 10 ≤ kk := (nle 10 kk (Nat.le_of_ble_eq_true rfl) (by omega)).mp c_91
                      refine lv_aload_n hx hb dX12_laysWays_86 rfl (lv_at hl 5 rfl) ?_
                      refine sk_get (v := .ref (g 43)) (C := RX12) (T := TX12) (N := 92) hx hb hts inlX12 hown hK hP 0 rfl rfl 43 (Nat.le_of_ble_eq_true rfl) w_5_198 rfl dX12_laysWays_87 ?_
                      refine lv_bipush (v := 10) hx hb dX12_laysWays_90 (by decide) ?_
                      refine lv_iload_n hx hb dX12_laysWays_92 rfl (lv_at hl 3 rfl) ?_
                      refine lv_imul hx hb dX12_laysWays_93 ?_
                      refine sk_top (nI (10 * (dd - 1))) (nmul 10 (dd - 1)) ?_
                      refine lv_iload_n hx hb dX12_laysWays_94 rfl (lv_at hl 2 rfl) ?_
                      refine lv_iadd hx hb dX12_laysWays_95 ?_
                      refine sk_top (nI (10 * (dd - 1) + jm)) (nI_add (10 * (dd - 1)) jm) ?_
                      refine lv_lload hx hb dX12_laysWays_96 (lv_at hl 1 rfl) ?_
                      refine sk_lastP (Pr := beOk2 (cfN nw yw yo mt_) dm (dd - 1) (jm + 1)) (ws' := fun f_92 => [ro_ mm 12 (mo g (nI ta) (nI pa) (nI pe) pd (nI pb) pp pf pg pn rt rn (nI cd) sn (nI il) tk am at_ aa mt_ 0 (-1) wt wy (nI it_) (nI rm) (nI ud) (nI nu) sd (nI qn) (nI qw) qo (nI qb) (nI qp) qa (nI qi) (nI oc)), ra_I (g 20) cI 4 (l4 (nI l0) (nI l1) (nI dm) (nI l3)), ra_I (g 31) cI 120 nw, ra_I (g 37) cZ 900 yo, ra_I (g 36) cZ 900 yw, ra_J (g 43) cJ 90 f_92, ra_J (g 44) cJ 90 bf]) hx hb hK hP hD hS 5 1 rfl rfl (vin (10 * (dd - 1) + jm) 90 (by omega) (Nat.le_of_ble_eq_true rfl)) (fun _ => rfl) (be_store hbe2 (by omega) (by omega) (bx_fin hbx (by omega))) dX12_laysWays_98 (fun f_92 H locs hf_93 hP hD hS => ?_)
                      refine lv_iinc (v := nI (jm + 1)) (lv' := [(3, .int (nI (jm + 1))), (6, .int (nI kk)), (4, .long xn), (2, .int (nI (dd - 1))), (1, .int (nI dm - 1)), (0, .ref mm)]) hx hb dX12_laysWays_99 hl (k := 2) rfl (ninc jm 1 (by decide)) (by decide) rfl (fun ls hl => ?_)
                      refine lv_goto (tgt := 15) hx hb dX12_laysWays_102 (by decide) ?_
                      exact ih_lp_85 (jm + 1) f_92 _ _ _ (by omega) (by omega) hf_93 hP hD hS (lv_sub hl [0, 3, 4, 5] rfl)
                    · have c_91 : ¬ (10 ≤ kk) := fun h => c_91 ((nle 10 kk (Nat.le_of_ble_eq_true rfl) (by omega)).mpr h)
                      refine lv_iload_n hx hb dX12_laysWays_43 rfl (lv_at hl 3 rfl) ?_
                      refine lv_iload_n hx hb dX12_laysWays_44 rfl (lv_at hl 4 rfl) ?_
                      refine lv_icmp_ge (tgt := 86) hx hb dX12_laysWays_45 (by decide) (fun c_94 => ?_) (fun c_94 => ?_)
                      · have c_94 : ((dm : Nat) : Int) - 1 ≤ ((dd - 1 : Nat) : Int) := (ile (ivp dm (by omega)) (ivn (dd - 1) (by omega))).mp c_94
                        refine lv_aload_n hx hb dX12_laysWays_86 rfl (lv_at hl 5 rfl) ?_
                        refine sk_get (v := .ref (g 43)) (C := RX12) (T := TX12) (N := 92) hx hb hts inlX12 hown hK hP 0 rfl rfl 43 (Nat.le_of_ble_eq_true rfl) w_5_198 rfl dX12_laysWays_87 ?_
                        refine lv_bipush (v := 10) hx hb dX12_laysWays_90 (by decide) ?_
                        refine lv_iload_n hx hb dX12_laysWays_92 rfl (lv_at hl 3 rfl) ?_
                        refine lv_imul hx hb dX12_laysWays_93 ?_
                        refine sk_top (nI (10 * (dd - 1))) (nmul 10 (dd - 1)) ?_
                        refine lv_iload_n hx hb dX12_laysWays_94 rfl (lv_at hl 2 rfl) ?_
                        refine lv_iadd hx hb dX12_laysWays_95 ?_
                        refine sk_top (nI (10 * (dd - 1) + jm)) (nI_add (10 * (dd - 1)) jm) ?_
                        refine lv_lload hx hb dX12_laysWays_96 (lv_at hl 1 rfl) ?_
                        refine sk_lastP (Pr := beOk2 (cfN nw yw yo mt_) dm (dd - 1) (jm + 1)) (ws' := fun f_95 => [ro_ mm 12 (mo g (nI ta) (nI pa) (nI pe) pd (nI pb) pp pf pg pn rt rn (nI cd) sn (nI il) tk am at_ aa mt_ 0 (-1) wt wy (nI it_) (nI rm) (nI ud) (nI nu) sd (nI qn) (nI qw) qo (nI qb) (nI qp) qa (nI qi) (nI oc)), ra_I (g 20) cI 4 (l4 (nI l0) (nI l1) (nI dm) (nI l3)), ra_I (g 31) cI 120 nw, ra_I (g 37) cZ 900 yo, ra_I (g 36) cZ 900 yw, ra_J (g 43) cJ 90 f_95, ra_J (g 44) cJ 90 bf]) hx hb hK hP hD hS 5 1 rfl rfl (vin (10 * (dd - 1) + jm) 90 (by omega) (Nat.le_of_ble_eq_true rfl)) (fun _ => rfl) (be_store hbe2 (by omega) (by omega) (bx_fin hbx (by omega))) dX12_laysWays_98 (fun f_95 H locs hf_96 hP hD hS => ?_)
                        refine lv_iinc (v := nI (jm + 1)) (lv' := [(3, .int (nI (jm + 1))), (6, .int (nI kk)), (4, .long xn), (2, .int (nI (dd - 1))), (1, .int (nI dm - 1)), (0, .ref mm)]) hx hb dX12_laysWays_99 hl (k := 2) rfl (ninc jm 1 (by decide)) (by decide) rfl (fun ls hl => ?_)
                        refine lv_goto (tgt := 15) hx hb dX12_laysWays_102 (by decide) ?_
                        exact ih_lp_85 (jm + 1) f_95 _ _ _ (by omega) (by omega) hf_96 hP hD hS (lv_sub hl [0, 3, 4, 5] rfl)
                      · have c_94 : ¬ (((dm : Nat) : Int) - 1 ≤ ((dd - 1 : Nat) : Int)) := fun h => c_94 ((ile (ivp dm (by omega)) (ivn (dd - 1) (by omega))).mpr h)
                        refine lv_aload_n hx hb dX12_laysWays_48 rfl (lv_at hl 5 rfl) ?_
                        refine lv_iload_n hx hb dX12_laysWays_49 rfl (lv_at hl 3 rfl) ?_
                        refine lv_iconst (v := 1) hx hb dX12_laysWays_50 ic_1 ?_
                        refine lv_iadd hx hb dX12_laysWays_51 ?_
                        refine sk_top (nI (dd - 1 + 1)) (nI_add (dd - 1) 1) ?_
                        refine lv_iload_n hx hb dX12_laysWays_52 rfl (lv_at hl 2 rfl) ?_
                        refine lv_iload hx hb dX12_laysWays_53 (lv_at hl 0 rfl) ?_
                        refine sk_Vi (q0 := 0) (n := 3) (rest := []) (wr := fmR om_7_5c _) ⟨hx, hb, hml, hown, hts⟩ hl.1 (c_m_canFollow0 l D cI cJ cC cZ cS mm g ta pa pe pd pb pp pf pg pn rt rn cd sn il tk am at_ aa mt_ wt wy it_ rm ud nu sd qn qw qo qb qp qa qi oc (dd - 1 + 1) jm kk nw yo yw (by omega) (by omega) (by omega) hnw) w_7_201 w_7_203 w_0_85 w_1_14 w_7_204 hd_X12_canFollow_3 ⟨⟨(Nat.le_of_ble_eq_true rfl), (Nat.le_of_ble_eq_true rfl)⟩, (Nat.le_of_ble_eq_true rfl), (Nat.le_of_ble_eq_true rfl)⟩ hK hP hD hS hA (fmT om_7_5c 0) (fmF om_7_5c 0) (fm_C1 rfl rfl) (fm_R rfl rfl) (fm_nT om_7_5c 0) (fm_nF om_7_5c 0) (fm_di om_7_5c 0) rfl rfl rfl rfl (Nat.le_of_ble_eq_true rfl) dX12_laysWays_55 (fun r_98 u H locs hw hP hD hS => ?_)
                        refine exE hw (fun b_97 hw1 => anE hw1 (fun hb1_99 hw2 => anE hw2 (fun hb2_100 hw3 => anE hw3 (fun er_102 eu_101 => ?_))))
                        clear hw hw1 hw2 hw3
                        subst er_102
                        refine o_mgE (ws' := [ro_ mm 12 (mo g (nI ta) (nI pa) (nI pe) pd (nI pb) pp pf pg pn rt rn (nI cd) sn (nI il) tk am at_ aa mt_ 0 (-1) wt wy (nI it_) (nI rm) (nI ud) (nI nu) sd (nI qn) (nI qw) qo (nI qb) (nI qp) qa (nI qi) (nI oc)), ra_I (g 20) cI 4 (l4 (nI l0) (nI l1) (nI dm) (nI l3)), ra_I (g 31) cI 120 nw, ra_I (g 37) cZ 900 yo, ra_I (g 36) cZ 900 yw, ra_J (g 43) cJ 90 zc, ra_J (g 44) cJ 90 bf]) eu_101 hP hD rfl (fun hP hD => ?_)
                        refine lv_if_eq (tgt := 80) hx hb dX12_laysWays_58 (by decide) (fun c_103 => ?_) (fun c_103 => ?_)
                        · have c_103 : b_97 = 0 := (neq b_97 0 (by omega) (Nat.le_of_ble_eq_true rfl)).mp c_103
                          refine lv_iinc (v := nI (kk + 1)) (lv' := [(6, .int (nI (kk + 1))), (4, .long xn), (3, .int (nI jm)), (2, .int (nI (dd - 1))), (1, .int (nI dm - 1)), (0, .ref mm)]) hx hb dX12_laysWays_80 hl (k := 0) rfl (ninc kk 1 (by decide)) (by decide) rfl (fun ls hl => ?_)
                          refine lv_goto (tgt := 36) hx hb dX12_laysWays_83 (by decide) ?_
                          exact ih_lp_89 (kk + 1) xn _ _ _ (by omega) (by omega) (bx_no hbx (by omega) (or_0 hb1_99 (by omega))) hP hD hS (lv_sub hl [0, 1, 2, 3, 4, 5] rfl)
                        · have c_103 : ¬ (b_97 = 0) := fun h => c_103 ((neq b_97 0 (by omega) (Nat.le_of_ble_eq_true rfl)).mpr h)
                          refine lv_lload hx hb dX12_laysWays_61 (lv_at hl 1 rfl) ?_
                          refine lv_aload_n hx hb dX12_laysWays_63 rfl (lv_at hl 5 rfl) ?_
                          refine sk_get (v := .ref (g 43)) (C := RX12) (T := TX12) (N := 92) hx hb hts inlX12 hown hK hP 0 rfl rfl 43 (Nat.le_of_ble_eq_true rfl) w_5_198 rfl dX12_laysWays_64 ?_
                          refine lv_bipush (v := 10) hx hb dX12_laysWays_67 (by decide) ?_
                          refine lv_iload_n hx hb dX12_laysWays_69 rfl (lv_at hl 3 rfl) ?_
                          refine lv_iconst (v := 1) hx hb dX12_laysWays_70 ic_1 ?_
                          refine lv_iadd hx hb dX12_laysWays_71 ?_
                          refine sk_top (nI (dd - 1 + 1)) (nI_add (dd - 1) 1) ?_
                          refine lv_imul hx hb dX12_laysWays_72 ?_
                          refine sk_top (nI (10 * (dd - 1 + 1))) (nmul 10 (dd - 1 + 1)) ?_
                          refine lv_iload hx hb dX12_laysWays_73 (lv_at hl 0 rfl) ?_
                          refine lv_iadd hx hb dX12_laysWays_75 ?_
                          refine sk_top (nI (10 * (dd - 1 + 1) + kk)) (nI_add (10 * (dd - 1 + 1)) kk) ?_
                          refine va_lald hx hb hK.1 hP 5 1 rfl rfl (vin (10 * (dd - 1 + 1) + kk) 90 (by omega) (Nat.le_of_ble_eq_true rfl)) dX12_laysWays_76 ?_
                          refine lv_topl (fun v_104 ev_104 => ?_)
                          refine lv_ladd hx hb dX12_laysWays_77 ?_
                          refine lv_topl (fun v_105 ev_105 => ?_)
                          refine lv_lstore (lv' := [(4, .long v_105), (6, .int (nI kk)), (3, .int (nI jm)), (2, .int (nI (dd - 1))), (1, .int (nI dm - 1)), (0, .ref mm)]) hx hb dX12_laysWays_78 hl (by decide) rfl (fun ls hl => ?_)
                          refine lv_iinc (v := nI (kk + 1)) (lv' := [(6, .int (nI (kk + 1))), (4, .long v_105), (3, .int (nI jm)), (2, .int (nI (dd - 1))), (1, .int (nI dm - 1)), (0, .ref mm)]) hx hb dX12_laysWays_80 hl (k := 1) rfl (ninc kk 1 (by decide)) (by decide) rfl (fun ls hl => ?_)
                          refine lv_goto (tgt := 36) hx hb dX12_laysWays_83 (by decide) ?_
                          exact ih_lp_89 (kk + 1) v_105 _ _ _ (by omega) (by omega) (bx_yes hbx (by omega) (or_1 hb1_99 (by omega)) (be_get hbe2.1 (by omega) (by omega) (by omega) (by omega) ev_104) ev_105) hP hD hS (lv_sub hl [0, 1, 2, 3, 4, 5] rfl)
                exact lp_89 (10 - 0 + 1) 0 0 _ _ _ (Nat.lt_succ_self _) (by omega) (Or.inr ⟨by omega, rfl⟩) hP hD hS (lv_sub hl [0, 1, 2, 3, 4, 5] rfl)
              · have c_88 : ((dd - 1 : Nat) : Int) = ((dm : Nat) : Int) - 1 := (ieq (ivn (dd - 1) (by omega)) (ivp dm (by omega))).mp c_88
                refine lv_lconst (v := 1) hx hb dX12_laysWays_26 (by decide) ?_
                refine lv_goto (tgt := 31) hx hb dX12_laysWays_27 (by decide) ?_
                refine lv_lstore (lv' := [(4, .long 1), (3, .int (nI jm)), (2, .int (nI (dd - 1))), (1, .int (nI dm - 1)), (0, .ref mm)]) hx hb dX12_laysWays_31 hl (by decide) rfl (fun ls hl => ?_)
                refine lv_iconst (v := 0) hx hb dX12_laysWays_33 ic_0 ?_
                refine lv_istore (lv' := [(6, .int 0), (4, .long 1), (3, .int (nI jm)), (2, .int (nI (dd - 1))), (1, .int (nI dm - 1)), (0, .ref mm)]) hx hb dX12_laysWays_34 hl (by decide) rfl (fun ls hl => ?_)
                have lp_106 : ∀ (n_107 : Nat) (kk : Nat) (xn : Int64) (H : Heap) (locs : List Loc) (ls : Array Slot), 10 - kk < n_107 → (kk ≤ 10) → (bx (cfN nw yw yo mt_) dm (dd - 1) jm kk xn) → va_P D vwCl [ro_ mm 12 (mo g (nI ta) (nI pa) (nI pe) pd (nI pb) pp pf pg pn rt rn (nI cd) sn (nI il) tk am at_ aa mt_ 0 (-1) wt wy (nI it_) (nI rm) (nI ud) (nI nu) sd (nI qn) (nI qw) qo (nI qb) (nI qp) qa (nI qi) (nI oc)), ra_I (g 20) cI 4 (l4 (nI l0) (nI l1) (nI dm) (nI l3)), ra_I (g 31) cI 120 nw, ra_I (g 37) cZ 900 yo, ra_I (g 36) cZ 900 yw, ra_J (g 43) cJ 90 zc, ra_J (g 44) cJ 90 bf] H → va_D A [ro_ mm 12 (mo g (nI ta) (nI pa) (nI pe) pd (nI pb) pp pf pg pn rt rn (nI cd) sn (nI il) tk am at_ aa mt_ 0 (-1) wt wy (nI it_) (nI rm) (nI ud) (nI nu) sd (nI qn) (nI qw) qo (nI qb) (nI qp) qa (nI qi) (nI oc)), ra_I (g 20) cI 4 (l4 (nI l0) (nI l1) (nI dm) (nI l3)), ra_I (g 31) cI 120 nw, ra_I (g 37) cZ 900 yo, ra_I (g 36) cZ 900 yw, ra_J (g 43) cJ 90 zc, ra_J (g 44) cJ 90 bf] → va_S A s.heap H locs → lv_has ls 7 [(6, .int (nI kk)), (4, .long xn), (3, .int (nI jm)), (2, .int (nI (dd - 1))), (1, .int (nI dm - 1)), (0, .ref mm)] → W p l e { frames := 3, cells := 0, slots := 0, locals := 66 } s m ([.ref mm] : List Value).toArray below meth c H locs 0 0 (MQ below (skV D (skT cI cJ cC cZ cS) (fun (u : va_W) => ∃ (wy2 : Int64), ∃ (be2 : Nat → Int64), ∃ (bf2 : Nat → Int64), beOk (cfN nw yw yo mt_) dm 0 be2 ∧ bfOk (cfN nw yw yo mt_) (a0N nw) dm bf2 ∧ wy2 = nL (wys (cfN nw yw yo mt_) (a0N nw) (dm - 1)) ∧ u = [ro_ mm 12 (mo g (nI ta) (nI pa) (nI pe) pd (nI pb) pp pf pg pn rt rn (nI cd) sn (nI il) tk am at_ aa mt_ 0 (-1) wt wy2 (nI it_) (nI rm) (nI ud) (nI nu) sd (nI qn) (nI qw) qo (nI qb) (nI qp) qa (nI qi) (nI oc)), ra_I (g 20) cI 4 (l4 (nI l0) (nI l1) (nI dm) (nI l3)), ra_I (g 31) cI 120 nw, ra_I (g 37) cZ 900 yo, ra_I (g 36) cZ 900 yw, ra_J (g 43) cJ 90 be2, ra_J (g 44) cJ 90 bf2]) A) ([.ref mm] : List Value).toArray s 0 0 A) (F0 m 36 ls []) := by
                  intro n_107
                  induction n_107 with
                  | zero => intro kk xn H locs ls hm; exact absurd hm (Nat.not_lt_zero _)
                  | succ n_107 ih_lp_106 =>
                    intro kk xn H locs ls hm hkk hbx hP hD hS hl
                    refine lv_iload hx hb dX12_laysWays_36 (lv_at hl 0 rfl) ?_
                    refine lv_bipush (v := 10) hx hb dX12_laysWays_38 (by decide) ?_
                    refine lv_icmp_ge (tgt := 86) hx hb dX12_laysWays_40 (by decide) (fun c_108 => ?_) (fun c_108 => ?_)
                    · have c_108 : 10 ≤ kk := (nle 10 kk (Nat.le_of_ble_eq_true rfl) (by omega)).mp c_108
                      refine lv_aload_n hx hb dX12_laysWays_86 rfl (lv_at hl 5 rfl) ?_
                      refine sk_get (v := .ref (g 43)) (C := RX12) (T := TX12) (N := 92) hx hb hts inlX12 hown hK hP 0 rfl rfl 43 (Nat.le_of_ble_eq_true rfl) w_5_198 rfl dX12_laysWays_87 ?_
                      refine lv_bipush (v := 10) hx hb dX12_laysWays_90 (by decide) ?_
                      refine lv_iload_n hx hb dX12_laysWays_92 rfl (lv_at hl 3 rfl) ?_
                      refine lv_imul hx hb dX12_laysWays_93 ?_
                      refine sk_top (nI (10 * (dd - 1))) (nmul 10 (dd - 1)) ?_
                      refine lv_iload_n hx hb dX12_laysWays_94 rfl (lv_at hl 2 rfl) ?_
                      refine lv_iadd hx hb dX12_laysWays_95 ?_
                      refine sk_top (nI (10 * (dd - 1) + jm)) (nI_add (10 * (dd - 1)) jm) ?_
                      refine lv_lload hx hb dX12_laysWays_96 (lv_at hl 1 rfl) ?_
                      refine sk_lastP (Pr := beOk2 (cfN nw yw yo mt_) dm (dd - 1) (jm + 1)) (ws' := fun f_109 => [ro_ mm 12 (mo g (nI ta) (nI pa) (nI pe) pd (nI pb) pp pf pg pn rt rn (nI cd) sn (nI il) tk am at_ aa mt_ 0 (-1) wt wy (nI it_) (nI rm) (nI ud) (nI nu) sd (nI qn) (nI qw) qo (nI qb) (nI qp) qa (nI qi) (nI oc)), ra_I (g 20) cI 4 (l4 (nI l0) (nI l1) (nI dm) (nI l3)), ra_I (g 31) cI 120 nw, ra_I (g 37) cZ 900 yo, ra_I (g 36) cZ 900 yw, ra_J (g 43) cJ 90 f_109, ra_J (g 44) cJ 90 bf]) hx hb hK hP hD hS 5 1 rfl rfl (vin (10 * (dd - 1) + jm) 90 (by omega) (Nat.le_of_ble_eq_true rfl)) (fun _ => rfl) (be_store hbe2 (by omega) (by omega) (bx_fin hbx (by omega))) dX12_laysWays_98 (fun f_109 H locs hf_110 hP hD hS => ?_)
                      refine lv_iinc (v := nI (jm + 1)) (lv' := [(3, .int (nI (jm + 1))), (6, .int (nI kk)), (4, .long xn), (2, .int (nI (dd - 1))), (1, .int (nI dm - 1)), (0, .ref mm)]) hx hb dX12_laysWays_99 hl (k := 2) rfl (ninc jm 1 (by decide)) (by decide) rfl (fun ls hl => ?_)
                      refine lv_goto (tgt := 15) hx hb dX12_laysWays_102 (by decide) ?_
                      exact ih_lp_85 (jm + 1) f_109 _ _ _ (by omega) (by omega) hf_110 hP hD hS (lv_sub hl [0, 3, 4, 5] rfl)
                    · have c_108 : ¬ (10 ≤ kk) := fun h => c_108 ((nle 10 kk (Nat.le_of_ble_eq_true rfl) (by omega)).mpr h)
                      refine lv_iload_n hx hb dX12_laysWays_43 rfl (lv_at hl 3 rfl) ?_
                      refine lv_iload_n hx hb dX12_laysWays_44 rfl (lv_at hl 4 rfl) ?_
                      refine lv_icmp_ge (tgt := 86) hx hb dX12_laysWays_45 (by decide) (fun c_111 => ?_) (fun c_111 => ?_)
                      · have c_111 : ((dm : Nat) : Int) - 1 ≤ ((dd - 1 : Nat) : Int) := (ile (ivp dm (by omega)) (ivn (dd - 1) (by omega))).mp c_111
                        refine lv_aload_n hx hb dX12_laysWays_86 rfl (lv_at hl 5 rfl) ?_
                        refine sk_get (v := .ref (g 43)) (C := RX12) (T := TX12) (N := 92) hx hb hts inlX12 hown hK hP 0 rfl rfl 43 (Nat.le_of_ble_eq_true rfl) w_5_198 rfl dX12_laysWays_87 ?_
                        refine lv_bipush (v := 10) hx hb dX12_laysWays_90 (by decide) ?_
                        refine lv_iload_n hx hb dX12_laysWays_92 rfl (lv_at hl 3 rfl) ?_
                        refine lv_imul hx hb dX12_laysWays_93 ?_
                        refine sk_top (nI (10 * (dd - 1))) (nmul 10 (dd - 1)) ?_
                        refine lv_iload_n hx hb dX12_laysWays_94 rfl (lv_at hl 2 rfl) ?_
                        refine lv_iadd hx hb dX12_laysWays_95 ?_
                        refine sk_top (nI (10 * (dd - 1) + jm)) (nI_add (10 * (dd - 1)) jm) ?_
                        refine lv_lload hx hb dX12_laysWays_96 (lv_at hl 1 rfl) ?_
                        refine sk_lastP (Pr := beOk2 (cfN nw yw yo mt_) dm (dd - 1) (jm + 1)) (ws' := fun f_112 => [ro_ mm 12 (mo g (nI ta) (nI pa) (nI pe) pd (nI pb) pp pf pg pn rt rn (nI cd) sn (nI il) tk am at_ aa mt_ 0 (-1) wt wy (nI it_) (nI rm) (nI ud) (nI nu) sd (nI qn) (nI qw) qo (nI qb) (nI qp) qa (nI qi) (nI oc)), ra_I (g 20) cI 4 (l4 (nI l0) (nI l1) (nI dm) (nI l3)), ra_I (g 31) cI 120 nw, ra_I (g 37) cZ 900 yo, ra_I (g 36) cZ 900 yw, ra_J (g 43) cJ 90 f_112, ra_J (g 44) cJ 90 bf]) hx hb hK hP hD hS 5 1 rfl rfl (vin (10 * (dd - 1) + jm) 90 (by omega) (Nat.le_of_ble_eq_true rfl)) (fun _ => rfl) (be_store hbe2 (by omega) (by omega) (bx_fin hbx (by omega))) dX12_laysWays_98 (fun f_112 H locs hf_113 hP hD hS => ?_)
                        refine lv_iinc (v := nI (jm + 1)) (lv' := [(3, .int (nI (jm + 1))), (6, .int (nI kk)), (4, .long xn), (2, .int (nI (dd - 1))), (1, .int (nI dm - 1)), (0, .ref mm)]) hx hb dX12_laysWays_99 hl (k := 2) rfl (ninc jm 1 (by decide)) (by decide) rfl (fun ls hl => ?_)
                        refine lv_goto (tgt := 15) hx hb dX12_laysWays_102 (by decide) ?_
                        exact ih_lp_85 (jm + 1) f_112 _ _ _ (by omega) (by omega) hf_113 hP hD hS (lv_sub hl [0, 3, 4, 5] rfl)
                      · have c_111 : ¬ (((dm : Nat) : Int) - 1 ≤ ((dd - 1 : Nat) : Int)) := fun h => c_111 ((ile (ivp dm (by omega)) (ivn (dd - 1) (by omega))).mpr h)
                        refine lv_aload_n hx hb dX12_laysWays_48 rfl (lv_at hl 5 rfl) ?_
                        refine lv_iload_n hx hb dX12_laysWays_49 rfl (lv_at hl 3 rfl) ?_
                        refine lv_iconst (v := 1) hx hb dX12_laysWays_50 ic_1 ?_
                        refine lv_iadd hx hb dX12_laysWays_51 ?_
                        refine sk_top (nI (dd - 1 + 1)) (nI_add (dd - 1) 1) ?_
                        refine lv_iload_n hx hb dX12_laysWays_52 rfl (lv_at hl 2 rfl) ?_
                        refine lv_iload hx hb dX12_laysWays_53 (lv_at hl 0 rfl) ?_
                        refine sk_Vi (q0 := 0) (n := 3) (rest := []) (wr := fmR om_7_5c _) ⟨hx, hb, hml, hown, hts⟩ hl.1 (c_m_canFollow0 l D cI cJ cC cZ cS mm g ta pa pe pd pb pp pf pg pn rt rn cd sn il tk am at_ aa mt_ wt wy it_ rm ud nu sd qn qw qo qb qp qa qi oc (dd - 1 + 1) jm kk nw yo yw (by omega) (by omega) (by omega) hnw) w_7_201 w_7_203 w_0_85 w_1_14 w_7_204 hd_X12_canFollow_3 ⟨⟨(Nat.le_of_ble_eq_true rfl), (Nat.le_of_ble_eq_true rfl)⟩, (Nat.le_of_ble_eq_true rfl), (Nat.le_of_ble_eq_true rfl)⟩ hK hP hD hS hA (fmT om_7_5c 0) (fmF om_7_5c 0) (fm_C1 rfl rfl) (fm_R rfl rfl) (fm_nT om_7_5c 0) (fm_nF om_7_5c 0) (fm_di om_7_5c 0) rfl rfl rfl rfl (Nat.le_of_ble_eq_true rfl) dX12_laysWays_55 (fun r_115 u H locs hw hP hD hS => ?_)
                        refine exE hw (fun b_114 hw1 => anE hw1 (fun hb1_116 hw2 => anE hw2 (fun hb2_117 hw3 => anE hw3 (fun er_119 eu_118 => ?_))))
                        clear hw hw1 hw2 hw3
                        subst er_119
                        refine o_mgE (ws' := [ro_ mm 12 (mo g (nI ta) (nI pa) (nI pe) pd (nI pb) pp pf pg pn rt rn (nI cd) sn (nI il) tk am at_ aa mt_ 0 (-1) wt wy (nI it_) (nI rm) (nI ud) (nI nu) sd (nI qn) (nI qw) qo (nI qb) (nI qp) qa (nI qi) (nI oc)), ra_I (g 20) cI 4 (l4 (nI l0) (nI l1) (nI dm) (nI l3)), ra_I (g 31) cI 120 nw, ra_I (g 37) cZ 900 yo, ra_I (g 36) cZ 900 yw, ra_J (g 43) cJ 90 zc, ra_J (g 44) cJ 90 bf]) eu_118 hP hD rfl (fun hP hD => ?_)
                        refine lv_if_eq (tgt := 80) hx hb dX12_laysWays_58 (by decide) (fun c_120 => ?_) (fun c_120 => ?_)
                        · have c_120 : b_114 = 0 := (neq b_114 0 (by omega) (Nat.le_of_ble_eq_true rfl)).mp c_120
                          refine lv_iinc (v := nI (kk + 1)) (lv' := [(6, .int (nI (kk + 1))), (4, .long xn), (3, .int (nI jm)), (2, .int (nI (dd - 1))), (1, .int (nI dm - 1)), (0, .ref mm)]) hx hb dX12_laysWays_80 hl (k := 0) rfl (ninc kk 1 (by decide)) (by decide) rfl (fun ls hl => ?_)
                          refine lv_goto (tgt := 36) hx hb dX12_laysWays_83 (by decide) ?_
                          exact ih_lp_106 (kk + 1) xn _ _ _ (by omega) (by omega) (bx_no hbx (by omega) (or_0 hb1_116 (by omega))) hP hD hS (lv_sub hl [0, 1, 2, 3, 4, 5] rfl)
                        · have c_120 : ¬ (b_114 = 0) := fun h => c_120 ((neq b_114 0 (by omega) (Nat.le_of_ble_eq_true rfl)).mpr h)
                          refine lv_lload hx hb dX12_laysWays_61 (lv_at hl 1 rfl) ?_
                          refine lv_aload_n hx hb dX12_laysWays_63 rfl (lv_at hl 5 rfl) ?_
                          refine sk_get (v := .ref (g 43)) (C := RX12) (T := TX12) (N := 92) hx hb hts inlX12 hown hK hP 0 rfl rfl 43 (Nat.le_of_ble_eq_true rfl) w_5_198 rfl dX12_laysWays_64 ?_
                          refine lv_bipush (v := 10) hx hb dX12_laysWays_67 (by decide) ?_
                          refine lv_iload_n hx hb dX12_laysWays_69 rfl (lv_at hl 3 rfl) ?_
                          refine lv_iconst (v := 1) hx hb dX12_laysWays_70 ic_1 ?_
                          refine lv_iadd hx hb dX12_laysWays_71 ?_
                          refine sk_top (nI (dd - 1 + 1)) (nI_add (dd - 1) 1) ?_
                          refine lv_imul hx hb dX12_laysWays_72 ?_
                          refine sk_top (nI (10 * (dd - 1 + 1))) (nmul 10 (dd - 1 + 1)) ?_
                          refine lv_iload hx hb dX12_laysWays_73 (lv_at hl 0 rfl) ?_
                          refine lv_iadd hx hb dX12_laysWays_75 ?_
                          refine sk_top (nI (10 * (dd - 1 + 1) + kk)) (nI_add (10 * (dd - 1 + 1)) kk) ?_
                          refine va_lald hx hb hK.1 hP 5 1 rfl rfl (vin (10 * (dd - 1 + 1) + kk) 90 (by omega) (Nat.le_of_ble_eq_true rfl)) dX12_laysWays_76 ?_
                          refine lv_topl (fun v_121 ev_121 => ?_)
                          refine lv_ladd hx hb dX12_laysWays_77 ?_
                          refine lv_topl (fun v_122 ev_122 => ?_)
                          refine lv_lstore (lv' := [(4, .long v_122), (6, .int (nI kk)), (3, .int (nI jm)), (2, .int (nI (dd - 1))), (1, .int (nI dm - 1)), (0, .ref mm)]) hx hb dX12_laysWays_78 hl (by decide) rfl (fun ls hl => ?_)
                          refine lv_iinc (v := nI (kk + 1)) (lv' := [(6, .int (nI (kk + 1))), (4, .long v_122), (3, .int (nI jm)), (2, .int (nI (dd - 1))), (1, .int (nI dm - 1)), (0, .ref mm)]) hx hb dX12_laysWays_80 hl (k := 1) rfl (ninc kk 1 (by decide)) (by decide) rfl (fun ls hl => ?_)
                          refine lv_goto (tgt := 36) hx hb dX12_laysWays_83 (by decide) ?_
                          exact ih_lp_106 (kk + 1) v_122 _ _ _ (by omega) (by omega) (bx_yes hbx (by omega) (or_1 hb1_116 (by omega)) (be_get hbe2.1 (by omega) (by omega) (by omega) (by omega) ev_121) ev_122) hP hD hS (lv_sub hl [0, 1, 2, 3, 4, 5] rfl)
                exact lp_106 (10 - 0 + 1) 0 1 _ _ _ (Nat.lt_succ_self _) (by omega) (Or.inl ⟨by omega, rfl⟩) hP hD hS (lv_sub hl [0, 1, 2, 3, 4, 5] rfl)
        exact lp_85 (10 - 0 + 1) 0 zb _ _ _ (Nat.lt_succ_self _) (by omega) (be_0 hbe (by omega)) hP hD hS (lv_sub hl [0, 1, 2, 3] rfl)
  exact lp_4 (dm + 1) dm be _ _ _ (Nat.lt_succ_self _) (by omega) (be_init _ _ _) hP hD hS (lv_sub hl [0, 1, 2] rfl)
set_option maxHeartbeats 4000000 in
set_option maxRecDepth 100000 in
theorem c_vm_laysAllF (l : Launch) (D : va_G) (cI cJ cC cZ cS : ClassId) (mm : Nat) (g : Nat → Nat) (ta : Nat) (pa : Nat) (pe : Nat) (pd : Int32) (pb : Nat) (pp : Int32) (pf : Int32) (pg : Int32) (pn : Int32) (rt : Int32) (rn : Int32) (cd : Nat) (sn : Int32) (il : Nat) (tk : Int32) (am : Int32) (at_ : Int32) (aa : Int32) (wt : Int32) (wy : Int64) (rm : Nat) (ud : Nat) (nu : Nat) (sd : Int64) (qn : Nat) (qw : Nat) (qo : Int32) (qb : Nat) (qp : Nat) (qa : Int64) (qi : Nat) (oc : Nat) (u0 : Int32) (u1 : Int32) (u2 : Int32) (u3 : Int32) (u4 : Int32) (u5 : Int32) (v0 : Int32) (v1 : Int32) (v2 : Int32) (v3 : Int32) (v4 : Int32) (v5 : Int32) (cs : Nat → Nat) (nw : Nat → Int32) (pt : Nat → Nat) (ql : Nat → Int64) (l0 : Nat) (l1 : Nat) (dm : Nat) (l3 : Nat) (ws_ : Nat → Int32) (yw : Nat → Int32) (yo : Nat → Int32) (be : Nat → Int64) (bf : Nat → Int64) (wn : Nat) (mN : Nat) (Ba : Nat → Nat) (We : Nat → Nat) (U : Nat → Bool) (ke : Nat) (lg : KLg) (L : LkS) (hdm : dm ≤ 9) (hdm1 : 1 ≤ dm) (hLk : kcLk L) (hkl : (lK L).length ≤ 1600) (hmw0 : mwO L 0 u3 v3 cs) (hmw1 : mwO L 1 u4 v4 cs) (hB9 : ∀ j, Ba j ≤ 9) (hW9 : ∀ j, We j ≤ 9) (hwk : wn ≤ 999) (hcs : ∀ j, cs j ≤ 20000) (hnw : nwX wn mN Ba We U ke lg nw) (hpt : ∀ j, pt j ≤ 9) : skM l yX12_laysAll cX12_laysAll 1 none 5 122 0 0 D (skT cI cJ cC cZ cS) [.ref mm] [ro_ mm 12 (mo g (nI ta) (nI pa) (nI pe) pd (nI pb) pp pf pg pn rt rn (nI cd) sn (nI il) tk am at_ aa 0 0 (-1) wt wy 0 (nI rm) (nI ud) (nI nu) sd (nI qn) (nI qw) qo (nI qb) (nI qp) qa (nI qi) (nI oc)), ra_I (g 24) cI 6 (l6 u0 u1 u2 u3 u4 u5), ra_I (g 25) cI 6 (l6 v0 v1 v2 v3 v4 v5), ra_N (g 26) cI 3200 cs, ra_I (g 31) cI 120 nw, ra_N (g 46) cI 9 pt, ra_J (g 86) cJ 1700 ql, ra_I (g 20) cI 4 (l4 (nI l0) (nI l1) (nI dm) (nI l3)), ra_I (g 38) cI 90 ws_, ra_I (g 36) cZ 900 yw, ra_I (g 37) cZ 900 yo, ra_J (g 43) cJ 90 be, ra_J (g 44) cJ 90 bf] (skV D (skT cI cJ cC cZ cS) (fun (u : va_W) => ∃ (tk2 : Int32), ∃ (qp2 : Nat), ∃ (am2 : Int32), ∃ (at_2 : Int32), ∃ (aa2 : Int32), ∃ (wy2 : Int64), ∃ (ql2 : Nat → Int64), ∃ (ws_2 : Nat → Int32), ∃ (yw2 : Nat → Int32), ∃ (yo2 : Nat → Int32), ∃ (be2 : Nat → Int64), ∃ (bf2 : Nat → Int64), mwY (kcFo L wn Ba We U 0) dm mN be2 bf2 ∧ beOk (cfN nw yw2 yo2 0) dm 0 be2 ∧ (∀ d, d < dm → ∀ a m, a < 10 → m < 10 → (cfN nw yw2 yo2 0) d a m = (kcFo L wn Ba We U 0) d a m) ∧ wy2 = Int64.ofNat (kcC (kcFo L wn Ba We U 0) dm 0 mN) ∧ u = [ro_ mm 12 (mo g (nI ta) (nI pa) (nI pe) pd (nI pb) pp pf pg pn rt rn (nI cd) sn (nI il) tk2 am2 at_2 aa2 0 0 (-1) wt wy2 0 (nI rm) (nI ud) (nI nu) sd (nI qn) (nI qw) qo (nI qb) (nI qp2) qa (nI qi) (nI oc)), ra_I (g 24) cI 6 (l6 u0 u1 u2 u3 u4 u5), ra_I (g 25) cI 6 (l6 v0 v1 v2 v3 v4 v5), ra_N (g 26) cI 3200 cs, ra_I (g 31) cI 120 nw, ra_N (g 46) cI 9 pt, ra_J (g 86) cJ 1700 ql2, ra_I (g 20) cI 4 (l4 (nI l0) (nI l1) (nI dm) (nI l3)), ra_I (g 38) cI 90 ws_2, ra_I (g 36) cZ 900 yw2, ra_I (g 37) cZ 900 yo2, ra_J (g 43) cJ 90 be2, ra_J (g 44) cJ 90 bf2])) := by
  refine skM_of pf_X12_laysAll (Nat.le_of_ble_eq_true rfl) ?_
  intro p e s m below meth c A ls E hP hD hl
  refine skE_el E (fun hx hb hr hml hlocks hin hown hts hK hA => ?_)
  have hown : s.vm.findClass RX12 = some m.cls := hown
  have hS : va_S A s.heap s.heap [] := va_S.rf
  have hl : lv_has ls 1 [(0, .ref mm)] := hl
  refine lv_aload_n hx hb dX12_laysAll_0 rfl (lv_at hl 0 rfl) ?_
  refine lv_iconst (v := 0) hx hb dX12_laysAll_1 ic_0 ?_
  refine sk_Vv (q0 := 0) (n := 1) (rest := []) (wr := fmR om_13_1ffc _) ⟨hx, hb, hml, hown, hts⟩ hl.1 (c_nm_laysDays l D cI cJ cC cZ cS mm g ta pa pe pd pb pp pf pg pn rt rn cd sn il tk am at_ aa 0 wt wy 0 rm ud nu sd qn qw qo qb qp qa qi oc 0 u0 u1 u2 u3 u4 u5 v0 v1 v2 v3 v4 v5 cs nw pt ql l0 l1 dm l3 ws_ yw yo L wn Ba We hdm (by decide) hLk hkl hmw0 hmw1 hB9 hW9 hwk (fun d hd => nwX_md hnw (by omega)) hcs (nwX_ok hnw) hpt) w_7_193 w_7_195 w_0_83 w_1_14 w_7_196 hd_X12_laysDays_1 ⟨⟨(Nat.le_of_ble_eq_true rfl), (Nat.le_of_ble_eq_true rfl)⟩, (Nat.le_of_ble_eq_true rfl), (Nat.le_of_ble_eq_true rfl)⟩ hK hP hD hS hA (fmT om_13_1ffc 0) (fmF om_13_1ffc 0) (fm_C1 rfl rfl) (fm_R rfl rfl) (fm_nT om_13_1ffc 0) (fm_nF om_13_1ffc 0) (fm_di om_13_1ffc 0) rfl rfl rfl rfl (Nat.le_of_ble_eq_true rfl) dX12_laysAll_2 (fun u H locs hw hP hD hS => ?_)
  refine exE hw (fun tk2_1 hw1 => exE hw1 (fun qp2_2 hw2 => exE hw2 (fun am2_3 hw3 => exE hw3 (fun at_2_4 hw4 => exE hw4 (fun aa2_5 hw5 => exE hw5 (fun ql2_6 hw6 => exE hw6 (fun ws_2_7 hw7 => exE hw7 (fun yw2_8 hw8 => exE hw8 (fun yo2_9 hw9 => anE hw9 (fun hld_10 eu_11 => ?_))))))))))
  clear hw hw1 hw2 hw3 hw4 hw5 hw6 hw7 hw8 hw9
  refine o_mgE (ws' := [ro_ mm 12 (mo g (nI ta) (nI pa) (nI pe) pd (nI pb) pp pf pg pn rt rn (nI cd) sn (nI il) tk2_1 am2_3 at_2_4 aa2_5 0 0 (-1) wt wy 0 (nI rm) (nI ud) (nI nu) sd (nI qn) (nI qw) qo (nI qb) (nI qp2_2) qa (nI qi) (nI oc)), ra_I (g 24) cI 6 (l6 u0 u1 u2 u3 u4 u5), ra_I (g 25) cI 6 (l6 v0 v1 v2 v3 v4 v5), ra_N (g 26) cI 3200 cs, ra_I (g 31) cI 120 nw, ra_N (g 46) cI 9 pt, ra_J (g 86) cJ 1700 ql2_6, ra_I (g 20) cI 4 (l4 (nI l0) (nI l1) (nI dm) (nI l3)), ra_I (g 38) cI 90 ws_2_7, ra_I (g 36) cZ 900 yw2_8, ra_I (g 37) cZ 900 yo2_9, ra_J (g 43) cJ 90 be, ra_J (g 44) cJ 90 bf]) eu_11 hP hD rfl (fun hP hD => ?_)
  refine lv_aload_n hx hb dX12_laysAll_5 rfl (lv_at hl 0 rfl) ?_
  refine sk_Vv (q0 := 0) (n := 0) (rest := []) (wr := fmR om_13_112f _) ⟨hx, hb, hml, hown, hts⟩ hl.1 (c_vm_laysWaysF l D cI cJ cC cZ cS mm g ta pa pe pd pb pp pf pg pn rt rn cd sn il tk2_1 am2_3 at_2_4 aa2_5 0 wt wy 0 rm ud nu sd qn qw qo qb qp2_2 qa qi oc l0 l1 dm l3 nw yo2_9 yw2_8 be bf hdm hdm1 (nwX_ok hnw)) w_7_197 w_7_199 w_0_84 w_1_14 w_7_200 hd_X12_laysWays_0 ⟨⟨(Nat.le_of_ble_eq_true rfl), (Nat.le_of_ble_eq_true rfl)⟩, (Nat.le_of_ble_eq_true rfl), (Nat.le_of_ble_eq_true rfl)⟩ hK hP hD hS hA [0, 7, 4, 10, 9, 11, 12] (fmF om_13_112f 0) rfl (fm_R rfl rfl) (by decide +kernel) (fm_nF om_13_112f 0) (by decide +kernel) rfl rfl rfl rfl (Nat.le_of_ble_eq_true rfl) dX12_laysAll_6 (fun u H locs hw hP hD hS => ?_)
  refine exE hw (fun wy2_12 hw1 => exE hw1 (fun be2_13 hw2 => exE hw2 (fun bf2_14 hw3 => anE hw3 (fun hbe_15 hw4 => anE hw4 (fun hbf_16 hw5 => anE hw5 (fun hwy_17 eu_18 => ?_))))))
  clear hw hw1 hw2 hw3 hw4 hw5
  refine o_mgqE (ux := [ro_ mm 12 (mo g (nI ta) (nI pa) (nI pe) pd (nI pb) pp pf pg pn rt rn (nI cd) sn (nI il) tk2_1 am2_3 at_2_4 aa2_5 0 0 (-1) wt wy2_12 0 (nI rm) (nI ud) (nI nu) sd (nI qn) (nI qw) qo (nI qb) (nI qp2_2) qa (nI qi) (nI oc)), ra_I (g 31) cI 120 nw, ra_I (g 20) cI 4 (l4 (nI l0) (nI l1) (nI dm) (nI l3)), ra_I (g 36) cZ 900 yw2_8, ra_I (g 37) cZ 900 yo2_9, ra_J (g 43) cJ 90 be2_13, ra_J (g 44) cJ 90 bf2_14]) (ws' := [ro_ mm 12 (mo g (nI ta) (nI pa) (nI pe) pd (nI pb) pp pf pg pn rt rn (nI cd) sn (nI il) tk2_1 am2_3 at_2_4 aa2_5 0 0 (-1) wt wy2_12 0 (nI rm) (nI ud) (nI nu) sd (nI qn) (nI qw) qo (nI qb) (nI qp2_2) qa (nI qi) (nI oc)), ra_I (g 24) cI 6 (l6 u0 u1 u2 u3 u4 u5), ra_I (g 25) cI 6 (l6 v0 v1 v2 v3 v4 v5), ra_N (g 26) cI 3200 cs, ra_I (g 31) cI 120 nw, ra_N (g 46) cI 9 pt, ra_J (g 86) cJ 1700 ql2_6, ra_I (g 20) cI 4 (l4 (nI l0) (nI l1) (nI dm) (nI l3)), ra_I (g 38) cI 90 ws_2_7, ra_I (g 36) cZ 900 yw2_8, ra_I (g 37) cZ 900 yo2_9, ra_J (g 43) cJ 90 be2_13, ra_J (g 44) cJ 90 bf2_14]) eu_18 [0, 2, 1, 4, 3, 5, 6] (by decide +kernel) rfl hP hD rfl (fun hP hD => ?_)
  exact sk_vret hx hb hr hlocks hK hP hD hS (⟨tk2_1, qp2_2, am2_3, at_2_4, aa2_5, wy2_12, ql2_6, ws_2_7, yw2_8, yo2_9, be2_13, bf2_14, (mwX (cfX hnw hld_10 (by omega)) (nwX_a0 hnw) hnw.1 hbe_15 hbf_16), hbe_15, (cfX hnw hld_10 (by omega)), (hwy_17.trans (congrArg Int64.ofNat (wyX (cfX hnw hld_10 (by omega)) (by omega) (nwX_a0 hnw) hnw.1))), rfl⟩) (Nat.le_of_ble_eq_true rfl) (Nat.le_of_ble_eq_true rfl) dX12_laysAll_9
theorem dg_X12_many_0_0 : bqL cX12_many 0 [(0, [42]), (1, [27]), (2, [182, 1, 157]), (5, [153, 0, 11]), (16, [20, 1, 165]), (19, [173]), (8, [42]), (9, [28]), (10, [182, 1, 162]), (13, [154, 0, 7]), (20, [42]), (21, [182, 1, 144]), (24, [42]), (25, [180, 0, 86]), (28, [16, 10]), (30, [27]), (31, [104]), (32, [28]), (33, [96]), (34, [47]), (35, [42]), (36, [180, 0, 82]), (39, [16, 10]), (41, [27]), (42, [104]), (43, [28]), (44, [96]), (45, [47]), (46, [105]), (47, [173])] = true := by decide +kernel
theorem dX12_many_0 : decode cX12_many 0 = .ok (.aload_n 0, 1) := q_aload_n0 (bat_get dg_X12_many_0_0 0 rfl rfl)
theorem dX12_many_1 : decode cX12_many 1 = .ok (.iload_n 1, 1) := q_iload_n1 (bat_get dg_X12_many_0_0 1 rfl rfl)
theorem dX12_many_2 : decode cX12_many 2 = .ok (.invokevirtual 413, 3) := q_invokevirtual (bat_get dg_X12_many_0_0 2 rfl rfl) rfl
theorem dX12_many_5 : decode cX12_many 5 = .ok (.ifCond .eq 11, 3) := q_ifCond_eq (bat_get dg_X12_many_0_0 3 rfl rfl) rfl
theorem dX12_many_16 : decode cX12_many 16 = .ok (.ldc2_w 421, 3) := q_ldc2_w (bat_get dg_X12_many_0_0 4 rfl rfl) rfl
theorem dX12_many_19 : decode cX12_many 19 = .ok (.lreturn, 1) := q_lreturn (bat_get dg_X12_many_0_0 5 rfl rfl)
theorem dX12_many_8 : decode cX12_many 8 = .ok (.aload_n 0, 1) := q_aload_n0 (bat_get dg_X12_many_0_0 6 rfl rfl)
theorem dX12_many_9 : decode cX12_many 9 = .ok (.iload_n 2, 1) := q_iload_n2 (bat_get dg_X12_many_0_0 7 rfl rfl)
theorem dX12_many_10 : decode cX12_many 10 = .ok (.invokevirtual 418, 3) := q_invokevirtual (bat_get dg_X12_many_0_0 8 rfl rfl) rfl
theorem dX12_many_13 : decode cX12_many 13 = .ok (.ifCond .ne 7, 3) := q_ifCond_ne (bat_get dg_X12_many_0_0 9 rfl rfl) rfl
theorem dX12_many_20 : decode cX12_many 20 = .ok (.aload_n 0, 1) := q_aload_n0 (bat_get dg_X12_many_0_0 10 rfl rfl)
theorem dX12_many_21 : decode cX12_many 21 = .ok (.invokevirtual 400, 3) := q_invokevirtual (bat_get dg_X12_many_0_0 11 rfl rfl) rfl
theorem dX12_many_24 : decode cX12_many 24 = .ok (.aload_n 0, 1) := q_aload_n0 (bat_get dg_X12_many_0_0 12 rfl rfl)
theorem dX12_many_25 : decode cX12_many 25 = .ok (.getfield 86, 3) := q_getfield (bat_get dg_X12_many_0_0 13 rfl rfl) rfl
theorem dX12_many_28 : decode cX12_many 28 = .ok (.bipush 10, 2) := q_bipush (bat_get dg_X12_many_0_0 14 rfl rfl) rfl
theorem dX12_many_30 : decode cX12_many 30 = .ok (.iload_n 1, 1) := q_iload_n1 (bat_get dg_X12_many_0_0 15 rfl rfl)
theorem dX12_many_31 : decode cX12_many 31 = .ok (.imul, 1) := q_imul (bat_get dg_X12_many_0_0 16 rfl rfl)
theorem dX12_many_32 : decode cX12_many 32 = .ok (.iload_n 2, 1) := q_iload_n2 (bat_get dg_X12_many_0_0 17 rfl rfl)
theorem dX12_many_33 : decode cX12_many 33 = .ok (.iadd, 1) := q_iadd (bat_get dg_X12_many_0_0 18 rfl rfl)
theorem dX12_many_34 : decode cX12_many 34 = .ok (.laload, 1) := q_laload (bat_get dg_X12_many_0_0 19 rfl rfl)
theorem dX12_many_35 : decode cX12_many 35 = .ok (.aload_n 0, 1) := q_aload_n0 (bat_get dg_X12_many_0_0 20 rfl rfl)
theorem dX12_many_36 : decode cX12_many 36 = .ok (.getfield 82, 3) := q_getfield (bat_get dg_X12_many_0_0 21 rfl rfl) rfl
theorem dX12_many_39 : decode cX12_many 39 = .ok (.bipush 10, 2) := q_bipush (bat_get dg_X12_many_0_0 22 rfl rfl) rfl
theorem dX12_many_41 : decode cX12_many 41 = .ok (.iload_n 1, 1) := q_iload_n1 (bat_get dg_X12_many_0_0 23 rfl rfl)
theorem dX12_many_42 : decode cX12_many 42 = .ok (.imul, 1) := q_imul (bat_get dg_X12_many_0_0 24 rfl rfl)
theorem dX12_many_43 : decode cX12_many 43 = .ok (.iload_n 2, 1) := q_iload_n2 (bat_get dg_X12_many_0_0 25 rfl rfl)
theorem dX12_many_44 : decode cX12_many 44 = .ok (.iadd, 1) := q_iadd (bat_get dg_X12_many_0_0 26 rfl rfl)
theorem dX12_many_45 : decode cX12_many 45 = .ok (.laload, 1) := q_laload (bat_get dg_X12_many_0_0 27 rfl rfl)
theorem dX12_many_46 : decode cX12_many 46 = .ok (.lmul, 1) := q_lmul (bat_get dg_X12_many_0_0 28 rfl rfl)
theorem dX12_many_47 : decode cX12_many 47 = .ok (.lreturn, 1) := q_lreturn (bat_get dg_X12_many_0_0 29 rfl rfl)
theorem w_7_224 : (Cond.code yX12_many cX12_many 3 (some .long)) ∈ wsL_law := sk_mem (ck_7 _ (List.mem_of_getElem? (i := 224) rfl)) rfl
set_option maxHeartbeats 4000000 in
set_option maxRecDepth 100000 in
theorem c_vm_many (l : Launch) (D : va_G) (cI cJ cC cZ cS : ClassId) (mm : Nat) (g : Nat → Nat) (ta : Nat) (pa : Nat) (pe : Nat) (pd : Int32) (pb : Nat) (pp : Int32) (pf : Int32) (pg : Int32) (pn : Int32) (rt : Int32) (rn : Int32) (cd : Nat) (sn : Int32) (il : Nat) (tk : Int32) (am : Int32) (at_ : Int32) (aa : Int32) (wt : Int32) (wy : Int64) (rm : Nat) (ud : Nat) (nu : Nat) (sd : Int64) (qn : Nat) (qw : Nat) (qo : Int32) (qb : Nat) (qp : Nat) (qa : Int64) (qi : Nat) (oc : Nat) (d : Int32) (o : Int32) (u0 : Int32) (u1 : Int32) (u2 : Int32) (u3 : Int32) (u4 : Int32) (u5 : Int32) (v0 : Int32) (v1 : Int32) (v2 : Int32) (v3 : Int32) (v4 : Int32) (v5 : Int32) (cs : Nat → Nat) (nw : Nat → Int32) (pt : Nat → Nat) (ql : Nat → Int64) (l0 : Nat) (l1 : Nat) (dm : Nat) (l3 : Nat) (ws_ : Nat → Int32) (yw : Nat → Int32) (yo : Nat → Int32) (be : Nat → Int64) (bf : Nat → Int64) (wn : Nat) (mN : Nat) (Ba : Nat → Nat) (We : Nat → Nat) (U : Nat → Bool) (ke : Nat) (lg : KLg) (L : LkS) (hil : il ≤ 1) (hild : il = 1 → 1 ≤ dm) (hilb : 1 ≤ dm → il = 1) (hdm : dm ≤ 9) (hLk : kcLk L) (hkl : (lK L).length ≤ 1600) (hmw0 : mwO L 0 u3 v3 cs) (hmw1 : mwO L 1 u4 v4 cs) (hB9 : ∀ j, Ba j ≤ 9) (hW9 : ∀ j, We j ≤ 9) (hwk : wn ≤ 999) (hcs : ∀ j, cs j ≤ 20000) (hnw : nwX wn mN Ba We U ke lg nw) (hpt : ∀ j, pt j ≤ 9) : skM l yX12_many cX12_many 3 (some .long) 6 142 0 0 D (skT cI cJ cC cZ cS) [.ref mm, .int d, .int o] [ro_ mm 12 (mo g (nI ta) (nI pa) (nI pe) pd (nI pb) pp pf pg pn rt rn (nI cd) sn (nI il) tk am at_ aa 0 0 (-1) wt wy 0 (nI rm) (nI ud) (nI nu) sd (nI qn) (nI qw) qo (nI qb) (nI qp) qa (nI qi) (nI oc)), ra_I (g 24) cI 6 (l6 u0 u1 u2 u3 u4 u5), ra_I (g 25) cI 6 (l6 v0 v1 v2 v3 v4 v5), ra_N (g 26) cI 3200 cs, ra_I (g 31) cI 120 nw, ra_N (g 46) cI 9 pt, ra_J (g 86) cJ 1700 ql, ra_I (g 20) cI 4 (l4 (nI l0) (nI l1) (nI dm) (nI l3)), ra_I (g 38) cI 90 ws_, ra_I (g 36) cZ 900 yw, ra_I (g 37) cZ 900 yo, ra_J (g 43) cJ 90 be, ra_J (g 44) cJ 90 bf] (skL D (skT cI cJ cC cZ cS) (fun (r : Int64) (u : va_W) => ∃ (tk2 : Int32), ∃ (qp2 : Nat), ∃ (am2 : Int32), ∃ (at_2 : Int32), ∃ (aa2 : Int32), ∃ (wy2 : Int64), ∃ (ql2 : Nat → Int64), ∃ (ws_2 : Nat → Int32), ∃ (yw2 : Nat → Int32), ∃ (yo2 : Nat → Int32), ∃ (be2 : Nat → Int64), ∃ (bf2 : Nat → Int64), manyR (kcFo L wn Ba We U 0) dm mN d o r ∧ u = [ro_ mm 12 (mo g (nI ta) (nI pa) (nI pe) pd (nI pb) pp pf pg pn rt rn (nI cd) sn (nI il) tk2 am2 at_2 aa2 0 0 (-1) wt wy2 0 (nI rm) (nI ud) (nI nu) sd (nI qn) (nI qw) qo (nI qb) (nI qp2) qa (nI qi) (nI oc)), ra_I (g 24) cI 6 (l6 u0 u1 u2 u3 u4 u5), ra_I (g 25) cI 6 (l6 v0 v1 v2 v3 v4 v5), ra_N (g 26) cI 3200 cs, ra_I (g 31) cI 120 nw, ra_N (g 46) cI 9 pt, ra_J (g 86) cJ 1700 ql2, ra_I (g 20) cI 4 (l4 (nI l0) (nI l1) (nI dm) (nI l3)), ra_I (g 38) cI 90 ws_2, ra_I (g 36) cZ 900 yw2, ra_I (g 37) cZ 900 yo2, ra_J (g 43) cJ 90 be2, ra_J (g 44) cJ 90 bf2])) := by
  refine skM_of pf_X12_many (Nat.le_of_ble_eq_true rfl) ?_
  intro p e s m below meth c A ls E hP hD hl
  refine skE_el E (fun hx hb hr hml hlocks hin hown hts hK hA => ?_)
  have hown : s.vm.findClass RX12 = some m.cls := hown
  have hS : va_S A s.heap s.heap [] := va_S.rf
  have hl : lv_has ls 3 [(0, .ref mm), (1, .int d), (2, .int o)] := hl
  refine lv_aload_n hx hb dX12_many_0 rfl (lv_at hl 0 rfl) ?_
  refine lv_iload_n hx hb dX12_many_1 rfl (lv_at hl 1 rfl) ?_
  refine sk_Vi (q0 := 0) (n := 1) (rest := []) (wr := fmR om_13_1020 _) ⟨hx, hb, hml, hown, hts⟩ hl.1 (c_nm_isDay l D cI cJ cC cZ cS mm g ta pa pe pd pb pp pf pg pn rt rn cd sn il tk am at_ aa wt wy rm ud nu sd qn qw qo qb qp qa qi oc d l0 l1 dm l3 hdm) w_7_117 w_7_119 w_0_72 w_1_14 w_7_120 hd_X12_isDay_1 ⟨⟨(Nat.le_of_ble_eq_true rfl), (Nat.le_of_ble_eq_true rfl)⟩, (Nat.le_of_ble_eq_true rfl), (Nat.le_of_ble_eq_true rfl)⟩ hK hP hD hS hA (fmT om_13_1020 0) (fmF om_13_1020 0) (fm_C1 rfl rfl) (fm_R rfl rfl) (fm_nT om_13_1020 0) (fm_nF om_13_1020 0) (fm_di om_13_1020 0) rfl rfl rfl rfl (Nat.le_of_ble_eq_true rfl) dX12_many_2 (fun r_2 u H locs hw hP hD hS => ?_)
  refine exE hw (fun b_1 hw1 => anE hw1 (fun hb1_3 hw2 => anE hw2 (fun er_5 eu_4 => ?_)))
  clear hw hw1 hw2
  subst er_5
  refine o_mgE (ws' := [ro_ mm 12 (mo g (nI ta) (nI pa) (nI pe) pd (nI pb) pp pf pg pn rt rn (nI cd) sn (nI il) tk am at_ aa 0 0 (-1) wt wy 0 (nI rm) (nI ud) (nI nu) sd (nI qn) (nI qw) qo (nI qb) (nI qp) qa (nI qi) (nI oc)), ra_I (g 24) cI 6 (l6 u0 u1 u2 u3 u4 u5), ra_I (g 25) cI 6 (l6 v0 v1 v2 v3 v4 v5), ra_N (g 26) cI 3200 cs, ra_I (g 31) cI 120 nw, ra_N (g 46) cI 9 pt, ra_J (g 86) cJ 1700 ql, ra_I (g 20) cI 4 (l4 (nI l0) (nI l1) (nI dm) (nI l3)), ra_I (g 38) cI 90 ws_, ra_I (g 36) cZ 900 yw, ra_I (g 37) cZ 900 yo, ra_J (g 43) cJ 90 be, ra_J (g 44) cJ 90 bf]) eu_4 hP hD rfl (fun hP hD => ?_)
  refine lv_if_eq (tgt := 16) hx hb dX12_many_5 (by decide) (fun c_6 => ?_) (fun c_6 => ?_)
  · have c_6 : b_1 = 0 := (neq b_1 0 (by omega) (Nat.le_of_ble_eq_true rfl)).mp c_6
    refine lv_ldc2 (v := (-1000000000000000)) hx hb hown (hts _ w_7_184) dX12_many_16 ?_
    exact sk_lret hx hb hr hlocks hK hP hD hS (⟨tk, qp, am, at_, aa, wy, ql, ws_, yw, yo, be, bf, many_0 (rr_0 hb1_3 (by omega)), rfl⟩) (Nat.le_of_ble_eq_true rfl) (Nat.le_of_ble_eq_true rfl) dX12_many_19
  · have c_6 : ¬ (b_1 = 0) := fun h => c_6 ((neq b_1 0 (by omega) (Nat.le_of_ble_eq_true rfl)).mpr h)
    obtain ⟨kd_7, hkd_7, rfl⟩ := rr_1 hb1_3 (by omega)
    refine lv_aload_n hx hb dX12_many_8 rfl (lv_at hl 0 rfl) ?_
    refine lv_iload_n hx hb dX12_many_9 rfl (lv_at hl 2 rfl) ?_
    refine sk_Vi (q0 := 0) (n := 1) (rest := []) (wr := fmR om_13_1000 _) ⟨hx, hb, hml, hown, hts⟩ hl.1 (c_nm_isMood l D cI cJ cC cZ cS mm g ta pa pe pd pb pp pf pg pn rt rn cd sn il tk am at_ aa wt wy rm ud nu sd qn qw qo qb qp qa qi oc o) w_7_126 w_7_128 w_0_73 w_1_14 w_7_129 hd_X12_isMood_1 ⟨⟨(Nat.le_of_ble_eq_true rfl), (Nat.le_of_ble_eq_true rfl)⟩, (Nat.le_of_ble_eq_true rfl), (Nat.le_of_ble_eq_true rfl)⟩ hK hP hD hS hA (fmT om_13_1000 0) (fmF om_13_1000 0) (fm_C1 rfl rfl) (fm_R rfl rfl) (fm_nT om_13_1000 0) (fm_nF om_13_1000 0) (fm_di om_13_1000 0) rfl rfl rfl rfl (Nat.le_of_ble_eq_true rfl) dX12_many_10 (fun r_9 u H locs hw hP hD hS => ?_)
    refine exE hw (fun b_8 hw1 => anE hw1 (fun hb1_10 hw2 => anE hw2 (fun er_12 eu_11 => ?_)))
    clear hw hw1 hw2
    subst er_12
    refine o_mgE (ws' := [ro_ mm 12 (mo g (nI ta) (nI pa) (nI pe) pd (nI pb) pp pf pg pn rt rn (nI cd) sn (nI il) tk am at_ aa 0 0 (-1) wt wy 0 (nI rm) (nI ud) (nI nu) sd (nI qn) (nI qw) qo (nI qb) (nI qp) qa (nI qi) (nI oc)), ra_I (g 24) cI 6 (l6 u0 u1 u2 u3 u4 u5), ra_I (g 25) cI 6 (l6 v0 v1 v2 v3 v4 v5), ra_N (g 26) cI 3200 cs, ra_I (g 31) cI 120 nw, ra_N (g 46) cI 9 pt, ra_J (g 86) cJ 1700 ql, ra_I (g 20) cI 4 (l4 (nI l0) (nI l1) (nI dm) (nI l3)), ra_I (g 38) cI 90 ws_, ra_I (g 36) cZ 900 yw, ra_I (g 37) cZ 900 yo, ra_J (g 43) cJ 90 be, ra_J (g 44) cJ 90 bf]) eu_11 hP hD rfl (fun hP hD => ?_)
    refine lv_if_ne (tgt := 20) hx hb dX12_many_13 (by decide) (fun c_13 => ?_) (fun c_13 => ?_)
    · have c_13 : ¬ (b_8 = 0) := fun h => c_13 ((neq b_8 0 (by omega) (Nat.le_of_ble_eq_true rfl)).mpr h)
      obtain ⟨kd_14, hkd_14, rfl⟩ := rr_1 hb1_10 (by omega)
      refine lv_aload_n hx hb dX12_many_20 rfl (lv_at hl 0 rfl) ?_
      refine sk_Vv (q0 := 0) (n := 0) (rest := []) (wr := fmR om_13_1fff _) ⟨hx, hb, hml, hown, hts⟩ hl.1 (c_vm_laysAllF l D cI cJ cC cZ cS mm g ta pa pe pd pb pp pf pg pn rt rn cd sn il tk am at_ aa wt wy rm ud nu sd qn qw qo qb qp qa qi oc u0 u1 u2 u3 u4 u5 v0 v1 v2 v3 v4 v5 cs nw pt ql l0 l1 dm l3 ws_ yw yo be bf wn mN Ba We U ke lg L hdm (by omega) hLk hkl hmw0 hmw1 hB9 hW9 hwk hcs hnw hpt) w_7_189 w_7_191 w_0_82 w_1_14 w_7_192 hd_X12_laysAll_0 ⟨⟨(Nat.le_of_ble_eq_true rfl), (Nat.le_of_ble_eq_true rfl)⟩, (Nat.le_of_ble_eq_true rfl), (Nat.le_of_ble_eq_true rfl)⟩ hK hP hD hS hA (fmT om_13_1fff 0) (fmF om_13_1fff 0) (fm_C1 rfl rfl) (fm_R rfl rfl) (fm_nT om_13_1fff 0) (fm_nF om_13_1fff 0) (fm_di om_13_1fff 0) rfl rfl rfl rfl (Nat.le_of_ble_eq_true rfl) dX12_many_21 (fun u H locs hw hP hD hS => ?_)
      refine exE hw (fun tk2_15 hw1 => exE hw1 (fun qp2_16 hw2 => exE hw2 (fun am2_17 hw3 => exE hw3 (fun at_2_18 hw4 => exE hw4 (fun aa2_19 hw5 => exE hw5 (fun wy2_20 hw6 => exE hw6 (fun ql2_21 hw7 => exE hw7 (fun ws_2_22 hw8 => exE hw8 (fun yw2_23 hw9 => exE hw9 (fun yo2_24 hw10 => exE hw10 (fun be2_25 hw11 => exE hw11 (fun bf2_26 hw12 => anE hw12 (fun hmw_27 hw13 => anE hw13 (fun hbe_28 hw14 => anE hw14 (fun hcf_29 hw15 => anE hw15 (fun hwy_30 eu_31 => ?_))))))))))))))))
      clear hw hw1 hw2 hw3 hw4 hw5 hw6 hw7 hw8 hw9 hw10 hw11 hw12 hw13 hw14 hw15
      refine o_mgE (ws' := [ro_ mm 12 (mo g (nI ta) (nI pa) (nI pe) pd (nI pb) pp pf pg pn rt rn (nI cd) sn (nI il) tk2_15 am2_17 at_2_18 aa2_19 0 0 (-1) wt wy2_20 0 (nI rm) (nI ud) (nI nu) sd (nI qn) (nI qw) qo (nI qb) (nI qp2_16) qa (nI qi) (nI oc)), ra_I (g 24) cI 6 (l6 u0 u1 u2 u3 u4 u5), ra_I (g 25) cI 6 (l6 v0 v1 v2 v3 v4 v5), ra_N (g 26) cI 3200 cs, ra_I (g 31) cI 120 nw, ra_N (g 46) cI 9 pt, ra_J (g 86) cJ 1700 ql2_21, ra_I (g 20) cI 4 (l4 (nI l0) (nI l1) (nI dm) (nI l3)), ra_I (g 38) cI 90 ws_2_22, ra_I (g 36) cZ 900 yw2_23, ra_I (g 37) cZ 900 yo2_24, ra_J (g 43) cJ 90 be2_25, ra_J (g 44) cJ 90 bf2_26]) eu_31 hP hD rfl (fun hP hD => ?_)
      refine lv_aload_n hx hb dX12_many_24 rfl (lv_at hl 0 rfl) ?_
      refine sk_get (v := .ref (g 44)) (C := RX12) (T := TX12) (N := 92) hx hb hts inlX12 hown hK hP 0 rfl rfl 44 (Nat.le_of_ble_eq_true rfl) w_5_199 rfl dX12_many_25 ?_
      refine lv_bipush (v := 10) hx hb dX12_many_28 (by decide) ?_
      refine lv_iload_n hx hb dX12_many_30 rfl (lv_at hl 1 rfl) ?_
      refine lv_imul hx hb dX12_many_31 ?_
      refine sk_top (nI (10 * kd_7)) (nmul 10 kd_7) ?_
      refine lv_iload_n hx hb dX12_many_32 rfl (lv_at hl 2 rfl) ?_
      refine lv_iadd hx hb dX12_many_33 ?_
      refine sk_top (nI (10 * kd_7 + kd_14)) (nI_add (10 * kd_7) kd_14) ?_
      refine va_lald hx hb hK.1 hP 12 1 rfl rfl (vin (10 * kd_7 + kd_14) 90 (by omega) (Nat.le_of_ble_eq_true rfl)) dX12_many_34 ?_
      refine sk_topl (bf2_26 (10 * kd_7 + kd_14)) (by rw [nI_clamp (by omega)]) ?_
      refine lv_aload_n hx hb dX12_many_35 rfl (lv_at hl 0 rfl) ?_
      refine sk_get (v := .ref (g 43)) (C := RX12) (T := TX12) (N := 92) hx hb hts inlX12 hown hK hP 0 rfl rfl 43 (Nat.le_of_ble_eq_true rfl) w_5_198 rfl dX12_many_36 ?_
      refine lv_bipush (v := 10) hx hb dX12_many_39 (by decide) ?_
      refine lv_iload_n hx hb dX12_many_41 rfl (lv_at hl 1 rfl) ?_
      refine lv_imul hx hb dX12_many_42 ?_
      refine sk_top (nI (10 * kd_7)) (nmul 10 kd_7) ?_
      refine lv_iload_n hx hb dX12_many_43 rfl (lv_at hl 2 rfl) ?_
      refine lv_iadd hx hb dX12_many_44 ?_
      refine sk_top (nI (10 * kd_7 + kd_14)) (nI_add (10 * kd_7) kd_14) ?_
      refine va_lald hx hb hK.1 hP 11 1 rfl rfl (vin (10 * kd_7 + kd_14) 90 (by omega) (Nat.le_of_ble_eq_true rfl)) dX12_many_45 ?_
      refine sk_topl (be2_25 (10 * kd_7 + kd_14)) (by rw [nI_clamp (by omega)]) ?_
      refine lv_lmul hx hb dX12_many_46 ?_
      refine sk_topl (nL (kcT2 (kcFo L wn Ba We U 0) dm mN kd_7 kd_14)) (mw_p hmw_27 hkd_7 hkd_14) ?_
      exact sk_lret hx hb hr hlocks hK hP hD hS (⟨tk2_15, qp2_16, am2_17, at_2_18, aa2_19, wy2_20, ql2_21, ws_2_22, yw2_23, yo2_24, be2_25, bf2_26, many_2 hkd_7 hkd_14 rfl, rfl⟩) (Nat.le_of_ble_eq_true rfl) (Nat.le_of_ble_eq_true rfl) dX12_many_47
    · have c_13 : b_8 = 0 := (neq b_8 0 (by omega) (Nat.le_of_ble_eq_true rfl)).mp c_13
      refine lv_ldc2 (v := (-1000000000000000)) hx hb hown (hts _ w_7_184) dX12_many_16 ?_
      exact sk_lret hx hb hr hlocks hK hP hD hS (⟨tk, qp, am, at_, aa, wy, ql, ws_, yw, yo, be, bf, many_1 (rr_0 hb1_10 (by omega)), rfl⟩) (Nat.le_of_ble_eq_true rfl) (Nat.le_of_ble_eq_true rfl) dX12_many_19
theorem dg_X12_moodsOf_0_0 : bqL cX12_moodsOf 0 [(0, [3]), (1, [61]), (2, [3]), (3, [62]), (4, [29]), (5, [16, 10]), (7, [162, 0, 47]), (54, [28]), (55, [172]), (10, [42]), (11, [180, 0, 86]), (14, [16, 10]), (16, [27]), (17, [104]), (18, [29]), (19, [96]), (20, [47]), (21, [9]), (22, [148]), (23, [158, 0, 25]), (48, [132, 3, 1]), (51, [167, 255, 209]), (26, [42]), (27, [180, 0, 82]), (30, [16, 10]), (32, [27]), (33, [104]), (34, [29]), (35, [96]), (36, [47]), (37, [9]), (38, [148]), (39, [158, 0, 9]), (42, [28]), (43, [4]), (44, [29]), (45, [120]), (46, [128]), (47, [61])] = true := by decide +kernel
theorem dX12_moodsOf_0 : decode cX12_moodsOf 0 = .ok (.iconst 0, 1) := q_iconst0 (bat_get dg_X12_moodsOf_0_0 0 rfl rfl)
theorem dX12_moodsOf_1 : decode cX12_moodsOf 1 = .ok (.istore_n 2, 1) := q_istore_n2 (bat_get dg_X12_moodsOf_0_0 1 rfl rfl)
theorem dX12_moodsOf_2 : decode cX12_moodsOf 2 = .ok (.iconst 0, 1) := q_iconst0 (bat_get dg_X12_moodsOf_0_0 2 rfl rfl)
theorem dX12_moodsOf_3 : decode cX12_moodsOf 3 = .ok (.istore_n 3, 1) := q_istore_n3 (bat_get dg_X12_moodsOf_0_0 3 rfl rfl)
theorem dX12_moodsOf_4 : decode cX12_moodsOf 4 = .ok (.iload_n 3, 1) := q_iload_n3 (bat_get dg_X12_moodsOf_0_0 4 rfl rfl)
theorem dX12_moodsOf_5 : decode cX12_moodsOf 5 = .ok (.bipush 10, 2) := q_bipush (bat_get dg_X12_moodsOf_0_0 5 rfl rfl) rfl
theorem dX12_moodsOf_7 : decode cX12_moodsOf 7 = .ok (.if_icmp .ge 47, 3) := q_if_icmp_ge (bat_get dg_X12_moodsOf_0_0 6 rfl rfl) rfl
theorem dX12_moodsOf_54 : decode cX12_moodsOf 54 = .ok (.iload_n 2, 1) := q_iload_n2 (bat_get dg_X12_moodsOf_0_0 7 rfl rfl)
theorem dX12_moodsOf_55 : decode cX12_moodsOf 55 = .ok (.ireturn, 1) := q_ireturn (bat_get dg_X12_moodsOf_0_0 8 rfl rfl)
theorem dX12_moodsOf_10 : decode cX12_moodsOf 10 = .ok (.aload_n 0, 1) := q_aload_n0 (bat_get dg_X12_moodsOf_0_0 9 rfl rfl)
theorem dX12_moodsOf_11 : decode cX12_moodsOf 11 = .ok (.getfield 86, 3) := q_getfield (bat_get dg_X12_moodsOf_0_0 10 rfl rfl) rfl
theorem dX12_moodsOf_14 : decode cX12_moodsOf 14 = .ok (.bipush 10, 2) := q_bipush (bat_get dg_X12_moodsOf_0_0 11 rfl rfl) rfl
theorem dX12_moodsOf_16 : decode cX12_moodsOf 16 = .ok (.iload_n 1, 1) := q_iload_n1 (bat_get dg_X12_moodsOf_0_0 12 rfl rfl)
theorem dX12_moodsOf_17 : decode cX12_moodsOf 17 = .ok (.imul, 1) := q_imul (bat_get dg_X12_moodsOf_0_0 13 rfl rfl)
theorem dX12_moodsOf_18 : decode cX12_moodsOf 18 = .ok (.iload_n 3, 1) := q_iload_n3 (bat_get dg_X12_moodsOf_0_0 14 rfl rfl)
theorem dX12_moodsOf_19 : decode cX12_moodsOf 19 = .ok (.iadd, 1) := q_iadd (bat_get dg_X12_moodsOf_0_0 15 rfl rfl)
theorem dX12_moodsOf_20 : decode cX12_moodsOf 20 = .ok (.laload, 1) := q_laload (bat_get dg_X12_moodsOf_0_0 16 rfl rfl)
theorem dX12_moodsOf_21 : decode cX12_moodsOf 21 = .ok (.lconst 0, 1) := q_lconst0 (bat_get dg_X12_moodsOf_0_0 17 rfl rfl)
theorem dX12_moodsOf_22 : decode cX12_moodsOf 22 = .ok (.lcmp, 1) := q_lcmp (bat_get dg_X12_moodsOf_0_0 18 rfl rfl)
theorem dX12_moodsOf_23 : decode cX12_moodsOf 23 = .ok (.ifCond .le 25, 3) := q_ifCond_le (bat_get dg_X12_moodsOf_0_0 19 rfl rfl) rfl
theorem dX12_moodsOf_48 : decode cX12_moodsOf 48 = .ok (.iinc 3 1, 3) := q_iinc (bat_get dg_X12_moodsOf_0_0 20 rfl rfl) rfl
theorem dX12_moodsOf_51 : decode cX12_moodsOf 51 = .ok (.goto (-47), 3) := q_goto (bat_get dg_X12_moodsOf_0_0 21 rfl rfl) rfl
theorem dX12_moodsOf_26 : decode cX12_moodsOf 26 = .ok (.aload_n 0, 1) := q_aload_n0 (bat_get dg_X12_moodsOf_0_0 22 rfl rfl)
theorem dX12_moodsOf_27 : decode cX12_moodsOf 27 = .ok (.getfield 82, 3) := q_getfield (bat_get dg_X12_moodsOf_0_0 23 rfl rfl) rfl
theorem dX12_moodsOf_30 : decode cX12_moodsOf 30 = .ok (.bipush 10, 2) := q_bipush (bat_get dg_X12_moodsOf_0_0 24 rfl rfl) rfl
theorem dX12_moodsOf_32 : decode cX12_moodsOf 32 = .ok (.iload_n 1, 1) := q_iload_n1 (bat_get dg_X12_moodsOf_0_0 25 rfl rfl)
theorem dX12_moodsOf_33 : decode cX12_moodsOf 33 = .ok (.imul, 1) := q_imul (bat_get dg_X12_moodsOf_0_0 26 rfl rfl)
theorem dX12_moodsOf_34 : decode cX12_moodsOf 34 = .ok (.iload_n 3, 1) := q_iload_n3 (bat_get dg_X12_moodsOf_0_0 27 rfl rfl)
theorem dX12_moodsOf_35 : decode cX12_moodsOf 35 = .ok (.iadd, 1) := q_iadd (bat_get dg_X12_moodsOf_0_0 28 rfl rfl)
theorem dX12_moodsOf_36 : decode cX12_moodsOf 36 = .ok (.laload, 1) := q_laload (bat_get dg_X12_moodsOf_0_0 29 rfl rfl)
theorem dX12_moodsOf_37 : decode cX12_moodsOf 37 = .ok (.lconst 0, 1) := q_lconst0 (bat_get dg_X12_moodsOf_0_0 30 rfl rfl)
theorem dX12_moodsOf_38 : decode cX12_moodsOf 38 = .ok (.lcmp, 1) := q_lcmp (bat_get dg_X12_moodsOf_0_0 31 rfl rfl)
theorem dX12_moodsOf_39 : decode cX12_moodsOf 39 = .ok (.ifCond .le 9, 3) := q_ifCond_le (bat_get dg_X12_moodsOf_0_0 32 rfl rfl) rfl
theorem dX12_moodsOf_42 : decode cX12_moodsOf 42 = .ok (.iload_n 2, 1) := q_iload_n2 (bat_get dg_X12_moodsOf_0_0 33 rfl rfl)
theorem dX12_moodsOf_43 : decode cX12_moodsOf 43 = .ok (.iconst 1, 1) := q_iconst1 (bat_get dg_X12_moodsOf_0_0 34 rfl rfl)
theorem dX12_moodsOf_44 : decode cX12_moodsOf 44 = .ok (.iload_n 3, 1) := q_iload_n3 (bat_get dg_X12_moodsOf_0_0 35 rfl rfl)
theorem dX12_moodsOf_45 : decode cX12_moodsOf 45 = .ok (.ishl, 1) := q_ishl (bat_get dg_X12_moodsOf_0_0 36 rfl rfl)
theorem dX12_moodsOf_46 : decode cX12_moodsOf 46 = .ok (.ior, 1) := q_ior (bat_get dg_X12_moodsOf_0_0 37 rfl rfl)
theorem dX12_moodsOf_47 : decode cX12_moodsOf 47 = .ok (.istore_n 2, 1) := q_istore_n2 (bat_get dg_X12_moodsOf_0_0 38 rfl rfl)
theorem w_8_88 : (Cond.code yX12_moodsOf cX12_moodsOf 4 (some .int)) ∈ wsL_law := sk_mem (ck_8 _ (List.mem_of_getElem? (i := 88) rfl)) rfl
set_option maxHeartbeats 4000000 in
set_option maxRecDepth 100000 in
theorem c_vm_moodsOf (l : Launch) (D : va_G) (cI cJ cC cZ cS : ClassId) (mm : Nat) (g : Nat → Nat) (ta : Nat) (pa : Nat) (pe : Nat) (pd : Int32) (pb : Nat) (pp : Int32) (pf : Int32) (pg : Int32) (pn : Int32) (rt : Int32) (rn : Int32) (cd : Nat) (sn : Int32) (il : Nat) (tk : Int32) (am : Int32) (at_ : Int32) (aa : Int32) (wt : Int32) (wy : Int64) (rm : Nat) (ud : Nat) (nu : Nat) (sd : Int64) (qn : Nat) (qw : Nat) (qo : Int32) (qb : Nat) (qp : Nat) (qa : Int64) (qi : Nat) (oc : Nat) (d : Nat) (be : Nat → Int64) (bf : Nat → Int64) (Ed : Nat → Nat → Nat → Bool) (dm : Nat) (ao : Nat) (hdm : dm ≤ 9) (hd : d < dm) (hmw : mwY Ed dm ao be bf) : skM l yX12_moodsOf cX12_moodsOf 4 (some .int) 0 0 0 0 D (skT cI cJ cC cZ cS) [.ref mm, .int (nI d)] [ro_ mm 12 (mo g (nI ta) (nI pa) (nI pe) pd (nI pb) pp pf pg pn rt rn (nI cd) sn (nI il) tk am at_ aa 0 0 (-1) wt wy 0 (nI rm) (nI ud) (nI nu) sd (nI qn) (nI qw) qo (nI qb) (nI qp) qa (nI qi) (nI oc)), ra_J (g 43) cJ 90 be, ra_J (g 44) cJ 90 bf] (skI D (skT cI cJ cC cZ cS) (fun (r : Int32) (u : va_W) => r = nI (kcMs Ed dm ao d) ∧ u = [ro_ mm 12 (mo g (nI ta) (nI pa) (nI pe) pd (nI pb) pp pf pg pn rt rn (nI cd) sn (nI il) tk am at_ aa 0 0 (-1) wt wy 0 (nI rm) (nI ud) (nI nu) sd (nI qn) (nI qw) qo (nI qb) (nI qp) qa (nI qi) (nI oc)), ra_J (g 43) cJ 90 be, ra_J (g 44) cJ 90 bf])) := by
  refine skM_of pf_X12_moodsOf (Nat.le_of_ble_eq_true rfl) ?_
  intro p e s m below meth c A ls E hP hD hl
  refine skE_el E (fun hx hb hr hml hlocks hin hown hts hK hA => ?_)
  have hown : s.vm.findClass RX12 = some m.cls := hown
  have hS : va_S A s.heap s.heap [] := va_S.rf
  have hl : lv_has ls 4 [(0, .ref mm), (1, .int (nI d))] := hl
  refine lv_iconst (v := 0) hx hb dX12_moodsOf_0 ic_0 ?_
  refine lv_istore_n (lv' := [(2, .int 0), (0, .ref mm), (1, .int (nI d))]) hx hb dX12_moodsOf_1 rfl hl (by decide) rfl (fun ls hl => ?_)
  refine lv_iconst (v := 0) hx hb dX12_moodsOf_2 ic_0 ?_
  refine lv_istore_n (lv' := [(3, .int 0), (2, .int 0), (0, .ref mm), (1, .int (nI d))]) hx hb dX12_moodsOf_3 rfl hl (by decide) rfl (fun ls hl => ?_)
  have lp_1 : ∀ (n_2 : Nat) (i : Nat) (ms : Int32) (H : Heap) (locs : List Loc) (ls : Array Slot), 10 - i < n_2 → (i ≤ 10) → (ms = nI (mwK Ed dm ao d i)) → va_P D vwCl [ro_ mm 12 (mo g (nI ta) (nI pa) (nI pe) pd (nI pb) pp pf pg pn rt rn (nI cd) sn (nI il) tk am at_ aa 0 0 (-1) wt wy 0 (nI rm) (nI ud) (nI nu) sd (nI qn) (nI qw) qo (nI qb) (nI qp) qa (nI qi) (nI oc)), ra_J (g 43) cJ 90 be, ra_J (g 44) cJ 90 bf] H → va_D A [ro_ mm 12 (mo g (nI ta) (nI pa) (nI pe) pd (nI pb) pp pf pg pn rt rn (nI cd) sn (nI il) tk am at_ aa 0 0 (-1) wt wy 0 (nI rm) (nI ud) (nI nu) sd (nI qn) (nI qw) qo (nI qb) (nI qp) qa (nI qi) (nI oc)), ra_J (g 43) cJ 90 be, ra_J (g 44) cJ 90 bf] → va_S A s.heap H locs → lv_has ls 4 [(3, .int (nI i)), (2, .int ms), (0, .ref mm), (1, .int (nI d))] → W p l e { frames := 0, cells := 0, slots := 0, locals := 0 } s m ([.ref mm, .int (nI d)] : List Value).toArray below meth c H locs 0 0 (MQ below (skI D (skT cI cJ cC cZ cS) (fun (r : Int32) (u : va_W) => r = nI (kcMs Ed dm ao d) ∧ u = [ro_ mm 12 (mo g (nI ta) (nI pa) (nI pe) pd (nI pb) pp pf pg pn rt rn (nI cd) sn (nI il) tk am at_ aa 0 0 (-1) wt wy 0 (nI rm) (nI ud) (nI nu) sd (nI qn) (nI qw) qo (nI qb) (nI qp) qa (nI qi) (nI oc)), ra_J (g 43) cJ 90 be, ra_J (g 44) cJ 90 bf]) A) ([.ref mm, .int (nI d)] : List Value).toArray s 0 0 A) (F0 m 4 ls []) := by
    intro n_2
    induction n_2 with
    | zero => intro i ms H locs ls hm; exact absurd hm (Nat.not_lt_zero _)
    | succ n_2 ih_lp_1 =>
      intro i ms H locs ls hm hi hms hP hD hS hl
      refine lv_iload_n hx hb dX12_moodsOf_4 rfl (lv_at hl 0 rfl) ?_
      refine lv_bipush (v := 10) hx hb dX12_moodsOf_5 (by decide) ?_
      refine lv_icmp_ge (tgt := 54) hx hb dX12_moodsOf_7 (by decide) (fun c_3 => ?_) (fun c_3 => ?_)
      · have c_3 : 10 ≤ i := (nle 10 i (Nat.le_of_ble_eq_true rfl) (by omega)).mp c_3
        have hme : ms = nI (kcMs Ed dm ao d) := by rw [hms]; exact congrArg nI (mwK_e (by omega))
        subst hme
        refine lv_iload_n hx hb dX12_moodsOf_54 rfl (lv_at hl 1 rfl) ?_
        exact sk_iret hx hb hr rfl hlocks hK hP hD hS (⟨rfl, rfl⟩) (Nat.le_of_ble_eq_true rfl) (Nat.le_of_ble_eq_true rfl) dX12_moodsOf_55
      · have c_3 : ¬ (10 ≤ i) := fun h => c_3 ((nle 10 i (Nat.le_of_ble_eq_true rfl) (by omega)).mpr h)
        refine lv_aload_n hx hb dX12_moodsOf_10 rfl (lv_at hl 2 rfl) ?_
        refine sk_get (v := .ref (g 44)) (C := RX12) (T := TX12) (N := 92) hx hb hts inlX12 hown hK hP 0 rfl rfl 44 (Nat.le_of_ble_eq_true rfl) w_5_199 rfl dX12_moodsOf_11 ?_
        refine lv_bipush (v := 10) hx hb dX12_moodsOf_14 (by decide) ?_
        refine lv_iload_n hx hb dX12_moodsOf_16 rfl (lv_at hl 3 rfl) ?_
        refine lv_imul hx hb dX12_moodsOf_17 ?_
        refine sk_top (nI (10 * d)) (nmul 10 d) ?_
        refine lv_iload_n hx hb dX12_moodsOf_18 rfl (lv_at hl 0 rfl) ?_
        refine lv_iadd hx hb dX12_moodsOf_19 ?_
        refine sk_top (nI (10 * d + i)) (nI_add (10 * d) i) ?_
        refine va_lald hx hb hK.1 hP 2 1 rfl rfl (vin (10 * d + i) 90 (by omega) (Nat.le_of_ble_eq_true rfl)) dX12_moodsOf_20 ?_
        have hx_4 := (hmw d hd i (by omega)).2
        refine sk_topl (bf (10 * d + i)) (by rw [nI_clamp (by omega)]) ?_
        refine lv_lconst (v := 0) hx hb dX12_moodsOf_21 (by decide) ?_
        refine W.lcmp hx hb dX12_moodsOf_22 ?_
        refine lv_if_le (tgt := 48) hx hb dX12_moodsOf_23 (by decide) (fun c_5 => ?_) (fun c_5 => ?_)
        · skip
          refine lv_iinc (v := nI (i + 1)) (lv' := [(3, .int (nI (i + 1))), (2, .int ms), (0, .ref mm), (1, .int (nI d))]) hx hb dX12_moodsOf_48 hl (k := 0) rfl (ninc i 1 (by decide)) (by decide) rfl (fun ls hl => ?_)
          refine lv_goto (tgt := 4) hx hb dX12_moodsOf_51 (by decide) ?_
          exact ih_lp_1 (i + 1) ms _ _ _ (by omega) (by omega) (mwK_0 hms hx_4 c_5 hdm hd) hP hD hS (lv_sub hl [0, 1, 2, 3] rfl)
        · skip
          refine lv_aload_n hx hb dX12_moodsOf_26 rfl (lv_at hl 2 rfl) ?_
          refine sk_get (v := .ref (g 43)) (C := RX12) (T := TX12) (N := 92) hx hb hts inlX12 hown hK hP 0 rfl rfl 43 (Nat.le_of_ble_eq_true rfl) w_5_198 rfl dX12_moodsOf_27 ?_
          refine lv_bipush (v := 10) hx hb dX12_moodsOf_30 (by decide) ?_
          refine lv_iload_n hx hb dX12_moodsOf_32 rfl (lv_at hl 3 rfl) ?_
          refine lv_imul hx hb dX12_moodsOf_33 ?_
          refine sk_top (nI (10 * d)) (nmul 10 d) ?_
          refine lv_iload_n hx hb dX12_moodsOf_34 rfl (lv_at hl 0 rfl) ?_
          refine lv_iadd hx hb dX12_moodsOf_35 ?_
          refine sk_top (nI (10 * d + i)) (nI_add (10 * d) i) ?_
          refine va_lald hx hb hK.1 hP 1 1 rfl rfl (vin (10 * d + i) 90 (by omega) (Nat.le_of_ble_eq_true rfl)) dX12_moodsOf_36 ?_
          have hx_6 := (hmw d hd i (by omega)).1
          refine sk_topl (be (10 * d + i)) (by rw [nI_clamp (by omega)]) ?_
          refine lv_lconst (v := 0) hx hb dX12_moodsOf_37 (by decide) ?_
          refine W.lcmp hx hb dX12_moodsOf_38 ?_
          refine lv_if_le (tgt := 48) hx hb dX12_moodsOf_39 (by decide) (fun c_7 => ?_) (fun c_7 => ?_)
          · skip
            refine lv_iinc (v := nI (i + 1)) (lv' := [(3, .int (nI (i + 1))), (2, .int ms), (0, .ref mm), (1, .int (nI d))]) hx hb dX12_moodsOf_48 hl (k := 0) rfl (ninc i 1 (by decide)) (by decide) rfl (fun ls hl => ?_)
            refine lv_goto (tgt := 4) hx hb dX12_moodsOf_51 (by decide) ?_
            exact ih_lp_1 (i + 1) ms _ _ _ (by omega) (by omega) (mwK_1 hms hx_6 c_7 hdm hd) hP hD hS (lv_sub hl [0, 1, 2, 3] rfl)
          · skip
            refine lv_iload_n hx hb dX12_moodsOf_42 rfl (lv_at hl 1 rfl) ?_
            refine lv_iconst (v := 1) hx hb dX12_moodsOf_43 ic_1 ?_
            refine lv_iload_n hx hb dX12_moodsOf_44 rfl (lv_at hl 0 rfl) ?_
            refine lv_ishl hx hb dX12_moodsOf_45 ?_
            refine lv_ior hx hb dX12_moodsOf_46 ?_
            refine sk_top (nI (mwK Ed dm ao d (i + 1))) (mwK_y hms (by omega) hx_4 hx_6 c_5 c_7 hdm hd) ?_
            refine lv_istore_n (lv' := [(2, .int (nI (mwK Ed dm ao d (i + 1)))), (3, .int (nI i)), (0, .ref mm), (1, .int (nI d))]) hx hb dX12_moodsOf_47 rfl hl (by decide) rfl (fun ls hl => ?_)
            refine lv_iinc (v := nI (i + 1)) (lv' := [(3, .int (nI (i + 1))), (2, .int (nI (mwK Ed dm ao d (i + 1)))), (0, .ref mm), (1, .int (nI d))]) hx hb dX12_moodsOf_48 hl (k := 1) rfl (ninc i 1 (by decide)) (by decide) rfl (fun ls hl => ?_)
            refine lv_goto (tgt := 4) hx hb dX12_moodsOf_51 (by decide) ?_
            exact ih_lp_1 (i + 1) (nI (mwK Ed dm ao d (i + 1))) _ _ _ (by omega) (by omega) rfl hP hD hS (lv_sub hl [0, 1, 2, 3] rfl)
  exact lp_1 (10 - 0 + 1) 0 0 _ _ _ (Nat.lt_succ_self _) (by omega) rfl hP hD hS (lv_sub hl [0, 1, 2, 3] rfl)
/-! unlike: a copy of a way -/
theorem kot_s {i v : Nat} {M : Nat → Nat} {f g : Nat → Int32} (h : ∀ j, j < i → f j = nI (M j)) (e : g = upd f i (nI v)) (hv : v = M i) : ∀ j, j < i + 1 → g j = nI (M j) := fun j hj => by
  by_cases q : j = i
  · subst q; rw [kui_s e, hv]
  · rw [kui_n e q]; exact h j (by omega)
/-! sets of days -/
theorem kUs_0 (U : Nat → Bool) : kUs U 0 = U := by
  funext d
  unfold kUs
  rw [Nat.zero_testBit, Bool.or_false]
theorem nwX_mtS {wn mo ke s d : Nat} {Ba We : Nat → Nat} {U : Nat → Bool} {lg : KLg} {f : Nat → Int32} (h : nwX wn mo Ba We U ke lg f) (hs : s < 512) (hd : d < 9) : mtN f (nI s) d = kUs U s d := by
  have h1 := nwX_m1 h hd
  have h2 := ktb (x := s) (k := d) (by omega) (by omega)
  unfold mtN kUs
  cases hu : U d with
  | true =>
    rw [h1.mpr hu]
    rfl
  | false =>
    have h3 : ¬ f (nI (2 + 3 * d + 2)).toNatClampNeg = 1 := fun q => by rw [h1.mp q] at hu; cases hu
    rw [decide_eq_false h3, Bool.false_or, Bool.false_or]
    cases hb : s.testBit d with
    | true => exact decide_eq_true (h2.mpr hb)
    | false => exact decide_eq_false (fun q => by rw [h2.mp q] at hb; cases hb)
theorem cfS {L : LkS} {wn mo ke dm li s : Nat} {Ba We : Nat → Nat} {U : Nat → Bool} {lg : KLg} {nw ws yw yo : Nat → Int32} (h : nwX wn mo Ba We U ke lg nw) (hm : mlD L wn Ba We li dm ws yw yo) (hd : dm ≤ 9) (hs : s < 512) : ∀ d, d < dm → ∀ a m, a < 10 → m < 10 → cfN nw yw yo (nI s) d a m = kcFo L wn Ba We (kUs U s) li d a m := fun d h1 a m ha hm2 => cf_Fo hm hd (fun e he => nwX_mtS h hs (by omega)) h1 ha hm2
theorem dag_0 {n : Nat} {x : Int64} (h : x = Int64.ofNat n) (hn : n ≤ 1000000000) (hc : lg_cmp x 0 ≤ 0) : n = 0 := by
  rw [h] at hc
  exact Nat.eq_zero_of_not_pos (fun q => (mo_gt (by omega)).mpr q hc)
theorem dag_1 {n : Nat} {x : Int64} (h : x = Int64.ofNat n) (hn : n ≤ 1000000000) (hc : ¬ lg_cmp x 0 ≤ 0) : 0 < n := by
  rw [h] at hc
  exact (mo_gt (by omega)).mp hc
/-! later, ring -/
section KAh3
variable {L : LkS} {dm : Nat} {Ba We : Nat → Nat} {U : Nat → Bool} {ke : Nat}
def latI (L : LkS) (dm : Nat) (Ba We : Nat → Nat) (U : Nat → Bool) (c i w0 m0 wk mo gb : Nat) : Prop := (gb = 1 ∧ kLtI L dm Ba We U c i w0 m0 wk mo) ∨ (gb = 0 ∧ ∀ v, ¬ kLt L dm Ba We U c w0 m0 v)
theorem latI_s {c i w0 m0 wk mo gb b wk2 mo2 : Nat} (h : latI L dm Ba We U c i w0 m0 wk mo gb) (hg : ¬ gb = 0) (hi : i < c) (hw : wk < 999) (hd : (b = 0 ∧ kcC (kcFo L wk Ba We U 0) dm 0 mo = 0 ∧ wk2 = wk ∧ mo2 = mo) ∨ (b = 1 ∧ 0 < kcC (kcFo L wk Ba We U 0) dm 0 mo ∧ wk2 = wk + 1 ∧ mo2 = kLast L dm (wk, mo, Ba, We, U, ke) 0)) : latI L dm Ba We U c (i + 1) w0 m0 wk2 mo2 b := by
  rcases h with ⟨_, h⟩ | ⟨h, _⟩
  · rcases hd with ⟨h1, h2, _, _⟩ | ⟨h1, h2, h3, h4⟩
    · exact Or.inr ⟨h1, kLtI_n h hi (fun q => by have := q.2; omega)⟩
    · exact Or.inl ⟨h1, kLtI_s h hi ⟨hw, h2⟩ h3 h4⟩
  · exact absurd h hg
theorem lat_a {wn mN il : Nat} {n : Int32} (hn : ¬ ahO il wn 0 30 n) (h1 : 1 ≤ dm → il = 1) (hw : wn ≤ 999) : laterR L dm wn mN Ba We U n (-1) := kR_0 (fun x q => by
  refine hn ⟨h1 q.1, x.1, Nat.zero_le _, q.2.1, q.2.2.1, ?_⟩
  by_cases e : x.1 = 0
  · omega
  · exact kLt_wk _ _ _ _ q.2.2.2 (by omega)) rfl
def rngI (L : LkS) (dm : Nat) (Ba We : Nat → Nat) (U : Nat → Bool) (m0 i w0 wk mo : Nat) (fo : Int32) : Prop := (fo = -1 ∧ kRgI L dm Ba We U m0 i w0 wk mo) ∨ ∃ v, v ≤ 30 ∧ fo = nI v ∧ kRg L dm Ba We U m0 30 1 w0 m0 v
theorem nI_ne1 {v : Nat} (h : v ≤ 30) : ¬ nI v = -1 := fun q => by
  have h1 : ∀ v, v ≤ 30 → ¬ nI v = -1 := by decide +kernel
  exact h1 v h q
theorem rng_k {m0 i w0 wk mo : Nat} {fo : Int32} (h : rngI L dm Ba We U m0 i w0 wk mo fo) (e : fo = -1) : kRgI L dm Ba We U m0 i w0 wk mo := by
  rcases h with ⟨_, h⟩ | ⟨v, h1, h2, _⟩
  · exact h
  · exact absurd (h2.symm.trans e) (nI_ne1 h1)
theorem rin_f {m0 i w0 wk mo : Nat} {fo : Int32} (h : rngI L dm Ba We U m0 i w0 wk mo fo) (h1 : 1 ≤ dm) (hx : fo = -1 → ∀ v, ¬ kRg L dm Ba We U m0 30 1 w0 m0 v) : ringR L dm w0 m0 Ba We U fo := by
  rcases h with ⟨e, _⟩ | ⟨v, _, e, h2⟩
  · have h3 := hx e
    rw [e]
    exact rin_1 h3
  · rw [e]
    exact rin_2 h1 h2
end KAh3
/-! frees -/
def frT (f : Nat → Nat) (i : Nat) (be : Int32) (mo : Int64) : Prop := (i = 0 ∧ be = -1) ∨ (1 ≤ i ∧ be = nI (kArg f i) ∧ mo = Int64.ofNat (f (kArg f i)))
theorem frT_1 {f : Nat → Nat} {i : Nat} {be : Int32} {mo : Int64} (h : frT f i be mo) (hi : i < 10) (e : be = -1) : frT f (i + 1) (nI i) (Int64.ofNat (f i)) := by
  rcases h with ⟨h1, _⟩ | ⟨h1, h2, _⟩
  · subst h1
    refine Or.inr ⟨Nat.le_refl _, ?_, ?_⟩
    · show nI 0 = nI (if f (kArg f 0) < f 0 then 0 else kArg f 0)
      split <;> rfl
    · show Int64.ofNat (f 0) = Int64.ofNat (f (if f (kArg f 0) < f 0 then 0 else kArg f 0))
      split <;> rfl
  · have := kArg_lt f i h1
    exact absurd (h2.symm.trans e) (nI_ne1 (by omega))
theorem frT_2 {f : Nat → Nat} {i : Nat} {be : Int32} {mo : Int64} (h : frT f i be mo) (hb : ∀ v, f v ≤ 1000000000) (e : ¬ be = -1) (hc : 0 < lg_cmp (Int64.ofNat (f i)) mo) : frT f (i + 1) (nI i) (Int64.ofNat (f i)) := by
  rcases h with ⟨_, h2⟩ | ⟨h1, h2, h3⟩
  · exact absurd h2 e
  · have b1 := hb i
    have b2 := hb (kArg f i)
    have h4 := (lg_cmp_gt _ _).mp hc
    rw [h3, klt (by omega) (by omega)] at h4
    have e1 : kArg f (i + 1) = i := if_pos h4
    exact Or.inr ⟨by omega, by rw [e1], by rw [e1]⟩
theorem frT_3 {f : Nat → Nat} {i : Nat} {be : Int32} {mo : Int64} (h : frT f i be mo) (hb : ∀ v, f v ≤ 1000000000) (e : ¬ be = -1) (hc : ¬ 0 < lg_cmp (Int64.ofNat (f i)) mo) : frT f (i + 1) be mo := by
  rcases h with ⟨_, h2⟩ | ⟨h1, h2, h3⟩
  · exact absurd h2 e
  · have b1 := hb i
    have b2 := hb (kArg f i)
    have h4 : ¬ mo < Int64.ofNat (f i) := fun q => hc ((lg_cmp_gt _ _).mpr q)
    rw [h3, klt (by omega) (by omega)] at h4
    have e1 : kArg f (i + 1) = kArg f i := if_neg h4
    exact Or.inr ⟨by omega, by rw [e1]; exact h2, by rw [e1]; exact h3⟩
theorem fre_T {L : LkS} {dy wn mo k j i : Nat} {Ba We : Nat → Nat} {U : Nat → Bool} {be : Int32} {ms : Int64} (hk : k < dy) (hj : j < 2) (h : frT (kFr L dy wn mo Ba We U k j) i be ms) (hi : i = 10) : freesR L dy wn mo Ba We U (nI k) (nI j) be := by
  rcases h with ⟨h1, _⟩ | ⟨_, h2, _⟩
  · omega
  · exact kR_1 (k, j) ⟨hk, rfl, hj, rfl⟩ (by rw [h2, hi])
theorem updG_e {f g : Nat → Nat} {k : Nat} (h : ∀ j, ¬ j = k → g j = f j) (v : Nat) : updG g k v = updG f k v := by
  funext j
  unfold updG
  by_cases e : j = k
  · rw [if_pos e, if_pos e]
  · rw [if_neg e, if_neg e]; exact h j e
theorem dg_X12_unlike_0_0 : bqL cX12_unlike 0 [(0, [42]), (1, [180, 1, 46]), (4, [153, 0, 11]), (15, [2]), (16, [172]), (7, [27]), (8, [155, 0, 7]), (11, [28]), (12, [156, 0, 5]), (17, [42]), (18, [182, 1, 144]), (21, [27]), (22, [133]), (23, [42]), (24, [180, 1, 126]), (27, [148]), (28, [156, 0, 13]), (41, [2]), (42, [172]), (31, [28]), (32, [133]), (33, [42]), (34, [180, 1, 126]), (37, [148]), (38, [155, 0, 5]), (43, [42]), (44, [27]), (45, [133]), (46, [182, 1, 138]), (49, [3]), (50, [62]), (51, [29]), (52, [42]), (53, [182, 1, 59]), (56, [162, 0, 21]), (77, [42]), (78, [28]), (79, [133]), (80, [182, 1, 138]), (83, [3])] = true := by decide +kernel
theorem dX12_unlike_0 : decode cX12_unlike 0 = .ok (.aload_n 0, 1) := q_aload_n0 (bat_get dg_X12_unlike_0_0 0 rfl rfl)
theorem dX12_unlike_1 : decode cX12_unlike 1 = .ok (.getfield 302, 3) := q_getfield (bat_get dg_X12_unlike_0_0 1 rfl rfl) rfl
theorem dX12_unlike_4 : decode cX12_unlike 4 = .ok (.ifCond .eq 11, 3) := q_ifCond_eq (bat_get dg_X12_unlike_0_0 2 rfl rfl) rfl
theorem dX12_unlike_15 : decode cX12_unlike 15 = .ok (.iconst (-1), 1) := q_iconstm1 (bat_get dg_X12_unlike_0_0 3 rfl rfl)
theorem dX12_unlike_16 : decode cX12_unlike 16 = .ok (.ireturn, 1) := q_ireturn (bat_get dg_X12_unlike_0_0 4 rfl rfl)
theorem dX12_unlike_7 : decode cX12_unlike 7 = .ok (.iload_n 1, 1) := q_iload_n1 (bat_get dg_X12_unlike_0_0 5 rfl rfl)
theorem dX12_unlike_8 : decode cX12_unlike 8 = .ok (.ifCond .lt 7, 3) := q_ifCond_lt (bat_get dg_X12_unlike_0_0 6 rfl rfl) rfl
theorem dX12_unlike_11 : decode cX12_unlike 11 = .ok (.iload_n 2, 1) := q_iload_n2 (bat_get dg_X12_unlike_0_0 7 rfl rfl)
theorem dX12_unlike_12 : decode cX12_unlike 12 = .ok (.ifCond .ge 5, 3) := q_ifCond_ge (bat_get dg_X12_unlike_0_0 8 rfl rfl) rfl
theorem dX12_unlike_17 : decode cX12_unlike 17 = .ok (.aload_n 0, 1) := q_aload_n0 (bat_get dg_X12_unlike_0_0 9 rfl rfl)
theorem dX12_unlike_18 : decode cX12_unlike 18 = .ok (.invokevirtual 400, 3) := q_invokevirtual (bat_get dg_X12_unlike_0_0 10 rfl rfl) rfl
theorem dX12_unlike_21 : decode cX12_unlike 21 = .ok (.iload_n 1, 1) := q_iload_n1 (bat_get dg_X12_unlike_0_0 11 rfl rfl)
theorem dX12_unlike_22 : decode cX12_unlike 22 = .ok (.i2l, 1) := q_i2l (bat_get dg_X12_unlike_0_0 12 rfl rfl)
theorem dX12_unlike_23 : decode cX12_unlike 23 = .ok (.aload_n 0, 1) := q_aload_n0 (bat_get dg_X12_unlike_0_0 13 rfl rfl)
theorem dX12_unlike_24 : decode cX12_unlike 24 = .ok (.getfield 382, 3) := q_getfield (bat_get dg_X12_unlike_0_0 14 rfl rfl) rfl
theorem dX12_unlike_27 : decode cX12_unlike 27 = .ok (.lcmp, 1) := q_lcmp (bat_get dg_X12_unlike_0_0 15 rfl rfl)
theorem dX12_unlike_28 : decode cX12_unlike 28 = .ok (.ifCond .ge 13, 3) := q_ifCond_ge (bat_get dg_X12_unlike_0_0 16 rfl rfl) rfl
theorem dX12_unlike_41 : decode cX12_unlike 41 = .ok (.iconst (-1), 1) := q_iconstm1 (bat_get dg_X12_unlike_0_0 17 rfl rfl)
theorem dX12_unlike_42 : decode cX12_unlike 42 = .ok (.ireturn, 1) := q_ireturn (bat_get dg_X12_unlike_0_0 18 rfl rfl)
theorem dX12_unlike_31 : decode cX12_unlike 31 = .ok (.iload_n 2, 1) := q_iload_n2 (bat_get dg_X12_unlike_0_0 19 rfl rfl)
theorem dX12_unlike_32 : decode cX12_unlike 32 = .ok (.i2l, 1) := q_i2l (bat_get dg_X12_unlike_0_0 20 rfl rfl)
theorem dX12_unlike_33 : decode cX12_unlike 33 = .ok (.aload_n 0, 1) := q_aload_n0 (bat_get dg_X12_unlike_0_0 21 rfl rfl)
theorem dX12_unlike_34 : decode cX12_unlike 34 = .ok (.getfield 382, 3) := q_getfield (bat_get dg_X12_unlike_0_0 22 rfl rfl) rfl
theorem dX12_unlike_37 : decode cX12_unlike 37 = .ok (.lcmp, 1) := q_lcmp (bat_get dg_X12_unlike_0_0 23 rfl rfl)
theorem dX12_unlike_38 : decode cX12_unlike 38 = .ok (.ifCond .lt 5, 3) := q_ifCond_lt (bat_get dg_X12_unlike_0_0 24 rfl rfl) rfl
theorem dX12_unlike_43 : decode cX12_unlike 43 = .ok (.aload_n 0, 1) := q_aload_n0 (bat_get dg_X12_unlike_0_0 25 rfl rfl)
theorem dX12_unlike_44 : decode cX12_unlike 44 = .ok (.iload_n 1, 1) := q_iload_n1 (bat_get dg_X12_unlike_0_0 26 rfl rfl)
theorem dX12_unlike_45 : decode cX12_unlike 45 = .ok (.i2l, 1) := q_i2l (bat_get dg_X12_unlike_0_0 27 rfl rfl)
theorem dX12_unlike_46 : decode cX12_unlike 46 = .ok (.invokevirtual 394, 3) := q_invokevirtual (bat_get dg_X12_unlike_0_0 28 rfl rfl) rfl
theorem dX12_unlike_49 : decode cX12_unlike 49 = .ok (.iconst 0, 1) := q_iconst0 (bat_get dg_X12_unlike_0_0 29 rfl rfl)
theorem dX12_unlike_50 : decode cX12_unlike 50 = .ok (.istore_n 3, 1) := q_istore_n3 (bat_get dg_X12_unlike_0_0 30 rfl rfl)
theorem dX12_unlike_51 : decode cX12_unlike 51 = .ok (.iload_n 3, 1) := q_iload_n3 (bat_get dg_X12_unlike_0_0 31 rfl rfl)
theorem dX12_unlike_52 : decode cX12_unlike 52 = .ok (.aload_n 0, 1) := q_aload_n0 (bat_get dg_X12_unlike_0_0 32 rfl rfl)
theorem dX12_unlike_53 : decode cX12_unlike 53 = .ok (.invokevirtual 315, 3) := q_invokevirtual (bat_get dg_X12_unlike_0_0 33 rfl rfl) rfl
theorem dX12_unlike_56 : decode cX12_unlike 56 = .ok (.if_icmp .ge 21, 3) := q_if_icmp_ge (bat_get dg_X12_unlike_0_0 34 rfl rfl) rfl
theorem dX12_unlike_77 : decode cX12_unlike 77 = .ok (.aload_n 0, 1) := q_aload_n0 (bat_get dg_X12_unlike_0_0 35 rfl rfl)
theorem dX12_unlike_78 : decode cX12_unlike 78 = .ok (.iload_n 2, 1) := q_iload_n2 (bat_get dg_X12_unlike_0_0 36 rfl rfl)
theorem dX12_unlike_79 : decode cX12_unlike 79 = .ok (.i2l, 1) := q_i2l (bat_get dg_X12_unlike_0_0 37 rfl rfl)
theorem dX12_unlike_80 : decode cX12_unlike 80 = .ok (.invokevirtual 394, 3) := q_invokevirtual (bat_get dg_X12_unlike_0_0 38 rfl rfl) rfl
theorem dX12_unlike_83 : decode cX12_unlike 83 = .ok (.iconst 0, 1) := q_iconst0 (bat_get dg_X12_unlike_0_0 39 rfl rfl)
theorem dg_X12_unlike_59_84 : bqL cX12_unlike 59 [(25, [62]), (26, [3]), (27, [54, 4]), (29, [21, 4]), (31, [42]), (32, [182, 1, 59]), (35, [162, 0, 29]), (64, [29]), (65, [172]), (38, [42]), (39, [180, 0, 101]), (42, [21, 4]), (44, [46]), (45, [42]), (46, [180, 0, 89]), (49, [21, 4]), (51, [46]), (52, [159, 0, 6]), (58, [132, 4, 1]), (61, [167, 255, 224]), (55, [132, 3, 1]), (0, [42]), (1, [180, 0, 101]), (4, [29]), (5, [42]), (6, [180, 0, 89]), (9, [29]), (10, [46]), (11, [79]), (12, [132, 3, 1]), (15, [167, 255, 233])] = true := by decide +kernel
theorem dX12_unlike_84 : decode cX12_unlike 84 = .ok (.istore_n 3, 1) := q_istore_n3 (bat_get dg_X12_unlike_59_84 0 rfl rfl)
theorem dX12_unlike_85 : decode cX12_unlike 85 = .ok (.iconst 0, 1) := q_iconst0 (bat_get dg_X12_unlike_59_84 1 rfl rfl)
theorem dX12_unlike_86 : decode cX12_unlike 86 = .ok (.istore 4, 2) := q_istore (bat_get dg_X12_unlike_59_84 2 rfl rfl)
theorem dX12_unlike_88 : decode cX12_unlike 88 = .ok (.iload 4, 2) := q_iload (bat_get dg_X12_unlike_59_84 3 rfl rfl)
theorem dX12_unlike_90 : decode cX12_unlike 90 = .ok (.aload_n 0, 1) := q_aload_n0 (bat_get dg_X12_unlike_59_84 4 rfl rfl)
theorem dX12_unlike_91 : decode cX12_unlike 91 = .ok (.invokevirtual 315, 3) := q_invokevirtual (bat_get dg_X12_unlike_59_84 5 rfl rfl) rfl
theorem dX12_unlike_94 : decode cX12_unlike 94 = .ok (.if_icmp .ge 29, 3) := q_if_icmp_ge (bat_get dg_X12_unlike_59_84 6 rfl rfl) rfl
theorem dX12_unlike_123 : decode cX12_unlike 123 = .ok (.iload_n 3, 1) := q_iload_n3 (bat_get dg_X12_unlike_59_84 7 rfl rfl)
theorem dX12_unlike_124 : decode cX12_unlike 124 = .ok (.ireturn, 1) := q_ireturn (bat_get dg_X12_unlike_59_84 8 rfl rfl)
theorem dX12_unlike_97 : decode cX12_unlike 97 = .ok (.aload_n 0, 1) := q_aload_n0 (bat_get dg_X12_unlike_59_84 9 rfl rfl)
theorem dX12_unlike_98 : decode cX12_unlike 98 = .ok (.getfield 101, 3) := q_getfield (bat_get dg_X12_unlike_59_84 10 rfl rfl) rfl
theorem dX12_unlike_101 : decode cX12_unlike 101 = .ok (.iload 4, 2) := q_iload (bat_get dg_X12_unlike_59_84 11 rfl rfl)
theorem dX12_unlike_103 : decode cX12_unlike 103 = .ok (.iaload, 1) := q_iaload (bat_get dg_X12_unlike_59_84 12 rfl rfl)
theorem dX12_unlike_104 : decode cX12_unlike 104 = .ok (.aload_n 0, 1) := q_aload_n0 (bat_get dg_X12_unlike_59_84 13 rfl rfl)
theorem dX12_unlike_105 : decode cX12_unlike 105 = .ok (.getfield 89, 3) := q_getfield (bat_get dg_X12_unlike_59_84 14 rfl rfl) rfl
theorem dX12_unlike_108 : decode cX12_unlike 108 = .ok (.iload 4, 2) := q_iload (bat_get dg_X12_unlike_59_84 15 rfl rfl)
theorem dX12_unlike_110 : decode cX12_unlike 110 = .ok (.iaload, 1) := q_iaload (bat_get dg_X12_unlike_59_84 16 rfl rfl)
theorem dX12_unlike_111 : decode cX12_unlike 111 = .ok (.if_icmp .eq 6, 3) := q_if_icmp_eq (bat_get dg_X12_unlike_59_84 17 rfl rfl) rfl
theorem dX12_unlike_117 : decode cX12_unlike 117 = .ok (.iinc 4 1, 3) := q_iinc (bat_get dg_X12_unlike_59_84 18 rfl rfl) rfl
theorem dX12_unlike_120 : decode cX12_unlike 120 = .ok (.goto (-32), 3) := q_goto (bat_get dg_X12_unlike_59_84 19 rfl rfl) rfl
theorem dX12_unlike_114 : decode cX12_unlike 114 = .ok (.iinc 3 1, 3) := q_iinc (bat_get dg_X12_unlike_59_84 20 rfl rfl) rfl
theorem dX12_unlike_59 : decode cX12_unlike 59 = .ok (.aload_n 0, 1) := q_aload_n0 (bat_get dg_X12_unlike_59_84 21 rfl rfl)
theorem dX12_unlike_60 : decode cX12_unlike 60 = .ok (.getfield 101, 3) := q_getfield (bat_get dg_X12_unlike_59_84 22 rfl rfl) rfl
theorem dX12_unlike_63 : decode cX12_unlike 63 = .ok (.iload_n 3, 1) := q_iload_n3 (bat_get dg_X12_unlike_59_84 23 rfl rfl)
theorem dX12_unlike_64 : decode cX12_unlike 64 = .ok (.aload_n 0, 1) := q_aload_n0 (bat_get dg_X12_unlike_59_84 24 rfl rfl)
theorem dX12_unlike_65 : decode cX12_unlike 65 = .ok (.getfield 89, 3) := q_getfield (bat_get dg_X12_unlike_59_84 25 rfl rfl) rfl
theorem dX12_unlike_68 : decode cX12_unlike 68 = .ok (.iload_n 3, 1) := q_iload_n3 (bat_get dg_X12_unlike_59_84 26 rfl rfl)
theorem dX12_unlike_69 : decode cX12_unlike 69 = .ok (.iaload, 1) := q_iaload (bat_get dg_X12_unlike_59_84 27 rfl rfl)
theorem dX12_unlike_70 : decode cX12_unlike 70 = .ok (.iastore, 1) := q_iastore (bat_get dg_X12_unlike_59_84 28 rfl rfl)
theorem dX12_unlike_71 : decode cX12_unlike 71 = .ok (.iinc 3 1, 3) := q_iinc (bat_get dg_X12_unlike_59_84 29 rfl rfl) rfl
theorem dX12_unlike_74 : decode cX12_unlike 74 = .ok (.goto (-23), 3) := q_goto (bat_get dg_X12_unlike_59_84 30 rfl rfl) rfl
theorem w_5_206 : (Cond.fieldLink RX12 101 "SameKeeperModel" "other0" "[I") ∈ wsL_law := sk_mem (ck_5 _ (List.mem_of_getElem? (i := 206) rfl)) rfl
theorem w_8_72 : (Cond.code yX12_unlike cX12_unlike 5 (some .int)) ∈ wsL_law := sk_mem (ck_8 _ (List.mem_of_getElem? (i := 72) rfl)) rfl
def om_14_3ffe : List Bool := true :: true :: true :: true :: true :: true :: true :: true :: true :: true :: true :: true :: true :: false :: []
def om_14_235c : List Bool := true :: false :: false :: false :: true :: true :: false :: true :: false :: true :: true :: true :: false :: false :: []
def om_14_2040 : List Bool := true :: false :: false :: false :: false :: false :: false :: true :: false :: false :: false :: false :: false :: false :: []
set_option maxHeartbeats 4000000 in
set_option maxRecDepth 100000 in
theorem c_vm_unlike (l : Launch) (D : va_G) (cI cJ cC cZ cS : ClassId) (mm : Nat) (g : Nat → Nat) (ta : Nat) (pa : Nat) (pe : Nat) (pd : Int32) (pb : Nat) (pp : Int32) (pf : Int32) (pg : Int32) (pn : Int32) (rt : Int32) (rn : Int32) (cd : Nat) (sn : Int32) (il : Nat) (tk : Int32) (am : Int32) (at_ : Int32) (aa : Int32) (wt : Int32) (wy : Int64) (rm : Nat) (ud : Nat) (nu : Nat) (sd : Int64) (qn : Nat) (qw : Nat) (qo : Int32) (qb : Nat) (qp : Nat) (qa : Int64) (qi : Nat) (oc : Nat) (k : Int32) (w : Int32) (u0 : Int32) (u1 : Int32) (u2 : Int32) (u3 : Int32) (u4 : Int32) (u5 : Int32) (v0 : Int32) (v1 : Int32) (v2 : Int32) (v3 : Int32) (v4 : Int32) (v5 : Int32) (cs : Nat → Nat) (nw : Nat → Int32) (pt : Nat → Nat) (ql : Nat → Int64) (l0 : Nat) (l1 : Nat) (dm : Nat) (l3 : Nat) (ws_ : Nat → Int32) (yw : Nat → Int32) (yo : Nat → Int32) (be : Nat → Int64) (bf : Nat → Int64) (ot : Nat → Int32) (wn : Nat) (mN : Nat) (Ba : Nat → Nat) (We : Nat → Nat) (U : Nat → Bool) (ke : Nat) (lg : KLg) (L : LkS) (hil : il ≤ 1) (hild : il = 1 → 1 ≤ dm) (hilb : 1 ≤ dm → il = 1) (hdm : dm ≤ 9) (hLk : kcLk L) (hkl : (lK L).length ≤ 1600) (hmw0 : mwO L 0 u3 v3 cs) (hmw1 : mwO L 1 u4 v4 cs) (hB9 : ∀ j, Ba j ≤ 9) (hW9 : ∀ j, We j ≤ 9) (hwk : wn ≤ 999) (hcs : ∀ j, cs j ≤ 20000) (hnw : nwX wn mN Ba We U ke lg nw) (hpt : ∀ j, pt j ≤ 9) : skM l yX12_unlike cX12_unlike 5 (some .int) 6 142 0 0 D (skT cI cJ cC cZ cS) [.ref mm, .int k, .int w] [ro_ mm 12 (mo g (nI ta) (nI pa) (nI pe) pd (nI pb) pp pf pg pn rt rn (nI cd) sn (nI il) tk am at_ aa 0 0 (-1) wt wy 0 (nI rm) (nI ud) (nI nu) sd (nI qn) (nI qw) qo (nI qb) (nI qp) qa (nI qi) (nI oc)), ra_I (g 24) cI 6 (l6 u0 u1 u2 u3 u4 u5), ra_I (g 25) cI 6 (l6 v0 v1 v2 v3 v4 v5), ra_N (g 26) cI 3200 cs, ra_I (g 31) cI 120 nw, ra_N (g 46) cI 9 pt, ra_J (g 86) cJ 1700 ql, ra_I (g 20) cI 4 (l4 (nI l0) (nI l1) (nI dm) (nI l3)), ra_I (g 38) cI 90 ws_, ra_I (g 36) cZ 900 yw, ra_I (g 37) cZ 900 yo, ra_J (g 43) cJ 90 be, ra_J (g 44) cJ 90 bf, ra_I (g 51) cI 9 ot] (skI D (skT cI cJ cC cZ cS) (fun (r : Int32) (u : va_W) => ∃ (tk2 : Int32), ∃ (qp2 : Nat), ∃ (am2 : Int32), ∃ (at_2 : Int32), ∃ (aa2 : Int32), ∃ (wy2 : Int64), ∃ (pt2 : Nat → Nat), ∃ (ql2 : Nat → Int64), ∃ (ws_2 : Nat → Int32), ∃ (yw2 : Nat → Int32), ∃ (yo2 : Nat → Int32), ∃ (be2 : Nat → Int64), ∃ (bf2 : Nat → Int64), ∃ (ot2 : Nat → Int32), unlikeR (kcFo L wn Ba We U 0) dm mN k w r ∧ (∀ j, pt2 j ≤ 9) ∧ u = [ro_ mm 12 (mo g (nI ta) (nI pa) (nI pe) pd (nI pb) pp pf pg pn rt rn (nI cd) sn (nI il) tk2 am2 at_2 aa2 0 0 (-1) wt wy2 0 (nI rm) (nI ud) (nI nu) sd (nI qn) (nI qw) qo (nI qb) (nI qp2) qa (nI qi) (nI oc)), ra_I (g 24) cI 6 (l6 u0 u1 u2 u3 u4 u5), ra_I (g 25) cI 6 (l6 v0 v1 v2 v3 v4 v5), ra_N (g 26) cI 3200 cs, ra_I (g 31) cI 120 nw, ra_N (g 46) cI 9 pt2, ra_J (g 86) cJ 1700 ql2, ra_I (g 20) cI 4 (l4 (nI l0) (nI l1) (nI dm) (nI l3)), ra_I (g 38) cI 90 ws_2, ra_I (g 36) cZ 900 yw2, ra_I (g 37) cZ 900 yo2, ra_J (g 43) cJ 90 be2, ra_J (g 44) cJ 90 bf2, ra_I (g 51) cI 9 ot2])) := by
  refine skM_of pf_X12_unlike (Nat.le_of_ble_eq_true rfl) ?_
  intro p e s m below meth c A ls E hP hD hl
  refine skE_el E (fun hx hb hr hml hlocks hin hown hts hK hA => ?_)
  have hown : s.vm.findClass RX12 = some m.cls := hown
  have hS : va_S A s.heap s.heap [] := va_S.rf
  have hl : lv_has ls 5 [(0, .ref mm), (1, .int k), (2, .int w)] := hl
  refine lv_aload_n hx hb dX12_unlike_0 rfl (lv_at hl 0 rfl) ?_
  refine sk_get (v := .int (nI il)) (C := RX12) (T := TX12) (N := 92) hx hb hts inlX12 hown hK hP 0 rfl rfl 29 (Nat.le_of_ble_eq_true rfl) w_5_184 rfl dX12_unlike_1 ?_
  refine lv_if_eq (tgt := 15) hx hb dX12_unlike_4 (by decide) (fun c_1 => ?_) (fun c_1 => ?_)
  · have c_1 : il = 0 := (neq il 0 (by omega) (Nat.le_of_ble_eq_true rfl)).mp c_1
    refine lv_iconst (v := (-1)) hx hb dX12_unlike_15 (by decide) ?_
    exact sk_iret hx hb hr rfl hlocks hK hP hD hS (⟨tk, qp, am, at_, aa, wy, pt, ql, ws_, yw, yo, be, bf, ot, unl_0 (by omega), hpt, rfl⟩) (Nat.le_of_ble_eq_true rfl) (Nat.le_of_ble_eq_true rfl) dX12_unlike_16
  · have c_1 : ¬ (il = 0) := fun h => c_1 ((neq il 0 (by omega) (Nat.le_of_ble_eq_true rfl)).mpr h)
    refine lv_iload_n hx hb dX12_unlike_7 rfl (lv_at hl 1 rfl) ?_
    refine lv_if_lt (tgt := 15) hx hb dX12_unlike_8 (by decide) (fun c_2 => ?_) (fun c_2 => ?_)
    · skip
      refine lv_iconst (v := (-1)) hx hb dX12_unlike_15 (by decide) ?_
      exact sk_iret hx hb hr rfl hlocks hK hP hD hS (⟨tk, qp, am, at_, aa, wy, pt, ql, ws_, yw, yo, be, bf, ot, unl_1 (fun x hx hq => kIn_neg (n := 2147483647) c_2 (by omega) ⟨x, by have := kcC_9 (kcFo L wn Ba We U 0) (show dm ≤ 9 by omega) 0 mN; omega, hq⟩), hpt, rfl⟩) (Nat.le_of_ble_eq_true rfl) (Nat.le_of_ble_eq_true rfl) dX12_unlike_16
    · obtain ⟨k_3, hk_3, rfl⟩ := nof k c_2
      refine lv_iload_n hx hb dX12_unlike_11 rfl (lv_at hl 2 rfl) ?_
      refine lv_if_ge (tgt := 17) hx hb dX12_unlike_12 (by decide) (fun c_4 => ?_) (fun c_4 => ?_)
      · obtain ⟨k_5, hk_5, rfl⟩ := nof' w c_4
        refine lv_aload_n hx hb dX12_unlike_17 rfl (lv_at hl 0 rfl) ?_
        refine sk_Vv (q0 := 0) (n := 0) (rest := []) (wr := fmR om_14_3ffe _) ⟨hx, hb, hml, hown, hts⟩ hl.1 (c_nm_laysAll l D cI cJ cC cZ cS mm g ta pa pe pd pb pp pf pg pn rt rn cd sn il tk am at_ aa wt wy 0 rm ud nu sd qn qw qo qb qp qa qi oc u0 u1 u2 u3 u4 u5 v0 v1 v2 v3 v4 v5 cs nw pt ql l0 l1 dm l3 ws_ yw yo be bf wn mN Ba We U ke lg L hdm (by omega) hLk hkl hmw0 hmw1 hB9 hW9 hwk hcs hnw hpt) w_7_189 w_7_191 w_0_82 w_1_14 w_7_192 hd_X12_laysAll_0 ⟨⟨(Nat.le_of_ble_eq_true rfl), (Nat.le_of_ble_eq_true rfl)⟩, (Nat.le_of_ble_eq_true rfl), (Nat.le_of_ble_eq_true rfl)⟩ hK hP hD hS hA (fmT om_14_3ffe 0) (fmF om_14_3ffe 0) (fm_C1 rfl rfl) (fm_R rfl rfl) (fm_nT om_14_3ffe 0) (fm_nF om_14_3ffe 0) (fm_di om_14_3ffe 0) rfl rfl rfl rfl (Nat.le_of_ble_eq_true rfl) dX12_unlike_18 (fun u H locs hw hP hD hS => ?_)
        refine exE hw (fun tk2_6 hw1 => exE hw1 (fun qp2_7 hw2 => exE hw2 (fun am2_8 hw3 => exE hw3 (fun at_2_9 hw4 => exE hw4 (fun aa2_10 hw5 => exE hw5 (fun wy2_11 hw6 => exE hw6 (fun ql2_12 hw7 => exE hw7 (fun ws_2_13 hw8 => exE hw8 (fun yw2_14 hw9 => exE hw9 (fun yo2_15 hw10 => exE hw10 (fun be2_16 hw11 => exE hw11 (fun bf2_17 hw12 => anE hw12 (fun hbe_18 hw13 => anE hw13 (fun hcf_19 hw14 => anE hw14 (fun hwy_20 eu_21 => ?_)))))))))))))))
        clear hw hw1 hw2 hw3 hw4 hw5 hw6 hw7 hw8 hw9 hw10 hw11 hw12 hw13 hw14
        refine o_mgE (ws' := [ro_ mm 12 (mo g (nI ta) (nI pa) (nI pe) pd (nI pb) pp pf pg pn rt rn (nI cd) sn (nI il) tk2_6 am2_8 at_2_9 aa2_10 0 0 (-1) wt wy2_11 0 (nI rm) (nI ud) (nI nu) sd (nI qn) (nI qw) qo (nI qb) (nI qp2_7) qa (nI qi) (nI oc)), ra_I (g 24) cI 6 (l6 u0 u1 u2 u3 u4 u5), ra_I (g 25) cI 6 (l6 v0 v1 v2 v3 v4 v5), ra_N (g 26) cI 3200 cs, ra_I (g 31) cI 120 nw, ra_N (g 46) cI 9 pt, ra_J (g 86) cJ 1700 ql2_12, ra_I (g 20) cI 4 (l4 (nI l0) (nI l1) (nI dm) (nI l3)), ra_I (g 38) cI 90 ws_2_13, ra_I (g 36) cZ 900 yw2_14, ra_I (g 37) cZ 900 yo2_15, ra_J (g 43) cJ 90 be2_16, ra_J (g 44) cJ 90 bf2_17, ra_I (g 51) cI 9 ot]) eu_21 hP hD rfl (fun hP hD => ?_)
        refine lv_iload_n hx hb dX12_unlike_21 rfl (lv_at hl 1 rfl) ?_
        refine lv_i2l hx hb dX12_unlike_22 rfl ?_
        refine lv_aload_n hx hb dX12_unlike_23 rfl (lv_at hl 0 rfl) ?_
        refine sk_get (v := .long wy2_11) (C := RX12) (T := TX12) (N := 92) hx hb hts inlX12 hown hK hP 0 rfl rfl 45 (Nat.le_of_ble_eq_true rfl) w_5_200 rfl dX12_unlike_24 ?_
        refine W.lcmp hx hb dX12_unlike_27 ?_
        refine lv_if_ge (tgt := 41) hx hb dX12_unlike_28 (by decide) (fun c_22 => ?_) (fun c_22 => ?_)
        · have hn1 : ¬ k_3 < kcC (kcFo L wn Ba We U 0) dm 0 mN := fun hq => Int32.not_lt.mpr c_22 (by rw [hwy_20]; exact (kcl_i (k := k_3) (n := kcC (kcFo L wn Ba We U 0) dm 0 mN) (by omega) (by have := kcC_9 (kcFo L wn Ba We U 0) hdm 0 mN; omega)).mpr hq)
          refine lv_iconst (v := (-1)) hx hb dX12_unlike_41 (by decide) ?_
          exact sk_iret hx hb hr rfl hlocks hK hP hD hS (⟨tk2_6, qp2_7, am2_8, at_2_9, aa2_10, wy2_11, pt, ql2_12, ws_2_13, yw2_14, yo2_15, be2_16, bf2_17, ot, unl_1 (fun x hx hq => hn1 (by have := (neq k_3 x (by omega) (by omega)).mp hq; omega)), hpt, rfl⟩) (Nat.le_of_ble_eq_true rfl) (Nat.le_of_ble_eq_true rfl) dX12_unlike_42
        · have hu1 : k_3 < kcC (kcFo L wn Ba We U 0) dm 0 mN := (kcl_i (k := k_3) (n := kcC (kcFo L wn Ba We U 0) dm 0 mN) (by omega) (by have := kcC_9 (kcFo L wn Ba We U 0) hdm 0 mN; omega)).mp (by rw [← hwy_20]; exact Int32.not_le.mp c_22)
          refine lv_iload_n hx hb dX12_unlike_31 rfl (lv_at hl 2 rfl) ?_
          refine lv_i2l hx hb dX12_unlike_32 rfl ?_
          refine lv_aload_n hx hb dX12_unlike_33 rfl (lv_at hl 0 rfl) ?_
          refine sk_get (v := .long wy2_11) (C := RX12) (T := TX12) (N := 92) hx hb hts inlX12 hown hK hP 0 rfl rfl 45 (Nat.le_of_ble_eq_true rfl) w_5_200 rfl dX12_unlike_34 ?_
          refine W.lcmp hx hb dX12_unlike_37 ?_
          refine lv_if_lt (tgt := 43) hx hb dX12_unlike_38 (by decide) (fun c_23 => ?_) (fun c_23 => ?_)
          · have hu2 : k_5 < kcC (kcFo L wn Ba We U 0) dm 0 mN := (kcl_i (k := k_5) (n := kcC (kcFo L wn Ba We U 0) dm 0 mN) (by omega) (by have := kcC_9 (kcFo L wn Ba We U 0) hdm 0 mN; omega)).mp (by rw [← hwy_20]; exact c_23)
            refine lv_aload_n hx hb dX12_unlike_43 rfl (lv_at hl 0 rfl) ?_
            refine lv_iload_n hx hb dX12_unlike_44 rfl (lv_at hl 1 rfl) ?_
            refine lv_i2l hx hb dX12_unlike_45 rfl ?_
            refine sk_topl (nL k_3) (kx_i2l (by omega)) ?_
            refine sk_Vv (q0 := 0) (n := 1) (rest := []) (wr := fmR om_14_235c _) ⟨hx, hb, hml, hown, hts⟩ hl.1 (c_nm_walksTo l D cI cJ cC cZ cS mm g ta pa pe pd pb pp pf pg pn rt rn cd sn il tk2_6 am2_8 at_2_9 aa2_10 0 wt wy2_11 0 rm ud nu sd qn qw qo qb qp2_7 qa qi oc l0 l1 dm l3 nw yo2_15 yw2_14 be2_16 pt k_3 hdm (by omega) hbe_18 (nuX hcf_19 (nwX_a0 hnw) hnw.1 hu1) (nwX_ok hnw) hpt) w_7_217 w_7_219 w_0_88 w_1_14 w_7_220 hd_X12_walksTo_1 ⟨⟨(Nat.le_of_ble_eq_true rfl), (Nat.le_of_ble_eq_true rfl)⟩, (Nat.le_of_ble_eq_true rfl), (Nat.le_of_ble_eq_true rfl)⟩ hK hP hD hS hA [0, 7, 4, 10, 9, 11, 5] (fmF om_14_235c 0) rfl (fm_R rfl rfl) (by decide +kernel) (fm_nF om_14_235c 0) (by decide +kernel) rfl rfl rfl rfl (Nat.le_of_ble_eq_true rfl) dX12_unlike_46 (fun u H locs hw hP hD hS => ?_)
            refine exE hw (fun pt2_24 hw1 => anE hw1 (fun hpw_25 hw2 => anE hw2 (fun hpt2_26 eu_27 => ?_)))
            clear hw hw1 hw2
            refine o_mgqE (ux := [ro_ mm 12 (mo g (nI ta) (nI pa) (nI pe) pd (nI pb) pp pf pg pn rt rn (nI cd) sn (nI il) tk2_6 am2_8 at_2_9 aa2_10 0 0 (-1) wt wy2_11 0 (nI rm) (nI ud) (nI nu) sd (nI qn) (nI qw) qo (nI qb) (nI qp2_7) qa (nI qi) (nI oc)), ra_I (g 31) cI 120 nw, ra_N (g 46) cI 9 pt2_24, ra_I (g 20) cI 4 (l4 (nI l0) (nI l1) (nI dm) (nI l3)), ra_I (g 36) cZ 900 yw2_14, ra_I (g 37) cZ 900 yo2_15, ra_J (g 43) cJ 90 be2_16]) (ws' := [ro_ mm 12 (mo g (nI ta) (nI pa) (nI pe) pd (nI pb) pp pf pg pn rt rn (nI cd) sn (nI il) tk2_6 am2_8 at_2_9 aa2_10 0 0 (-1) wt wy2_11 0 (nI rm) (nI ud) (nI nu) sd (nI qn) (nI qw) qo (nI qb) (nI qp2_7) qa (nI qi) (nI oc)), ra_I (g 24) cI 6 (l6 u0 u1 u2 u3 u4 u5), ra_I (g 25) cI 6 (l6 v0 v1 v2 v3 v4 v5), ra_N (g 26) cI 3200 cs, ra_I (g 31) cI 120 nw, ra_N (g 46) cI 9 pt2_24, ra_J (g 86) cJ 1700 ql2_12, ra_I (g 20) cI 4 (l4 (nI l0) (nI l1) (nI dm) (nI l3)), ra_I (g 38) cI 90 ws_2_13, ra_I (g 36) cZ 900 yw2_14, ra_I (g 37) cZ 900 yo2_15, ra_J (g 43) cJ 90 be2_16, ra_J (g 44) cJ 90 bf2_17, ra_I (g 51) cI 9 ot]) eu_27 [0, 2, 6, 1, 4, 3, 5] (by decide +kernel) rfl hP hD rfl (fun hP hD => ?_)
            have hpx1 := mpX hcf_19 (nwX_a0 hnw) hnw.1 hu1 hpw_25
            refine lv_iconst (v := 0) hx hb dX12_unlike_49 ic_0 ?_
            refine lv_istore_n (lv' := [(3, .int 0), (0, .ref mm), (1, .int (nI k_3)), (2, .int (nI k_5))]) hx hb dX12_unlike_50 rfl hl (by decide) rfl (fun ls hl => ?_)
            have lp_28 : ∀ (n_29 : Nat) (i : Nat) (zo : Nat → Int32) (H : Heap) (locs : List Loc) (ls : Array Slot), dm - i < n_29 → (i ≤ dm) → (∀ j, j < i → zo j = nI (kcM (kcFo L wn Ba We U 0) dm mN k_3 j)) → va_P D vwCl [ro_ mm 12 (mo g (nI ta) (nI pa) (nI pe) pd (nI pb) pp pf pg pn rt rn (nI cd) sn (nI il) tk2_6 am2_8 at_2_9 aa2_10 0 0 (-1) wt wy2_11 0 (nI rm) (nI ud) (nI nu) sd (nI qn) (nI qw) qo (nI qb) (nI qp2_7) qa (nI qi) (nI oc)), ra_I (g 24) cI 6 (l6 u0 u1 u2 u3 u4 u5), ra_I (g 25) cI 6 (l6 v0 v1 v2 v3 v4 v5), ra_N (g 26) cI 3200 cs, ra_I (g 31) cI 120 nw, ra_N (g 46) cI 9 pt2_24, ra_J (g 86) cJ 1700 ql2_12, ra_I (g 20) cI 4 (l4 (nI l0) (nI l1) (nI dm) (nI l3)), ra_I (g 38) cI 90 ws_2_13, ra_I (g 36) cZ 900 yw2_14, ra_I (g 37) cZ 900 yo2_15, ra_J (g 43) cJ 90 be2_16, ra_J (g 44) cJ 90 bf2_17, ra_I (g 51) cI 9 zo] H → va_D A [ro_ mm 12 (mo g (nI ta) (nI pa) (nI pe) pd (nI pb) pp pf pg pn rt rn (nI cd) sn (nI il) tk2_6 am2_8 at_2_9 aa2_10 0 0 (-1) wt wy2_11 0 (nI rm) (nI ud) (nI nu) sd (nI qn) (nI qw) qo (nI qb) (nI qp2_7) qa (nI qi) (nI oc)), ra_I (g 24) cI 6 (l6 u0 u1 u2 u3 u4 u5), ra_I (g 25) cI 6 (l6 v0 v1 v2 v3 v4 v5), ra_N (g 26) cI 3200 cs, ra_I (g 31) cI 120 nw, ra_N (g 46) cI 9 pt2_24, ra_J (g 86) cJ 1700 ql2_12, ra_I (g 20) cI 4 (l4 (nI l0) (nI l1) (nI dm) (nI l3)), ra_I (g 38) cI 90 ws_2_13, ra_I (g 36) cZ 900 yw2_14, ra_I (g 37) cZ 900 yo2_15, ra_J (g 43) cJ 90 be2_16, ra_J (g 44) cJ 90 bf2_17, ra_I (g 51) cI 9 zo] → va_S A s.heap H locs → lv_has ls 5 [(3, .int (nI i)), (0, .ref mm), (1, .int (nI k_3)), (2, .int (nI k_5))] → W p l e { frames := 6, cells := 0, slots := 0, locals := 142 } s m ([.ref mm, .int (nI k_3), .int (nI k_5)] : List Value).toArray below meth c H locs 0 0 (MQ below (skI D (skT cI cJ cC cZ cS) (fun (r : Int32) (u : va_W) => ∃ (tk2 : Int32), ∃ (qp2 : Nat), ∃ (am2 : Int32), ∃ (at_2 : Int32), ∃ (aa2 : Int32), ∃ (wy2 : Int64), ∃ (pt2 : Nat → Nat), ∃ (ql2 : Nat → Int64), ∃ (ws_2 : Nat → Int32), ∃ (yw2 : Nat → Int32), ∃ (yo2 : Nat → Int32), ∃ (be2 : Nat → Int64), ∃ (bf2 : Nat → Int64), ∃ (ot2 : Nat → Int32), unlikeR (kcFo L wn Ba We U 0) dm mN (nI k_3) (nI k_5) r ∧ (∀ j, pt2 j ≤ 9) ∧ u = [ro_ mm 12 (mo g (nI ta) (nI pa) (nI pe) pd (nI pb) pp pf pg pn rt rn (nI cd) sn (nI il) tk2 am2 at_2 aa2 0 0 (-1) wt wy2 0 (nI rm) (nI ud) (nI nu) sd (nI qn) (nI qw) qo (nI qb) (nI qp2) qa (nI qi) (nI oc)), ra_I (g 24) cI 6 (l6 u0 u1 u2 u3 u4 u5), ra_I (g 25) cI 6 (l6 v0 v1 v2 v3 v4 v5), ra_N (g 26) cI 3200 cs, ra_I (g 31) cI 120 nw, ra_N (g 46) cI 9 pt2, ra_J (g 86) cJ 1700 ql2, ra_I (g 20) cI 4 (l4 (nI l0) (nI l1) (nI dm) (nI l3)), ra_I (g 38) cI 90 ws_2, ra_I (g 36) cZ 900 yw2, ra_I (g 37) cZ 900 yo2, ra_J (g 43) cJ 90 be2, ra_J (g 44) cJ 90 bf2, ra_I (g 51) cI 9 ot2]) A) ([.ref mm, .int (nI k_3), .int (nI k_5)] : List Value).toArray s 0 0 A) (F0 m 51 ls []) := by
              intro n_29
              induction n_29 with
              | zero => intro i zo H locs ls hm; exact absurd hm (Nat.not_lt_zero _)
              | succ n_29 ih_lp_28 =>
                intro i zo H locs ls hm hi hot hP hD hS hl
                refine lv_iload_n hx hb dX12_unlike_51 rfl (lv_at hl 0 rfl) ?_
                refine lv_aload_n hx hb dX12_unlike_52 rfl (lv_at hl 1 rfl) ?_
                refine sk_Vi (q0 := 0) (n := 0) (rest := [.int (nI i)]) (wr := fmR om_14_2040 _) ⟨hx, hb, hml, hown, hts⟩ hl.1 (c_m_dayMany l D cI cJ cC cZ cS mm g ta pa pe pd pb pp pf pg pn rt rn cd sn il tk2_6 am2_8 at_2_9 aa2_10 0 0 (-1) wt wy2_11 0 rm ud nu sd qn qw qo qb qp2_7 qa qi oc l0 l1 dm l3) w_7_98 w_7_100 w_0_69 w_1_14 w_7_101 hd_X12_dayMany_0 ⟨⟨(Nat.le_of_ble_eq_true rfl), (Nat.le_of_ble_eq_true rfl)⟩, (Nat.le_of_ble_eq_true rfl), (Nat.le_of_ble_eq_true rfl)⟩ hK hP hD hS hA (fmT om_14_2040 0) (fmF om_14_2040 0) (fm_C1 rfl rfl) (fm_R rfl rfl) (fm_nT om_14_2040 0) (fm_nF om_14_2040 0) (fm_di om_14_2040 0) rfl rfl rfl rfl (Nat.le_of_ble_eq_true rfl) dX12_unlike_53 (fun r_30 u H locs hw hP hD hS => ?_)
                refine anE hw (fun er_32 eu_31 => ?_)
                clear hw
                subst er_32
                refine o_mgE (ws' := [ro_ mm 12 (mo g (nI ta) (nI pa) (nI pe) pd (nI pb) pp pf pg pn rt rn (nI cd) sn (nI il) tk2_6 am2_8 at_2_9 aa2_10 0 0 (-1) wt wy2_11 0 (nI rm) (nI ud) (nI nu) sd (nI qn) (nI qw) qo (nI qb) (nI qp2_7) qa (nI qi) (nI oc)), ra_I (g 24) cI 6 (l6 u0 u1 u2 u3 u4 u5), ra_I (g 25) cI 6 (l6 v0 v1 v2 v3 v4 v5), ra_N (g 26) cI 3200 cs, ra_I (g 31) cI 120 nw, ra_N (g 46) cI 9 pt2_24, ra_J (g 86) cJ 1700 ql2_12, ra_I (g 20) cI 4 (l4 (nI l0) (nI l1) (nI dm) (nI l3)), ra_I (g 38) cI 90 ws_2_13, ra_I (g 36) cZ 900 yw2_14, ra_I (g 37) cZ 900 yo2_15, ra_J (g 43) cJ 90 be2_16, ra_J (g 44) cJ 90 bf2_17, ra_I (g 51) cI 9 zo]) eu_31 hP hD rfl (fun hP hD => ?_)
                refine lv_icmp_ge (tgt := 77) hx hb dX12_unlike_56 (by decide) (fun c_33 => ?_) (fun c_33 => ?_)
                · have c_33 : dm ≤ i := (nle dm i (by omega) (by omega)).mp c_33
                  refine lv_aload_n hx hb dX12_unlike_77 rfl (lv_at hl 1 rfl) ?_
                  refine lv_iload_n hx hb dX12_unlike_78 rfl (lv_at hl 3 rfl) ?_
                  refine lv_i2l hx hb dX12_unlike_79 rfl ?_
                  refine sk_topl (nL k_5) (kx_i2l (by omega)) ?_
                  refine sk_Vv (q0 := 0) (n := 1) (rest := []) (wr := fmR om_14_235c _) ⟨hx, hb, hml, hown, hts⟩ hl.1 (c_nm_walksTo l D cI cJ cC cZ cS mm g ta pa pe pd pb pp pf pg pn rt rn cd sn il tk2_6 am2_8 at_2_9 aa2_10 0 wt wy2_11 0 rm ud nu sd qn qw qo qb qp2_7 qa qi oc l0 l1 dm l3 nw yo2_15 yw2_14 be2_16 pt2_24 k_5 hdm (by omega) hbe_18 (nuX hcf_19 (nwX_a0 hnw) hnw.1 hu2) (nwX_ok hnw) hpt2_26) w_7_217 w_7_219 w_0_88 w_1_14 w_7_220 hd_X12_walksTo_1 ⟨⟨(Nat.le_of_ble_eq_true rfl), (Nat.le_of_ble_eq_true rfl)⟩, (Nat.le_of_ble_eq_true rfl), (Nat.le_of_ble_eq_true rfl)⟩ hK hP hD hS hA [0, 7, 4, 10, 9, 11, 5] (fmF om_14_235c 0) rfl (fm_R rfl rfl) (by decide +kernel) (fm_nF om_14_235c 0) (by decide +kernel) rfl rfl rfl rfl (Nat.le_of_ble_eq_true rfl) dX12_unlike_80 (fun u H locs hw hP hD hS => ?_)
                  refine exE hw (fun pt2_34 hw1 => anE hw1 (fun hpw_35 hw2 => anE hw2 (fun hpt2_36 eu_37 => ?_)))
                  clear hw hw1 hw2
                  refine o_mgqE (ux := [ro_ mm 12 (mo g (nI ta) (nI pa) (nI pe) pd (nI pb) pp pf pg pn rt rn (nI cd) sn (nI il) tk2_6 am2_8 at_2_9 aa2_10 0 0 (-1) wt wy2_11 0 (nI rm) (nI ud) (nI nu) sd (nI qn) (nI qw) qo (nI qb) (nI qp2_7) qa (nI qi) (nI oc)), ra_I (g 31) cI 120 nw, ra_N (g 46) cI 9 pt2_34, ra_I (g 20) cI 4 (l4 (nI l0) (nI l1) (nI dm) (nI l3)), ra_I (g 36) cZ 900 yw2_14, ra_I (g 37) cZ 900 yo2_15, ra_J (g 43) cJ 90 be2_16]) (ws' := [ro_ mm 12 (mo g (nI ta) (nI pa) (nI pe) pd (nI pb) pp pf pg pn rt rn (nI cd) sn (nI il) tk2_6 am2_8 at_2_9 aa2_10 0 0 (-1) wt wy2_11 0 (nI rm) (nI ud) (nI nu) sd (nI qn) (nI qw) qo (nI qb) (nI qp2_7) qa (nI qi) (nI oc)), ra_I (g 24) cI 6 (l6 u0 u1 u2 u3 u4 u5), ra_I (g 25) cI 6 (l6 v0 v1 v2 v3 v4 v5), ra_N (g 26) cI 3200 cs, ra_I (g 31) cI 120 nw, ra_N (g 46) cI 9 pt2_34, ra_J (g 86) cJ 1700 ql2_12, ra_I (g 20) cI 4 (l4 (nI l0) (nI l1) (nI dm) (nI l3)), ra_I (g 38) cI 90 ws_2_13, ra_I (g 36) cZ 900 yw2_14, ra_I (g 37) cZ 900 yo2_15, ra_J (g 43) cJ 90 be2_16, ra_J (g 44) cJ 90 bf2_17, ra_I (g 51) cI 9 zo]) eu_37 [0, 2, 6, 1, 4, 3, 5] (by decide +kernel) rfl hP hD rfl (fun hP hD => ?_)
                  have hpx2 := mpX hcf_19 (nwX_a0 hnw) hnw.1 hu2 hpw_35
                  refine lv_iconst (v := 0) hx hb dX12_unlike_83 ic_0 ?_
                  refine lv_istore_n (lv' := [(3, .int 0), (0, .ref mm), (1, .int (nI k_3)), (2, .int (nI k_5))]) hx hb dX12_unlike_84 rfl hl (by decide) rfl (fun ls hl => ?_)
                  refine lv_iconst (v := 0) hx hb dX12_unlike_85 ic_0 ?_
                  refine lv_istore (lv' := [(4, .int 0), (3, .int 0), (0, .ref mm), (1, .int (nI k_3)), (2, .int (nI k_5))]) hx hb dX12_unlike_86 hl (by decide) rfl (fun ls hl => ?_)
                  have lp_38 : ∀ (n_39 : Nat) (jj : Nat) (un : Nat) (H : Heap) (locs : List Loc) (ls : Array Slot), dm - jj < n_39 → (jj ≤ dm) → (un = kcDf (kcM (kcFo L wn Ba We U 0) dm mN k_3) (kcM (kcFo L wn Ba We U 0) dm mN k_5) jj) → va_P D vwCl [ro_ mm 12 (mo g (nI ta) (nI pa) (nI pe) pd (nI pb) pp pf pg pn rt rn (nI cd) sn (nI il) tk2_6 am2_8 at_2_9 aa2_10 0 0 (-1) wt wy2_11 0 (nI rm) (nI ud) (nI nu) sd (nI qn) (nI qw) qo (nI qb) (nI qp2_7) qa (nI qi) (nI oc)), ra_I (g 24) cI 6 (l6 u0 u1 u2 u3 u4 u5), ra_I (g 25) cI 6 (l6 v0 v1 v2 v3 v4 v5), ra_N (g 26) cI 3200 cs, ra_I (g 31) cI 120 nw, ra_N (g 46) cI 9 pt2_34, ra_J (g 86) cJ 1700 ql2_12, ra_I (g 20) cI 4 (l4 (nI l0) (nI l1) (nI dm) (nI l3)), ra_I (g 38) cI 90 ws_2_13, ra_I (g 36) cZ 900 yw2_14, ra_I (g 37) cZ 900 yo2_15, ra_J (g 43) cJ 90 be2_16, ra_J (g 44) cJ 90 bf2_17, ra_I (g 51) cI 9 zo] H → va_D A [ro_ mm 12 (mo g (nI ta) (nI pa) (nI pe) pd (nI pb) pp pf pg pn rt rn (nI cd) sn (nI il) tk2_6 am2_8 at_2_9 aa2_10 0 0 (-1) wt wy2_11 0 (nI rm) (nI ud) (nI nu) sd (nI qn) (nI qw) qo (nI qb) (nI qp2_7) qa (nI qi) (nI oc)), ra_I (g 24) cI 6 (l6 u0 u1 u2 u3 u4 u5), ra_I (g 25) cI 6 (l6 v0 v1 v2 v3 v4 v5), ra_N (g 26) cI 3200 cs, ra_I (g 31) cI 120 nw, ra_N (g 46) cI 9 pt2_34, ra_J (g 86) cJ 1700 ql2_12, ra_I (g 20) cI 4 (l4 (nI l0) (nI l1) (nI dm) (nI l3)), ra_I (g 38) cI 90 ws_2_13, ra_I (g 36) cZ 900 yw2_14, ra_I (g 37) cZ 900 yo2_15, ra_J (g 43) cJ 90 be2_16, ra_J (g 44) cJ 90 bf2_17, ra_I (g 51) cI 9 zo] → va_S A s.heap H locs → lv_has ls 5 [(4, .int (nI jj)), (3, .int (nI un)), (0, .ref mm), (1, .int (nI k_3)), (2, .int (nI k_5))] → W p l e { frames := 6, cells := 0, slots := 0, locals := 142 } s m ([.ref mm, .int (nI k_3), .int (nI k_5)] : List Value).toArray below meth c H locs 0 0 (MQ below (skI D (skT cI cJ cC cZ cS) (fun (r : Int32) (u : va_W) => ∃ (tk2 : Int32), ∃ (qp2 : Nat), ∃ (am2 : Int32), ∃ (at_2 : Int32), ∃ (aa2 : Int32), ∃ (wy2 : Int64), ∃ (pt2 : Nat → Nat), ∃ (ql2 : Nat → Int64), ∃ (ws_2 : Nat → Int32), ∃ (yw2 : Nat → Int32), ∃ (yo2 : Nat → Int32), ∃ (be2 : Nat → Int64), ∃ (bf2 : Nat → Int64), ∃ (ot2 : Nat → Int32), unlikeR (kcFo L wn Ba We U 0) dm mN (nI k_3) (nI k_5) r ∧ (∀ j, pt2 j ≤ 9) ∧ u = [ro_ mm 12 (mo g (nI ta) (nI pa) (nI pe) pd (nI pb) pp pf pg pn rt rn (nI cd) sn (nI il) tk2 am2 at_2 aa2 0 0 (-1) wt wy2 0 (nI rm) (nI ud) (nI nu) sd (nI qn) (nI qw) qo (nI qb) (nI qp2) qa (nI qi) (nI oc)), ra_I (g 24) cI 6 (l6 u0 u1 u2 u3 u4 u5), ra_I (g 25) cI 6 (l6 v0 v1 v2 v3 v4 v5), ra_N (g 26) cI 3200 cs, ra_I (g 31) cI 120 nw, ra_N (g 46) cI 9 pt2, ra_J (g 86) cJ 1700 ql2, ra_I (g 20) cI 4 (l4 (nI l0) (nI l1) (nI dm) (nI l3)), ra_I (g 38) cI 90 ws_2, ra_I (g 36) cZ 900 yw2, ra_I (g 37) cZ 900 yo2, ra_J (g 43) cJ 90 be2, ra_J (g 44) cJ 90 bf2, ra_I (g 51) cI 9 ot2]) A) ([.ref mm, .int (nI k_3), .int (nI k_5)] : List Value).toArray s 0 0 A) (F0 m 88 ls []) := by
                    intro n_39
                    induction n_39 with
                    | zero => intro jj un H locs ls hm; exact absurd hm (Nat.not_lt_zero _)
                    | succ n_39 ih_lp_38 =>
                      intro jj un H locs ls hm hjj hun hP hD hS hl
                      refine lv_iload hx hb dX12_unlike_88 (lv_at hl 0 rfl) ?_
                      refine lv_aload_n hx hb dX12_unlike_90 rfl (lv_at hl 2 rfl) ?_
                      refine sk_Vi (q0 := 0) (n := 0) (rest := [.int (nI jj)]) (wr := fmR om_14_2040 _) ⟨hx, hb, hml, hown, hts⟩ hl.1 (c_m_dayMany l D cI cJ cC cZ cS mm g ta pa pe pd pb pp pf pg pn rt rn cd sn il tk2_6 am2_8 at_2_9 aa2_10 0 0 (-1) wt wy2_11 0 rm ud nu sd qn qw qo qb qp2_7 qa qi oc l0 l1 dm l3) w_7_98 w_7_100 w_0_69 w_1_14 w_7_101 hd_X12_dayMany_0 ⟨⟨(Nat.le_of_ble_eq_true rfl), (Nat.le_of_ble_eq_true rfl)⟩, (Nat.le_of_ble_eq_true rfl), (Nat.le_of_ble_eq_true rfl)⟩ hK hP hD hS hA (fmT om_14_2040 0) (fmF om_14_2040 0) (fm_C1 rfl rfl) (fm_R rfl rfl) (fm_nT om_14_2040 0) (fm_nF om_14_2040 0) (fm_di om_14_2040 0) rfl rfl rfl rfl (Nat.le_of_ble_eq_true rfl) dX12_unlike_91 (fun r_40 u H locs hw hP hD hS => ?_)
                      refine anE hw (fun er_42 eu_41 => ?_)
                      clear hw
                      subst er_42
                      refine o_mgE (ws' := [ro_ mm 12 (mo g (nI ta) (nI pa) (nI pe) pd (nI pb) pp pf pg pn rt rn (nI cd) sn (nI il) tk2_6 am2_8 at_2_9 aa2_10 0 0 (-1) wt wy2_11 0 (nI rm) (nI ud) (nI nu) sd (nI qn) (nI qw) qo (nI qb) (nI qp2_7) qa (nI qi) (nI oc)), ra_I (g 24) cI 6 (l6 u0 u1 u2 u3 u4 u5), ra_I (g 25) cI 6 (l6 v0 v1 v2 v3 v4 v5), ra_N (g 26) cI 3200 cs, ra_I (g 31) cI 120 nw, ra_N (g 46) cI 9 pt2_34, ra_J (g 86) cJ 1700 ql2_12, ra_I (g 20) cI 4 (l4 (nI l0) (nI l1) (nI dm) (nI l3)), ra_I (g 38) cI 90 ws_2_13, ra_I (g 36) cZ 900 yw2_14, ra_I (g 37) cZ 900 yo2_15, ra_J (g 43) cJ 90 be2_16, ra_J (g 44) cJ 90 bf2_17, ra_I (g 51) cI 9 zo]) eu_41 hP hD rfl (fun hP hD => ?_)
                      refine lv_icmp_ge (tgt := 123) hx hb dX12_unlike_94 (by decide) (fun c_43 => ?_) (fun c_43 => ?_)
                      · have c_43 : dm ≤ jj := (nle dm jj (by omega) (by omega)).mp c_43
                        refine lv_iload_n hx hb dX12_unlike_123 rfl (lv_at hl 1 rfl) ?_
                        exact sk_iret hx hb hr rfl hlocks hK hP hD hS (⟨tk2_6, qp2_7, am2_8, at_2_9, aa2_10, wy2_11, pt2_34, ql2_12, ws_2_13, yw2_14, yo2_15, be2_16, bf2_17, zo, unl_3 (by omega) hu1 hu2 (by rw [hun, show jj = dm by omega]), hpt2_36, rfl⟩) (Nat.le_of_ble_eq_true rfl) (Nat.le_of_ble_eq_true rfl) dX12_unlike_124
                      · have c_43 : ¬ (dm ≤ jj) := fun h => c_43 ((nle dm jj (by omega) (by omega)).mpr h)
                        refine lv_aload_n hx hb dX12_unlike_97 rfl (lv_at hl 2 rfl) ?_
                        refine sk_get (v := .ref (g 51)) (C := RX12) (T := TX12) (N := 92) hx hb hts inlX12 hown hK hP 0 rfl rfl 51 (Nat.le_of_ble_eq_true rfl) w_5_206 rfl dX12_unlike_98 ?_
                        refine lv_iload hx hb dX12_unlike_101 (lv_at hl 0 rfl) ?_
                        refine va_iald hx hb hK.1 hP 13 0 rfl rfl (vin jj 9 (by omega) (Nat.le_of_ble_eq_true rfl)) dX12_unlike_103 ?_
                        refine sk_top (nI (kcM (kcFo L wn Ba We U 0) dm mN k_3 jj)) (by rw [nI_clamp (by omega)]; exact hot jj (by omega)) ?_
                        refine lv_aload_n hx hb dX12_unlike_104 rfl (lv_at hl 2 rfl) ?_
                        refine sk_get (v := .ref (g 46)) (C := RX12) (T := TX12) (N := 92) hx hb hts inlX12 hown hK hP 0 rfl rfl 46 (Nat.le_of_ble_eq_true rfl) w_5_201 rfl dX12_unlike_105 ?_
                        refine lv_iload hx hb dX12_unlike_108 (lv_at hl 0 rfl) ?_
                        refine va_iald hx hb hK.1 hP 5 0 rfl rfl (vin jj 9 (by omega) (Nat.le_of_ble_eq_true rfl)) dX12_unlike_110 ?_
                        refine sk_top (nI (pt2_34 jj)) (nrd pt2_34 jj (by omega)) ?_
                        have hb_44 := hpt2_36 jj
                        have hb2_ := kcM_10 (d := jj) (show mN < 10 by have := hnw.1; omega) hu2 (by omega)
                        have hb1_ := kcM_10 (d := jj) (show mN < 10 by have := hnw.1; omega) hu1 (by omega)
                        refine sk_top (nI (kcM (kcFo L wn Ba We U 0) dm mN k_5 jj)) (congrArg nI (hpx2 jj (by omega))) ?_
                        refine lv_icmp_eq (tgt := 117) hx hb dX12_unlike_111 (by decide) (fun c_45 => ?_) (fun c_45 => ?_)
                        · have c_45 : kcM (kcFo L wn Ba We U 0) dm mN k_3 jj = kcM (kcFo L wn Ba We U 0) dm mN k_5 jj := (neq (kcM (kcFo L wn Ba We U 0) dm mN k_3 jj) (kcM (kcFo L wn Ba We U 0) dm mN k_5 jj) (by omega) (by omega)).mp c_45
                          refine lv_iinc (v := nI (jj + 1)) (lv' := [(4, .int (nI (jj + 1))), (3, .int (nI un)), (0, .ref mm), (1, .int (nI k_3)), (2, .int (nI k_5))]) hx hb dX12_unlike_117 hl (k := 0) rfl (ninc jj 1 (by decide)) (by decide) rfl (fun ls hl => ?_)
                          refine lv_goto (tgt := 88) hx hb dX12_unlike_120 (by decide) ?_
                          exact ih_lp_38 (jj + 1) un _ _ _ (by omega) (by omega) (hun.trans (kdf_n c_45)) hP hD hS (lv_sub hl [0, 1, 2, 3, 4] rfl)
                        · have c_45 : ¬ (kcM (kcFo L wn Ba We U 0) dm mN k_3 jj = kcM (kcFo L wn Ba We U 0) dm mN k_5 jj) := fun h => c_45 ((neq (kcM (kcFo L wn Ba We U 0) dm mN k_3 jj) (kcM (kcFo L wn Ba We U 0) dm mN k_5 jj) (by omega) (by omega)).mpr h)
                          refine lv_iinc (v := nI (un + 1)) (lv' := [(3, .int (nI (un + 1))), (4, .int (nI jj)), (0, .ref mm), (1, .int (nI k_3)), (2, .int (nI k_5))]) hx hb dX12_unlike_114 hl (k := 1) rfl (ninc un 1 (by decide)) (by decide) rfl (fun ls hl => ?_)
                          refine lv_iinc (v := nI (jj + 1)) (lv' := [(4, .int (nI (jj + 1))), (3, .int (nI (un + 1))), (0, .ref mm), (1, .int (nI k_3)), (2, .int (nI k_5))]) hx hb dX12_unlike_117 hl (k := 1) rfl (ninc jj 1 (by decide)) (by decide) rfl (fun ls hl => ?_)
                          refine lv_goto (tgt := 88) hx hb dX12_unlike_120 (by decide) ?_
                          exact ih_lp_38 (jj + 1) (un + 1) _ _ _ (by omega) (by omega) (by rw [hun]; exact kdf_y c_45) hP hD hS (lv_sub hl [0, 1, 2, 3, 4] rfl)
                  exact lp_38 (dm - 0 + 1) 0 0 _ _ _ (Nat.lt_succ_self _) (by omega) rfl hP hD hS (lv_sub hl [0, 1, 2, 3, 4] rfl)
                · have c_33 : ¬ (dm ≤ i) := fun h => c_33 ((nle dm i (by omega) (by omega)).mpr h)
                  refine lv_aload_n hx hb dX12_unlike_59 rfl (lv_at hl 1 rfl) ?_
                  refine sk_get (v := .ref (g 51)) (C := RX12) (T := TX12) (N := 92) hx hb hts inlX12 hown hK hP 0 rfl rfl 51 (Nat.le_of_ble_eq_true rfl) w_5_206 rfl dX12_unlike_60 ?_
                  refine lv_iload_n hx hb dX12_unlike_63 rfl (lv_at hl 0 rfl) ?_
                  refine lv_aload_n hx hb dX12_unlike_64 rfl (lv_at hl 1 rfl) ?_
                  refine sk_get (v := .ref (g 46)) (C := RX12) (T := TX12) (N := 92) hx hb hts inlX12 hown hK hP 0 rfl rfl 46 (Nat.le_of_ble_eq_true rfl) w_5_201 rfl dX12_unlike_65 ?_
                  refine lv_iload_n hx hb dX12_unlike_68 rfl (lv_at hl 0 rfl) ?_
                  refine va_iald hx hb hK.1 hP 5 0 rfl rfl (vin i 9 (by omega) (Nat.le_of_ble_eq_true rfl)) dX12_unlike_69 ?_
                  refine sk_top (nI (pt2_24 i)) (nrd pt2_24 i (by omega)) ?_
                  have hb_46 := hpt2_26 i
                  refine sk_iastE (k := i) (ws' := fun f_47 => [ro_ mm 12 (mo g (nI ta) (nI pa) (nI pe) pd (nI pb) pp pf pg pn rt rn (nI cd) sn (nI il) tk2_6 am2_8 at_2_9 aa2_10 0 0 (-1) wt wy2_11 0 (nI rm) (nI ud) (nI nu) sd (nI qn) (nI qw) qo (nI qb) (nI qp2_7) qa (nI qi) (nI oc)), ra_I (g 24) cI 6 (l6 u0 u1 u2 u3 u4 u5), ra_I (g 25) cI 6 (l6 v0 v1 v2 v3 v4 v5), ra_N (g 26) cI 3200 cs, ra_I (g 31) cI 120 nw, ra_N (g 46) cI 9 pt2_24, ra_J (g 86) cJ 1700 ql2_12, ra_I (g 20) cI 4 (l4 (nI l0) (nI l1) (nI dm) (nI l3)), ra_I (g 38) cI 90 ws_2_13, ra_I (g 36) cZ 900 yw2_14, ra_I (g 37) cZ 900 yo2_15, ra_J (g 43) cJ 90 be2_16, ra_J (g 44) cJ 90 bf2_17, ra_I (g 51) cI 9 f_47]) hx hb hK hP hD hS 13 0 rfl rfl (by omega) (by omega) (fun _ => rfl) dX12_unlike_70 (fun f_47 H locs ef_48 hP hD hS => ?_)
                  refine lv_iinc (v := nI (i + 1)) (lv' := [(3, .int (nI (i + 1))), (0, .ref mm), (1, .int (nI k_3)), (2, .int (nI k_5))]) hx hb dX12_unlike_71 hl (k := 0) rfl (ninc i 1 (by decide)) (by decide) rfl (fun ls hl => ?_)
                  refine lv_goto (tgt := 51) hx hb dX12_unlike_74 (by decide) ?_
                  exact ih_lp_28 (i + 1) f_47 _ _ _ (by omega) (by omega) (kot_s hot ef_48 (hpx1 i (by omega))) hP hD hS (lv_sub hl [0, 1, 2, 3] rfl)
            exact lp_28 (dm - 0 + 1) 0 ot _ _ _ (Nat.lt_succ_self _) (by omega) (fun j hj => absurd hj (Nat.not_lt_zero j)) hP hD hS (lv_sub hl [0, 1, 2, 3] rfl)
          · have hn2 : ¬ k_5 < kcC (kcFo L wn Ba We U 0) dm 0 mN := fun hq => c_23 (by rw [hwy_20]; exact (kcl_i (k := k_5) (n := kcC (kcFo L wn Ba We U 0) dm 0 mN) (by omega) (by have := kcC_9 (kcFo L wn Ba We U 0) hdm 0 mN; omega)).mpr hq)
            refine lv_iconst (v := (-1)) hx hb dX12_unlike_41 (by decide) ?_
            exact sk_iret hx hb hr rfl hlocks hK hP hD hS (⟨tk2_6, qp2_7, am2_8, at_2_9, aa2_10, wy2_11, pt, ql2_12, ws_2_13, yw2_14, yo2_15, be2_16, bf2_17, ot, unl_2 (fun x hx hq => hn2 (by have := (neq k_5 x (by omega) (by omega)).mp hq; omega)), hpt, rfl⟩) (Nat.le_of_ble_eq_true rfl) (Nat.le_of_ble_eq_true rfl) dX12_unlike_42
      · skip
        refine lv_iconst (v := (-1)) hx hb dX12_unlike_15 (by decide) ?_
        exact sk_iret hx hb hr rfl hlocks hK hP hD hS (⟨tk, qp, am, at_, aa, wy, pt, ql, ws_, yw, yo, be, bf, ot, unl_2 (fun x hx hq => kIn_neg (n := 2147483647) (Int32.not_le.mp c_4) (by omega) ⟨x, by have := kcC_9 (kcFo L wn Ba We U 0) (show dm ≤ 9 by omega) 0 mN; omega, hq⟩), hpt, rfl⟩) (Nat.le_of_ble_eq_true rfl) (Nat.le_of_ble_eq_true rfl) dX12_unlike_16
set_option maxHeartbeats 4000000 in
set_option maxRecDepth 100000 in
theorem c_vm_doesAgreeF (l : Launch) (D : va_G) (cI cJ cC cZ cS : ClassId) (mm : Nat) (g : Nat → Nat) (ta : Nat) (pa : Nat) (pe : Nat) (pd : Int32) (pb : Nat) (pp : Int32) (pf : Int32) (pg : Int32) (pn : Int32) (rt : Int32) (rn : Int32) (cd : Nat) (sn : Int32) (il : Nat) (tk : Int32) (am : Int32) (at_ : Int32) (aa : Int32) (wt : Int32) (wy : Int64) (rm : Nat) (ud : Nat) (nu : Nat) (sd : Int64) (qn : Nat) (qw : Nat) (qo : Int32) (qb : Nat) (qp : Nat) (qa : Int64) (qi : Nat) (oc : Nat) (so : Nat) (l0 : Nat) (l1 : Nat) (dm : Nat) (l3 : Nat) (nw : Nat → Int32) (yo : Nat → Int32) (yw : Nat → Int32) (be : Nat → Int64) (bf : Nat → Int64) (wn : Nat) (mN : Nat) (Ba : Nat → Nat) (We : Nat → Nat) (U : Nat → Bool) (ke : Nat) (lg : KLg) (L : LkS) (wsx : Nat → Int32) (li : Nat) (hdm : dm ≤ 9) (hdm1 : 1 ≤ dm) (hso : so < 512) (hmld : mlD L wn Ba We li dm wsx yw yo) (hnw : nwX wn mN Ba We U ke lg nw) : skM l yX12_doesAgree cX12_doesAgree 2 (some .boolean) 4 92 0 0 D (skT cI cJ cC cZ cS) [.ref mm, .int (nI so)] [ro_ mm 12 (mo g (nI ta) (nI pa) (nI pe) pd (nI pb) pp pf pg pn rt rn (nI cd) sn (nI il) tk am at_ aa 0 0 (-1) wt wy 0 (nI rm) (nI ud) (nI nu) sd (nI qn) (nI qw) qo (nI qb) (nI qp) qa (nI qi) (nI oc)), ra_I (g 20) cI 4 (l4 (nI l0) (nI l1) (nI dm) (nI l3)), ra_I (g 31) cI 120 nw, ra_I (g 37) cZ 900 yo, ra_I (g 36) cZ 900 yw, ra_J (g 43) cJ 90 be, ra_J (g 44) cJ 90 bf] (skI D (skT cI cJ cC cZ cS) (fun (r : Int32) (u : va_W) => ∃ (b : Nat), ∃ (wy2 : Int64), ∃ (be2 : Nat → Int64), ∃ (bf2 : Nat → Int64), mwY (kcFo L wn Ba We (kUs U so) li) dm mN be2 bf2 ∧ beOk (cfN nw yw yo (nI so)) dm 0 be2 ∧ wy2 = Int64.ofNat (kcC (kcFo L wn Ba We (kUs U so) li) dm 0 mN) ∧ ((b = 0 ∧ kcC (kcFo L wn Ba We (kUs U so) li) dm 0 mN = 0) ∨ (b = 1 ∧ 0 < kcC (kcFo L wn Ba We (kUs U so) li) dm 0 mN)) ∧ r = nI b ∧ u = [ro_ mm 12 (mo g (nI ta) (nI pa) (nI pe) pd (nI pb) pp pf pg pn rt rn (nI cd) sn (nI il) tk am at_ aa 0 0 (-1) wt wy2 0 (nI rm) (nI ud) (nI nu) sd (nI qn) (nI qw) qo (nI qb) (nI qp) qa (nI qi) (nI oc)), ra_I (g 20) cI 4 (l4 (nI l0) (nI l1) (nI dm) (nI l3)), ra_I (g 31) cI 120 nw, ra_I (g 37) cZ 900 yo, ra_I (g 36) cZ 900 yw, ra_J (g 43) cJ 90 be2, ra_J (g 44) cJ 90 bf2])) := by
  refine skM_of pf_X12_doesAgree (Nat.le_of_ble_eq_true rfl) ?_
  intro p e s m below meth c A ls E hP hD hl
  refine skE_el E (fun hx hb hr hml hlocks hin hown hts hK hA => ?_)
  have hown : s.vm.findClass RX12 = some m.cls := hown
  have hS : va_S A s.heap s.heap [] := va_S.rf
  have hl : lv_has ls 2 [(0, .ref mm), (1, .int (nI so))] := hl
  refine lv_aload_n hx hb dX12_doesAgree_0 rfl (lv_at hl 0 rfl) ?_
  refine lv_iload_n hx hb dX12_doesAgree_1 rfl (lv_at hl 1 rfl) ?_
  refine sk_put (ws' := [ro_ mm 12 (mo g (nI ta) (nI pa) (nI pe) pd (nI pb) pp pf pg pn rt rn (nI cd) sn (nI il) tk am at_ aa (nI so) 0 (-1) wt wy 0 (nI rm) (nI ud) (nI nu) sd (nI qn) (nI qw) qo (nI qb) (nI qp) qa (nI qi) (nI oc)), ra_I (g 20) cI 4 (l4 (nI l0) (nI l1) (nI dm) (nI l3)), ra_I (g 31) cI 120 nw, ra_I (g 37) cZ 900 yo, ra_I (g 36) cZ 900 yw, ra_J (g 43) cJ 90 be, ra_J (g 44) cJ 90 bf]) (C := RX12) (T := TX12) (N := 92) (v := .int (nI so)) hx hb hts inlX12 tyX12 tyX12_ok nmX12 hown hK hP hD hS 0 rfl rfl 39 (Nat.le_of_ble_eq_true rfl) w_5_194 rfl rfl rfl (Nat.le_of_ble_eq_true rfl) rfl dX12_doesAgree_2 (fun H locs hP hD hS => ?_)
  refine lv_aload_n hx hb dX12_doesAgree_5 rfl (lv_at hl 0 rfl) ?_
  refine sk_Vv (q0 := 0) (n := 0) (rest := []) (wr := fmR om_7_7f _) ⟨hx, hb, hml, hown, hts⟩ hl.1 (c_vm_laysWaysF l D cI cJ cC cZ cS mm g ta pa pe pd pb pp pf pg pn rt rn cd sn il tk am at_ aa (nI so) wt wy 0 rm ud nu sd qn qw qo qb qp qa qi oc l0 l1 dm l3 nw yo yw be bf hdm hdm1 (nwX_ok hnw)) w_7_197 w_7_199 w_0_84 w_1_14 w_7_200 hd_X12_laysWays_0 ⟨⟨(Nat.le_of_ble_eq_true rfl), (Nat.le_of_ble_eq_true rfl)⟩, (Nat.le_of_ble_eq_true rfl), (Nat.le_of_ble_eq_true rfl)⟩ hK hP hD hS hA (fmT om_7_7f 0) (fmF om_7_7f 0) (fm_C1 rfl rfl) (fm_R rfl rfl) (fm_nT om_7_7f 0) (fm_nF om_7_7f 0) (fm_di om_7_7f 0) rfl rfl rfl rfl (Nat.le_of_ble_eq_true rfl) dX12_doesAgree_6 (fun u H locs hw hP hD hS => ?_)
  refine exE hw (fun wy2_1 hw1 => exE hw1 (fun be2_2 hw2 => exE hw2 (fun bf2_3 hw3 => anE hw3 (fun hbe_4 hw4 => anE hw4 (fun hbf_5 hw5 => anE hw5 (fun hwy_6 eu_7 => ?_))))))
  clear hw hw1 hw2 hw3 hw4 hw5
  refine o_mgE (ws' := [ro_ mm 12 (mo g (nI ta) (nI pa) (nI pe) pd (nI pb) pp pf pg pn rt rn (nI cd) sn (nI il) tk am at_ aa (nI so) 0 (-1) wt wy2_1 0 (nI rm) (nI ud) (nI nu) sd (nI qn) (nI qw) qo (nI qb) (nI qp) qa (nI qi) (nI oc)), ra_I (g 20) cI 4 (l4 (nI l0) (nI l1) (nI dm) (nI l3)), ra_I (g 31) cI 120 nw, ra_I (g 37) cZ 900 yo, ra_I (g 36) cZ 900 yw, ra_J (g 43) cJ 90 be2_2, ra_J (g 44) cJ 90 bf2_3]) eu_7 hP hD rfl (fun hP hD => ?_)
  have hwyS := hwy_6.trans (congrArg Int64.ofNat (wyX (cfS hnw hmld hdm hso) (by omega) (nwX_a0 hnw) hnw.1))
  have hc9 := kcC_9 (kcFo L wn Ba We (kUs U so) li) hdm 0 mN
  refine lv_aload_n hx hb dX12_doesAgree_9 rfl (lv_at hl 0 rfl) ?_
  refine lv_iconst (v := 0) hx hb dX12_doesAgree_10 ic_0 ?_
  refine sk_put (ws' := [ro_ mm 12 (mo g (nI ta) (nI pa) (nI pe) pd (nI pb) pp pf pg pn rt rn (nI cd) sn (nI il) tk am at_ aa 0 0 (-1) wt wy2_1 0 (nI rm) (nI ud) (nI nu) sd (nI qn) (nI qw) qo (nI qb) (nI qp) qa (nI qi) (nI oc)), ra_I (g 20) cI 4 (l4 (nI l0) (nI l1) (nI dm) (nI l3)), ra_I (g 31) cI 120 nw, ra_I (g 37) cZ 900 yo, ra_I (g 36) cZ 900 yw, ra_J (g 43) cJ 90 be2_2, ra_J (g 44) cJ 90 bf2_3]) (C := RX12) (T := TX12) (N := 92) (v := .int 0) hx hb hts inlX12 tyX12 tyX12_ok nmX12 hown hK hP hD hS 0 rfl rfl 39 (Nat.le_of_ble_eq_true rfl) w_5_194 rfl rfl rfl (Nat.le_of_ble_eq_true rfl) rfl dX12_doesAgree_11 (fun H locs hP hD hS => ?_)
  refine lv_aload_n hx hb dX12_doesAgree_14 rfl (lv_at hl 0 rfl) ?_
  refine sk_get (v := .long wy2_1) (C := RX12) (T := TX12) (N := 92) hx hb hts inlX12 hown hK hP 0 rfl rfl 45 (Nat.le_of_ble_eq_true rfl) w_5_200 rfl dX12_doesAgree_15 ?_
  refine lv_lconst (v := 0) hx hb dX12_doesAgree_18 (by decide) ?_
  refine W.lcmp hx hb dX12_doesAgree_19 ?_
  refine lv_if_le (tgt := 27) hx hb dX12_doesAgree_20 (by decide) (fun c_8 => ?_) (fun c_8 => ?_)
  · skip
    refine lv_iconst (v := 0) hx hb dX12_doesAgree_27 ic_0 ?_
    exact sk_iret hx hb hr rfl hlocks hK hP hD hS (⟨0, wy2_1, be2_2, bf2_3, (mwX (cfS hnw hmld hdm hso) (nwX_a0 hnw) hnw.1 hbe_4 hbf_5), hbe_4, hwyS, Or.inl ⟨rfl, dag_0 hwyS hc9 c_8⟩, rfl, rfl⟩) (Nat.le_of_ble_eq_true rfl) (Nat.le_of_ble_eq_true rfl) dX12_doesAgree_28
  · skip
    refine lv_iconst (v := 1) hx hb dX12_doesAgree_23 ic_1 ?_
    refine lv_goto (tgt := 28) hx hb dX12_doesAgree_24 (by decide) ?_
    exact sk_iret hx hb hr rfl hlocks hK hP hD hS (⟨1, wy2_1, be2_2, bf2_3, (mwX (cfS hnw hmld hdm hso) (nwX_a0 hnw) hnw.1 hbe_4 hbf_5), hbe_4, hwyS, Or.inr ⟨rfl, dag_1 hwyS hc9 c_8⟩, rfl, rfl⟩) (Nat.le_of_ble_eq_true rfl) (Nat.le_of_ble_eq_true rfl) dX12_doesAgree_28
theorem dg_X12_lies_0_0 : bqL cX12_lies 0 [(0, [42]), (1, [180, 1, 46]), (4, [154, 0, 5]), (9, [3]), (10, [60]), (11, [3]), (12, [61]), (13, [28]), (14, [16, 10]), (16, [162, 0, 28]), (44, [27]), (45, [172]), (19, [42]), (20, [28]), (21, [182, 1, 129]), (24, [42]), (25, [3]), (26, [182, 1, 167]), (29, [153, 0, 9]), (38, [132, 2, 1]), (41, [167, 255, 228]), (32, [27]), (33, [4]), (34, [28]), (35, [120]), (36, [128]), (37, [60]), (7, [2]), (8, [172])] = true := by decide +kernel
theorem dX12_lies_0 : decode cX12_lies 0 = .ok (.aload_n 0, 1) := q_aload_n0 (bat_get dg_X12_lies_0_0 0 rfl rfl)
theorem dX12_lies_1 : decode cX12_lies 1 = .ok (.getfield 302, 3) := q_getfield (bat_get dg_X12_lies_0_0 1 rfl rfl) rfl
theorem dX12_lies_4 : decode cX12_lies 4 = .ok (.ifCond .ne 5, 3) := q_ifCond_ne (bat_get dg_X12_lies_0_0 2 rfl rfl) rfl
theorem dX12_lies_9 : decode cX12_lies 9 = .ok (.iconst 0, 1) := q_iconst0 (bat_get dg_X12_lies_0_0 3 rfl rfl)
theorem dX12_lies_10 : decode cX12_lies 10 = .ok (.istore_n 1, 1) := q_istore_n1 (bat_get dg_X12_lies_0_0 4 rfl rfl)
theorem dX12_lies_11 : decode cX12_lies 11 = .ok (.iconst 0, 1) := q_iconst0 (bat_get dg_X12_lies_0_0 5 rfl rfl)
theorem dX12_lies_12 : decode cX12_lies 12 = .ok (.istore_n 2, 1) := q_istore_n2 (bat_get dg_X12_lies_0_0 6 rfl rfl)
theorem dX12_lies_13 : decode cX12_lies 13 = .ok (.iload_n 2, 1) := q_iload_n2 (bat_get dg_X12_lies_0_0 7 rfl rfl)
theorem dX12_lies_14 : decode cX12_lies 14 = .ok (.bipush 10, 2) := q_bipush (bat_get dg_X12_lies_0_0 8 rfl rfl) rfl
theorem dX12_lies_16 : decode cX12_lies 16 = .ok (.if_icmp .ge 28, 3) := q_if_icmp_ge (bat_get dg_X12_lies_0_0 9 rfl rfl) rfl
theorem dX12_lies_44 : decode cX12_lies 44 = .ok (.iload_n 1, 1) := q_iload_n1 (bat_get dg_X12_lies_0_0 10 rfl rfl)
theorem dX12_lies_45 : decode cX12_lies 45 = .ok (.ireturn, 1) := q_ireturn (bat_get dg_X12_lies_0_0 11 rfl rfl)
theorem dX12_lies_19 : decode cX12_lies 19 = .ok (.aload_n 0, 1) := q_aload_n0 (bat_get dg_X12_lies_0_0 12 rfl rfl)
theorem dX12_lies_20 : decode cX12_lies 20 = .ok (.iload_n 2, 1) := q_iload_n2 (bat_get dg_X12_lies_0_0 13 rfl rfl)
theorem dX12_lies_21 : decode cX12_lies 21 = .ok (.invokevirtual 385, 3) := q_invokevirtual (bat_get dg_X12_lies_0_0 14 rfl rfl) rfl
theorem dX12_lies_24 : decode cX12_lies 24 = .ok (.aload_n 0, 1) := q_aload_n0 (bat_get dg_X12_lies_0_0 15 rfl rfl)
theorem dX12_lies_25 : decode cX12_lies 25 = .ok (.iconst 0, 1) := q_iconst0 (bat_get dg_X12_lies_0_0 16 rfl rfl)
theorem dX12_lies_26 : decode cX12_lies 26 = .ok (.invokevirtual 423, 3) := q_invokevirtual (bat_get dg_X12_lies_0_0 17 rfl rfl) rfl
theorem dX12_lies_29 : decode cX12_lies 29 = .ok (.ifCond .eq 9, 3) := q_ifCond_eq (bat_get dg_X12_lies_0_0 18 rfl rfl) rfl
theorem dX12_lies_38 : decode cX12_lies 38 = .ok (.iinc 2 1, 3) := q_iinc (bat_get dg_X12_lies_0_0 19 rfl rfl) rfl
theorem dX12_lies_41 : decode cX12_lies 41 = .ok (.goto (-28), 3) := q_goto (bat_get dg_X12_lies_0_0 20 rfl rfl) rfl
theorem dX12_lies_32 : decode cX12_lies 32 = .ok (.iload_n 1, 1) := q_iload_n1 (bat_get dg_X12_lies_0_0 21 rfl rfl)
theorem dX12_lies_33 : decode cX12_lies 33 = .ok (.iconst 1, 1) := q_iconst1 (bat_get dg_X12_lies_0_0 22 rfl rfl)
theorem dX12_lies_34 : decode cX12_lies 34 = .ok (.iload_n 2, 1) := q_iload_n2 (bat_get dg_X12_lies_0_0 23 rfl rfl)
theorem dX12_lies_35 : decode cX12_lies 35 = .ok (.ishl, 1) := q_ishl (bat_get dg_X12_lies_0_0 24 rfl rfl)
theorem dX12_lies_36 : decode cX12_lies 36 = .ok (.ior, 1) := q_ior (bat_get dg_X12_lies_0_0 25 rfl rfl)
theorem dX12_lies_37 : decode cX12_lies 37 = .ok (.istore_n 1, 1) := q_istore_n1 (bat_get dg_X12_lies_0_0 26 rfl rfl)
theorem dX12_lies_7 : decode cX12_lies 7 = .ok (.iconst (-1), 1) := q_iconstm1 (bat_get dg_X12_lies_0_0 27 rfl rfl)
theorem dX12_lies_8 : decode cX12_lies 8 = .ok (.ireturn, 1) := q_ireturn (bat_get dg_X12_lies_0_0 28 rfl rfl)
theorem w_7_229 : (Cond.methodLink RX12 423 yX12_doesAgree) ∈ wsL_law := sk_mem (ck_7 _ (List.mem_of_getElem? (i := 229) rfl)) rfl
theorem w_7_231 : (Cond.instanceMethod yX12_doesAgree) ∈ wsL_law := sk_mem (ck_7 _ (List.mem_of_getElem? (i := 231) rfl)) rfl
theorem w_0_89 : (Cond.selects RX12 yX12_doesAgree yX12_doesAgree) ∈ wsL_law := sk_mem (ck_0 _ (List.mem_of_getElem? (i := 89) rfl)) rfl
theorem w_8_0 : (Cond.code yX12_lies cX12_lies 3 (some .int)) ∈ wsL_law := sk_mem (ck_8 _ (List.mem_of_getElem? (i := 0) rfl)) rfl
theorem hd_X12_doesAgree_1 : skD yX12_doesAgree 1 := by decide +kernel
set_option maxHeartbeats 4000000 in
set_option maxRecDepth 100000 in
theorem c_vm_lies (l : Launch) (D : va_G) (cI cJ cC cZ cS : ClassId) (mm : Nat) (g : Nat → Nat) (ta : Nat) (pa : Nat) (pe : Nat) (pd : Int32) (pb : Nat) (pp : Int32) (pf : Int32) (pg : Int32) (pn : Int32) (rt : Int32) (rn : Int32) (cd : Nat) (sn : Int32) (il : Nat) (tk : Int32) (am : Int32) (at_ : Int32) (aa : Int32) (wt : Int32) (wy : Int64) (rm : Nat) (ud : Nat) (nu : Nat) (sd : Int64) (qn : Nat) (qw : Nat) (qo : Int32) (qb : Nat) (qp : Nat) (qa : Int64) (qi : Nat) (oc : Nat) (u0 : Int32) (u1 : Int32) (u2 : Int32) (u3 : Int32) (u4 : Int32) (u5 : Int32) (v0 : Int32) (v1 : Int32) (v2 : Int32) (v3 : Int32) (v4 : Int32) (v5 : Int32) (cs : Nat → Nat) (nw : Nat → Int32) (pt : Nat → Nat) (ql : Nat → Int64) (l0 : Nat) (l1 : Nat) (dm : Nat) (l3 : Nat) (ws_ : Nat → Int32) (yw : Nat → Int32) (yo : Nat → Int32) (be : Nat → Int64) (bf : Nat → Int64) (wn : Nat) (mN : Nat) (Ba : Nat → Nat) (We : Nat → Nat) (U : Nat → Bool) (ke : Nat) (lg : KLg) (L : LkS) (hil : il ≤ 1) (hild : il = 1 → 1 ≤ dm) (hilb : 1 ≤ dm → il = 1) (hdm : dm ≤ 9) (hLk : kcLk L) (hkl : (lK L).length ≤ 1600) (hmw0 : mwO L 0 u3 v3 cs) (hmw1 : mwO L 1 u4 v4 cs) (hB9 : ∀ j, Ba j ≤ 9) (hW9 : ∀ j, We j ≤ 9) (hwk : wn ≤ 999) (hcs : ∀ j, cs j ≤ 20000) (hnw : nwX wn mN Ba We U ke lg nw) (hpt : ∀ j, pt j ≤ 9) : skM l yX12_lies cX12_lies 3 (some .int) 5 122 0 0 D (skT cI cJ cC cZ cS) [.ref mm] [ro_ mm 12 (mo g (nI ta) (nI pa) (nI pe) pd (nI pb) pp pf pg pn rt rn (nI cd) sn (nI il) tk am at_ aa 0 0 (-1) wt wy 0 (nI rm) (nI ud) (nI nu) sd (nI qn) (nI qw) qo (nI qb) (nI qp) qa (nI qi) (nI oc)), ra_I (g 24) cI 6 (l6 u0 u1 u2 u3 u4 u5), ra_I (g 25) cI 6 (l6 v0 v1 v2 v3 v4 v5), ra_N (g 26) cI 3200 cs, ra_I (g 31) cI 120 nw, ra_N (g 46) cI 9 pt, ra_J (g 86) cJ 1700 ql, ra_I (g 20) cI 4 (l4 (nI l0) (nI l1) (nI dm) (nI l3)), ra_I (g 38) cI 90 ws_, ra_I (g 36) cZ 900 yw, ra_I (g 37) cZ 900 yo, ra_J (g 43) cJ 90 be, ra_J (g 44) cJ 90 bf] (skI D (skT cI cJ cC cZ cS) (fun (r : Int32) (u : va_W) => ∃ (tk2 : Int32), ∃ (qp2 : Nat), ∃ (am2 : Int32), ∃ (at_2 : Int32), ∃ (aa2 : Int32), ∃ (wy2 : Int64), ∃ (ql2 : Nat → Int64), ∃ (ws_2 : Nat → Int32), ∃ (yw2 : Nat → Int32), ∃ (yo2 : Nat → Int32), ∃ (be2 : Nat → Int64), ∃ (bf2 : Nat → Int64), liesR L dm wn mN Ba We U r ∧ u = [ro_ mm 12 (mo g (nI ta) (nI pa) (nI pe) pd (nI pb) pp pf pg pn rt rn (nI cd) sn (nI il) tk2 am2 at_2 aa2 0 0 (-1) wt wy2 0 (nI rm) (nI ud) (nI nu) sd (nI qn) (nI qw) qo (nI qb) (nI qp2) qa (nI qi) (nI oc)), ra_I (g 24) cI 6 (l6 u0 u1 u2 u3 u4 u5), ra_I (g 25) cI 6 (l6 v0 v1 v2 v3 v4 v5), ra_N (g 26) cI 3200 cs, ra_I (g 31) cI 120 nw, ra_N (g 46) cI 9 pt, ra_J (g 86) cJ 1700 ql2, ra_I (g 20) cI 4 (l4 (nI l0) (nI l1) (nI dm) (nI l3)), ra_I (g 38) cI 90 ws_2, ra_I (g 36) cZ 900 yw2, ra_I (g 37) cZ 900 yo2, ra_J (g 43) cJ 90 be2, ra_J (g 44) cJ 90 bf2])) := by
  refine skM_of pf_X12_lies (Nat.le_of_ble_eq_true rfl) ?_
  intro p e s m below meth c A ls E hP hD hl
  refine skE_el E (fun hx hb hr hml hlocks hin hown hts hK hA => ?_)
  have hown : s.vm.findClass RX12 = some m.cls := hown
  have hS : va_S A s.heap s.heap [] := va_S.rf
  have hl : lv_has ls 3 [(0, .ref mm)] := hl
  refine lv_aload_n hx hb dX12_lies_0 rfl (lv_at hl 0 rfl) ?_
  refine sk_get (v := .int (nI il)) (C := RX12) (T := TX12) (N := 92) hx hb hts inlX12 hown hK hP 0 rfl rfl 29 (Nat.le_of_ble_eq_true rfl) w_5_184 rfl dX12_lies_1 ?_
  refine lv_if_ne (tgt := 9) hx hb dX12_lies_4 (by decide) (fun c_1 => ?_) (fun c_1 => ?_)
  · have c_1 : ¬ (il = 0) := fun h => c_1 ((neq il 0 (by omega) (Nat.le_of_ble_eq_true rfl)).mpr h)
    refine lv_iconst (v := 0) hx hb dX12_lies_9 ic_0 ?_
    refine lv_istore_n (lv' := [(1, .int 0), (0, .ref mm)]) hx hb dX12_lies_10 rfl hl (by decide) rfl (fun ls hl => ?_)
    refine lv_iconst (v := 0) hx hb dX12_lies_11 ic_0 ?_
    refine lv_istore_n (lv' := [(2, .int 0), (1, .int 0), (0, .ref mm)]) hx hb dX12_lies_12 rfl hl (by decide) rfl (fun ls hl => ?_)
    have lp_2 : ∀ (n_3 : Nat) (i : Nat) (se : Nat) (zaml : Int32) (zat_l : Int32) (zaal : Int32) (ztkl : Int32) (zqpl : Nat) (zwyl : Int64) (y86l : Nat → Int64) (y38l : Nat → Int32) (y36l : Nat → Int32) (y37l : Nat → Int32) (y43l : Nat → Int64) (y44l : Nat → Int64) (H : Heap) (locs : List Loc) (ls : Array Slot), 10 - i < n_3 → (i ≤ 10) → (se = kcLi L wn Ba We U dm mN i) → va_P D vwCl [ro_ mm 12 (mo g (nI ta) (nI pa) (nI pe) pd (nI pb) pp pf pg pn rt rn (nI cd) sn (nI il) ztkl zaml zat_l zaal 0 0 (-1) wt zwyl 0 (nI rm) (nI ud) (nI nu) sd (nI qn) (nI qw) qo (nI qb) (nI zqpl) qa (nI qi) (nI oc)), ra_I (g 24) cI 6 (l6 u0 u1 u2 u3 u4 u5), ra_I (g 25) cI 6 (l6 v0 v1 v2 v3 v4 v5), ra_N (g 26) cI 3200 cs, ra_I (g 31) cI 120 nw, ra_N (g 46) cI 9 pt, ra_J (g 86) cJ 1700 y86l, ra_I (g 20) cI 4 (l4 (nI l0) (nI l1) (nI dm) (nI l3)), ra_I (g 38) cI 90 y38l, ra_I (g 36) cZ 900 y36l, ra_I (g 37) cZ 900 y37l, ra_J (g 43) cJ 90 y43l, ra_J (g 44) cJ 90 y44l] H → va_D A [ro_ mm 12 (mo g (nI ta) (nI pa) (nI pe) pd (nI pb) pp pf pg pn rt rn (nI cd) sn (nI il) ztkl zaml zat_l zaal 0 0 (-1) wt zwyl 0 (nI rm) (nI ud) (nI nu) sd (nI qn) (nI qw) qo (nI qb) (nI zqpl) qa (nI qi) (nI oc)), ra_I (g 24) cI 6 (l6 u0 u1 u2 u3 u4 u5), ra_I (g 25) cI 6 (l6 v0 v1 v2 v3 v4 v5), ra_N (g 26) cI 3200 cs, ra_I (g 31) cI 120 nw, ra_N (g 46) cI 9 pt, ra_J (g 86) cJ 1700 y86l, ra_I (g 20) cI 4 (l4 (nI l0) (nI l1) (nI dm) (nI l3)), ra_I (g 38) cI 90 y38l, ra_I (g 36) cZ 900 y36l, ra_I (g 37) cZ 900 y37l, ra_J (g 43) cJ 90 y43l, ra_J (g 44) cJ 90 y44l] → va_S A s.heap H locs → lv_has ls 3 [(2, .int (nI i)), (1, .int (nI se)), (0, .ref mm)] → W p l e { frames := 5, cells := 0, slots := 0, locals := 122 } s m ([.ref mm] : List Value).toArray below meth c H locs 0 0 (MQ below (skI D (skT cI cJ cC cZ cS) (fun (r : Int32) (u : va_W) => ∃ (tk2 : Int32), ∃ (qp2 : Nat), ∃ (am2 : Int32), ∃ (at_2 : Int32), ∃ (aa2 : Int32), ∃ (wy2 : Int64), ∃ (ql2 : Nat → Int64), ∃ (ws_2 : Nat → Int32), ∃ (yw2 : Nat → Int32), ∃ (yo2 : Nat → Int32), ∃ (be2 : Nat → Int64), ∃ (bf2 : Nat → Int64), liesR L dm wn mN Ba We U r ∧ u = [ro_ mm 12 (mo g (nI ta) (nI pa) (nI pe) pd (nI pb) pp pf pg pn rt rn (nI cd) sn (nI il) tk2 am2 at_2 aa2 0 0 (-1) wt wy2 0 (nI rm) (nI ud) (nI nu) sd (nI qn) (nI qw) qo (nI qb) (nI qp2) qa (nI qi) (nI oc)), ra_I (g 24) cI 6 (l6 u0 u1 u2 u3 u4 u5), ra_I (g 25) cI 6 (l6 v0 v1 v2 v3 v4 v5), ra_N (g 26) cI 3200 cs, ra_I (g 31) cI 120 nw, ra_N (g 46) cI 9 pt, ra_J (g 86) cJ 1700 ql2, ra_I (g 20) cI 4 (l4 (nI l0) (nI l1) (nI dm) (nI l3)), ra_I (g 38) cI 90 ws_2, ra_I (g 36) cZ 900 yw2, ra_I (g 37) cZ 900 yo2, ra_J (g 43) cJ 90 be2, ra_J (g 44) cJ 90 bf2]) A) ([.ref mm] : List Value).toArray s 0 0 A) (F0 m 13 ls []) := by
      intro n_3
      induction n_3 with
      | zero => intro i se zaml zat_l zaal ztkl zqpl zwyl y86l y38l y36l y37l y43l y44l H locs ls hm; exact absurd hm (Nat.not_lt_zero _)
      | succ n_3 ih_lp_2 =>
        intro i se zaml zat_l zaal ztkl zqpl zwyl y86l y38l y36l y37l y43l y44l H locs ls hm hi hse hP hD hS hl
        refine lv_iload_n hx hb dX12_lies_13 rfl (lv_at hl 0 rfl) ?_
        refine lv_bipush (v := 10) hx hb dX12_lies_14 (by decide) ?_
        refine lv_icmp_ge (tgt := 44) hx hb dX12_lies_16 (by decide) (fun c_4 => ?_) (fun c_4 => ?_)
        · have c_4 : 10 ≤ i := (nle 10 i (Nat.le_of_ble_eq_true rfl) (by omega)).mp c_4
          refine lv_iload_n hx hb dX12_lies_44 rfl (lv_at hl 1 rfl) ?_
          exact sk_iret hx hb hr rfl hlocks hK hP hD hS (⟨ztkl, zqpl, zaml, zat_l, zaal, zwyl, y86l, y38l, y36l, y37l, y43l, y44l, (kB_1 (by omega) (by rw [hse, show i = 10 by omega])), rfl⟩) (Nat.le_of_ble_eq_true rfl) (Nat.le_of_ble_eq_true rfl) dX12_lies_45
        · have c_4 : ¬ (10 ≤ i) := fun h => c_4 ((nle 10 i (Nat.le_of_ble_eq_true rfl) (by omega)).mpr h)
          refine lv_aload_n hx hb dX12_lies_19 rfl (lv_at hl 2 rfl) ?_
          refine lv_iload_n hx hb dX12_lies_20 rfl (lv_at hl 0 rfl) ?_
          refine sk_Vv (q0 := 0) (n := 1) (rest := []) (wr := fmR om_13_1ffc _) ⟨hx, hb, hml, hown, hts⟩ hl.1 (c_nm_laysDays l D cI cJ cC cZ cS mm g ta pa pe pd pb pp pf pg pn rt rn cd sn il ztkl zaml zat_l zaal 0 wt zwyl 0 rm ud nu sd qn qw qo qb zqpl qa qi oc i u0 u1 u2 u3 u4 u5 v0 v1 v2 v3 v4 v5 cs nw pt y86l l0 l1 dm l3 y38l y36l y37l L wn Ba We hdm (by omega) hLk hkl hmw0 hmw1 hB9 hW9 hwk (fun d hd => nwX_md hnw (by omega)) hcs (nwX_ok hnw) hpt) w_7_193 w_7_195 w_0_83 w_1_14 w_7_196 hd_X12_laysDays_1 ⟨⟨(Nat.le_of_ble_eq_true rfl), (Nat.le_of_ble_eq_true rfl)⟩, (Nat.le_of_ble_eq_true rfl), (Nat.le_of_ble_eq_true rfl)⟩ hK hP hD hS hA (fmT om_13_1ffc 0) (fmF om_13_1ffc 0) (fm_C1 rfl rfl) (fm_R rfl rfl) (fm_nT om_13_1ffc 0) (fm_nF om_13_1ffc 0) (fm_di om_13_1ffc 0) rfl rfl rfl rfl (Nat.le_of_ble_eq_true rfl) dX12_lies_21 (fun u H locs hw hP hD hS => ?_)
          refine exE hw (fun tk2_5 hw1 => exE hw1 (fun qp2_6 hw2 => exE hw2 (fun am2_7 hw3 => exE hw3 (fun at_2_8 hw4 => exE hw4 (fun aa2_9 hw5 => exE hw5 (fun ql2_10 hw6 => exE hw6 (fun ws_2_11 hw7 => exE hw7 (fun yw2_12 hw8 => exE hw8 (fun yo2_13 hw9 => anE hw9 (fun hld_14 eu_15 => ?_))))))))))
          clear hw hw1 hw2 hw3 hw4 hw5 hw6 hw7 hw8 hw9
          refine o_mgE (ws' := [ro_ mm 12 (mo g (nI ta) (nI pa) (nI pe) pd (nI pb) pp pf pg pn rt rn (nI cd) sn (nI il) tk2_5 am2_7 at_2_8 aa2_9 0 0 (-1) wt zwyl 0 (nI rm) (nI ud) (nI nu) sd (nI qn) (nI qw) qo (nI qb) (nI qp2_6) qa (nI qi) (nI oc)), ra_I (g 24) cI 6 (l6 u0 u1 u2 u3 u4 u5), ra_I (g 25) cI 6 (l6 v0 v1 v2 v3 v4 v5), ra_N (g 26) cI 3200 cs, ra_I (g 31) cI 120 nw, ra_N (g 46) cI 9 pt, ra_J (g 86) cJ 1700 ql2_10, ra_I (g 20) cI 4 (l4 (nI l0) (nI l1) (nI dm) (nI l3)), ra_I (g 38) cI 90 ws_2_11, ra_I (g 36) cZ 900 yw2_12, ra_I (g 37) cZ 900 yo2_13, ra_J (g 43) cJ 90 y43l, ra_J (g 44) cJ 90 y44l]) eu_15 hP hD rfl (fun hP hD => ?_)
          refine lv_aload_n hx hb dX12_lies_24 rfl (lv_at hl 2 rfl) ?_
          refine lv_iconst (v := 0) hx hb dX12_lies_25 ic_0 ?_
          refine sk_Vi (q0 := 0) (n := 1) (rest := []) (wr := fmR om_13_112f _) ⟨hx, hb, hml, hown, hts⟩ hl.1 (c_vm_doesAgreeF l D cI cJ cC cZ cS mm g ta pa pe pd pb pp pf pg pn rt rn cd sn il tk2_5 am2_7 at_2_8 aa2_9 wt zwyl rm ud nu sd qn qw qo qb qp2_6 qa qi oc 0 l0 l1 dm l3 nw yo2_13 yw2_12 y43l y44l wn mN Ba We U ke lg L ws_2_11 i hdm (by omega) (by omega) hld_14 hnw) w_7_229 w_7_231 w_0_89 w_1_14 w_7_232 hd_X12_doesAgree_1 ⟨⟨(Nat.le_of_ble_eq_true rfl), (Nat.le_of_ble_eq_true rfl)⟩, (Nat.le_of_ble_eq_true rfl), (Nat.le_of_ble_eq_true rfl)⟩ hK hP hD hS hA [0, 7, 4, 10, 9, 11, 12] (fmF om_13_112f 0) rfl (fm_R rfl rfl) (by decide +kernel) (fm_nF om_13_112f 0) (by decide +kernel) rfl rfl rfl rfl (Nat.le_of_ble_eq_true rfl) dX12_lies_26 (fun r_20 u H locs hw hP hD hS => ?_)
          refine exE hw (fun b_16 hw1 => exE hw1 (fun wy2_17 hw2 => exE hw2 (fun be2_18 hw3 => exE hw3 (fun bf2_19 hw4 => anE hw4 (fun hmw_21 hw5 => anE hw5 (fun hbe_22 hw6 => anE hw6 (fun hwy_23 hw7 => anE hw7 (fun hb1_24 hw8 => anE hw8 (fun er_26 eu_25 => ?_)))))))))
          clear hw hw1 hw2 hw3 hw4 hw5 hw6 hw7 hw8
          subst er_26
          refine o_mgqE (ux := [ro_ mm 12 (mo g (nI ta) (nI pa) (nI pe) pd (nI pb) pp pf pg pn rt rn (nI cd) sn (nI il) tk2_5 am2_7 at_2_8 aa2_9 0 0 (-1) wt wy2_17 0 (nI rm) (nI ud) (nI nu) sd (nI qn) (nI qw) qo (nI qb) (nI qp2_6) qa (nI qi) (nI oc)), ra_I (g 31) cI 120 nw, ra_I (g 20) cI 4 (l4 (nI l0) (nI l1) (nI dm) (nI l3)), ra_I (g 36) cZ 900 yw2_12, ra_I (g 37) cZ 900 yo2_13, ra_J (g 43) cJ 90 be2_18, ra_J (g 44) cJ 90 bf2_19]) (ws' := [ro_ mm 12 (mo g (nI ta) (nI pa) (nI pe) pd (nI pb) pp pf pg pn rt rn (nI cd) sn (nI il) tk2_5 am2_7 at_2_8 aa2_9 0 0 (-1) wt wy2_17 0 (nI rm) (nI ud) (nI nu) sd (nI qn) (nI qw) qo (nI qb) (nI qp2_6) qa (nI qi) (nI oc)), ra_I (g 24) cI 6 (l6 u0 u1 u2 u3 u4 u5), ra_I (g 25) cI 6 (l6 v0 v1 v2 v3 v4 v5), ra_N (g 26) cI 3200 cs, ra_I (g 31) cI 120 nw, ra_N (g 46) cI 9 pt, ra_J (g 86) cJ 1700 ql2_10, ra_I (g 20) cI 4 (l4 (nI l0) (nI l1) (nI dm) (nI l3)), ra_I (g 38) cI 90 ws_2_11, ra_I (g 36) cZ 900 yw2_12, ra_I (g 37) cZ 900 yo2_13, ra_J (g 43) cJ 90 be2_18, ra_J (g 44) cJ 90 bf2_19]) eu_25 [0, 2, 1, 4, 3, 5, 6] (by decide +kernel) rfl hP hD rfl (fun hP hD => ?_)
          have hz_27 := hb1_24
          rw [kUs_0] at hz_27
          refine lv_if_eq (tgt := 38) hx hb dX12_lies_29 (by decide) (fun c_28 => ?_) (fun c_28 => ?_)
          · have c_28 : b_16 = 0 := (neq b_16 0 (by omega) (Nat.le_of_ble_eq_true rfl)).mp c_28
            refine lv_iinc (v := nI (i + 1)) (lv' := [(2, .int (nI (i + 1))), (1, .int (nI se)), (0, .ref mm)]) hx hb dX12_lies_38 hl (k := 0) rfl (ninc i 1 (by decide)) (by decide) rfl (fun ls hl => ?_)
            refine lv_goto (tgt := 13) hx hb dX12_lies_41 (by decide) ?_
            exact ih_lp_2 (i + 1) se am2_7 at_2_8 aa2_9 tk2_5 qp2_6 wy2_17 ql2_10 ws_2_11 yw2_12 yo2_13 be2_18 bf2_19 _ _ _ (by omega) (by omega) (hse.trans (kli_n (rr_0 hz_27 c_28))) hP hD hS (lv_sub hl [0, 1, 2] rfl)
          · have c_28 : ¬ (b_16 = 0) := fun h => c_28 ((neq b_16 0 (by omega) (Nat.le_of_ble_eq_true rfl)).mpr h)
            refine lv_iload_n hx hb dX12_lies_32 rfl (lv_at hl 1 rfl) ?_
            refine lv_iconst (v := 1) hx hb dX12_lies_33 ic_1 ?_
            refine lv_iload_n hx hb dX12_lies_34 rfl (lv_at hl 0 rfl) ?_
            refine lv_ishl hx hb dX12_lies_35 ?_
            refine lv_ior hx hb dX12_lies_36 ?_
            have hbl_ := kli_lt L wn Ba We U dm mN (show i ≤ 10 by omega)
            rw [← hse] at hbl_
            refine sk_top (nI (se ||| 2 ^ i)) (kor_10 (by omega) (by omega)) ?_
            refine lv_istore_n (lv' := [(1, .int (nI (se ||| 2 ^ i))), (2, .int (nI i)), (0, .ref mm)]) hx hb dX12_lies_37 rfl hl (by decide) rfl (fun ls hl => ?_)
            refine lv_iinc (v := nI (i + 1)) (lv' := [(2, .int (nI (i + 1))), (1, .int (nI (se ||| 2 ^ i))), (0, .ref mm)]) hx hb dX12_lies_38 hl (k := 1) rfl (ninc i 1 (by decide)) (by decide) rfl (fun ls hl => ?_)
            refine lv_goto (tgt := 13) hx hb dX12_lies_41 (by decide) ?_
            exact ih_lp_2 (i + 1) (se ||| 2 ^ i) am2_7 at_2_8 aa2_9 tk2_5 qp2_6 wy2_17 ql2_10 ws_2_11 yw2_12 yo2_13 be2_18 bf2_19 _ _ _ (by omega) (by omega) (by rw [hse]; exact kli_y (rr_1 hz_27 (by omega))) hP hD hS (lv_sub hl [0, 1, 2] rfl)
    exact lp_2 (10 - 0 + 1) 0 0 am at_ aa tk qp wy ql ws_ yw yo be bf _ _ _ (Nat.lt_succ_self _) (by omega) rfl hP hD hS (lv_sub hl [0, 1, 2] rfl)
  · have c_1 : il = 0 := (neq il 0 (by omega) (Nat.le_of_ble_eq_true rfl)).mp c_1
    refine lv_iconst (v := (-1)) hx hb dX12_lies_7 (by decide) ?_
    exact sk_iret hx hb hr rfl hlocks hK hP hD hS (⟨tk, qp, am, at_, aa, wy, ql, ws_, yw, yo, be, bf, (kB_0 (by omega) rfl), rfl⟩) (Nat.le_of_ble_eq_true rfl) (Nat.le_of_ble_eq_true rfl) dX12_lies_8
