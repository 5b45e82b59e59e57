theorem dg_X12_on_0_0 : bqL cX12_on 0 [(0, [42]), (1, [180, 0, 192]), (4, [60]), (5, [42]), (6, [3]), (7, [181, 0, 192]), (10, [42]), (11, [27]), (12, [182, 2, 93]), (15, [154, 0, 15]), (30, [42]), (31, [180, 0, 63]), (34, [3]), (35, [17, 1, 0]), (38, [42]), (39, [180, 0, 7]), (42, [3]), (43, [46]), (44, [104]), (45, [42]), (46, [180, 0, 7]), (49, [4]), (50, [46]), (51, [96]), (52, [79]), (53, [42]), (54, [180, 0, 63]), (57, [4]), (58, [42]), (59, [180, 0, 7]), (62, [5]), (63, [46]), (64, [79]), (65, [3]), (66, [61]), (67, [28]), (68, [6]), (69, [42]), (70, [182, 1, 59]), (73, [104])] = true := by decide +kernel
theorem dX12_on_0 : decode cX12_on 0 = .ok (.aload_n 0, 1) := q_aload_n0 (bat_get dg_X12_on_0_0 0 rfl rfl)
theorem dX12_on_1 : decode cX12_on 1 = .ok (.getfield 192, 3) := q_getfield (bat_get dg_X12_on_0_0 1 rfl rfl) rfl
theorem dX12_on_4 : decode cX12_on 4 = .ok (.istore_n 1, 1) := q_istore_n1 (bat_get dg_X12_on_0_0 2 rfl rfl)
theorem dX12_on_5 : decode cX12_on 5 = .ok (.aload_n 0, 1) := q_aload_n0 (bat_get dg_X12_on_0_0 3 rfl rfl)
theorem dX12_on_6 : decode cX12_on 6 = .ok (.iconst 0, 1) := q_iconst0 (bat_get dg_X12_on_0_0 4 rfl rfl)
theorem dX12_on_7 : decode cX12_on 7 = .ok (.putfield 192, 3) := q_putfield (bat_get dg_X12_on_0_0 5 rfl rfl) rfl
theorem dX12_on_10 : decode cX12_on 10 = .ok (.aload_n 0, 1) := q_aload_n0 (bat_get dg_X12_on_0_0 6 rfl rfl)
theorem dX12_on_11 : decode cX12_on 11 = .ok (.iload_n 1, 1) := q_iload_n1 (bat_get dg_X12_on_0_0 7 rfl rfl)
theorem dX12_on_12 : decode cX12_on 12 = .ok (.invokevirtual 605, 3) := q_invokevirtual (bat_get dg_X12_on_0_0 8 rfl rfl) rfl
theorem dX12_on_15 : decode cX12_on 15 = .ok (.ifCond .ne 15, 3) := q_ifCond_ne (bat_get dg_X12_on_0_0 9 rfl rfl) rfl
theorem dX12_on_30 : decode cX12_on 30 = .ok (.aload_n 0, 1) := q_aload_n0 (bat_get dg_X12_on_0_0 10 rfl rfl)
theorem dX12_on_31 : decode cX12_on 31 = .ok (.getfield 63, 3) := q_getfield (bat_get dg_X12_on_0_0 11 rfl rfl) rfl
theorem dX12_on_34 : decode cX12_on 34 = .ok (.iconst 0, 1) := q_iconst0 (bat_get dg_X12_on_0_0 12 rfl rfl)
theorem dX12_on_35 : decode cX12_on 35 = .ok (.sipush 256, 3) := q_sipush (bat_get dg_X12_on_0_0 13 rfl rfl) rfl
theorem dX12_on_38 : decode cX12_on 38 = .ok (.aload_n 0, 1) := q_aload_n0 (bat_get dg_X12_on_0_0 14 rfl rfl)
theorem dX12_on_39 : decode cX12_on 39 = .ok (.getfield 7, 3) := q_getfield (bat_get dg_X12_on_0_0 15 rfl rfl) rfl
theorem dX12_on_42 : decode cX12_on 42 = .ok (.iconst 0, 1) := q_iconst0 (bat_get dg_X12_on_0_0 16 rfl rfl)
theorem dX12_on_43 : decode cX12_on 43 = .ok (.iaload, 1) := q_iaload (bat_get dg_X12_on_0_0 17 rfl rfl)
theorem dX12_on_44 : decode cX12_on 44 = .ok (.imul, 1) := q_imul (bat_get dg_X12_on_0_0 18 rfl rfl)
theorem dX12_on_45 : decode cX12_on 45 = .ok (.aload_n 0, 1) := q_aload_n0 (bat_get dg_X12_on_0_0 19 rfl rfl)
theorem dX12_on_46 : decode cX12_on 46 = .ok (.getfield 7, 3) := q_getfield (bat_get dg_X12_on_0_0 20 rfl rfl) rfl
theorem dX12_on_49 : decode cX12_on 49 = .ok (.iconst 1, 1) := q_iconst1 (bat_get dg_X12_on_0_0 21 rfl rfl)
theorem dX12_on_50 : decode cX12_on 50 = .ok (.iaload, 1) := q_iaload (bat_get dg_X12_on_0_0 22 rfl rfl)
theorem dX12_on_51 : decode cX12_on 51 = .ok (.iadd, 1) := q_iadd (bat_get dg_X12_on_0_0 23 rfl rfl)
theorem dX12_on_52 : decode cX12_on 52 = .ok (.iastore, 1) := q_iastore (bat_get dg_X12_on_0_0 24 rfl rfl)
theorem dX12_on_53 : decode cX12_on 53 = .ok (.aload_n 0, 1) := q_aload_n0 (bat_get dg_X12_on_0_0 25 rfl rfl)
theorem dX12_on_54 : decode cX12_on 54 = .ok (.getfield 63, 3) := q_getfield (bat_get dg_X12_on_0_0 26 rfl rfl) rfl
theorem dX12_on_57 : decode cX12_on 57 = .ok (.iconst 1, 1) := q_iconst1 (bat_get dg_X12_on_0_0 27 rfl rfl)
theorem dX12_on_58 : decode cX12_on 58 = .ok (.aload_n 0, 1) := q_aload_n0 (bat_get dg_X12_on_0_0 28 rfl rfl)
theorem dX12_on_59 : decode cX12_on 59 = .ok (.getfield 7, 3) := q_getfield (bat_get dg_X12_on_0_0 29 rfl rfl) rfl
theorem dX12_on_62 : decode cX12_on 62 = .ok (.iconst 2, 1) := q_iconst2 (bat_get dg_X12_on_0_0 30 rfl rfl)
theorem dX12_on_63 : decode cX12_on 63 = .ok (.iaload, 1) := q_iaload (bat_get dg_X12_on_0_0 31 rfl rfl)
theorem dX12_on_64 : decode cX12_on 64 = .ok (.iastore, 1) := q_iastore (bat_get dg_X12_on_0_0 32 rfl rfl)
theorem dX12_on_65 : decode cX12_on 65 = .ok (.iconst 0, 1) := q_iconst0 (bat_get dg_X12_on_0_0 33 rfl rfl)
theorem dX12_on_66 : decode cX12_on 66 = .ok (.istore_n 2, 1) := q_istore_n2 (bat_get dg_X12_on_0_0 34 rfl rfl)
theorem dX12_on_67 : decode cX12_on 67 = .ok (.iload_n 2, 1) := q_iload_n2 (bat_get dg_X12_on_0_0 35 rfl rfl)
theorem dX12_on_68 : decode cX12_on 68 = .ok (.iconst 3, 1) := q_iconst3 (bat_get dg_X12_on_0_0 36 rfl rfl)
theorem dX12_on_69 : decode cX12_on 69 = .ok (.aload_n 0, 1) := q_aload_n0 (bat_get dg_X12_on_0_0 37 rfl rfl)
theorem dX12_on_70 : decode cX12_on 70 = .ok (.invokevirtual 315, 3) := q_invokevirtual (bat_get dg_X12_on_0_0 38 rfl rfl) rfl
theorem dX12_on_73 : decode cX12_on 73 = .ok (.imul, 1) := q_imul (bat_get dg_X12_on_0_0 39 rfl rfl)
theorem dg_X12_on_18_74 : bqL cX12_on 18 [(56, [162, 0, 25]), (81, [42]), (82, [180, 0, 63]), (85, [16, 29]), (87, [3]), (88, [79]), (89, [42]), (90, [3]), (91, [181, 1, 53]), (94, [4]), (95, [172]), (59, [42]), (60, [180, 0, 63]), (63, [5]), (64, [28]), (65, [96]), (66, [42]), (67, [180, 0, 7]), (70, [6]), (71, [28]), (72, [96]), (73, [46]), (74, [79]), (75, [132, 2, 1]), (78, [167, 255, 227]), (0, [42]), (1, [180, 0, 17]), (4, [8]), (5, [92]), (6, [46]), (7, [4]), (8, [96]), (9, [79]), (10, [3]), (11, [172])] = true := by decide +kernel
theorem dX12_on_74 : decode cX12_on 74 = .ok (.if_icmp .ge 25, 3) := q_if_icmp_ge (bat_get dg_X12_on_18_74 0 rfl rfl) rfl
theorem dX12_on_99 : decode cX12_on 99 = .ok (.aload_n 0, 1) := q_aload_n0 (bat_get dg_X12_on_18_74 1 rfl rfl)
theorem dX12_on_100 : decode cX12_on 100 = .ok (.getfield 63, 3) := q_getfield (bat_get dg_X12_on_18_74 2 rfl rfl) rfl
theorem dX12_on_103 : decode cX12_on 103 = .ok (.bipush 29, 2) := q_bipush (bat_get dg_X12_on_18_74 3 rfl rfl) rfl
theorem dX12_on_105 : decode cX12_on 105 = .ok (.iconst 0, 1) := q_iconst0 (bat_get dg_X12_on_18_74 4 rfl rfl)
theorem dX12_on_106 : decode cX12_on 106 = .ok (.iastore, 1) := q_iastore (bat_get dg_X12_on_18_74 5 rfl rfl)
theorem dX12_on_107 : decode cX12_on 107 = .ok (.aload_n 0, 1) := q_aload_n0 (bat_get dg_X12_on_18_74 6 rfl rfl)
theorem dX12_on_108 : decode cX12_on 108 = .ok (.iconst 0, 1) := q_iconst0 (bat_get dg_X12_on_18_74 7 rfl rfl)
theorem dX12_on_109 : decode cX12_on 109 = .ok (.putfield 309, 3) := q_putfield (bat_get dg_X12_on_18_74 8 rfl rfl) rfl
theorem dX12_on_112 : decode cX12_on 112 = .ok (.iconst 1, 1) := q_iconst1 (bat_get dg_X12_on_18_74 9 rfl rfl)
theorem dX12_on_113 : decode cX12_on 113 = .ok (.ireturn, 1) := q_ireturn (bat_get dg_X12_on_18_74 10 rfl rfl)
theorem dX12_on_77 : decode cX12_on 77 = .ok (.aload_n 0, 1) := q_aload_n0 (bat_get dg_X12_on_18_74 11 rfl rfl)
theorem dX12_on_78 : decode cX12_on 78 = .ok (.getfield 63, 3) := q_getfield (bat_get dg_X12_on_18_74 12 rfl rfl) rfl
theorem dX12_on_81 : decode cX12_on 81 = .ok (.iconst 2, 1) := q_iconst2 (bat_get dg_X12_on_18_74 13 rfl rfl)
theorem dX12_on_82 : decode cX12_on 82 = .ok (.iload_n 2, 1) := q_iload_n2 (bat_get dg_X12_on_18_74 14 rfl rfl)
theorem dX12_on_83 : decode cX12_on 83 = .ok (.iadd, 1) := q_iadd (bat_get dg_X12_on_18_74 15 rfl rfl)
theorem dX12_on_84 : decode cX12_on 84 = .ok (.aload_n 0, 1) := q_aload_n0 (bat_get dg_X12_on_18_74 16 rfl rfl)
theorem dX12_on_85 : decode cX12_on 85 = .ok (.getfield 7, 3) := q_getfield (bat_get dg_X12_on_18_74 17 rfl rfl) rfl
theorem dX12_on_88 : decode cX12_on 88 = .ok (.iconst 3, 1) := q_iconst3 (bat_get dg_X12_on_18_74 18 rfl rfl)
theorem dX12_on_89 : decode cX12_on 89 = .ok (.iload_n 2, 1) := q_iload_n2 (bat_get dg_X12_on_18_74 19 rfl rfl)
theorem dX12_on_90 : decode cX12_on 90 = .ok (.iadd, 1) := q_iadd (bat_get dg_X12_on_18_74 20 rfl rfl)
theorem dX12_on_91 : decode cX12_on 91 = .ok (.iaload, 1) := q_iaload (bat_get dg_X12_on_18_74 21 rfl rfl)
theorem dX12_on_92 : decode cX12_on 92 = .ok (.iastore, 1) := q_iastore (bat_get dg_X12_on_18_74 22 rfl rfl)
theorem dX12_on_93 : decode cX12_on 93 = .ok (.iinc 2 1, 3) := q_iinc (bat_get dg_X12_on_18_74 23 rfl rfl) rfl
theorem dX12_on_96 : decode cX12_on 96 = .ok (.goto (-29), 3) := q_goto (bat_get dg_X12_on_18_74 24 rfl rfl) rfl
theorem dX12_on_18 : decode cX12_on 18 = .ok (.aload_n 0, 1) := q_aload_n0 (bat_get dg_X12_on_18_74 25 rfl rfl)
theorem dX12_on_19 : decode cX12_on 19 = .ok (.getfield 17, 3) := q_getfield (bat_get dg_X12_on_18_74 26 rfl rfl) rfl
theorem dX12_on_22 : decode cX12_on 22 = .ok (.iconst 5, 1) := q_iconst5 (bat_get dg_X12_on_18_74 27 rfl rfl)
theorem dX12_on_23 : decode cX12_on 23 = .ok (.dup2, 1) := q_dup2 (bat_get dg_X12_on_18_74 28 rfl rfl)
theorem dX12_on_24 : decode cX12_on 24 = .ok (.iaload, 1) := q_iaload (bat_get dg_X12_on_18_74 29 rfl rfl)
theorem dX12_on_25 : decode cX12_on 25 = .ok (.iconst 1, 1) := q_iconst1 (bat_get dg_X12_on_18_74 30 rfl rfl)
theorem dX12_on_26 : decode cX12_on 26 = .ok (.iadd, 1) := q_iadd (bat_get dg_X12_on_18_74 31 rfl rfl)
theorem dX12_on_27 : decode cX12_on 27 = .ok (.iastore, 1) := q_iastore (bat_get dg_X12_on_18_74 32 rfl rfl)
theorem dX12_on_28 : decode cX12_on 28 = .ok (.iconst 0, 1) := q_iconst0 (bat_get dg_X12_on_18_74 33 rfl rfl)
theorem dX12_on_29 : decode cX12_on 29 = .ok (.ireturn, 1) := q_ireturn (bat_get dg_X12_on_18_74 34 rfl rfl)
theorem w_8_222 : (Cond.methodLink RX12 605 yX12_isImage) ∈ wsL_law := sk_mem (ck_8 _ (List.mem_of_getElem? (i := 222) rfl)) rfl
theorem w_8_224 : (Cond.instanceMethod yX12_isImage) ∈ wsL_law := sk_mem (ck_8 _ (List.mem_of_getElem? (i := 224) rfl)) rfl
theorem w_0_120 : (Cond.selects RX12 yX12_isImage yX12_isImage) ∈ wsL_law := sk_mem (ck_0 _ (List.mem_of_getElem? (i := 120) rfl)) rfl
theorem w_8_221 : (Cond.code yX12_on cX12_on 3 (some .boolean)) ∈ wsL_law := sk_mem (ck_8 _ (List.mem_of_getElem? (i := 221) rfl)) rfl
def om_6_34 : List Bool := true :: true :: false :: true :: false :: false :: []
theorem hd_X12_isImage_1 : skD yX12_isImage 1 := by decide +kernel
set_option maxHeartbeats 4000000 in
set_option maxRecDepth 100000 in
theorem c_nm_on (l : Launch) (D : va_G) (cI cJ cC cZ cS : ClassId) (mm : Nat) (g : Nat → Nat) (ta : Nat) (pa : Nat) (pe : Nat) (pd : Int32) (pb : Nat) (pp : Int32) (pf : Int32) (pg : Int32) (pn : Int32) (rt : Int32) (rn : Int32) (cd : Nat) (sn : Int32) (il : Nat) (tk : Int32) (am : Int32) (at_ : Int32) (aa : Int32) (wt : Int32) (wy : Int64) (rm : Nat) (ud : Nat) (nu : Nat) (sd : Int64) (qn : Nat) (qw : Nat) (qo : Int32) (qb : Nat) (qp : Nat) (qa : Int64) (qi : Nat) (oc : Nat) (l0 : Nat) (l1 : Nat) (dm : Nat) (l3 : Nat) (nw : Nat → Int32) (tb : Nat → Nat) (kp : Nat → Int32) (rf : Nat → Int32) (wn : Nat) (mN : Nat) (Ba : Nat → Nat) (We : Nat → Nat) (U : Nat → Bool) (ke : Nat) (lg : KLg) (su : Nat → KN) (hil : il ≤ 1) (hild : il = 1 → 1 ≤ dm) (hilb : 1 ≤ dm → il = 1) (hdm : dm ≤ 9) (hta : ta ≤ 1600) (hnu : nu < 20) (hud : ud ≤ 20) (hUd : ∀ j, U j = true → j < dm) (hnw : nwX wn mN Ba We U ke lg nw) (htb : ∀ j, tb j ≤ 255) (hkp : kpX ud nu su lg kp) : skM l yX12_on cX12_on 3 (some .boolean) 2 45 0 0 D (skT cI cJ cC cZ cS) [.ref mm] [ro_ mm 12 (mo g (nI ta) (nI pa) (nI pe) pd (nI pb) pp pf pg pn rt rn (nI cd) sn (nI il) tk am at_ aa 0 0 (-1) wt wy 0 (nI rm) (nI ud) (nI nu) sd (nI qn) (nI qw) qo (nI qb) (nI qp) qa (nI qi) (nI oc)), ra_I (g 20) cI 4 (l4 (nI l0) (nI l1) (nI dm) (nI l3)), ra_I (g 31) cI 120 nw, ra_N (g 0) cI 1600 tb, ra_I (g 54) cI 2400 kp, ra_I (g 9) cI 6 rf] (skI D (skT cI cJ cC cZ cS) (fun (r : Int32) (u : va_W) => ∃ (wn2 : Nat), ∃ (mo2 : Nat), ∃ (Ba2 : Nat → Nat), ∃ (We2 : Nat → Nat), ∃ (U2 : Nat → Bool), ∃ (ke2 : Nat), ∃ (b : Nat), ∃ (nw2 : Nat → Int32), ∃ (kp2 : Nat → Int32), ∃ (ud2 : Nat), ∃ (rf2 : Nat → Int32), nwX wn2 mo2 Ba2 We2 U2 ke2 lg nw2 ∧ kpX ud2 nu su lg kp2 ∧ ud2 ≤ 20 ∧ onR dm tb ta (wn, mN, Ba, We, U, ke) ud rf (nI b) (wn2, mo2, Ba2, We2, U2, ke2) ud2 rf2 ∧ r = nI b ∧ u = [ro_ mm 12 (mo g 0 (nI pa) (nI pe) pd (nI pb) pp pf pg pn rt rn (nI cd) sn (nI il) tk am at_ aa 0 0 (-1) wt wy 0 (nI rm) (nI ud2) (nI nu) sd (nI qn) (nI qw) qo (nI qb) (nI qp) qa (nI qi) (nI oc)), ra_I (g 20) cI 4 (l4 (nI l0) (nI l1) (nI dm) (nI l3)), ra_I (g 31) cI 120 nw2, ra_N (g 0) cI 1600 tb, ra_I (g 54) cI 2400 kp2, ra_I (g 9) cI 6 rf2])) := by
  refine skM_of pf_X12_on (Nat.le_of_ble_eq_true rfl) ?_
  intro p e s m below meth c A ls E hP hD hl
  refine skE_el E (fun hx hb hr hml hlocks hin hown hts hK hA => ?_)
  have hown : s.vm.findClass RX12 = some m.cls := hown
  have hS : va_S A s.heap s.heap [] := va_S.rf
  have hl : lv_has ls 3 [(0, .ref mm)] := hl
  refine lv_aload_n hx hb dX12_on_0 rfl (lv_at hl 0 rfl) ?_
  refine sk_get (v := .int (nI ta)) (C := RX12) (T := TX12) (N := 92) hx hb hts inlX12 hown hK hP 0 rfl rfl 1 (Nat.le_of_ble_eq_true rfl) w_5_156 rfl dX12_on_1 ?_
  refine lv_istore_n (lv' := [(1, .int (nI ta)), (0, .ref mm)]) hx hb dX12_on_4 rfl hl (by decide) rfl (fun ls hl => ?_)
  refine lv_aload_n hx hb dX12_on_5 rfl (lv_at hl 1 rfl) ?_
  refine lv_iconst (v := 0) hx hb dX12_on_6 ic_0 ?_
  refine sk_put (ws' := [ro_ mm 12 (mo g 0 (nI pa) (nI pe) pd (nI pb) pp pf pg pn rt rn (nI cd) sn (nI il) tk am at_ aa 0 0 (-1) wt wy 0 (nI rm) (nI ud) (nI nu) sd (nI qn) (nI qw) qo (nI qb) (nI qp) qa (nI qi) (nI oc)), ra_I (g 20) cI 4 (l4 (nI l0) (nI l1) (nI dm) (nI l3)), ra_I (g 31) cI 120 nw, ra_N (g 0) cI 1600 tb, ra_I (g 54) cI 2400 kp, ra_I (g 9) cI 6 rf]) (C := RX12) (T := TX12) (N := 92) (v := .int 0) hx hb hts inlX12 tyX12 tyX12_ok nmX12 hown hK hP hD hS 0 rfl rfl 1 (Nat.le_of_ble_eq_true rfl) w_5_156 rfl rfl rfl (Nat.le_of_ble_eq_true rfl) rfl dX12_on_7 (fun H locs hP hD hS => ?_)
  refine lv_aload_n hx hb dX12_on_10 rfl (lv_at hl 1 rfl) ?_
  refine lv_iload_n hx hb dX12_on_11 rfl (lv_at hl 0 rfl) ?_
  refine sk_Vi (q0 := 0) (n := 1) (rest := []) (wr := fmR om_6_34 _) ⟨hx, hb, hml, hown, hts⟩ hl.1 (c_m_isImage l D cI cJ cC cZ cS mm g 0 pa pe pd pb pp pf pg pn rt rn cd sn il tk am at_ aa wt wy rm ud nu sd qn qw qo qb qp qa qi oc ta l0 l1 dm l3 tb hil hild hdm hta htb) w_8_222 w_8_224 w_0_120 w_1_14 w_8_225 hd_X12_isImage_1 ⟨⟨(Nat.le_of_ble_eq_true rfl), (Nat.le_of_ble_eq_true rfl)⟩, (Nat.le_of_ble_eq_true rfl), (Nat.le_of_ble_eq_true rfl)⟩ hK hP hD hS hA (fmT om_6_34 0) (fmF om_6_34 0) (fm_C1 rfl rfl) (fm_R rfl rfl) (fm_nT om_6_34 0) (fm_nF om_6_34 0) (fm_di om_6_34 0) rfl rfl rfl rfl (Nat.le_of_ble_eq_true rfl) dX12_on_12 (fun r_2 u H locs hw hP hD hS => ?_)
  refine exE hw (fun b_1 hw1 => anE hw1 (fun hb1_3 hw2 => anE hw2 (fun himg_4 hw3 => anE hw3 (fun er_6 eu_5 => ?_))))
  clear hw hw1 hw2 hw3
  subst er_6
  refine o_mgE (ws' := [ro_ mm 12 (mo g 0 (nI pa) (nI pe) pd (nI pb) pp pf pg pn rt rn (nI cd) sn (nI il) tk am at_ aa 0 0 (-1) wt wy 0 (nI rm) (nI ud) (nI nu) sd (nI qn) (nI qw) qo (nI qb) (nI qp) qa (nI qi) (nI oc)), ra_I (g 20) cI 4 (l4 (nI l0) (nI l1) (nI dm) (nI l3)), ra_I (g 31) cI 120 nw, ra_N (g 0) cI 1600 tb, ra_I (g 54) cI 2400 kp, ra_I (g 9) cI 6 rf]) eu_5 hP hD rfl (fun hP hD => ?_)
  refine lv_if_ne (tgt := 30) hx hb dX12_on_15 (by decide) (fun c_7 => ?_) (fun c_7 => ?_)
  · have c_7 : ¬ (b_1 = 0) := fun h => c_7 ((neq b_1 0 (by omega) (Nat.le_of_ble_eq_true rfl)).mpr h)
    have hcc := rr_1 himg_4 (by omega)
    refine lv_aload_n hx hb dX12_on_30 rfl (lv_at hl 1 rfl) ?_
    refine sk_get (v := .ref (g 31)) (C := RX12) (T := TX12) (N := 92) hx hb hts inlX12 hown hK hP 0 rfl rfl 31 (Nat.le_of_ble_eq_true rfl) w_5_186 rfl dX12_on_31 ?_
    refine lv_iconst (v := 0) hx hb dX12_on_34 ic_0 ?_
    refine lv_sipush (v := 256) hx hb dX12_on_35 (by decide) ?_
    refine lv_aload_n hx hb dX12_on_38 rfl (lv_at hl 1 rfl) ?_
    refine sk_get (v := .ref (g 0)) (C := RX12) (T := TX12) (N := 92) hx hb hts inlX12 hown hK hP 0 rfl rfl 0 (Nat.le_of_ble_eq_true rfl) w_5_155 rfl dX12_on_39 ?_
    refine lv_iconst (v := 0) hx hb dX12_on_42 ic_0 ?_
    refine va_iald hx hb hK.1 hP 3 0 rfl rfl (by unfold vp_in; decide) dX12_on_43 ?_
    refine sk_top (nI (tb 0)) (nrd tb 0 (Nat.le_of_ble_eq_true rfl)) ?_
    have hb_8 := htb 0
    refine lv_imul hx hb dX12_on_44 ?_
    refine sk_top (nI (256 * (tb 0))) (nmul 256 (tb 0)) ?_
    refine lv_aload_n hx hb dX12_on_45 rfl (lv_at hl 1 rfl) ?_
    refine sk_get (v := .ref (g 0)) (C := RX12) (T := TX12) (N := 92) hx hb hts inlX12 hown hK hP 0 rfl rfl 0 (Nat.le_of_ble_eq_true rfl) w_5_155 rfl dX12_on_46 ?_
    refine lv_iconst (v := 1) hx hb dX12_on_49 ic_1 ?_
    refine va_iald hx hb hK.1 hP 3 0 rfl rfl (by unfold vp_in; decide) dX12_on_50 ?_
    refine sk_top (nI (tb 1)) (nrd tb 1 (Nat.le_of_ble_eq_true rfl)) ?_
    have hb_9 := htb 1
    refine lv_iadd hx hb dX12_on_51 ?_
    refine sk_top (nI (256 * (tb 0) + (tb 1))) (nI_add (256 * (tb 0)) (tb 1)) ?_
    refine sk_iastE (k := 0) (x := (nI (256 * (tb 0) + (tb 1)))) (ws' := fun f_10 => [ro_ mm 12 (mo g 0 (nI pa) (nI pe) pd (nI pb) pp pf pg pn rt rn (nI cd) sn (nI il) tk am at_ aa 0 0 (-1) wt wy 0 (nI rm) (nI ud) (nI nu) sd (nI qn) (nI qw) qo (nI qb) (nI qp) qa (nI qi) (nI oc)), ra_I (g 20) cI 4 (l4 (nI l0) (nI l1) (nI dm) (nI l3)), ra_I (g 31) cI 120 f_10, ra_N (g 0) cI 1600 tb, ra_I (g 54) cI 2400 kp, ra_I (g 9) cI 6 rf]) hx hb hK hP hD hS 2 0 rfl rfl (by omega) (by omega) (fun _ => rfl) dX12_on_52 (fun f_10 H locs ef_11 hP hD hS => ?_)
    have hq0 := nwX_up0 hnw ef_11
    refine lv_aload_n hx hb dX12_on_53 rfl (lv_at hl 1 rfl) ?_
    refine sk_get (v := .ref (g 31)) (C := RX12) (T := TX12) (N := 92) hx hb hts inlX12 hown hK hP 0 rfl rfl 31 (Nat.le_of_ble_eq_true rfl) w_5_186 rfl dX12_on_54 ?_
    refine lv_iconst (v := 1) hx hb dX12_on_57 ic_1 ?_
    refine lv_aload_n hx hb dX12_on_58 rfl (lv_at hl 1 rfl) ?_
    refine sk_get (v := .ref (g 0)) (C := RX12) (T := TX12) (N := 92) hx hb hts inlX12 hown hK hP 0 rfl rfl 0 (Nat.le_of_ble_eq_true rfl) w_5_155 rfl dX12_on_59 ?_
    refine lv_iconst (v := 2) hx hb dX12_on_62 ic_2 ?_
    refine va_iald hx hb hK.1 hP 3 0 rfl rfl (by unfold vp_in; decide) dX12_on_63 ?_
    refine sk_top (nI (tb 2)) (nrd tb 2 (Nat.le_of_ble_eq_true rfl)) ?_
    have hb_12 := htb 2
    refine sk_iastE (k := 1) (x := (nI (tb 2))) (ws' := fun f_13 => [ro_ mm 12 (mo g 0 (nI pa) (nI pe) pd (nI pb) pp pf pg pn rt rn (nI cd) sn (nI il) tk am at_ aa 0 0 (-1) wt wy 0 (nI rm) (nI ud) (nI nu) sd (nI qn) (nI qw) qo (nI qb) (nI qp) qa (nI qi) (nI oc)), ra_I (g 20) cI 4 (l4 (nI l0) (nI l1) (nI dm) (nI l3)), ra_I (g 31) cI 120 f_13, ra_N (g 0) cI 1600 tb, ra_I (g 54) cI 2400 kp, ra_I (g 9) cI 6 rf]) hx hb hK hP hD hS 2 0 rfl rfl (by omega) (by omega) (fun _ => rfl) dX12_on_64 (fun f_13 H locs ef_14 hP hD hS => ?_)
    have hq1 := nwX_up1 hq0 ef_14 (by have h9 := (hcc.2.2.2.2 2 (by omega) (by omega)).1; omega)
    refine lv_iconst (v := 0) hx hb dX12_on_65 ic_0 ?_
    refine lv_istore_n (lv' := [(2, .int 0), (1, .int (nI ta)), (0, .ref mm)]) hx hb dX12_on_66 rfl hl (by decide) rfl (fun ls hl => ?_)
    have lp_15 : ∀ (n_16 : Nat) (i : Nat) (zn : Nat → Int32) (H : Heap) (locs : List Loc) (ls : Array Slot), 3 * dm - i < n_16 → (i ≤ 3 * dm) → (oiR tb i f_13 zn) → va_P D vwCl [ro_ mm 12 (mo g 0 (nI pa) (nI pe) pd (nI pb) pp pf pg pn rt rn (nI cd) sn (nI il) tk am at_ aa 0 0 (-1) wt wy 0 (nI rm) (nI ud) (nI nu) sd (nI qn) (nI qw) qo (nI qb) (nI qp) qa (nI qi) (nI oc)), ra_I (g 20) cI 4 (l4 (nI l0) (nI l1) (nI dm) (nI l3)), ra_I (g 31) cI 120 zn, ra_N (g 0) cI 1600 tb, ra_I (g 54) cI 2400 kp, ra_I (g 9) cI 6 rf] H → va_D A [ro_ mm 12 (mo g 0 (nI pa) (nI pe) pd (nI pb) pp pf pg pn rt rn (nI cd) sn (nI il) tk am at_ aa 0 0 (-1) wt wy 0 (nI rm) (nI ud) (nI nu) sd (nI qn) (nI qw) qo (nI qb) (nI qp) qa (nI qi) (nI oc)), ra_I (g 20) cI 4 (l4 (nI l0) (nI l1) (nI dm) (nI l3)), ra_I (g 31) cI 120 zn, ra_N (g 0) cI 1600 tb, ra_I (g 54) cI 2400 kp, ra_I (g 9) cI 6 rf] → va_S A s.heap H locs → lv_has ls 3 [(2, .int (nI i)), (1, .int (nI ta)), (0, .ref mm)] → W p l e { frames := 2, cells := 0, slots := 0, locals := 45 } s m ([.ref mm] : List Value).toArray below meth c H locs 0 0 (MQ below (skI D (skT cI cJ cC cZ cS) (fun (r : Int32) (u : va_W) => ∃ (wn2 : Nat), ∃ (mo2 : Nat), ∃ (Ba2 : Nat → Nat), ∃ (We2 : Nat → Nat), ∃ (U2 : Nat → Bool), ∃ (ke2 : Nat), ∃ (b : Nat), ∃ (nw2 : Nat → Int32), ∃ (kp2 : Nat → Int32), ∃ (ud2 : Nat), ∃ (rf2 : Nat → Int32), nwX wn2 mo2 Ba2 We2 U2 ke2 lg nw2 ∧ kpX ud2 nu su lg kp2 ∧ ud2 ≤ 20 ∧ onR dm tb ta (wn, mN, Ba, We, U, ke) ud rf (nI b) (wn2, mo2, Ba2, We2, U2, ke2) ud2 rf2 ∧ r = nI b ∧ u = [ro_ mm 12 (mo g 0 (nI pa) (nI pe) pd (nI pb) pp pf pg pn rt rn (nI cd) sn (nI il) tk am at_ aa 0 0 (-1) wt wy 0 (nI rm) (nI ud2) (nI nu) sd (nI qn) (nI qw) qo (nI qb) (nI qp) qa (nI qi) (nI oc)), ra_I (g 20) cI 4 (l4 (nI l0) (nI l1) (nI dm) (nI l3)), ra_I (g 31) cI 120 nw2, ra_N (g 0) cI 1600 tb, ra_I (g 54) cI 2400 kp2, ra_I (g 9) cI 6 rf2]) A) ([.ref mm] : List Value).toArray s 0 0 A) (F0 m 67 ls []) := by
      intro n_16
      induction n_16 with
      | zero => intro i zn H locs ls hm; exact absurd hm (Nat.not_lt_zero _)
      | succ n_16 ih_lp_15 =>
        intro i zn H locs ls hm hi hoi hP hD hS hl
        refine lv_iload_n hx hb dX12_on_67 rfl (lv_at hl 0 rfl) ?_
        refine lv_iconst (v := 3) hx hb dX12_on_68 ic_3 ?_
        refine lv_aload_n hx hb dX12_on_69 rfl (lv_at hl 2 rfl) ?_
        refine sk_Vi (q0 := 0) (n := 0) (rest := [.int 3, .int (nI i)]) (wr := fmR om_6_30 _) ⟨hx, hb, hml, hown, hts⟩ hl.1 (c_m_dayMany l D cI cJ cC cZ cS mm g 0 pa pe pd pb pp pf pg pn rt rn cd sn il tk am at_ aa 0 0 (-1) wt wy 0 rm ud nu sd qn qw qo qb qp qa qi oc l0 l1 dm l3) w_7_98 w_7_100 w_0_69 w_1_14 w_7_101 hd_X12_dayMany_0 ⟨⟨(Nat.le_of_ble_eq_true rfl), (Nat.le_of_ble_eq_true rfl)⟩, (Nat.le_of_ble_eq_true rfl), (Nat.le_of_ble_eq_true rfl)⟩ hK hP hD hS hA (fmT om_6_30 0) (fmF om_6_30 0) (fm_C1 rfl rfl) (fm_R rfl rfl) (fm_nT om_6_30 0) (fm_nF om_6_30 0) (fm_di om_6_30 0) rfl rfl rfl rfl (Nat.le_of_ble_eq_true rfl) dX12_on_70 (fun r_17 u H locs hw hP hD hS => ?_)
        refine anE hw (fun er_19 eu_18 => ?_)
        clear hw
        subst er_19
        refine o_mgE (ws' := [ro_ mm 12 (mo g 0 (nI pa) (nI pe) pd (nI pb) pp pf pg pn rt rn (nI cd) sn (nI il) tk am at_ aa 0 0 (-1) wt wy 0 (nI rm) (nI ud) (nI nu) sd (nI qn) (nI qw) qo (nI qb) (nI qp) qa (nI qi) (nI oc)), ra_I (g 20) cI 4 (l4 (nI l0) (nI l1) (nI dm) (nI l3)), ra_I (g 31) cI 120 zn, ra_N (g 0) cI 1600 tb, ra_I (g 54) cI 2400 kp, ra_I (g 9) cI 6 rf]) eu_18 hP hD rfl (fun hP hD => ?_)
        refine lv_imul hx hb dX12_on_73 ?_
        refine sk_top (nI (3 * dm)) (nmul 3 dm) ?_
        refine lv_icmp_ge (tgt := 99) hx hb dX12_on_74 (by decide) (fun c_20 => ?_) (fun c_20 => ?_)
        · have c_20 : 3 * dm ≤ i := (nle (3 * dm) i (by omega) (by omega)).mp c_20
          refine lv_aload_n hx hb dX12_on_99 rfl (lv_at hl 2 rfl) ?_
          refine sk_get (v := .ref (g 31)) (C := RX12) (T := TX12) (N := 92) hx hb hts inlX12 hown hK hP 0 rfl rfl 31 (Nat.le_of_ble_eq_true rfl) w_5_186 rfl dX12_on_100 ?_
          refine lv_bipush (v := 29) hx hb dX12_on_103 (by decide) ?_
          refine lv_iconst (v := 0) hx hb dX12_on_105 ic_0 ?_
          refine sk_iastE (k := 29) (x := 0) (ws' := fun f_21 => [ro_ mm 12 (mo g 0 (nI pa) (nI pe) pd (nI pb) pp pf pg pn rt rn (nI cd) sn (nI il) tk am at_ aa 0 0 (-1) wt wy 0 (nI rm) (nI ud) (nI nu) sd (nI qn) (nI qw) qo (nI qb) (nI qp) qa (nI qi) (nI oc)), ra_I (g 20) cI 4 (l4 (nI l0) (nI l1) (nI dm) (nI l3)), ra_I (g 31) cI 120 f_21, ra_N (g 0) cI 1600 tb, ra_I (g 54) cI 2400 kp, ra_I (g 9) cI 6 rf]) hx hb hK hP hD hS 2 0 rfl rfl (by omega) (by omega) (fun _ => rfl) dX12_on_106 (fun f_21 H locs ef_22 hP hD hS => ?_)
          have hnN : nwX (256 * tb 0 + tb 1) (tb 2) (onB tb Ba 3 dm) (onB tb We 4 dm) (onU tb dm) 0 lg f_21 := oiR_X hq1 (show oiR tb (3 * dm) f_13 zn by rw [show 3 * dm = i by omega]; exact hoi) ef_22 (by omega) hcc.2 hUd
          refine lv_aload_n hx hb dX12_on_107 rfl (lv_at hl 2 rfl) ?_
          refine lv_iconst (v := 0) hx hb dX12_on_108 ic_0 ?_
          refine sk_put (ws' := [ro_ mm 12 (mo g 0 (nI pa) (nI pe) pd (nI pb) pp pf pg pn rt rn (nI cd) sn (nI il) tk am at_ aa 0 0 (-1) wt wy 0 (nI rm) 0 (nI nu) sd (nI qn) (nI qw) qo (nI qb) (nI qp) qa (nI qi) (nI oc)), ra_I (g 20) cI 4 (l4 (nI l0) (nI l1) (nI dm) (nI l3)), ra_I (g 31) cI 120 f_21, ra_N (g 0) cI 1600 tb, ra_I (g 54) cI 2400 kp, ra_I (g 9) cI 6 rf]) (C := RX12) (T := TX12) (N := 92) (v := .int 0) hx hb hts inlX12 tyX12 tyX12_ok nmX12 hown hK hP hD hS 0 rfl rfl 55 (Nat.le_of_ble_eq_true rfl) w_5_210 rfl rfl rfl (Nat.le_of_ble_eq_true rfl) rfl dX12_on_109 (fun H locs hP hD hS => ?_)
          refine lv_iconst (v := 1) hx hb dX12_on_112 ic_1 ?_
          exact sk_iret hx hb hr rfl hlocks hK hP hD hS (⟨(256 * tb 0 + tb 1), (tb 2), (onB tb Ba 3 dm), (onB tb We 4 dm), (onU tb dm), 0, 1, f_21, kp, 0, rf, hnN, (kpX_0 nu su lg _), by omega, (by rw [show 256 * tb 0 + tb 1 = tb 0 * 256 + tb 1 by omega]; exact on_y (n := (wn, mN, Ba, We, U, ke)) ⟨by omega, hcc.2⟩ rfl), rfl, rfl⟩) (Nat.le_of_ble_eq_true rfl) (Nat.le_of_ble_eq_true rfl) dX12_on_113
        · have c_20 : ¬ (3 * dm ≤ i) := fun h => c_20 ((nle (3 * dm) i (by omega) (by omega)).mpr h)
          refine lv_aload_n hx hb dX12_on_77 rfl (lv_at hl 2 rfl) ?_
          refine sk_get (v := .ref (g 31)) (C := RX12) (T := TX12) (N := 92) hx hb hts inlX12 hown hK hP 0 rfl rfl 31 (Nat.le_of_ble_eq_true rfl) w_5_186 rfl dX12_on_78 ?_
          refine lv_iconst (v := 2) hx hb dX12_on_81 ic_2 ?_
          refine lv_iload_n hx hb dX12_on_82 rfl (lv_at hl 0 rfl) ?_
          refine lv_iadd hx hb dX12_on_83 ?_
          refine sk_top (nI (2 + i)) (nI_add 2 i) ?_
          refine lv_aload_n hx hb dX12_on_84 rfl (lv_at hl 2 rfl) ?_
          refine sk_get (v := .ref (g 0)) (C := RX12) (T := TX12) (N := 92) hx hb hts inlX12 hown hK hP 0 rfl rfl 0 (Nat.le_of_ble_eq_true rfl) w_5_155 rfl dX12_on_85 ?_
          refine lv_iconst (v := 3) hx hb dX12_on_88 ic_3 ?_
          refine lv_iload_n hx hb dX12_on_89 rfl (lv_at hl 0 rfl) ?_
          refine lv_iadd hx hb dX12_on_90 ?_
          refine sk_top (nI (3 + i)) (nI_add 3 i) ?_
          refine va_iald hx hb hK.1 hP 3 0 rfl rfl (vin (3 + i) 1600 (by omega) (Nat.le_of_ble_eq_true rfl)) dX12_on_91 ?_
          refine sk_top (nI (tb (3 + i))) (nrd tb (3 + i) (by omega)) ?_
          have hb_23 := htb (3 + i)
          refine sk_iastE (k := (2 + i)) (x := (nI (tb (3 + i)))) (ws' := fun f_24 => [ro_ mm 12 (mo g 0 (nI pa) (nI pe) pd (nI pb) pp pf pg pn rt rn (nI cd) sn (nI il) tk am at_ aa 0 0 (-1) wt wy 0 (nI rm) (nI ud) (nI nu) sd (nI qn) (nI qw) qo (nI qb) (nI qp) qa (nI qi) (nI oc)), ra_I (g 20) cI 4 (l4 (nI l0) (nI l1) (nI dm) (nI l3)), ra_I (g 31) cI 120 f_24, ra_N (g 0) cI 1600 tb, ra_I (g 54) cI 2400 kp, ra_I (g 9) cI 6 rf]) hx hb hK hP hD hS 2 0 rfl rfl (by omega) (by omega) (fun _ => rfl) dX12_on_92 (fun f_24 H locs ef_25 hP hD hS => ?_)
          refine lv_iinc (v := nI (i + 1)) (lv' := [(2, .int (nI (i + 1))), (1, .int (nI ta)), (0, .ref mm)]) hx hb dX12_on_93 hl (k := 0) rfl (ninc i 1 (by decide)) (by decide) rfl (fun ls hl => ?_)
          refine lv_goto (tgt := 67) hx hb dX12_on_96 (by decide) ?_
          exact ih_lp_15 (i + 1) f_24 _ _ _ (by omega) (by omega) (oiR_s hoi ef_25 rfl) hP hD hS (lv_sub hl [0, 1, 2] rfl)
    exact lp_15 (3 * dm - 0 + 1) 0 f_13 _ _ _ (Nat.lt_succ_self _) (by omega) (oiR_0 _ _) hP hD hS (lv_sub hl [0, 1, 2] rfl)
  · have c_7 : b_1 = 0 := (neq b_1 0 (by omega) (Nat.le_of_ble_eq_true rfl)).mp c_7
    refine lv_aload_n hx hb dX12_on_18 rfl (lv_at hl 1 rfl) ?_
    refine sk_get (v := .ref (g 9)) (C := RX12) (T := TX12) (N := 92) hx hb hts inlX12 hown hK hP 0 rfl rfl 9 (Nat.le_of_ble_eq_true rfl) w_5_164 rfl dX12_on_19 ?_
    refine lv_iconst (v := 5) hx hb dX12_on_22 ic_5 ?_
    refine lv_dup2_11 hx hb dX12_on_23 rfl rfl ?_
    refine va_iald hx hb hK.1 hP 5 0 rfl rfl (by unfold vp_in; decide) dX12_on_24 ?_
    refine sk_top (rf 5) (rfl) ?_
    refine lv_iconst (v := 1) hx hb dX12_on_25 ic_1 ?_
    refine lv_iadd hx hb dX12_on_26 ?_
    refine sk_iastE (k := 5) (ws' := fun f_26 => [ro_ mm 12 (mo g 0 (nI pa) (nI pe) pd (nI pb) pp pf pg pn rt rn (nI cd) sn (nI il) tk am at_ aa 0 0 (-1) wt wy 0 (nI rm) (nI ud) (nI nu) sd (nI qn) (nI qw) qo (nI qb) (nI qp) qa (nI qi) (nI oc)), ra_I (g 20) cI 4 (l4 (nI l0) (nI l1) (nI dm) (nI l3)), ra_I (g 31) cI 120 nw, ra_N (g 0) cI 1600 tb, ra_I (g 54) cI 2400 kp, ra_I (g 9) cI 6 f_26]) hx hb hK hP hD hS 5 0 rfl rfl (by omega) (by omega) (fun _ => rfl) dX12_on_27 (fun f_26 H locs ef_27 hP hD hS => ?_)
    refine lv_iconst (v := 0) hx hb dX12_on_28 ic_0 ?_
    exact sk_iret hx hb hr rfl hlocks hK hP hD hS (⟨wn, mN, Ba, We, U, ke, 0, nw, kp, ud, f_26, hnw, hkp, hud, (on_n (fun hq => rr_0 himg_4 (by omega) ⟨Nat.le_of_eq (hilb hq.1).symm, hq.2⟩) ef_27), rfl, rfl⟩) (Nat.le_of_ble_eq_true rfl) (Nat.le_of_ble_eq_true rfl) dX12_on_29
set_option maxHeartbeats 4000000 in
set_option maxRecDepth 100000 in
theorem c_nm_canBeToldN (l : Launch) (D : va_G) (cI cJ cC cZ cS : ClassId) (mm : Nat) (g : Nat → Nat) (ta : Nat) (pa : Nat) (pe : Nat) (pd : Int32) (pb : Nat) (pp : Int32) (pf : Int32) (pg : Int32) (pn : Int32) (rt : Int32) (rn : Int32) (cd : Nat) (sn : Int32) (il : Nat) (tk : Int32) (am : Int32) (at_ : Int32) (aa : Int32) (wt : Int32) (wy : Int64) (rm : Nat) (ud : Nat) (nu : Nat) (sd : Int64) (qn : Nat) (qw : Nat) (qo : Int32) (qb : Nat) (qp : Nat) (qa : Int64) (qi : Nat) (oc : Nat) (aw : Nat) (cw : Nat) (l0 : Nat) (l1 : Nat) (dm : Nat) (l3 : Nat) (nw : Nat → Int32) (wn : Nat) (mN : Nat) (Ba : Nat → Nat) (We : Nat → Nat) (U : Nat → Bool) (ke : Nat) (lg : KLg) (hdm : dm ≤ 9) (ha9 : aw ≤ 255) (hc9 : cw ≤ 255) (hnw : nwX wn mN Ba We U ke lg nw) : skM l yX12_canBeTold cX12_canBeTold 3 (some .boolean) 2 46 0 0 D (skT cI cJ cC cZ cS) [.ref mm, .int (nI aw), .int (nI cw)] [ro_ mm 12 (mo g (nI ta) (nI pa) (nI pe) pd (nI pb) pp pf pg pn rt rn (nI cd) sn (nI il) tk am at_ aa 0 0 (-1) wt wy 0 (nI rm) (nI ud) (nI nu) sd (nI qn) (nI qw) qo (nI qb) (nI qp) qa (nI qi) (nI oc)), ra_I (g 20) cI 4 (l4 (nI l0) (nI l1) (nI dm) (nI l3)), ra_I (g 31) cI 120 nw] (skI D (skT cI cJ cC cZ cS) (fun (r : Int32) (u : va_W) => ∃ (b : Nat), ((b = 0 ∧ ¬ (aw < dm ∧ ¬ U aw = true ∧ cw < 10)) ∨ (b = 1 ∧ aw < dm ∧ ¬ U aw = true ∧ cw < 10)) ∧ r = nI b ∧ u = [ro_ mm 12 (mo g (nI ta) (nI pa) (nI pe) pd (nI pb) pp pf pg pn rt rn (nI cd) sn (nI il) tk am at_ aa 0 0 (-1) wt wy 0 (nI rm) (nI ud) (nI nu) sd (nI qn) (nI qw) qo (nI qb) (nI qp) qa (nI qi) (nI oc)), ra_I (g 20) cI 4 (l4 (nI l0) (nI l1) (nI dm) (nI l3)), ra_I (g 31) cI 120 nw])) := by
  refine skM_of pf_X12_canBeTold (Nat.le_of_ble_eq_true rfl) ?_
  intro p e s m below meth c A ls E hP hD hl
  refine skE_el E (fun hx hb hr hml hlocks hin hown hts hK hA => ?_)
  have hown : s.vm.findClass RX12 = some m.cls := hown
  have hS : va_S A s.heap s.heap [] := va_S.rf
  have hl : lv_has ls 3 [(0, .ref mm), (1, .int (nI aw)), (2, .int (nI cw))] := hl
  refine lv_aload_n hx hb dX12_canBeTold_0 rfl (lv_at hl 0 rfl) ?_
  refine lv_iload_n hx hb dX12_canBeTold_1 rfl (lv_at hl 1 rfl) ?_
  refine sk_Vi (q0 := 0) (n := 1) (rest := []) (wr := fmR om_3_6 _) ⟨hx, hb, hml, hown, hts⟩ hl.1 (c_nm_isDay l D cI cJ cC cZ cS mm g ta pa pe pd pb pp pf pg pn rt rn cd sn il tk am at_ aa wt wy rm ud nu sd qn qw qo qb qp qa qi oc (nI aw) l0 l1 dm l3 hdm) w_7_117 w_7_119 w_0_72 w_1_14 w_7_120 hd_X12_isDay_1 ⟨⟨(Nat.le_of_ble_eq_true rfl), (Nat.le_of_ble_eq_true rfl)⟩, (Nat.le_of_ble_eq_true rfl), (Nat.le_of_ble_eq_true rfl)⟩ hK hP hD hS hA (fmT om_3_6 0) (fmF om_3_6 0) (fm_C1 rfl rfl) (fm_R rfl rfl) (fm_nT om_3_6 0) (fm_nF om_3_6 0) (fm_di om_3_6 0) rfl rfl rfl rfl (Nat.le_of_ble_eq_true rfl) dX12_canBeTold_2 (fun r_2 u H locs hw hP hD hS => ?_)
  refine exE hw (fun b_1 hw1 => anE hw1 (fun hb1_3 hw2 => anE hw2 (fun er_5 eu_4 => ?_)))
  clear hw hw1 hw2
  subst er_5
  refine o_mgE (ws' := [ro_ mm 12 (mo g (nI ta) (nI pa) (nI pe) pd (nI pb) pp pf pg pn rt rn (nI cd) sn (nI il) tk am at_ aa 0 0 (-1) wt wy 0 (nI rm) (nI ud) (nI nu) sd (nI qn) (nI qw) qo (nI qb) (nI qp) qa (nI qi) (nI oc)), ra_I (g 20) cI 4 (l4 (nI l0) (nI l1) (nI dm) (nI l3)), ra_I (g 31) cI 120 nw]) eu_4 hP hD rfl (fun hP hD => ?_)
  refine lv_if_eq (tgt := 28) hx hb dX12_canBeTold_5 (by decide) (fun c_6 => ?_) (fun c_6 => ?_)
  · have c_6 : b_1 = 0 := (neq b_1 0 (by omega) (Nat.le_of_ble_eq_true rfl)).mp c_6
    refine lv_iconst (v := 0) hx hb dX12_canBeTold_28 ic_0 ?_
    exact sk_iret hx hb hr rfl hlocks hK hP hD hS (⟨0, Or.inl ⟨rfl, fun hq => (rr_0 hb1_3 (by omega)) ⟨aw, hq.1, rfl⟩⟩, rfl, rfl⟩) (Nat.le_of_ble_eq_true rfl) (Nat.le_of_ble_eq_true rfl) dX12_canBeTold_29
  · have c_6 : ¬ (b_1 = 0) := fun h => c_6 ((neq b_1 0 (by omega) (Nat.le_of_ble_eq_true rfl)).mpr h)
    obtain ⟨kd_7, hkd_7, ekd_7⟩ := rr_1 hb1_3 (by omega)
    have ekd_7 := (neq aw kd_7 (by omega) (by omega)).mp ekd_7
    refine lv_aload_n hx hb dX12_canBeTold_8 rfl (lv_at hl 0 rfl) ?_
    refine lv_iload_n hx hb dX12_canBeTold_9 rfl (lv_at hl 1 rfl) ?_
    refine sk_Vi (q0 := 0) (n := 1) (rest := []) (wr := fmR om_3_5 _) ⟨hx, hb, hml, hown, hts⟩ hl.1 (c_nm_isMute l D cI cJ cC cZ cS mm g ta pa pe pd pb pp pf pg pn rt rn cd sn il tk am at_ aa wt wy rm ud nu sd qn qw qo qb qp qa qi oc aw nw wn mN Ba We U ke lg (by omega) hnw) w_7_106 w_7_108 w_0_71 w_1_14 w_7_109 hd_X12_isMute_1 ⟨⟨(Nat.le_of_ble_eq_true rfl), (Nat.le_of_ble_eq_true rfl)⟩, (Nat.le_of_ble_eq_true rfl), (Nat.le_of_ble_eq_true rfl)⟩ hK hP hD hS hA (fmT om_3_5 0) (fmF om_3_5 0) (fm_C1 rfl rfl) (fm_R rfl rfl) (fm_nT om_3_5 0) (fm_nF om_3_5 0) (fm_di om_3_5 0) rfl rfl rfl rfl (Nat.le_of_ble_eq_true rfl) dX12_canBeTold_10 (fun r_9 u H locs hw hP hD hS => ?_)
    refine exE hw (fun b_8 hw1 => anE hw1 (fun hb1_10 hw2 => anE hw2 (fun er_12 eu_11 => ?_)))
    clear hw hw1 hw2
    subst er_12
    refine o_mgE (ws' := [ro_ mm 12 (mo g (nI ta) (nI pa) (nI pe) pd (nI pb) pp pf pg pn rt rn (nI cd) sn (nI il) tk am at_ aa 0 0 (-1) wt wy 0 (nI rm) (nI ud) (nI nu) sd (nI qn) (nI qw) qo (nI qb) (nI qp) qa (nI qi) (nI oc)), ra_I (g 20) cI 4 (l4 (nI l0) (nI l1) (nI dm) (nI l3)), ra_I (g 31) cI 120 nw]) eu_11 hP hD rfl (fun hP hD => ?_)
    refine lv_if_ne (tgt := 28) hx hb dX12_canBeTold_13 (by decide) (fun c_13 => ?_) (fun c_13 => ?_)
    · have c_13 : ¬ (b_8 = 0) := fun h => c_13 ((neq b_8 0 (by omega) (Nat.le_of_ble_eq_true rfl)).mpr h)
      refine lv_iconst (v := 0) hx hb dX12_canBeTold_28 ic_0 ?_
      exact sk_iret hx hb hr rfl hlocks hK hP hD hS (⟨0, Or.inl ⟨rfl, fun hq => hq.2.1 (km_1 hb1_10 (by omega))⟩, rfl, rfl⟩) (Nat.le_of_ble_eq_true rfl) (Nat.le_of_ble_eq_true rfl) dX12_canBeTold_29
    · have c_13 : b_8 = 0 := (neq b_8 0 (by omega) (Nat.le_of_ble_eq_true rfl)).mp c_13
      refine lv_aload_n hx hb dX12_canBeTold_16 rfl (lv_at hl 0 rfl) ?_
      refine lv_iload_n hx hb dX12_canBeTold_17 rfl (lv_at hl 2 rfl) ?_
      refine sk_Vi (q0 := 0) (n := 1) (rest := []) (wr := fmR om_3_4 _) ⟨hx, hb, hml, hown, hts⟩ hl.1 (c_nm_isMood l D cI cJ cC cZ cS mm g ta pa pe pd pb pp pf pg pn rt rn cd sn il tk am at_ aa wt wy rm ud nu sd qn qw qo qb qp qa qi oc (nI cw)) w_7_126 w_7_128 w_0_73 w_1_14 w_7_129 hd_X12_isMood_1 ⟨⟨(Nat.le_of_ble_eq_true rfl), (Nat.le_of_ble_eq_true rfl)⟩, (Nat.le_of_ble_eq_true rfl), (Nat.le_of_ble_eq_true rfl)⟩ hK hP hD hS hA (fmT om_3_4 0) (fmF om_3_4 0) (fm_C1 rfl rfl) (fm_R rfl rfl) (fm_nT om_3_4 0) (fm_nF om_3_4 0) (fm_di om_3_4 0) rfl rfl rfl rfl (Nat.le_of_ble_eq_true rfl) dX12_canBeTold_18 (fun r_15 u H locs hw hP hD hS => ?_)
      refine exE hw (fun b_14 hw1 => anE hw1 (fun hb1_16 hw2 => anE hw2 (fun er_18 eu_17 => ?_)))
      clear hw hw1 hw2
      subst er_18
      refine o_mgE (ws' := [ro_ mm 12 (mo g (nI ta) (nI pa) (nI pe) pd (nI pb) pp pf pg pn rt rn (nI cd) sn (nI il) tk am at_ aa 0 0 (-1) wt wy 0 (nI rm) (nI ud) (nI nu) sd (nI qn) (nI qw) qo (nI qb) (nI qp) qa (nI qi) (nI oc)), ra_I (g 20) cI 4 (l4 (nI l0) (nI l1) (nI dm) (nI l3)), ra_I (g 31) cI 120 nw]) eu_17 hP hD rfl (fun hP hD => ?_)
      refine lv_if_eq (tgt := 28) hx hb dX12_canBeTold_21 (by decide) (fun c_19 => ?_) (fun c_19 => ?_)
      · have c_19 : b_14 = 0 := (neq b_14 0 (by omega) (Nat.le_of_ble_eq_true rfl)).mp c_19
        refine lv_iconst (v := 0) hx hb dX12_canBeTold_28 ic_0 ?_
        exact sk_iret hx hb hr rfl hlocks hK hP hD hS (⟨0, Or.inl ⟨rfl, fun hq => (rr_0 hb1_16 (by omega)) ⟨cw, hq.2.2, rfl⟩⟩, rfl, rfl⟩) (Nat.le_of_ble_eq_true rfl) (Nat.le_of_ble_eq_true rfl) dX12_canBeTold_29
      · have c_19 : ¬ (b_14 = 0) := fun h => c_19 ((neq b_14 0 (by omega) (Nat.le_of_ble_eq_true rfl)).mpr h)
        obtain ⟨kd_20, hkd_20, ekd_20⟩ := rr_1 hb1_16 (by omega)
        have ekd_20 := (neq cw kd_20 (by omega) (by omega)).mp ekd_20
        refine lv_iconst (v := 1) hx hb dX12_canBeTold_24 ic_1 ?_
        refine lv_goto (tgt := 29) hx hb dX12_canBeTold_25 (by decide) ?_
        exact sk_iret hx hb hr rfl hlocks hK hP hD hS (⟨1, Or.inr ⟨rfl, by omega, km_0 hb1_10 (by omega), by omega⟩, rfl, rfl⟩) (Nat.le_of_ble_eq_true rfl) (Nat.le_of_ble_eq_true rfl) dX12_canBeTold_29
theorem hr_rows {dm ta : Nat} {U : Nat → Bool} {tb : Nat → Nat} {f : Nat → Int32} (h : ∀ k, k < ta → f k = nI (tb k)) (hc : hearC dm U tb ta) : ∀ j, j < ta / 2 → f (2 * j) = nI (hrR tb j / 10) ∧ f (2 * j + 1) = nI (hrR tb j % 10) := fun j hj => by
  have h1 := hc.2.2.2.2 j (by omega)
  rw [h _ (by omega), h _ (by omega)]
  unfold hrR
  rw [show (tb (2 * j) * 10 + tb (2 * j + 1)) / 10 = tb (2 * j) by omega, show (tb (2 * j) * 10 + tb (2 * j + 1)) % 10 = tb (2 * j + 1) by omega]
  exact ⟨rfl, rfl⟩
theorem kc_n {tb : Nat → Nat} {i : Nat} {f g : Nat → Int32} (h : ∀ k, k < i → f k = nI (tb k)) (e : g = upd f i (nI (tb i))) : ∀ k, k < i + 1 → g k = nI (tb k) := fun k hk => by
  by_cases q : k = i
  · subst q; rw [kui_s e]
  · rw [kui_n e q]; exact h k (by omega)
theorem dg_X12_hear_0_0 : bqL cX12_hear 0 [(0, [42]), (1, [180, 0, 192]), (4, [60]), (5, [42]), (6, [3]), (7, [181, 0, 192]), (40, [61]), (41, [3]), (42, [62]), (43, [29]), (44, [27]), (45, [162, 0, 32]), (77, [28]), (78, [154, 0, 9]), (87, [3]), (88, [62]), (89, [29]), (90, [27]), (91, [162, 0, 21]), (112, [42]), (113, [27]), (114, [5]), (115, [108]), (116, [181, 1, 56]), (119, [42]), (120, [180, 1, 56]), (123, [172]), (94, [42]), (95, [180, 0, 104]), (98, [29]), (99, [42]), (100, [180, 0, 7]), (103, [29]), (104, [46]), (105, [79]), (106, [132, 3, 1]), (109, [167, 255, 236]), (81, [42]), (82, [4]), (83, [182, 1, 207])] = true := by decide +kernel
theorem dX12_hear_0 : decode cX12_hear 0 = .ok (.aload_n 0, 1) := q_aload_n0 (bat_get dg_X12_hear_0_0 0 rfl rfl)
theorem dX12_hear_1 : decode cX12_hear 1 = .ok (.getfield 192, 3) := q_getfield (bat_get dg_X12_hear_0_0 1 rfl rfl) rfl
theorem dX12_hear_4 : decode cX12_hear 4 = .ok (.istore_n 1, 1) := q_istore_n1 (bat_get dg_X12_hear_0_0 2 rfl rfl)
theorem dX12_hear_5 : decode cX12_hear 5 = .ok (.aload_n 0, 1) := q_aload_n0 (bat_get dg_X12_hear_0_0 3 rfl rfl)
theorem dX12_hear_6 : decode cX12_hear 6 = .ok (.iconst 0, 1) := q_iconst0 (bat_get dg_X12_hear_0_0 4 rfl rfl)
theorem dX12_hear_7 : decode cX12_hear 7 = .ok (.putfield 192, 3) := q_putfield (bat_get dg_X12_hear_0_0 5 rfl rfl) rfl
theorem dX12_hear_40 : decode cX12_hear 40 = .ok (.istore_n 2, 1) := q_istore_n2 (bat_get dg_X12_hear_0_0 6 rfl rfl)
theorem dX12_hear_41 : decode cX12_hear 41 = .ok (.iconst 0, 1) := q_iconst0 (bat_get dg_X12_hear_0_0 7 rfl rfl)
theorem dX12_hear_42 : decode cX12_hear 42 = .ok (.istore_n 3, 1) := q_istore_n3 (bat_get dg_X12_hear_0_0 8 rfl rfl)
theorem dX12_hear_43 : decode cX12_hear 43 = .ok (.iload_n 3, 1) := q_iload_n3 (bat_get dg_X12_hear_0_0 9 rfl rfl)
theorem dX12_hear_44 : decode cX12_hear 44 = .ok (.iload_n 1, 1) := q_iload_n1 (bat_get dg_X12_hear_0_0 10 rfl rfl)
theorem dX12_hear_45 : decode cX12_hear 45 = .ok (.if_icmp .ge 32, 3) := q_if_icmp_ge (bat_get dg_X12_hear_0_0 11 rfl rfl) rfl
theorem dX12_hear_77 : decode cX12_hear 77 = .ok (.iload_n 2, 1) := q_iload_n2 (bat_get dg_X12_hear_0_0 12 rfl rfl)
theorem dX12_hear_78 : decode cX12_hear 78 = .ok (.ifCond .ne 9, 3) := q_ifCond_ne (bat_get dg_X12_hear_0_0 13 rfl rfl) rfl
theorem dX12_hear_87 : decode cX12_hear 87 = .ok (.iconst 0, 1) := q_iconst0 (bat_get dg_X12_hear_0_0 14 rfl rfl)
theorem dX12_hear_88 : decode cX12_hear 88 = .ok (.istore_n 3, 1) := q_istore_n3 (bat_get dg_X12_hear_0_0 15 rfl rfl)
theorem dX12_hear_89 : decode cX12_hear 89 = .ok (.iload_n 3, 1) := q_iload_n3 (bat_get dg_X12_hear_0_0 16 rfl rfl)
theorem dX12_hear_90 : decode cX12_hear 90 = .ok (.iload_n 1, 1) := q_iload_n1 (bat_get dg_X12_hear_0_0 17 rfl rfl)
theorem dX12_hear_91 : decode cX12_hear 91 = .ok (.if_icmp .ge 21, 3) := q_if_icmp_ge (bat_get dg_X12_hear_0_0 18 rfl rfl) rfl
theorem dX12_hear_112 : decode cX12_hear 112 = .ok (.aload_n 0, 1) := q_aload_n0 (bat_get dg_X12_hear_0_0 19 rfl rfl)
theorem dX12_hear_113 : decode cX12_hear 113 = .ok (.iload_n 1, 1) := q_iload_n1 (bat_get dg_X12_hear_0_0 20 rfl rfl)
theorem dX12_hear_114 : decode cX12_hear 114 = .ok (.iconst 2, 1) := q_iconst2 (bat_get dg_X12_hear_0_0 21 rfl rfl)
theorem dX12_hear_115 : decode cX12_hear 115 = .ok (.idiv, 1) := q_idiv (bat_get dg_X12_hear_0_0 22 rfl rfl)
theorem dX12_hear_116 : decode cX12_hear 116 = .ok (.putfield 312, 3) := q_putfield (bat_get dg_X12_hear_0_0 23 rfl rfl) rfl
theorem dX12_hear_119 : decode cX12_hear 119 = .ok (.aload_n 0, 1) := q_aload_n0 (bat_get dg_X12_hear_0_0 24 rfl rfl)
theorem dX12_hear_120 : decode cX12_hear 120 = .ok (.getfield 312, 3) := q_getfield (bat_get dg_X12_hear_0_0 25 rfl rfl) rfl
theorem dX12_hear_123 : decode cX12_hear 123 = .ok (.ireturn, 1) := q_ireturn (bat_get dg_X12_hear_0_0 26 rfl rfl)
theorem dX12_hear_94 : decode cX12_hear 94 = .ok (.aload_n 0, 1) := q_aload_n0 (bat_get dg_X12_hear_0_0 27 rfl rfl)
theorem dX12_hear_95 : decode cX12_hear 95 = .ok (.getfield 104, 3) := q_getfield (bat_get dg_X12_hear_0_0 28 rfl rfl) rfl
theorem dX12_hear_98 : decode cX12_hear 98 = .ok (.iload_n 3, 1) := q_iload_n3 (bat_get dg_X12_hear_0_0 29 rfl rfl)
theorem dX12_hear_99 : decode cX12_hear 99 = .ok (.aload_n 0, 1) := q_aload_n0 (bat_get dg_X12_hear_0_0 30 rfl rfl)
theorem dX12_hear_100 : decode cX12_hear 100 = .ok (.getfield 7, 3) := q_getfield (bat_get dg_X12_hear_0_0 31 rfl rfl) rfl
theorem dX12_hear_103 : decode cX12_hear 103 = .ok (.iload_n 3, 1) := q_iload_n3 (bat_get dg_X12_hear_0_0 32 rfl rfl)
theorem dX12_hear_104 : decode cX12_hear 104 = .ok (.iaload, 1) := q_iaload (bat_get dg_X12_hear_0_0 33 rfl rfl)
theorem dX12_hear_105 : decode cX12_hear 105 = .ok (.iastore, 1) := q_iastore (bat_get dg_X12_hear_0_0 34 rfl rfl)
theorem dX12_hear_106 : decode cX12_hear 106 = .ok (.iinc 3 1, 3) := q_iinc (bat_get dg_X12_hear_0_0 35 rfl rfl) rfl
theorem dX12_hear_109 : decode cX12_hear 109 = .ok (.goto (-20), 3) := q_goto (bat_get dg_X12_hear_0_0 36 rfl rfl) rfl
theorem dX12_hear_81 : decode cX12_hear 81 = .ok (.aload_n 0, 1) := q_aload_n0 (bat_get dg_X12_hear_0_0 37 rfl rfl)
theorem dX12_hear_82 : decode cX12_hear 82 = .ok (.iconst 1, 1) := q_iconst1 (bat_get dg_X12_hear_0_0 38 rfl rfl)
theorem dX12_hear_83 : decode cX12_hear 83 = .ok (.invokevirtual 463, 3) := q_invokevirtual (bat_get dg_X12_hear_0_0 39 rfl rfl) rfl
theorem dg_X12_hear_10_86 : bqL cX12_hear 10 [(76, [172]), (38, [28]), (39, [153, 0, 28]), (42, [42]), (43, [42]), (44, [180, 0, 7]), (47, [29]), (48, [46]), (49, [42]), (50, [180, 0, 7]), (53, [29]), (54, [4]), (55, [96]), (56, [46]), (57, [182, 1, 198]), (60, [61]), (61, [132, 3, 2]), (64, [167, 255, 225]), (0, [42]), (1, [180, 1, 46]), (4, [153, 0, 25]), (29, [3]), (7, [27]), (8, [158, 0, 21]), (11, [27]), (12, [5]), (13, [112]), (14, [154, 0, 15]), (17, [27]), (18, [5]), (19, [108]), (20, [16, 16]), (22, [163, 0, 7]), (25, [4]), (26, [167, 0, 4])] = true := by decide +kernel
theorem dX12_hear_86 : decode cX12_hear 86 = .ok (.ireturn, 1) := q_ireturn (bat_get dg_X12_hear_10_86 0 rfl rfl)
theorem dX12_hear_48 : decode cX12_hear 48 = .ok (.iload_n 2, 1) := q_iload_n2 (bat_get dg_X12_hear_10_86 1 rfl rfl)
theorem dX12_hear_49 : decode cX12_hear 49 = .ok (.ifCond .eq 28, 3) := q_ifCond_eq (bat_get dg_X12_hear_10_86 2 rfl rfl) rfl
theorem dX12_hear_52 : decode cX12_hear 52 = .ok (.aload_n 0, 1) := q_aload_n0 (bat_get dg_X12_hear_10_86 3 rfl rfl)
theorem dX12_hear_53 : decode cX12_hear 53 = .ok (.aload_n 0, 1) := q_aload_n0 (bat_get dg_X12_hear_10_86 4 rfl rfl)
theorem dX12_hear_54 : decode cX12_hear 54 = .ok (.getfield 7, 3) := q_getfield (bat_get dg_X12_hear_10_86 5 rfl rfl) rfl
theorem dX12_hear_57 : decode cX12_hear 57 = .ok (.iload_n 3, 1) := q_iload_n3 (bat_get dg_X12_hear_10_86 6 rfl rfl)
theorem dX12_hear_58 : decode cX12_hear 58 = .ok (.iaload, 1) := q_iaload (bat_get dg_X12_hear_10_86 7 rfl rfl)
theorem dX12_hear_59 : decode cX12_hear 59 = .ok (.aload_n 0, 1) := q_aload_n0 (bat_get dg_X12_hear_10_86 8 rfl rfl)
theorem dX12_hear_60 : decode cX12_hear 60 = .ok (.getfield 7, 3) := q_getfield (bat_get dg_X12_hear_10_86 9 rfl rfl) rfl
theorem dX12_hear_63 : decode cX12_hear 63 = .ok (.iload_n 3, 1) := q_iload_n3 (bat_get dg_X12_hear_10_86 10 rfl rfl)
theorem dX12_hear_64 : decode cX12_hear 64 = .ok (.iconst 1, 1) := q_iconst1 (bat_get dg_X12_hear_10_86 11 rfl rfl)
theorem dX12_hear_65 : decode cX12_hear 65 = .ok (.iadd, 1) := q_iadd (bat_get dg_X12_hear_10_86 12 rfl rfl)
theorem dX12_hear_66 : decode cX12_hear 66 = .ok (.iaload, 1) := q_iaload (bat_get dg_X12_hear_10_86 13 rfl rfl)
theorem dX12_hear_67 : decode cX12_hear 67 = .ok (.invokevirtual 454, 3) := q_invokevirtual (bat_get dg_X12_hear_10_86 14 rfl rfl) rfl
theorem dX12_hear_70 : decode cX12_hear 70 = .ok (.istore_n 2, 1) := q_istore_n2 (bat_get dg_X12_hear_10_86 15 rfl rfl)
theorem dX12_hear_71 : decode cX12_hear 71 = .ok (.iinc 3 2, 3) := q_iinc (bat_get dg_X12_hear_10_86 16 rfl rfl) rfl
theorem dX12_hear_74 : decode cX12_hear 74 = .ok (.goto (-31), 3) := q_goto (bat_get dg_X12_hear_10_86 17 rfl rfl) rfl
theorem dX12_hear_10 : decode cX12_hear 10 = .ok (.aload_n 0, 1) := q_aload_n0 (bat_get dg_X12_hear_10_86 18 rfl rfl)
theorem dX12_hear_11 : decode cX12_hear 11 = .ok (.getfield 302, 3) := q_getfield (bat_get dg_X12_hear_10_86 19 rfl rfl) rfl
theorem dX12_hear_14 : decode cX12_hear 14 = .ok (.ifCond .eq 25, 3) := q_ifCond_eq (bat_get dg_X12_hear_10_86 20 rfl rfl) rfl
theorem dX12_hear_39 : decode cX12_hear 39 = .ok (.iconst 0, 1) := q_iconst0 (bat_get dg_X12_hear_10_86 21 rfl rfl)
theorem dX12_hear_17 : decode cX12_hear 17 = .ok (.iload_n 1, 1) := q_iload_n1 (bat_get dg_X12_hear_10_86 22 rfl rfl)
theorem dX12_hear_18 : decode cX12_hear 18 = .ok (.ifCond .le 21, 3) := q_ifCond_le (bat_get dg_X12_hear_10_86 23 rfl rfl) rfl
theorem dX12_hear_21 : decode cX12_hear 21 = .ok (.iload_n 1, 1) := q_iload_n1 (bat_get dg_X12_hear_10_86 24 rfl rfl)
theorem dX12_hear_22 : decode cX12_hear 22 = .ok (.iconst 2, 1) := q_iconst2 (bat_get dg_X12_hear_10_86 25 rfl rfl)
theorem dX12_hear_23 : decode cX12_hear 23 = .ok (.irem, 1) := q_irem (bat_get dg_X12_hear_10_86 26 rfl rfl)
theorem dX12_hear_24 : decode cX12_hear 24 = .ok (.ifCond .ne 15, 3) := q_ifCond_ne (bat_get dg_X12_hear_10_86 27 rfl rfl) rfl
theorem dX12_hear_27 : decode cX12_hear 27 = .ok (.iload_n 1, 1) := q_iload_n1 (bat_get dg_X12_hear_10_86 28 rfl rfl)
theorem dX12_hear_28 : decode cX12_hear 28 = .ok (.iconst 2, 1) := q_iconst2 (bat_get dg_X12_hear_10_86 29 rfl rfl)
theorem dX12_hear_29 : decode cX12_hear 29 = .ok (.idiv, 1) := q_idiv (bat_get dg_X12_hear_10_86 30 rfl rfl)
theorem dX12_hear_30 : decode cX12_hear 30 = .ok (.bipush 16, 2) := q_bipush (bat_get dg_X12_hear_10_86 31 rfl rfl) rfl
theorem dX12_hear_32 : decode cX12_hear 32 = .ok (.if_icmp .gt 7, 3) := q_if_icmp_gt (bat_get dg_X12_hear_10_86 32 rfl rfl) rfl
theorem dX12_hear_35 : decode cX12_hear 35 = .ok (.iconst 1, 1) := q_iconst1 (bat_get dg_X12_hear_10_86 33 rfl rfl)
theorem dX12_hear_36 : decode cX12_hear 36 = .ok (.goto 4, 3) := q_goto (bat_get dg_X12_hear_10_86 34 rfl rfl) rfl
theorem w_8_96 : (Cond.code yX12_hear cX12_hear 4 (some .int)) ∈ wsL_law := sk_mem (ck_8 _ (List.mem_of_getElem? (i := 96) rfl)) rfl
def om_6_38 : List Bool := true :: true :: true :: false :: false :: false :: []
set_option maxHeartbeats 4000000 in
set_option maxRecDepth 100000 in
theorem c_nm_hear (l : Launch) (D : va_G) (cI cJ cC cZ cS : ClassId) (mm : Nat) (g : Nat → Nat) (ta : Nat) (pa : Nat) (pe : Nat) (pd : Int32) (pb : Nat) (pp : Int32) (pf : Int32) (pg : Int32) (pn : Int32) (rt : Int32) (rn : Int32) (cd : Nat) (sn : Int32) (il : Nat) (tk : Int32) (am : Int32) (at_ : Int32) (aa : Int32) (wt : Int32) (wy : Int64) (rm : Nat) (ud : Nat) (nu : Nat) (sd : Int64) (qn : Nat) (qw : Nat) (qo : Int32) (qb : Nat) (qp : Nat) (qa : Int64) (qi : Nat) (oc : Nat) (l0 : Nat) (l1 : Nat) (dm : Nat) (l3 : Nat) (nw : Nat → Int32) (tb : Nat → Nat) (rw_ : Nat → Int32) (rf : Nat → Int32) (wn : Nat) (mN : Nat) (Ba : Nat → Nat) (We : Nat → Nat) (U : Nat → Bool) (ke : Nat) (lg : KLg) (hR : Nat → Nat) (hil : il ≤ 1) (hild : il = 1 → 1 ≤ dm) (hilb : 1 ≤ dm → il = 1) (hdm : dm ≤ 9) (hta : ta ≤ 1600) (hrm : rm ≤ 16) (hhr : ∀ j, j < rm → rw_ (2 * j) = nI (hR j / 10) ∧ rw_ (2 * j + 1) = nI (hR j % 10)) (hnw : nwX wn mN Ba We U ke lg nw) (htb : ∀ j, tb j ≤ 255) : skM l yX12_hear cX12_hear 4 (some .int) 3 68 0 0 D (skT cI cJ cC cZ cS) [.ref mm] [ro_ mm 12 (mo g (nI ta) (nI pa) (nI pe) pd (nI pb) pp pf pg pn rt rn (nI cd) sn (nI il) tk am at_ aa 0 0 (-1) wt wy 0 (nI rm) (nI ud) (nI nu) sd (nI qn) (nI qw) qo (nI qb) (nI qp) qa (nI qi) (nI oc)), ra_I (g 20) cI 4 (l4 (nI l0) (nI l1) (nI dm) (nI l3)), ra_I (g 31) cI 120 nw, ra_N (g 0) cI 1600 tb, ra_I (g 53) cI 32 rw_, ra_I (g 9) cI 6 rf] (skI D (skT cI cJ cC cZ cS) (fun (r : Int32) (u : va_W) => ∃ (hR2 : Nat → Nat), ∃ (rm2 : Nat), ∃ (rw_2 : Nat → Int32), ∃ (rf2 : Nat → Int32), rm2 ≤ 16 ∧ (∀ j, j < rm2 → rw_2 (2 * j) = nI (hR2 j / 10) ∧ rw_2 (2 * j + 1) = nI (hR2 j % 10)) ∧ hearR dm U tb ta rm hR rf r rm2 hR2 rf2 ∧ u = [ro_ mm 12 (mo g 0 (nI pa) (nI pe) pd (nI pb) pp pf pg pn rt rn (nI cd) sn (nI il) tk am at_ aa 0 0 (-1) wt wy 0 (nI rm2) (nI ud) (nI nu) sd (nI qn) (nI qw) qo (nI qb) (nI qp) qa (nI qi) (nI oc)), ra_I (g 20) cI 4 (l4 (nI l0) (nI l1) (nI dm) (nI l3)), ra_I (g 31) cI 120 nw, ra_N (g 0) cI 1600 tb, ra_I (g 53) cI 32 rw_2, ra_I (g 9) cI 6 rf2])) := by
  refine skM_of pf_X12_hear (Nat.le_of_ble_eq_true rfl) ?_
  intro p e s m below meth c A ls E hP hD hl
  refine skE_el E (fun hx hb hr hml hlocks hin hown hts hK hA => ?_)
  have hown : s.vm.findClass RX12 = some m.cls := hown
  have hS : va_S A s.heap s.heap [] := va_S.rf
  have hl : lv_has ls 4 [(0, .ref mm)] := hl
  refine lv_aload_n hx hb dX12_hear_0 rfl (lv_at hl 0 rfl) ?_
  refine sk_get (v := .int (nI ta)) (C := RX12) (T := TX12) (N := 92) hx hb hts inlX12 hown hK hP 0 rfl rfl 1 (Nat.le_of_ble_eq_true rfl) w_5_156 rfl dX12_hear_1 ?_
  refine lv_istore_n (lv' := [(1, .int (nI ta)), (0, .ref mm)]) hx hb dX12_hear_4 rfl hl (by decide) rfl (fun ls hl => ?_)
  refine lv_aload_n hx hb dX12_hear_5 rfl (lv_at hl 1 rfl) ?_
  refine lv_iconst (v := 0) hx hb dX12_hear_6 ic_0 ?_
  refine sk_put (ws' := [ro_ mm 12 (mo g 0 (nI pa) (nI pe) pd (nI pb) pp pf pg pn rt rn (nI cd) sn (nI il) tk am at_ aa 0 0 (-1) wt wy 0 (nI rm) (nI ud) (nI nu) sd (nI qn) (nI qw) qo (nI qb) (nI qp) qa (nI qi) (nI oc)), ra_I (g 20) cI 4 (l4 (nI l0) (nI l1) (nI dm) (nI l3)), ra_I (g 31) cI 120 nw, ra_N (g 0) cI 1600 tb, ra_I (g 53) cI 32 rw_, ra_I (g 9) cI 6 rf]) (C := RX12) (T := TX12) (N := 92) (v := .int 0) hx hb hts inlX12 tyX12 tyX12_ok nmX12 hown hK hP hD hS 0 rfl rfl 1 (Nat.le_of_ble_eq_true rfl) w_5_156 rfl rfl rfl (Nat.le_of_ble_eq_true rfl) rfl dX12_hear_7 (fun H locs hP hD hS => ?_)
  have jn_1 : ∀ (bq : Nat) (H : Heap) (locs : List Loc) (ls : Array Slot), (bq ≤ 1) → ((bq = 0 ∧ ¬ hearC dm U tb ta) ∨ (bq = 1 ∧ 1 ≤ dm ∧ 2 ≤ ta ∧ ta ≤ 32 ∧ ta % 2 = 0)) → va_P D vwCl [ro_ mm 12 (mo g 0 (nI pa) (nI pe) pd (nI pb) pp pf pg pn rt rn (nI cd) sn (nI il) tk am at_ aa 0 0 (-1) wt wy 0 (nI rm) (nI ud) (nI nu) sd (nI qn) (nI qw) qo (nI qb) (nI qp) qa (nI qi) (nI oc)), ra_I (g 20) cI 4 (l4 (nI l0) (nI l1) (nI dm) (nI l3)), ra_I (g 31) cI 120 nw, ra_N (g 0) cI 1600 tb, ra_I (g 53) cI 32 rw_, ra_I (g 9) cI 6 rf] H → va_D A [ro_ mm 12 (mo g 0 (nI pa) (nI pe) pd (nI pb) pp pf pg pn rt rn (nI cd) sn (nI il) tk am at_ aa 0 0 (-1) wt wy 0 (nI rm) (nI ud) (nI nu) sd (nI qn) (nI qw) qo (nI qb) (nI qp) qa (nI qi) (nI oc)), ra_I (g 20) cI 4 (l4 (nI l0) (nI l1) (nI dm) (nI l3)), ra_I (g 31) cI 120 nw, ra_N (g 0) cI 1600 tb, ra_I (g 53) cI 32 rw_, ra_I (g 9) cI 6 rf] → va_S A s.heap H locs → lv_has ls 4 [(1, .int (nI ta)), (0, .ref mm)] → W p l e { frames := 3, cells := 0, slots := 0, locals := 68 } s m ([.ref mm] : List Value).toArray below meth c H locs 0 0 (MQ below (skI D (skT cI cJ cC cZ cS) (fun (r : Int32) (u : va_W) => ∃ (hR2 : Nat → Nat), ∃ (rm2 : Nat), ∃ (rw_2 : Nat → Int32), ∃ (rf2 : Nat → Int32), rm2 ≤ 16 ∧ (∀ j, j < rm2 → rw_2 (2 * j) = nI (hR2 j / 10) ∧ rw_2 (2 * j + 1) = nI (hR2 j % 10)) ∧ hearR dm U tb ta rm hR rf r rm2 hR2 rf2 ∧ u = [ro_ mm 12 (mo g 0 (nI pa) (nI pe) pd (nI pb) pp pf pg pn rt rn (nI cd) sn (nI il) tk am at_ aa 0 0 (-1) wt wy 0 (nI rm2) (nI ud) (nI nu) sd (nI qn) (nI qw) qo (nI qb) (nI qp) qa (nI qi) (nI oc)), ra_I (g 20) cI 4 (l4 (nI l0) (nI l1) (nI dm) (nI l3)), ra_I (g 31) cI 120 nw, ra_N (g 0) cI 1600 tb, ra_I (g 53) cI 32 rw_2, ra_I (g 9) cI 6 rf2]) A) ([.ref mm] : List Value).toArray s 0 0 A) (F0 m 40 ls [.int (nI bq)]) := by
    intro bq H locs ls hbq1 hbq hP hD hS hl
    refine lv_istore_n (lv' := [(2, .int (nI bq)), (1, .int (nI ta)), (0, .ref mm)]) hx hb dX12_hear_40 rfl hl (by decide) rfl (fun ls hl => ?_)
    refine lv_iconst (v := 0) hx hb dX12_hear_41 ic_0 ?_
    refine lv_istore_n (lv' := [(3, .int 0), (2, .int (nI bq)), (1, .int (nI ta)), (0, .ref mm)]) hx hb dX12_hear_42 rfl hl (by decide) rfl (fun ls hl => ?_)
    have lp_2 : ∀ (n_3 : Nat) (i : Nat) (gb : Nat) (H : Heap) (locs : List Loc) (ls : Array Slot), ta + 2 - i < n_3 → (i ≤ ta + 1) → (gb = 0 ∨ (i % 2 = 0 ∧ ta % 2 = 0 ∧ i ≤ ta)) → (gb ≤ 1) → ((gb = 0 ∧ ¬ hearC dm U tb ta) ∨ (gb = 1 ∧ 1 ≤ dm ∧ 2 ≤ ta ∧ ta ≤ 32 ∧ ta % 2 = 0 ∧ hrC dm U tb i)) → va_P D vwCl [ro_ mm 12 (mo g 0 (nI pa) (nI pe) pd (nI pb) pp pf pg pn rt rn (nI cd) sn (nI il) tk am at_ aa 0 0 (-1) wt wy 0 (nI rm) (nI ud) (nI nu) sd (nI qn) (nI qw) qo (nI qb) (nI qp) qa (nI qi) (nI oc)), ra_I (g 20) cI 4 (l4 (nI l0) (nI l1) (nI dm) (nI l3)), ra_I (g 31) cI 120 nw, ra_N (g 0) cI 1600 tb, ra_I (g 53) cI 32 rw_, ra_I (g 9) cI 6 rf] H → va_D A [ro_ mm 12 (mo g 0 (nI pa) (nI pe) pd (nI pb) pp pf pg pn rt rn (nI cd) sn (nI il) tk am at_ aa 0 0 (-1) wt wy 0 (nI rm) (nI ud) (nI nu) sd (nI qn) (nI qw) qo (nI qb) (nI qp) qa (nI qi) (nI oc)), ra_I (g 20) cI 4 (l4 (nI l0) (nI l1) (nI dm) (nI l3)), ra_I (g 31) cI 120 nw, ra_N (g 0) cI 1600 tb, ra_I (g 53) cI 32 rw_, ra_I (g 9) cI 6 rf] → va_S A s.heap H locs → lv_has ls 4 [(3, .int (nI i)), (2, .int (nI gb)), (1, .int (nI ta)), (0, .ref mm)] → W p l e { frames := 3, cells := 0, slots := 0, locals := 68 } s m ([.ref mm] : List Value).toArray below meth c H locs 0 0 (MQ below (skI D (skT cI cJ cC cZ cS) (fun (r : Int32) (u : va_W) => ∃ (hR2 : Nat → Nat), ∃ (rm2 : Nat), ∃ (rw_2 : Nat → Int32), ∃ (rf2 : Nat → Int32), rm2 ≤ 16 ∧ (∀ j, j < rm2 → rw_2 (2 * j) = nI (hR2 j / 10) ∧ rw_2 (2 * j + 1) = nI (hR2 j % 10)) ∧ hearR dm U tb ta rm hR rf r rm2 hR2 rf2 ∧ u = [ro_ mm 12 (mo g 0 (nI pa) (nI pe) pd (nI pb) pp pf pg pn rt rn (nI cd) sn (nI il) tk am at_ aa 0 0 (-1) wt wy 0 (nI rm2) (nI ud) (nI nu) sd (nI qn) (nI qw) qo (nI qb) (nI qp) qa (nI qi) (nI oc)), ra_I (g 20) cI 4 (l4 (nI l0) (nI l1) (nI dm) (nI l3)), ra_I (g 31) cI 120 nw, ra_N (g 0) cI 1600 tb, ra_I (g 53) cI 32 rw_2, ra_I (g 9) cI 6 rf2]) A) ([.ref mm] : List Value).toArray s 0 0 A) (F0 m 43 ls []) := by
      intro n_3
      induction n_3 with
      | zero => intro i gb H locs ls hm; exact absurd hm (Nat.not_lt_zero _)
      | succ n_3 ih_lp_2 =>
        intro i gb H locs ls hm hi hi2 hgb1 hgb hP hD hS hl
        refine lv_iload_n hx hb dX12_hear_43 rfl (lv_at hl 0 rfl) ?_
        refine lv_iload_n hx hb dX12_hear_44 rfl (lv_at hl 2 rfl) ?_
        refine lv_icmp_ge (tgt := 77) hx hb dX12_hear_45 (by decide) (fun c_4 => ?_) (fun c_4 => ?_)
        · have c_4 : ta ≤ i := (nle ta i (by omega) (by omega)).mp c_4
          refine lv_iload_n hx hb dX12_hear_77 rfl (lv_at hl 1 rfl) ?_
          refine lv_if_ne (tgt := 87) hx hb dX12_hear_78 (by decide) (fun c_5 => ?_) (fun c_5 => ?_)
          · have c_5 : ¬ (gb = 0) := fun h => c_5 ((neq gb 0 (by omega) (Nat.le_of_ble_eq_true rfl)).mpr h)
            have hcc : hearC dm U tb ta := (by obtain ⟨h1, h2, h3, h4, h5, h6⟩ := hgb.resolve_left (fun q => absurd q.1 (by omega)); exact ⟨h2, h3, h4, h5, hrC_e h6 (by omega)⟩)
            have hl32 := hcc.2.2.1
            refine lv_iconst (v := 0) hx hb dX12_hear_87 ic_0 ?_
            refine lv_istore_n (lv' := [(3, .int 0), (2, .int (nI gb)), (1, .int (nI ta)), (0, .ref mm)]) hx hb dX12_hear_88 rfl hl (by decide) rfl (fun ls hl => ?_)
            have lp_6 : ∀ (n_7 : Nat) (i : Nat) (zr : Nat → Int32) (H : Heap) (locs : List Loc) (ls : Array Slot), ta - i < n_7 → (i ≤ ta) → (∀ k, k < i → zr k = nI (tb k)) → va_P D vwCl [ro_ mm 12 (mo g 0 (nI pa) (nI pe) pd (nI pb) pp pf pg pn rt rn (nI cd) sn (nI il) tk am at_ aa 0 0 (-1) wt wy 0 (nI rm) (nI ud) (nI nu) sd (nI qn) (nI qw) qo (nI qb) (nI qp) qa (nI qi) (nI oc)), ra_I (g 20) cI 4 (l4 (nI l0) (nI l1) (nI dm) (nI l3)), ra_I (g 31) cI 120 nw, ra_N (g 0) cI 1600 tb, ra_I (g 53) cI 32 zr, ra_I (g 9) cI 6 rf] H → va_D A [ro_ mm 12 (mo g 0 (nI pa) (nI pe) pd (nI pb) pp pf pg pn rt rn (nI cd) sn (nI il) tk am at_ aa 0 0 (-1) wt wy 0 (nI rm) (nI ud) (nI nu) sd (nI qn) (nI qw) qo (nI qb) (nI qp) qa (nI qi) (nI oc)), ra_I (g 20) cI 4 (l4 (nI l0) (nI l1) (nI dm) (nI l3)), ra_I (g 31) cI 120 nw, ra_N (g 0) cI 1600 tb, ra_I (g 53) cI 32 zr, ra_I (g 9) cI 6 rf] → va_S A s.heap H locs → lv_has ls 4 [(3, .int (nI i)), (2, .int (nI gb)), (1, .int (nI ta)), (0, .ref mm)] → W p l e { frames := 3, cells := 0, slots := 0, locals := 68 } s m ([.ref mm] : List Value).toArray below meth c H locs 0 0 (MQ below (skI D (skT cI cJ cC cZ cS) (fun (r : Int32) (u : va_W) => ∃ (hR2 : Nat → Nat), ∃ (rm2 : Nat), ∃ (rw_2 : Nat → Int32), ∃ (rf2 : Nat → Int32), rm2 ≤ 16 ∧ (∀ j, j < rm2 → rw_2 (2 * j) = nI (hR2 j / 10) ∧ rw_2 (2 * j + 1) = nI (hR2 j % 10)) ∧ hearR dm U tb ta rm hR rf r rm2 hR2 rf2 ∧ u = [ro_ mm 12 (mo g 0 (nI pa) (nI pe) pd (nI pb) pp pf pg pn rt rn (nI cd) sn (nI il) tk am at_ aa 0 0 (-1) wt wy 0 (nI rm2) (nI ud) (nI nu) sd (nI qn) (nI qw) qo (nI qb) (nI qp) qa (nI qi) (nI oc)), ra_I (g 20) cI 4 (l4 (nI l0) (nI l1) (nI dm) (nI l3)), ra_I (g 31) cI 120 nw, ra_N (g 0) cI 1600 tb, ra_I (g 53) cI 32 rw_2, ra_I (g 9) cI 6 rf2]) A) ([.ref mm] : List Value).toArray s 0 0 A) (F0 m 89 ls []) := by
              intro n_7
              induction n_7 with
              | zero => intro i zr H locs ls hm; exact absurd hm (Nat.not_lt_zero _)
              | succ n_7 ih_lp_6 =>
                intro i zr H locs ls hm hi hrw hP hD hS hl
                refine lv_iload_n hx hb dX12_hear_89 rfl (lv_at hl 0 rfl) ?_
                refine lv_iload_n hx hb dX12_hear_90 rfl (lv_at hl 2 rfl) ?_
                refine lv_icmp_ge (tgt := 112) hx hb dX12_hear_91 (by decide) (fun c_8 => ?_) (fun c_8 => ?_)
                · have c_8 : ta ≤ i := (nle ta i (by omega) (by omega)).mp c_8
                  refine lv_aload_n hx hb dX12_hear_112 rfl (lv_at hl 3 rfl) ?_
                  refine lv_iload_n hx hb dX12_hear_113 rfl (lv_at hl 2 rfl) ?_
                  refine lv_iconst (v := 2) hx hb dX12_hear_114 ic_2 ?_
                  refine lv_idiv hx hb dX12_hear_115 (by decide) ?_
                  refine sk_top (nI (ta / 2)) (ndiv ta 2 (by omega) (by omega) (by omega)) ?_
                  refine sk_put (ws' := [ro_ mm 12 (mo g 0 (nI pa) (nI pe) pd (nI pb) pp pf pg pn rt rn (nI cd) sn (nI il) tk am at_ aa 0 0 (-1) wt wy 0 (nI (ta / 2)) (nI ud) (nI nu) sd (nI qn) (nI qw) qo (nI qb) (nI qp) qa (nI qi) (nI oc)), ra_I (g 20) cI 4 (l4 (nI l0) (nI l1) (nI dm) (nI l3)), ra_I (g 31) cI 120 nw, ra_N (g 0) cI 1600 tb, ra_I (g 53) cI 32 zr, ra_I (g 9) cI 6 rf]) (C := RX12) (T := TX12) (N := 92) (v := .int (nI (ta / 2))) hx hb hts inlX12 tyX12 tyX12_ok nmX12 hown hK hP hD hS 0 rfl rfl 52 (Nat.le_of_ble_eq_true rfl) w_5_207 rfl rfl rfl (Nat.le_of_ble_eq_true rfl) rfl dX12_hear_116 (fun H locs hP hD hS => ?_)
                  refine lv_aload_n hx hb dX12_hear_119 rfl (lv_at hl 3 rfl) ?_
                  refine sk_get (v := .int (nI (ta / 2))) (C := RX12) (T := TX12) (N := 92) hx hb hts inlX12 hown hK hP 0 rfl rfl 52 (Nat.le_of_ble_eq_true rfl) w_5_207 rfl dX12_hear_120 ?_
                  exact sk_iret hx hb hr rfl hlocks hK hP hD hS (⟨(hrR tb), ta / 2, zr, rf, by omega, (hr_rows (fun k hk => hrw k (by omega)) hcc), kB_1 hcc ⟨rfl, rfl, rfl, rfl⟩, rfl⟩) (Nat.le_of_ble_eq_true rfl) (Nat.le_of_ble_eq_true rfl) dX12_hear_123
                · have c_8 : ¬ (ta ≤ i) := fun h => c_8 ((nle ta i (by omega) (by omega)).mpr h)
                  refine lv_aload_n hx hb dX12_hear_94 rfl (lv_at hl 3 rfl) ?_
                  refine sk_get (v := .ref (g 53)) (C := RX12) (T := TX12) (N := 92) hx hb hts inlX12 hown hK hP 0 rfl rfl 53 (Nat.le_of_ble_eq_true rfl) w_5_208 rfl dX12_hear_95 ?_
                  refine lv_iload_n hx hb dX12_hear_98 rfl (lv_at hl 0 rfl) ?_
                  refine lv_aload_n hx hb dX12_hear_99 rfl (lv_at hl 3 rfl) ?_
                  refine sk_get (v := .ref (g 0)) (C := RX12) (T := TX12) (N := 92) hx hb hts inlX12 hown hK hP 0 rfl rfl 0 (Nat.le_of_ble_eq_true rfl) w_5_155 rfl dX12_hear_100 ?_
                  refine lv_iload_n hx hb dX12_hear_103 rfl (lv_at hl 0 rfl) ?_
                  refine va_iald hx hb hK.1 hP 3 0 rfl rfl (vin i 1600 (by omega) (Nat.le_of_ble_eq_true rfl)) dX12_hear_104 ?_
                  refine sk_top (nI (tb i)) (nrd tb i (by omega)) ?_
                  have hb_9 := htb i
                  refine sk_iastE (k := i) (ws' := fun f_10 => [ro_ mm 12 (mo g 0 (nI pa) (nI pe) pd (nI pb) pp pf pg pn rt rn (nI cd) sn (nI il) tk am at_ aa 0 0 (-1) wt wy 0 (nI rm) (nI ud) (nI nu) sd (nI qn) (nI qw) qo (nI qb) (nI qp) qa (nI qi) (nI oc)), ra_I (g 20) cI 4 (l4 (nI l0) (nI l1) (nI dm) (nI l3)), ra_I (g 31) cI 120 nw, ra_N (g 0) cI 1600 tb, ra_I (g 53) cI 32 f_10, ra_I (g 9) cI 6 rf]) hx hb hK hP hD hS 4 0 rfl rfl (by omega) (by omega) (fun _ => rfl) dX12_hear_105 (fun f_10 H locs ef_11 hP hD hS => ?_)
                  refine lv_iinc (v := nI (i + 1)) (lv' := [(3, .int (nI (i + 1))), (2, .int (nI gb)), (1, .int (nI ta)), (0, .ref mm)]) hx hb dX12_hear_106 hl (k := 0) rfl (ninc i 1 (by decide)) (by decide) rfl (fun ls hl => ?_)
                  refine lv_goto (tgt := 89) hx hb dX12_hear_109 (by decide) ?_
                  exact ih_lp_6 (i + 1) f_10 _ _ _ (by omega) (by omega) (kc_n hrw ef_11) hP hD hS (lv_sub hl [0, 1, 2, 3] rfl)
            exact lp_6 (ta - 0 + 1) 0 rw_ _ _ _ (Nat.lt_succ_self _) (by omega) (fun k hk => absurd hk (Nat.not_lt_zero k)) hP hD hS (lv_sub hl [0, 1, 2, 3] rfl)
          · have c_5 : gb = 0 := (neq gb 0 (by omega) (Nat.le_of_ble_eq_true rfl)).mp c_5
            refine lv_aload_n hx hb dX12_hear_81 rfl (lv_at hl 3 rfl) ?_
            refine lv_iconst (v := 1) hx hb dX12_hear_82 ic_1 ?_
            refine sk_Vi (q0 := 0) (n := 1) (rest := []) (wr := fmR om_6_21 _) ⟨hx, hb, hml, hown, hts⟩ hl.1 (c_nm_refuses l D cI cJ cC cZ cS mm g 0 pa pe pd pb pp pf pg pn rt rn cd sn il tk am at_ aa wt wy rm ud nu sd qn qw qo qb qp qa qi oc 1 rf (by omega)) w_8_97 w_8_99 w_0_104 w_1_14 w_8_100 hd_X12_refuses_1 ⟨⟨(Nat.le_of_ble_eq_true rfl), (Nat.le_of_ble_eq_true rfl)⟩, (Nat.le_of_ble_eq_true rfl), (Nat.le_of_ble_eq_true rfl)⟩ hK hP hD hS hA (fmT om_6_21 0) (fmF om_6_21 0) (fm_C1 rfl rfl) (fm_R rfl rfl) (fm_nT om_6_21 0) (fm_nF om_6_21 0) (fm_di om_6_21 0) rfl rfl rfl rfl (Nat.le_of_ble_eq_true rfl) dX12_hear_83 (fun r_13 u H locs hw hP hD hS => ?_)
            refine exE hw (fun rf2_12 hw1 => anE hw1 (fun hrf_14 hw2 => anE hw2 (fun er_16 eu_15 => ?_)))
            clear hw hw1 hw2
            subst er_16
            refine o_mgE (ws' := [ro_ mm 12 (mo g 0 (nI pa) (nI pe) pd (nI pb) pp pf pg pn rt rn (nI cd) sn (nI il) tk am at_ aa 0 0 (-1) wt wy 0 (nI rm) (nI ud) (nI nu) sd (nI qn) (nI qw) qo (nI qb) (nI qp) qa (nI qi) (nI oc)), ra_I (g 20) cI 4 (l4 (nI l0) (nI l1) (nI dm) (nI l3)), ra_I (g 31) cI 120 nw, ra_N (g 0) cI 1600 tb, ra_I (g 53) cI 32 rw_, ra_I (g 9) cI 6 rf2_12]) eu_15 hP hD rfl (fun hP hD => ?_)
            exact sk_iret hx hb hr rfl hlocks hK hP hD hS (⟨hR, rm, rw_, rf2_12, hrm, hhr, kB_0 (by obtain ⟨h1, h2⟩ := hgb.resolve_right (fun q => absurd q.1 (by omega)); exact h2) ⟨rfl, rfl, rfl, hrf_14⟩, rfl⟩) (Nat.le_of_ble_eq_true rfl) (Nat.le_of_ble_eq_true rfl) dX12_hear_86
        · have c_4 : ¬ (ta ≤ i) := fun h => c_4 ((nle ta i (by omega) (by omega)).mpr h)
          refine lv_iload_n hx hb dX12_hear_48 rfl (lv_at hl 1 rfl) ?_
          refine lv_if_eq (tgt := 77) hx hb dX12_hear_49 (by decide) (fun c_17 => ?_) (fun c_17 => ?_)
          · have c_17 : gb = 0 := (neq gb 0 (by omega) (Nat.le_of_ble_eq_true rfl)).mp c_17
            refine lv_iload_n hx hb dX12_hear_77 rfl (lv_at hl 1 rfl) ?_
            refine lv_if_ne (tgt := 87) hx hb dX12_hear_78 (by decide) (fun c_18 => ?_) (fun c_18 => ?_)
            · have c_18 : ¬ (gb = 0) := fun h => c_18 ((neq gb 0 (by omega) (Nat.le_of_ble_eq_true rfl)).mpr h)
              have hcc : hearC dm U tb ta := (by obtain ⟨h1, h2, h3, h4, h5, h6⟩ := hgb.resolve_left (fun q => absurd q.1 (by omega)); exact ⟨h2, h3, h4, h5, hrC_e h6 (by omega)⟩)
              have hl32 := hcc.2.2.1
              refine lv_iconst (v := 0) hx hb dX12_hear_87 ic_0 ?_
              refine lv_istore_n (lv' := [(3, .int 0), (2, .int (nI gb)), (1, .int (nI ta)), (0, .ref mm)]) hx hb dX12_hear_88 rfl hl (by decide) rfl (fun ls hl => ?_)
              have lp_19 : ∀ (n_20 : Nat) (i : Nat) (zr : Nat → Int32) (H : Heap) (locs : List Loc) (ls : Array Slot), ta - i < n_20 → (i ≤ ta) → (∀ k, k < i → zr k = nI (tb k)) → va_P D vwCl [ro_ mm 12 (mo g 0 (nI pa) (nI pe) pd (nI pb) pp pf pg pn rt rn (nI cd) sn (nI il) tk am at_ aa 0 0 (-1) wt wy 0 (nI rm) (nI ud) (nI nu) sd (nI qn) (nI qw) qo (nI qb) (nI qp) qa (nI qi) (nI oc)), ra_I (g 20) cI 4 (l4 (nI l0) (nI l1) (nI dm) (nI l3)), ra_I (g 31) cI 120 nw, ra_N (g 0) cI 1600 tb, ra_I (g 53) cI 32 zr, ra_I (g 9) cI 6 rf] H → va_D A [ro_ mm 12 (mo g 0 (nI pa) (nI pe) pd (nI pb) pp pf pg pn rt rn (nI cd) sn (nI il) tk am at_ aa 0 0 (-1) wt wy 0 (nI rm) (nI ud) (nI nu) sd (nI qn) (nI qw) qo (nI qb) (nI qp) qa (nI qi) (nI oc)), ra_I (g 20) cI 4 (l4 (nI l0) (nI l1) (nI dm) (nI l3)), ra_I (g 31) cI 120 nw, ra_N (g 0) cI 1600 tb, ra_I (g 53) cI 32 zr, ra_I (g 9) cI 6 rf] → va_S A s.heap H locs → lv_has ls 4 [(3, .int (nI i)), (2, .int (nI gb)), (1, .int (nI ta)), (0, .ref mm)] → W p l e { frames := 3, cells := 0, slots := 0, locals := 68 } s m ([.ref mm] : List Value).toArray below meth c H locs 0 0 (MQ below (skI D (skT cI cJ cC cZ cS) (fun (r : Int32) (u : va_W) => ∃ (hR2 : Nat → Nat), ∃ (rm2 : Nat), ∃ (rw_2 : Nat → Int32), ∃ (rf2 : Nat → Int32), rm2 ≤ 16 ∧ (∀ j, j < rm2 → rw_2 (2 * j) = nI (hR2 j / 10) ∧ rw_2 (2 * j + 1) = nI (hR2 j % 10)) ∧ hearR dm U tb ta rm hR rf r rm2 hR2 rf2 ∧ u = [ro_ mm 12 (mo g 0 (nI pa) (nI pe) pd (nI pb) pp pf pg pn rt rn (nI cd) sn (nI il) tk am at_ aa 0 0 (-1) wt wy 0 (nI rm2) (nI ud) (nI nu) sd (nI qn) (nI qw) qo (nI qb) (nI qp) qa (nI qi) (nI oc)), ra_I (g 20) cI 4 (l4 (nI l0) (nI l1) (nI dm) (nI l3)), ra_I (g 31) cI 120 nw, ra_N (g 0) cI 1600 tb, ra_I (g 53) cI 32 rw_2, ra_I (g 9) cI 6 rf2]) A) ([.ref mm] : List Value).toArray s 0 0 A) (F0 m 89 ls []) := by
                intro n_20
                induction n_20 with
                | zero => intro i zr H locs ls hm; exact absurd hm (Nat.not_lt_zero _)
                | succ n_20 ih_lp_19 =>
                  intro i zr H locs ls hm hi hrw hP hD hS hl
                  refine lv_iload_n hx hb dX12_hear_89 rfl (lv_at hl 0 rfl) ?_
                  refine lv_iload_n hx hb dX12_hear_90 rfl (lv_at hl 2 rfl) ?_
                  refine lv_icmp_ge (tgt := 112) hx hb dX12_hear_91 (by decide) (fun c_21 => ?_) (fun c_21 => ?_)
                  · have c_21 : ta ≤ i := (nle ta i (by omega) (by omega)).mp c_21
                    refine lv_aload_n hx hb dX12_hear_112 rfl (lv_at hl 3 rfl) ?_
                    refine lv_iload_n hx hb dX12_hear_113 rfl (lv_at hl 2 rfl) ?_
                    refine lv_iconst (v := 2) hx hb dX12_hear_114 ic_2 ?_
                    refine lv_idiv hx hb dX12_hear_115 (by decide) ?_
                    refine sk_top (nI (ta / 2)) (ndiv ta 2 (by omega) (by omega) (by omega)) ?_
                    refine sk_put (ws' := [ro_ mm 12 (mo g 0 (nI pa) (nI pe) pd (nI pb) pp pf pg pn rt rn (nI cd) sn (nI il) tk am at_ aa 0 0 (-1) wt wy 0 (nI (ta / 2)) (nI ud) (nI nu) sd (nI qn) (nI qw) qo (nI qb) (nI qp) qa (nI qi) (nI oc)), ra_I (g 20) cI 4 (l4 (nI l0) (nI l1) (nI dm) (nI l3)), ra_I (g 31) cI 120 nw, ra_N (g 0) cI 1600 tb, ra_I (g 53) cI 32 zr, ra_I (g 9) cI 6 rf]) (C := RX12) (T := TX12) (N := 92) (v := .int (nI (ta / 2))) hx hb hts inlX12 tyX12 tyX12_ok nmX12 hown hK hP hD hS 0 rfl rfl 52 (Nat.le_of_ble_eq_true rfl) w_5_207 rfl rfl rfl (Nat.le_of_ble_eq_true rfl) rfl dX12_hear_116 (fun H locs hP hD hS => ?_)
                    refine lv_aload_n hx hb dX12_hear_119 rfl (lv_at hl 3 rfl) ?_
                    refine sk_get (v := .int (nI (ta / 2))) (C := RX12) (T := TX12) (N := 92) hx hb hts inlX12 hown hK hP 0 rfl rfl 52 (Nat.le_of_ble_eq_true rfl) w_5_207 rfl dX12_hear_120 ?_
                    exact sk_iret hx hb hr rfl hlocks hK hP hD hS (⟨(hrR tb), ta / 2, zr, rf, by omega, (hr_rows (fun k hk => hrw k (by omega)) hcc), kB_1 hcc ⟨rfl, rfl, rfl, rfl⟩, rfl⟩) (Nat.le_of_ble_eq_true rfl) (Nat.le_of_ble_eq_true rfl) dX12_hear_123
                  · have c_21 : ¬ (ta ≤ i) := fun h => c_21 ((nle ta i (by omega) (by omega)).mpr h)
                    refine lv_aload_n hx hb dX12_hear_94 rfl (lv_at hl 3 rfl) ?_
                    refine sk_get (v := .ref (g 53)) (C := RX12) (T := TX12) (N := 92) hx hb hts inlX12 hown hK hP 0 rfl rfl 53 (Nat.le_of_ble_eq_true rfl) w_5_208 rfl dX12_hear_95 ?_
                    refine lv_iload_n hx hb dX12_hear_98 rfl (lv_at hl 0 rfl) ?_
                    refine lv_aload_n hx hb dX12_hear_99 rfl (lv_at hl 3 rfl) ?_
                    refine sk_get (v := .ref (g 0)) (C := RX12) (T := TX12) (N := 92) hx hb hts inlX12 hown hK hP 0 rfl rfl 0 (Nat.le_of_ble_eq_true rfl) w_5_155 rfl dX12_hear_100 ?_
                    refine lv_iload_n hx hb dX12_hear_103 rfl (lv_at hl 0 rfl) ?_
                    refine va_iald hx hb hK.1 hP 3 0 rfl rfl (vin i 1600 (by omega) (Nat.le_of_ble_eq_true rfl)) dX12_hear_104 ?_
                    refine sk_top (nI (tb i)) (nrd tb i (by omega)) ?_
                    have hb_22 := htb i
                    refine sk_iastE (k := i) (ws' := fun f_23 => [ro_ mm 12 (mo g 0 (nI pa) (nI pe) pd (nI pb) pp pf pg pn rt rn (nI cd) sn (nI il) tk am at_ aa 0 0 (-1) wt wy 0 (nI rm) (nI ud) (nI nu) sd (nI qn) (nI qw) qo (nI qb) (nI qp) qa (nI qi) (nI oc)), ra_I (g 20) cI 4 (l4 (nI l0) (nI l1) (nI dm) (nI l3)), ra_I (g 31) cI 120 nw, ra_N (g 0) cI 1600 tb, ra_I (g 53) cI 32 f_23, ra_I (g 9) cI 6 rf]) hx hb hK hP hD hS 4 0 rfl rfl (by omega) (by omega) (fun _ => rfl) dX12_hear_105 (fun f_23 H locs ef_24 hP hD hS => ?_)
                    refine lv_iinc (v := nI (i + 1)) (lv' := [(3, .int (nI (i + 1))), (2, .int (nI gb)), (1, .int (nI ta)), (0, .ref mm)]) hx hb dX12_hear_106 hl (k := 0) rfl (ninc i 1 (by decide)) (by decide) rfl (fun ls hl => ?_)
                    refine lv_goto (tgt := 89) hx hb dX12_hear_109 (by decide) ?_
                    exact ih_lp_19 (i + 1) f_23 _ _ _ (by omega) (by omega) (kc_n hrw ef_24) hP hD hS (lv_sub hl [0, 1, 2, 3] rfl)
              exact lp_19 (ta - 0 + 1) 0 rw_ _ _ _ (Nat.lt_succ_self _) (by omega) (fun k hk => absurd hk (Nat.not_lt_zero k)) hP hD hS (lv_sub hl [0, 1, 2, 3] rfl)
            · have c_18 : gb = 0 := (neq gb 0 (by omega) (Nat.le_of_ble_eq_true rfl)).mp c_18
              refine lv_aload_n hx hb dX12_hear_81 rfl (lv_at hl 3 rfl) ?_
              refine lv_iconst (v := 1) hx hb dX12_hear_82 ic_1 ?_
              refine sk_Vi (q0 := 0) (n := 1) (rest := []) (wr := fmR om_6_21 _) ⟨hx, hb, hml, hown, hts⟩ hl.1 (c_nm_refuses l D cI cJ cC cZ cS mm g 0 pa pe pd pb pp pf pg pn rt rn cd sn il tk am at_ aa wt wy rm ud nu sd qn qw qo qb qp qa qi oc 1 rf (by omega)) w_8_97 w_8_99 w_0_104 w_1_14 w_8_100 hd_X12_refuses_1 ⟨⟨(Nat.le_of_ble_eq_true rfl), (Nat.le_of_ble_eq_true rfl)⟩, (Nat.le_of_ble_eq_true rfl), (Nat.le_of_ble_eq_true rfl)⟩ hK hP hD hS hA (fmT om_6_21 0) (fmF om_6_21 0) (fm_C1 rfl rfl) (fm_R rfl rfl) (fm_nT om_6_21 0) (fm_nF om_6_21 0) (fm_di om_6_21 0) rfl rfl rfl rfl (Nat.le_of_ble_eq_true rfl) dX12_hear_83 (fun r_26 u H locs hw hP hD hS => ?_)
              refine exE hw (fun rf2_25 hw1 => anE hw1 (fun hrf_27 hw2 => anE hw2 (fun er_29 eu_28 => ?_)))
              clear hw hw1 hw2
              subst er_29
              refine o_mgE (ws' := [ro_ mm 12 (mo g 0 (nI pa) (nI pe) pd (nI pb) pp pf pg pn rt rn (nI cd) sn (nI il) tk am at_ aa 0 0 (-1) wt wy 0 (nI rm) (nI ud) (nI nu) sd (nI qn) (nI qw) qo (nI qb) (nI qp) qa (nI qi) (nI oc)), ra_I (g 20) cI 4 (l4 (nI l0) (nI l1) (nI dm) (nI l3)), ra_I (g 31) cI 120 nw, ra_N (g 0) cI 1600 tb, ra_I (g 53) cI 32 rw_, ra_I (g 9) cI 6 rf2_25]) eu_28 hP hD rfl (fun hP hD => ?_)
              exact sk_iret hx hb hr rfl hlocks hK hP hD hS (⟨hR, rm, rw_, rf2_25, hrm, hhr, kB_0 (by obtain ⟨h1, h2⟩ := hgb.resolve_right (fun q => absurd q.1 (by omega)); exact h2) ⟨rfl, rfl, rfl, hrf_27⟩, rfl⟩) (Nat.le_of_ble_eq_true rfl) (Nat.le_of_ble_eq_true rfl) dX12_hear_86
          · have c_17 : ¬ (gb = 0) := fun h => c_17 ((neq gb 0 (by omega) (Nat.le_of_ble_eq_true rfl)).mpr h)
            refine lv_aload_n hx hb dX12_hear_52 rfl (lv_at hl 3 rfl) ?_
            refine lv_aload_n hx hb dX12_hear_53 rfl (lv_at hl 3 rfl) ?_
            refine sk_get (v := .ref (g 0)) (C := RX12) (T := TX12) (N := 92) hx hb hts inlX12 hown hK hP 0 rfl rfl 0 (Nat.le_of_ble_eq_true rfl) w_5_155 rfl dX12_hear_54 ?_
            refine lv_iload_n hx hb dX12_hear_57 rfl (lv_at hl 0 rfl) ?_
            refine va_iald hx hb hK.1 hP 3 0 rfl rfl (vin i 1600 (by omega) (Nat.le_of_ble_eq_true rfl)) dX12_hear_58 ?_
            refine sk_top (nI (tb i)) (nrd tb i (by omega)) ?_
            have hb_30 := htb i
            refine lv_aload_n hx hb dX12_hear_59 rfl (lv_at hl 3 rfl) ?_
            refine sk_get (v := .ref (g 0)) (C := RX12) (T := TX12) (N := 92) hx hb hts inlX12 hown hK hP 0 rfl rfl 0 (Nat.le_of_ble_eq_true rfl) w_5_155 rfl dX12_hear_60 ?_
            refine lv_iload_n hx hb dX12_hear_63 rfl (lv_at hl 0 rfl) ?_
            refine lv_iconst (v := 1) hx hb dX12_hear_64 ic_1 ?_
            refine lv_iadd hx hb dX12_hear_65 ?_
            refine sk_top (nI (i + 1)) (nI_add i 1) ?_
            refine va_iald hx hb hK.1 hP 3 0 rfl rfl (vin (i + 1) 1600 (by omega) (Nat.le_of_ble_eq_true rfl)) dX12_hear_66 ?_
            refine sk_top (nI (tb (i + 1))) (nrd tb (i + 1) (by omega)) ?_
            have hb_31 := htb (i + 1)
            refine sk_Vi (q0 := 0) (n := 2) (rest := []) (wr := fmR om_6_38 _) ⟨hx, hb, hml, hown, hts⟩ hl.1 (c_nm_canBeToldN l D cI cJ cC cZ cS mm g 0 pa pe pd pb pp pf pg pn rt rn cd sn il tk am at_ aa wt wy rm ud nu sd qn qw qo qb qp qa qi oc (tb i) (tb (i + 1)) l0 l1 dm l3 nw wn mN Ba We U ke lg hdm (by omega) (by omega) hnw) w_8_77 w_8_79 w_0_101 w_1_14 w_8_80 hd_X12_canBeTold_2 ⟨⟨(Nat.le_of_ble_eq_true rfl), (Nat.le_of_ble_eq_true rfl)⟩, (Nat.le_of_ble_eq_true rfl), (Nat.le_of_ble_eq_true rfl)⟩ hK hP hD hS hA (fmT om_6_38 0) (fmF om_6_38 0) (fm_C1 rfl rfl) (fm_R rfl rfl) (fm_nT om_6_38 0) (fm_nF om_6_38 0) (fm_di om_6_38 0) rfl rfl rfl rfl (Nat.le_of_ble_eq_true rfl) dX12_hear_67 (fun r_33 u H locs hw hP hD hS => ?_)
            refine exE hw (fun b_32 hw1 => anE hw1 (fun hcb_34 hw2 => anE hw2 (fun er_36 eu_35 => ?_)))
            clear hw hw1 hw2
            subst er_36
            refine o_mgE (ws' := [ro_ mm 12 (mo g 0 (nI pa) (nI pe) pd (nI pb) pp pf pg pn rt rn (nI cd) sn (nI il) tk am at_ aa 0 0 (-1) wt wy 0 (nI rm) (nI ud) (nI nu) sd (nI qn) (nI qw) qo (nI qb) (nI qp) qa (nI qi) (nI oc)), ra_I (g 20) cI 4 (l4 (nI l0) (nI l1) (nI dm) (nI l3)), ra_I (g 31) cI 120 nw, ra_N (g 0) cI 1600 tb, ra_I (g 53) cI 32 rw_, ra_I (g 9) cI 6 rf]) eu_35 hP hD rfl (fun hP hD => ?_)
            refine lv_istore_n (lv' := [(2, .int (nI b_32)), (3, .int (nI i)), (1, .int (nI ta)), (0, .ref mm)]) hx hb dX12_hear_70 rfl hl (by decide) rfl (fun ls hl => ?_)
            refine lv_iinc (v := nI (i + 2)) (lv' := [(3, .int (nI (i + 2))), (2, .int (nI b_32)), (1, .int (nI ta)), (0, .ref mm)]) hx hb dX12_hear_71 hl (k := 1) rfl (ninc i 2 (by decide)) (by decide) rfl (fun ls hl => ?_)
            refine lv_goto (tgt := 43) hx hb dX12_hear_74 (by decide) ?_
            exact ih_lp_2 (i + 2) b_32 _ _ _ (by omega) (by omega) (by omega) (by omega) (by obtain ⟨h1, h2, h3, h4, h5, h6⟩ := hgb.resolve_left (fun q => absurd q.1 (by omega)); rcases hcb_34 with ⟨q1, q2⟩ | ⟨q1, q2⟩; exact Or.inl ⟨q1, fun hq => hrC_n (by omega) (by omega) q2 hq.2.2.2.2⟩; exact Or.inr ⟨q1, h2, h3, h4, h5, hrC_s h6 (by omega) q2⟩) hP hD hS (lv_sub hl [0, 1, 2, 3] rfl)
    exact lp_2 (ta + 2 - 0 + 1) 0 bq _ _ _ (Nat.lt_succ_self _) (by omega) (by omega) hbq1 (by rcases hbq with ⟨h1, h2⟩ | ⟨h1, h2, h3, h4, h5⟩; exact Or.inl ⟨h1, h2⟩; exact Or.inr ⟨h1, h2, h3, h4, h5, hrC_0 _ _ _⟩) hP hD hS (lv_sub hl [0, 1, 2, 3] rfl)
  refine lv_aload_n hx hb dX12_hear_10 rfl (lv_at hl 1 rfl) ?_
  refine sk_get (v := .int (nI il)) (C := RX12) (T := TX12) (N := 92) hx hb hts inlX12 hown hK hP 0 rfl rfl 29 (Nat.le_of_ble_eq_true rfl) w_5_184 rfl dX12_hear_11 ?_
  refine lv_if_eq (tgt := 39) hx hb dX12_hear_14 (by decide) (fun c_37 => ?_) (fun c_37 => ?_)
  · have c_37 : il = 0 := (neq il 0 (by omega) (Nat.le_of_ble_eq_true rfl)).mp c_37
    refine lv_iconst (v := 0) hx hb dX12_hear_39 ic_0 ?_
    exact jn_1 0 _ _ _ (by omega) (Or.inl ⟨rfl, fun hq => by obtain ⟨h1, h2, h3, h4, h5⟩ := hq; have h6 := hilb h1; omega⟩) hP hD hS (lv_sub hl [0, 1] rfl)
  · have c_37 : ¬ (il = 0) := fun h => c_37 ((neq il 0 (by omega) (Nat.le_of_ble_eq_true rfl)).mpr h)
    refine lv_iload_n hx hb dX12_hear_17 rfl (lv_at hl 0 rfl) ?_
    refine lv_if_le (tgt := 39) hx hb dX12_hear_18 (by decide) (fun c_38 => ?_) (fun c_38 => ?_)
    · have c_38 : ta ≤ 0 := (nle ta 0 (by omega) (Nat.le_of_ble_eq_true rfl)).mp c_38
      refine lv_iconst (v := 0) hx hb dX12_hear_39 ic_0 ?_
      exact jn_1 0 _ _ _ (by omega) (Or.inl ⟨rfl, fun hq => by obtain ⟨h1, h2, h3, h4, h5⟩ := hq; have h6 := hilb h1; omega⟩) hP hD hS (lv_sub hl [0, 1] rfl)
    · have c_38 : ¬ (ta ≤ 0) := fun h => c_38 ((nle ta 0 (by omega) (Nat.le_of_ble_eq_true rfl)).mpr h)
      refine lv_iload_n hx hb dX12_hear_21 rfl (lv_at hl 0 rfl) ?_
      refine lv_iconst (v := 2) hx hb dX12_hear_22 ic_2 ?_
      refine lv_irem hx hb dX12_hear_23 (by decide) ?_
      refine sk_top (nI (ta % 2)) (nrem ta 2 (by omega) (by omega) (by omega)) ?_
      refine lv_if_ne (tgt := 39) hx hb dX12_hear_24 (by decide) (fun c_39 => ?_) (fun c_39 => ?_)
      · have c_39 : ¬ (ta % 2 = 0) := fun h => c_39 ((neq (ta % 2) 0 (by omega) (Nat.le_of_ble_eq_true rfl)).mpr h)
        refine lv_iconst (v := 0) hx hb dX12_hear_39 ic_0 ?_
        exact jn_1 0 _ _ _ (by omega) (Or.inl ⟨rfl, fun hq => by obtain ⟨h1, h2, h3, h4, h5⟩ := hq; have h6 := hilb h1; omega⟩) hP hD hS (lv_sub hl [0, 1] rfl)
      · have c_39 : ta % 2 = 0 := (neq (ta % 2) 0 (by omega) (Nat.le_of_ble_eq_true rfl)).mp c_39
        refine lv_iload_n hx hb dX12_hear_27 rfl (lv_at hl 0 rfl) ?_
        refine lv_iconst (v := 2) hx hb dX12_hear_28 ic_2 ?_
        refine lv_idiv hx hb dX12_hear_29 (by decide) ?_
        refine sk_top (nI (ta / 2)) (ndiv ta 2 (by omega) (by omega) (by omega)) ?_
        refine lv_bipush (v := 16) hx hb dX12_hear_30 (by decide) ?_
        refine lv_icmp_gt (tgt := 39) hx hb dX12_hear_32 (by decide) (fun c_40 => ?_) (fun c_40 => ?_)
        · have c_40 : 16 < ta / 2 := (nlt 16 (ta / 2) (Nat.le_of_ble_eq_true rfl) (by omega)).mp c_40
          refine lv_iconst (v := 0) hx hb dX12_hear_39 ic_0 ?_
          exact jn_1 0 _ _ _ (by omega) (Or.inl ⟨rfl, fun hq => by obtain ⟨h1, h2, h3, h4, h5⟩ := hq; have h6 := hilb h1; omega⟩) hP hD hS (lv_sub hl [0, 1] rfl)
        · have c_40 : ¬ (16 < ta / 2) := fun h => c_40 ((nlt 16 (ta / 2) (Nat.le_of_ble_eq_true rfl) (by omega)).mpr h)
          refine lv_iconst (v := 1) hx hb dX12_hear_35 ic_1 ?_
          refine lv_goto (tgt := 40) hx hb dX12_hear_36 (by decide) ?_
          exact jn_1 1 _ _ _ (by omega) (Or.inr ⟨rfl, by omega, by omega, by omega, by omega⟩) hP hD hS (lv_sub hl [0, 1] rfl)
theorem dg_X12_putsAside_0_0 : bqL cX12_putsAside 0 [(0, [42]), (1, [4]), (2, [181, 1, 135]), (5, [3]), (6, [60]), (7, [27]), (8, [16, 29]), (10, [162, 0, 21]), (31, [177]), (13, [42]), (14, [180, 0, 66]), (17, [27]), (18, [42]), (19, [180, 0, 63]), (22, [27]), (23, [46]), (24, [79]), (25, [132, 1, 1]), (28, [167, 255, 235])] = true := by decide +kernel
theorem dX12_putsAside_0 : decode cX12_putsAside 0 = .ok (.aload_n 0, 1) := q_aload_n0 (bat_get dg_X12_putsAside_0_0 0 rfl rfl)
theorem dX12_putsAside_1 : decode cX12_putsAside 1 = .ok (.iconst 1, 1) := q_iconst1 (bat_get dg_X12_putsAside_0_0 1 rfl rfl)
theorem dX12_putsAside_2 : decode cX12_putsAside 2 = .ok (.putfield 391, 3) := q_putfield (bat_get dg_X12_putsAside_0_0 2 rfl rfl) rfl
theorem dX12_putsAside_5 : decode cX12_putsAside 5 = .ok (.iconst 0, 1) := q_iconst0 (bat_get dg_X12_putsAside_0_0 3 rfl rfl)
theorem dX12_putsAside_6 : decode cX12_putsAside 6 = .ok (.istore_n 1, 1) := q_istore_n1 (bat_get dg_X12_putsAside_0_0 4 rfl rfl)
theorem dX12_putsAside_7 : decode cX12_putsAside 7 = .ok (.iload_n 1, 1) := q_iload_n1 (bat_get dg_X12_putsAside_0_0 5 rfl rfl)
theorem dX12_putsAside_8 : decode cX12_putsAside 8 = .ok (.bipush 29, 2) := q_bipush (bat_get dg_X12_putsAside_0_0 6 rfl rfl) rfl
theorem dX12_putsAside_10 : decode cX12_putsAside 10 = .ok (.if_icmp .ge 21, 3) := q_if_icmp_ge (bat_get dg_X12_putsAside_0_0 7 rfl rfl) rfl
theorem dX12_putsAside_31 : decode cX12_putsAside 31 = .ok (.return_, 1) := q_return_ (bat_get dg_X12_putsAside_0_0 8 rfl rfl)
theorem dX12_putsAside_13 : decode cX12_putsAside 13 = .ok (.aload_n 0, 1) := q_aload_n0 (bat_get dg_X12_putsAside_0_0 9 rfl rfl)
theorem dX12_putsAside_14 : decode cX12_putsAside 14 = .ok (.getfield 66, 3) := q_getfield (bat_get dg_X12_putsAside_0_0 10 rfl rfl) rfl
theorem dX12_putsAside_17 : decode cX12_putsAside 17 = .ok (.iload_n 1, 1) := q_iload_n1 (bat_get dg_X12_putsAside_0_0 11 rfl rfl)
theorem dX12_putsAside_18 : decode cX12_putsAside 18 = .ok (.aload_n 0, 1) := q_aload_n0 (bat_get dg_X12_putsAside_0_0 12 rfl rfl)
theorem dX12_putsAside_19 : decode cX12_putsAside 19 = .ok (.getfield 63, 3) := q_getfield (bat_get dg_X12_putsAside_0_0 13 rfl rfl) rfl
theorem dX12_putsAside_22 : decode cX12_putsAside 22 = .ok (.iload_n 1, 1) := q_iload_n1 (bat_get dg_X12_putsAside_0_0 14 rfl rfl)
theorem dX12_putsAside_23 : decode cX12_putsAside 23 = .ok (.iaload, 1) := q_iaload (bat_get dg_X12_putsAside_0_0 15 rfl rfl)
theorem dX12_putsAside_24 : decode cX12_putsAside 24 = .ok (.iastore, 1) := q_iastore (bat_get dg_X12_putsAside_0_0 16 rfl rfl)
theorem dX12_putsAside_25 : decode cX12_putsAside 25 = .ok (.iinc 1 1, 3) := q_iinc (bat_get dg_X12_putsAside_0_0 17 rfl rfl) rfl
theorem dX12_putsAside_28 : decode cX12_putsAside 28 = .ok (.goto (-21), 3) := q_goto (bat_get dg_X12_putsAside_0_0 18 rfl rfl) rfl
theorem w_5_187 : (Cond.fieldLink RX12 66 "SameKeeperModel" "aside" "[I") ∈ wsL_law := sk_mem (ck_5 _ (List.mem_of_getElem? (i := 187) rfl)) rfl
theorem w_8_12 : (Cond.code yX12_putsAside cX12_putsAside 2 none) ∈ wsL_law := sk_mem (ck_8 _ (List.mem_of_getElem? (i := 12) rfl)) rfl
set_option maxHeartbeats 4000000 in
set_option maxRecDepth 100000 in
theorem c_nm_putsAside (l : Launch) (D : va_G) (cI cJ cC cZ cS : ClassId) (mm : Nat) (g : Nat → Nat) (ta : Nat) (pa : Nat) (pe : Nat) (pd : Int32) (pb : Nat) (pp : Int32) (pf : Int32) (pg : Int32) (pn : Int32) (rt : Int32) (rn : Int32) (cd : Nat) (sn : Int32) (il : Nat) (tk : Int32) (am : Int32) (at_ : Int32) (aa : Int32) (wt : Int32) (wy : Int64) (rm : Nat) (ud : Nat) (nu : Nat) (sd : Int64) (qn : Nat) (qw : Nat) (qo : Int32) (qb : Nat) (qp : Nat) (qa : Int64) (qi : Nat) (oc : Nat) (nw : Nat → Int32) (az : Nat → Int32) (wn : Nat) (mN : Nat) (Ba : Nat → Nat) (We : Nat → Nat) (U : Nat → Bool) (ke : Nat) (lg : KLg) (hnw : nwX wn mN Ba We U ke lg nw) : skM l yX12_putsAside cX12_putsAside 2 none 0 0 0 0 D (skT cI cJ cC cZ cS) [.ref mm] [ro_ mm 12 (mo g (nI ta) (nI pa) (nI pe) pd (nI pb) pp pf pg pn rt rn (nI cd) sn (nI il) tk am at_ aa 0 0 (-1) wt wy 0 (nI rm) (nI ud) (nI nu) sd (nI qn) (nI qw) qo (nI qb) (nI qp) qa (nI qi) (nI oc)), ra_I (g 31) cI 120 nw, ra_I (g 32) cI 29 az] (skV D (skT cI cJ cC cZ cS) (fun (u : va_W) => ∃ (az2 : Nat → Int32), asX wn mN Ba We U az2 ∧ u = [ro_ mm 12 (mo g (nI ta) (nI pa) (nI pe) pd (nI pb) pp pf pg pn rt rn (nI cd) sn (nI il) tk am at_ aa 0 0 (-1) wt wy 1 (nI rm) (nI ud) (nI nu) sd (nI qn) (nI qw) qo (nI qb) (nI qp) qa (nI qi) (nI oc)), ra_I (g 31) cI 120 nw, ra_I (g 32) cI 29 az2])) := by
  refine skM_of pf_X12_putsAside (Nat.le_of_ble_eq_true rfl) ?_
  intro p e s m below meth c A ls E hP hD hl
  refine skE_el E (fun hx hb hr hml hlocks hin hown hts hK hA => ?_)
  have hown : s.vm.findClass RX12 = some m.cls := hown
  have hS : va_S A s.heap s.heap [] := va_S.rf
  have hl : lv_has ls 2 [(0, .ref mm)] := hl
  refine lv_aload_n hx hb dX12_putsAside_0 rfl (lv_at hl 0 rfl) ?_
  refine lv_iconst (v := 1) hx hb dX12_putsAside_1 ic_1 ?_
  refine sk_put (ws' := [ro_ mm 12 (mo g (nI ta) (nI pa) (nI pe) pd (nI pb) pp pf pg pn rt rn (nI cd) sn (nI il) tk am at_ aa 0 0 (-1) wt wy 1 (nI rm) (nI ud) (nI nu) sd (nI qn) (nI qw) qo (nI qb) (nI qp) qa (nI qi) (nI oc)), ra_I (g 31) cI 120 nw, ra_I (g 32) cI 29 az]) (C := RX12) (T := TX12) (N := 92) (v := .int 1) hx hb hts inlX12 tyX12 tyX12_ok nmX12 hown hK hP hD hS 0 rfl rfl 47 (Nat.le_of_ble_eq_true rfl) w_5_202 rfl rfl rfl (Nat.le_of_ble_eq_true rfl) rfl dX12_putsAside_2 (fun H locs hP hD hS => ?_)
  refine lv_iconst (v := 0) hx hb dX12_putsAside_5 ic_0 ?_
  refine lv_istore_n (lv' := [(1, .int 0), (0, .ref mm)]) hx hb dX12_putsAside_6 rfl hl (by decide) rfl (fun ls hl => ?_)
  have lp_1 : ∀ (n_2 : Nat) (i : Nat) (zz : Nat → Int32) (H : Heap) (locs : List Loc) (ls : Array Slot), 29 - i < n_2 → (i ≤ 29) → (kc0 i nw zz) → va_P D vwCl [ro_ mm 12 (mo g (nI ta) (nI pa) (nI pe) pd (nI pb) pp pf pg pn rt rn (nI cd) sn (nI il) tk am at_ aa 0 0 (-1) wt wy 1 (nI rm) (nI ud) (nI nu) sd (nI qn) (nI qw) qo (nI qb) (nI qp) qa (nI qi) (nI oc)), ra_I (g 31) cI 120 nw, ra_I (g 32) cI 29 zz] H → va_D A [ro_ mm 12 (mo g (nI ta) (nI pa) (nI pe) pd (nI pb) pp pf pg pn rt rn (nI cd) sn (nI il) tk am at_ aa 0 0 (-1) wt wy 1 (nI rm) (nI ud) (nI nu) sd (nI qn) (nI qw) qo (nI qb) (nI qp) qa (nI qi) (nI oc)), ra_I (g 31) cI 120 nw, ra_I (g 32) cI 29 zz] → va_S A s.heap H locs → lv_has ls 2 [(1, .int (nI i)), (0, .ref mm)] → W p l e { frames := 0, cells := 0, slots := 0, locals := 0 } s m ([.ref mm] : List Value).toArray below meth c H locs 0 0 (MQ below (skV D (skT cI cJ cC cZ cS) (fun (u : va_W) => ∃ (az2 : Nat → Int32), asX wn mN Ba We U az2 ∧ u = [ro_ mm 12 (mo g (nI ta) (nI pa) (nI pe) pd (nI pb) pp pf pg pn rt rn (nI cd) sn (nI il) tk am at_ aa 0 0 (-1) wt wy 1 (nI rm) (nI ud) (nI nu) sd (nI qn) (nI qw) qo (nI qb) (nI qp) qa (nI qi) (nI oc)), ra_I (g 31) cI 120 nw, ra_I (g 32) cI 29 az2]) A) ([.ref mm] : List Value).toArray s 0 0 A) (F0 m 7 ls []) := by
    intro n_2
    induction n_2 with
    | zero => intro i zz H locs ls hm; exact absurd hm (Nat.not_lt_zero _)
    | succ n_2 ih_lp_1 =>
      intro i zz H locs ls hm hi hzz hP hD hS hl
      refine lv_iload_n hx hb dX12_putsAside_7 rfl (lv_at hl 0 rfl) ?_
      refine lv_bipush (v := 29) hx hb dX12_putsAside_8 (by decide) ?_
      refine lv_icmp_ge (tgt := 31) hx hb dX12_putsAside_10 (by decide) (fun c_3 => ?_) (fun c_3 => ?_)
      · have c_3 : 29 ≤ i := (nle 29 i (Nat.le_of_ble_eq_true rfl) (by omega)).mp c_3
        exact sk_vret hx hb hr hlocks hK hP hD hS (⟨zz, (asX_of hnw (show kc0 29 nw zz by rw [show 29 = i by omega]; exact hzz)), rfl⟩) (Nat.le_of_ble_eq_true rfl) (Nat.le_of_ble_eq_true rfl) dX12_putsAside_31
      · have c_3 : ¬ (29 ≤ i) := fun h => c_3 ((nle 29 i (Nat.le_of_ble_eq_true rfl) (by omega)).mpr h)
        refine lv_aload_n hx hb dX12_putsAside_13 rfl (lv_at hl 1 rfl) ?_
        refine sk_get (v := .ref (g 32)) (C := RX12) (T := TX12) (N := 92) hx hb hts inlX12 hown hK hP 0 rfl rfl 32 (Nat.le_of_ble_eq_true rfl) w_5_187 rfl dX12_putsAside_14 ?_
        refine lv_iload_n hx hb dX12_putsAside_17 rfl (lv_at hl 0 rfl) ?_
        refine lv_aload_n hx hb dX12_putsAside_18 rfl (lv_at hl 1 rfl) ?_
        refine sk_get (v := .ref (g 31)) (C := RX12) (T := TX12) (N := 92) hx hb hts inlX12 hown hK hP 0 rfl rfl 31 (Nat.le_of_ble_eq_true rfl) w_5_186 rfl dX12_putsAside_19 ?_
        refine lv_iload_n hx hb dX12_putsAside_22 rfl (lv_at hl 0 rfl) ?_
        refine va_iald hx hb hK.1 hP 1 0 rfl rfl (vin i 120 (by omega) (Nat.le_of_ble_eq_true rfl)) dX12_putsAside_23 ?_
        refine sk_top (nw i) (by rw [nI_clamp (by omega)]) ?_
        refine sk_iastE (k := i) (x := (nw i)) (ws' := fun f_4 => [ro_ mm 12 (mo g (nI ta) (nI pa) (nI pe) pd (nI pb) pp pf pg pn rt rn (nI cd) sn (nI il) tk am at_ aa 0 0 (-1) wt wy 1 (nI rm) (nI ud) (nI nu) sd (nI qn) (nI qw) qo (nI qb) (nI qp) qa (nI qi) (nI oc)), ra_I (g 31) cI 120 nw, ra_I (g 32) cI 29 f_4]) hx hb hK hP hD hS 2 0 rfl rfl (by omega) (by omega) (fun _ => rfl) dX12_putsAside_24 (fun f_4 H locs ef_5 hP hD hS => ?_)
        refine lv_iinc (v := nI (i + 1)) (lv' := [(1, .int (nI (i + 1))), (0, .ref mm)]) hx hb dX12_putsAside_25 hl (k := 0) rfl (ninc i 1 (by decide)) (by decide) rfl (fun ls hl => ?_)
        refine lv_goto (tgt := 7) hx hb dX12_putsAside_28 (by decide) ?_
        exact ih_lp_1 (i + 1) f_4 _ _ _ (by omega) (by omega) (kc0_s hzz ef_5 rfl) hP hD hS (lv_sub hl [0, 1] rfl)
  exact lp_1 (29 - 0 + 1) 0 az _ _ _ (Nat.lt_succ_self _) (by omega) (kc0_0 _ _) hP hD hS (lv_sub hl [0, 1] rfl)
theorem dg_X12_takesBack_0_0 : bqL cX12_takesBack 0 [(0, [3]), (1, [60]), (2, [27]), (3, [16, 29]), (5, [162, 0, 21]), (26, [42]), (27, [3]), (28, [181, 1, 135]), (31, [177]), (8, [42]), (9, [180, 0, 63]), (12, [27]), (13, [42]), (14, [180, 0, 66]), (17, [27]), (18, [46]), (19, [79]), (20, [132, 1, 1]), (23, [167, 255, 235])] = true := by decide +kernel
theorem dX12_takesBack_0 : decode cX12_takesBack 0 = .ok (.iconst 0, 1) := q_iconst0 (bat_get dg_X12_takesBack_0_0 0 rfl rfl)
theorem dX12_takesBack_1 : decode cX12_takesBack 1 = .ok (.istore_n 1, 1) := q_istore_n1 (bat_get dg_X12_takesBack_0_0 1 rfl rfl)
theorem dX12_takesBack_2 : decode cX12_takesBack 2 = .ok (.iload_n 1, 1) := q_iload_n1 (bat_get dg_X12_takesBack_0_0 2 rfl rfl)
theorem dX12_takesBack_3 : decode cX12_takesBack 3 = .ok (.bipush 29, 2) := q_bipush (bat_get dg_X12_takesBack_0_0 3 rfl rfl) rfl
theorem dX12_takesBack_5 : decode cX12_takesBack 5 = .ok (.if_icmp .ge 21, 3) := q_if_icmp_ge (bat_get dg_X12_takesBack_0_0 4 rfl rfl) rfl
theorem dX12_takesBack_26 : decode cX12_takesBack 26 = .ok (.aload_n 0, 1) := q_aload_n0 (bat_get dg_X12_takesBack_0_0 5 rfl rfl)
theorem dX12_takesBack_27 : decode cX12_takesBack 27 = .ok (.iconst 0, 1) := q_iconst0 (bat_get dg_X12_takesBack_0_0 6 rfl rfl)
theorem dX12_takesBack_28 : decode cX12_takesBack 28 = .ok (.putfield 391, 3) := q_putfield (bat_get dg_X12_takesBack_0_0 7 rfl rfl) rfl
theorem dX12_takesBack_31 : decode cX12_takesBack 31 = .ok (.return_, 1) := q_return_ (bat_get dg_X12_takesBack_0_0 8 rfl rfl)
theorem dX12_takesBack_8 : decode cX12_takesBack 8 = .ok (.aload_n 0, 1) := q_aload_n0 (bat_get dg_X12_takesBack_0_0 9 rfl rfl)
theorem dX12_takesBack_9 : decode cX12_takesBack 9 = .ok (.getfield 63, 3) := q_getfield (bat_get dg_X12_takesBack_0_0 10 rfl rfl) rfl
theorem dX12_takesBack_12 : decode cX12_takesBack 12 = .ok (.iload_n 1, 1) := q_iload_n1 (bat_get dg_X12_takesBack_0_0 11 rfl rfl)
theorem dX12_takesBack_13 : decode cX12_takesBack 13 = .ok (.aload_n 0, 1) := q_aload_n0 (bat_get dg_X12_takesBack_0_0 12 rfl rfl)
theorem dX12_takesBack_14 : decode cX12_takesBack 14 = .ok (.getfield 66, 3) := q_getfield (bat_get dg_X12_takesBack_0_0 13 rfl rfl) rfl
theorem dX12_takesBack_17 : decode cX12_takesBack 17 = .ok (.iload_n 1, 1) := q_iload_n1 (bat_get dg_X12_takesBack_0_0 14 rfl rfl)
theorem dX12_takesBack_18 : decode cX12_takesBack 18 = .ok (.iaload, 1) := q_iaload (bat_get dg_X12_takesBack_0_0 15 rfl rfl)
theorem dX12_takesBack_19 : decode cX12_takesBack 19 = .ok (.iastore, 1) := q_iastore (bat_get dg_X12_takesBack_0_0 16 rfl rfl)
theorem dX12_takesBack_20 : decode cX12_takesBack 20 = .ok (.iinc 1 1, 3) := q_iinc (bat_get dg_X12_takesBack_0_0 17 rfl rfl) rfl
theorem dX12_takesBack_23 : decode cX12_takesBack 23 = .ok (.goto (-21), 3) := q_goto (bat_get dg_X12_takesBack_0_0 18 rfl rfl) rfl
theorem w_8_28 : (Cond.code yX12_takesBack cX12_takesBack 2 none) ∈ wsL_law := sk_mem (ck_8 _ (List.mem_of_getElem? (i := 28) rfl)) rfl
set_option maxHeartbeats 4000000 in
set_option maxRecDepth 100000 in
theorem c_nm_takesBack (l : Launch) (D : va_G) (cI cJ cC cZ cS : ClassId) (mm : Nat) (g : Nat → Nat) (ta : Nat) (pa : Nat) (pe : Nat) (pd : Int32) (pb : Nat) (pp : Int32) (pf : Int32) (pg : Int32) (pn : Int32) (rt : Int32) (rn : Int32) (cd : Nat) (sn : Int32) (il : Nat) (tk : Int32) (am : Int32) (at_ : Int32) (aa : Int32) (wt : Int32) (wy : Int64) (rm : Nat) (ud : Nat) (nu : Nat) (sd : Int64) (qn : Nat) (qw : Nat) (qo : Int32) (qb : Nat) (qp : Nat) (qa : Int64) (qi : Nat) (oc : Nat) (nw : Nat → Int32) (az : Nat → Int32) (wn : Nat) (mN : Nat) (Ba : Nat → Nat) (We : Nat → Nat) (U : Nat → Bool) (ke : Nat) (lg : KLg) (wv : Nat) (mv : Nat) (Bv : Nat → Nat) (Wv : Nat → Nat) (Uv : Nat → Bool) (haz : asX wn mN Ba We U az) (hnw : nwX wv mv Bv Wv Uv ke lg nw) : skM l yX12_takesBack cX12_takesBack 2 none 0 0 0 0 D (skT cI cJ cC cZ cS) [.ref mm] [ro_ mm 12 (mo g (nI ta) (nI pa) (nI pe) pd (nI pb) pp pf pg pn rt rn (nI cd) sn (nI il) tk am at_ aa 0 0 (-1) wt wy 1 (nI rm) (nI ud) (nI nu) sd (nI qn) (nI qw) qo (nI qb) (nI qp) qa (nI qi) (nI oc)), ra_I (g 31) cI 120 nw, ra_I (g 32) cI 29 az] (skV D (skT cI cJ cC cZ cS) (fun (u : va_W) => ∃ (nw2 : Nat → Int32), nwX wn mN Ba We U ke lg nw2 ∧ u = [ro_ mm 12 (mo g (nI ta) (nI pa) (nI pe) pd (nI pb) pp pf pg pn rt rn (nI cd) sn (nI il) tk am at_ aa 0 0 (-1) wt wy 0 (nI rm) (nI ud) (nI nu) sd (nI qn) (nI qw) qo (nI qb) (nI qp) qa (nI qi) (nI oc)), ra_I (g 31) cI 120 nw2, ra_I (g 32) cI 29 az])) := by
  refine skM_of pf_X12_takesBack (Nat.le_of_ble_eq_true rfl) ?_
  intro p e s m below meth c A ls E hP hD hl
  refine skE_el E (fun hx hb hr hml hlocks hin hown hts hK hA => ?_)
  have hown : s.vm.findClass RX12 = some m.cls := hown
  have hS : va_S A s.heap s.heap [] := va_S.rf
  have hl : lv_has ls 2 [(0, .ref mm)] := hl
  refine lv_iconst (v := 0) hx hb dX12_takesBack_0 ic_0 ?_
  refine lv_istore_n (lv' := [(1, .int 0), (0, .ref mm)]) hx hb dX12_takesBack_1 rfl hl (by decide) rfl (fun ls hl => ?_)
  have lp_1 : ∀ (n_2 : Nat) (i : Nat) (zn : Nat → Int32) (H : Heap) (locs : List Loc) (ls : Array Slot), 29 - i < n_2 → (i ≤ 29) → (tbC i az nw zn) → va_P D vwCl [ro_ mm 12 (mo g (nI ta) (nI pa) (nI pe) pd (nI pb) pp pf pg pn rt rn (nI cd) sn (nI il) tk am at_ aa 0 0 (-1) wt wy 1 (nI rm) (nI ud) (nI nu) sd (nI qn) (nI qw) qo (nI qb) (nI qp) qa (nI qi) (nI oc)), ra_I (g 31) cI 120 zn, ra_I (g 32) cI 29 az] H → va_D A [ro_ mm 12 (mo g (nI ta) (nI pa) (nI pe) pd (nI pb) pp pf pg pn rt rn (nI cd) sn (nI il) tk am at_ aa 0 0 (-1) wt wy 1 (nI rm) (nI ud) (nI nu) sd (nI qn) (nI qw) qo (nI qb) (nI qp) qa (nI qi) (nI oc)), ra_I (g 31) cI 120 zn, ra_I (g 32) cI 29 az] → va_S A s.heap H locs → lv_has ls 2 [(1, .int (nI i)), (0, .ref mm)] → W p l e { frames := 0, cells := 0, slots := 0, locals := 0 } s m ([.ref mm] : List Value).toArray below meth c H locs 0 0 (MQ below (skV D (skT cI cJ cC cZ cS) (fun (u : va_W) => ∃ (nw2 : Nat → Int32), nwX wn mN Ba We U ke lg nw2 ∧ u = [ro_ mm 12 (mo g (nI ta) (nI pa) (nI pe) pd (nI pb) pp pf pg pn rt rn (nI cd) sn (nI il) tk am at_ aa 0 0 (-1) wt wy 0 (nI rm) (nI ud) (nI nu) sd (nI qn) (nI qw) qo (nI qb) (nI qp) qa (nI qi) (nI oc)), ra_I (g 31) cI 120 nw2, ra_I (g 32) cI 29 az]) A) ([.ref mm] : List Value).toArray s 0 0 A) (F0 m 2 ls []) := by
    intro n_2
    induction n_2 with
    | zero => intro i zn H locs ls hm; exact absurd hm (Nat.not_lt_zero _)
    | succ n_2 ih_lp_1 =>
      intro i zn H locs ls hm hi htc hP hD hS hl
      refine lv_iload_n hx hb dX12_takesBack_2 rfl (lv_at hl 0 rfl) ?_
      refine lv_bipush (v := 29) hx hb dX12_takesBack_3 (by decide) ?_
      refine lv_icmp_ge (tgt := 26) hx hb dX12_takesBack_5 (by decide) (fun c_3 => ?_) (fun c_3 => ?_)
      · have c_3 : 29 ≤ i := (nle 29 i (Nat.le_of_ble_eq_true rfl) (by omega)).mp c_3
        have hnN : nwX wn mN Ba We U ke lg zn := tbX hnw haz (show tbC 29 az nw zn by rw [show 29 = i by omega]; exact htc)
        refine lv_aload_n hx hb dX12_takesBack_26 rfl (lv_at hl 1 rfl) ?_
        refine lv_iconst (v := 0) hx hb dX12_takesBack_27 ic_0 ?_
        refine sk_put (ws' := [ro_ mm 12 (mo g (nI ta) (nI pa) (nI pe) pd (nI pb) pp pf pg pn rt rn (nI cd) sn (nI il) tk am at_ aa 0 0 (-1) wt wy 0 (nI rm) (nI ud) (nI nu) sd (nI qn) (nI qw) qo (nI qb) (nI qp) qa (nI qi) (nI oc)), ra_I (g 31) cI 120 zn, ra_I (g 32) cI 29 az]) (C := RX12) (T := TX12) (N := 92) (v := .int 0) hx hb hts inlX12 tyX12 tyX12_ok nmX12 hown hK hP hD hS 0 rfl rfl 47 (Nat.le_of_ble_eq_true rfl) w_5_202 rfl rfl rfl (Nat.le_of_ble_eq_true rfl) rfl dX12_takesBack_28 (fun H locs hP hD hS => ?_)
        exact sk_vret hx hb hr hlocks hK hP hD hS (⟨zn, hnN, rfl⟩) (Nat.le_of_ble_eq_true rfl) (Nat.le_of_ble_eq_true rfl) dX12_takesBack_31
      · have c_3 : ¬ (29 ≤ i) := fun h => c_3 ((nle 29 i (Nat.le_of_ble_eq_true rfl) (by omega)).mpr h)
        refine lv_aload_n hx hb dX12_takesBack_8 rfl (lv_at hl 1 rfl) ?_
        refine sk_get (v := .ref (g 31)) (C := RX12) (T := TX12) (N := 92) hx hb hts inlX12 hown hK hP 0 rfl rfl 31 (Nat.le_of_ble_eq_true rfl) w_5_186 rfl dX12_takesBack_9 ?_
        refine lv_iload_n hx hb dX12_takesBack_12 rfl (lv_at hl 0 rfl) ?_
        refine lv_aload_n hx hb dX12_takesBack_13 rfl (lv_at hl 1 rfl) ?_
        refine sk_get (v := .ref (g 32)) (C := RX12) (T := TX12) (N := 92) hx hb hts inlX12 hown hK hP 0 rfl rfl 32 (Nat.le_of_ble_eq_true rfl) w_5_187 rfl dX12_takesBack_14 ?_
        refine lv_iload_n hx hb dX12_takesBack_17 rfl (lv_at hl 0 rfl) ?_
        refine va_iald hx hb hK.1 hP 2 0 rfl rfl (vin i 29 (by omega) (Nat.le_of_ble_eq_true rfl)) dX12_takesBack_18 ?_
        refine sk_top (az i) (by rw [nI_clamp (by omega)]) ?_
        refine sk_iastE (k := i) (x := (az i)) (ws' := fun f_4 => [ro_ mm 12 (mo g (nI ta) (nI pa) (nI pe) pd (nI pb) pp pf pg pn rt rn (nI cd) sn (nI il) tk am at_ aa 0 0 (-1) wt wy 1 (nI rm) (nI ud) (nI nu) sd (nI qn) (nI qw) qo (nI qb) (nI qp) qa (nI qi) (nI oc)), ra_I (g 31) cI 120 f_4, ra_I (g 32) cI 29 az]) hx hb hK hP hD hS 1 0 rfl rfl (by omega) (by omega) (fun _ => rfl) dX12_takesBack_19 (fun f_4 H locs ef_5 hP hD hS => ?_)
        refine lv_iinc (v := nI (i + 1)) (lv' := [(1, .int (nI (i + 1))), (0, .ref mm)]) hx hb dX12_takesBack_20 hl (k := 0) rfl (ninc i 1 (by decide)) (by decide) rfl (fun ls hl => ?_)
        refine lv_goto (tgt := 2) hx hb dX12_takesBack_23 (by decide) ?_
        exact ih_lp_1 (i + 1) f_4 _ _ _ (by omega) (by omega) (tbC_s htc ef_5 rfl (by omega)) hP hD hS (lv_sub hl [0, 1] rfl)
  exact lp_1 (29 - 0 + 1) 0 nw _ _ _ (Nat.lt_succ_self _) (by omega) (tbC_0 _ _) hP hD hS (lv_sub hl [0, 1] rfl)
theorem dg_X12_doGo_0_0 : bqL cX12_doGo 0 [(0, [42]), (1, [182, 1, 144]), (4, [42]), (5, [180, 1, 126]), (8, [9]), (9, [148]), (10, [154, 0, 5]), (15, [42]), (16, [9]), (17, [182, 1, 147]), (20, [4]), (21, [172]), (13, [3]), (14, [172])] = true := by decide +kernel
theorem dX12_doGo_0 : decode cX12_doGo 0 = .ok (.aload_n 0, 1) := q_aload_n0 (bat_get dg_X12_doGo_0_0 0 rfl rfl)
theorem dX12_doGo_1 : decode cX12_doGo 1 = .ok (.invokevirtual 400, 3) := q_invokevirtual (bat_get dg_X12_doGo_0_0 1 rfl rfl) rfl
theorem dX12_doGo_4 : decode cX12_doGo 4 = .ok (.aload_n 0, 1) := q_aload_n0 (bat_get dg_X12_doGo_0_0 2 rfl rfl)
theorem dX12_doGo_5 : decode cX12_doGo 5 = .ok (.getfield 382, 3) := q_getfield (bat_get dg_X12_doGo_0_0 3 rfl rfl) rfl
theorem dX12_doGo_8 : decode cX12_doGo 8 = .ok (.lconst 0, 1) := q_lconst0 (bat_get dg_X12_doGo_0_0 4 rfl rfl)
theorem dX12_doGo_9 : decode cX12_doGo 9 = .ok (.lcmp, 1) := q_lcmp (bat_get dg_X12_doGo_0_0 5 rfl rfl)
theorem dX12_doGo_10 : decode cX12_doGo 10 = .ok (.ifCond .ne 5, 3) := q_ifCond_ne (bat_get dg_X12_doGo_0_0 6 rfl rfl) rfl
theorem dX12_doGo_15 : decode cX12_doGo 15 = .ok (.aload_n 0, 1) := q_aload_n0 (bat_get dg_X12_doGo_0_0 7 rfl rfl)
theorem dX12_doGo_16 : decode cX12_doGo 16 = .ok (.lconst 0, 1) := q_lconst0 (bat_get dg_X12_doGo_0_0 8 rfl rfl)
theorem dX12_doGo_17 : decode cX12_doGo 17 = .ok (.invokevirtual 403, 3) := q_invokevirtual (bat_get dg_X12_doGo_0_0 9 rfl rfl) rfl
theorem dX12_doGo_20 : decode cX12_doGo 20 = .ok (.iconst 1, 1) := q_iconst1 (bat_get dg_X12_doGo_0_0 10 rfl rfl)
theorem dX12_doGo_21 : decode cX12_doGo 21 = .ok (.ireturn, 1) := q_ireturn (bat_get dg_X12_doGo_0_0 11 rfl rfl)
theorem dX12_doGo_13 : decode cX12_doGo 13 = .ok (.iconst 0, 1) := q_iconst0 (bat_get dg_X12_doGo_0_0 12 rfl rfl)
theorem dX12_doGo_14 : decode cX12_doGo 14 = .ok (.ireturn, 1) := q_ireturn (bat_get dg_X12_doGo_0_0 13 rfl rfl)
theorem w_8_16 : (Cond.code yX12_doGo cX12_doGo 1 (some .boolean)) ∈ wsL_law := sk_mem (ck_8 _ (List.mem_of_getElem? (i := 16) rfl)) rfl
set_option maxHeartbeats 4000000 in
set_option maxRecDepth 100000 in
theorem c_nm_doGo (l : Launch) (D : va_G) (cI cJ cC cZ cS : ClassId) (mm : Nat) (g : Nat → Nat) (ta : Nat) (pa : Nat) (pe : Nat) (pd : Int32) (pb : Nat) (pp : Int32) (pf : Int32) (pg : Int32) (pn : Int32) (rt : Int32) (rn : Int32) (cd : Nat) (sn : Int32) (il : Nat) (tk : Int32) (am : Int32) (at_ : Int32) (aa : Int32) (wt : Int32) (wy : Int64) (rm : Nat) (ud : Nat) (nu : Nat) (sd : Int64) (qn : Nat) (qw : Nat) (qo : Int32) (qb : Nat) (qp : Nat) (qa : Int64) (qi : Nat) (oc : Nat) (u0 : Int32) (u1 : Int32) (u2 : Int32) (u3 : Int32) (u4 : Int32) (u5 : Int32) (v0 : Int32) (v1 : Int32) (v2 : Int32) (v3 : Int32) (v4 : Int32) (v5 : Int32) (cs : Nat → Nat) (nw : Nat → Int32) (pt : Nat → Nat) (ql : Nat → Int64) (l0 : Nat) (l1 : Nat) (dm : Nat) (l3 : Nat) (ws_ : Nat → Int32) (yw : Nat → Int32) (yo : Nat → Int32) (be : Nat → Int64) (bf : Nat → Int64) (wn : Nat) (mN : Nat) (Ba : Nat → Nat) (We : Nat → Nat) (U : Nat → Bool) (ke : Nat) (lg : KLg) (L : LkS) (hdm : dm ≤ 9) (hdm1 : 1 ≤ dm) (hLk : kcLk L) (hkl : (lK L).length ≤ 1600) (hmw0 : mwO L 0 u3 v3 cs) (hmw1 : mwO L 1 u4 v4 cs) (hB9 : ∀ j, Ba j ≤ 9) (hW9 : ∀ j, We j ≤ 9) (hwk : wn ≤ 999) (hcs : ∀ j, cs j ≤ 20000) (hnw : nwX wn mN Ba We U ke lg nw) (hpt : ∀ j, pt j ≤ 9) : skM l yX12_doGo cX12_doGo 1 (some .boolean) 6 142 0 0 D (skT cI cJ cC cZ cS) [.ref mm] [ro_ mm 12 (mo g (nI ta) (nI pa) (nI pe) pd (nI pb) pp pf pg pn rt rn (nI cd) sn (nI il) tk am at_ aa 0 0 (-1) wt wy 1 (nI rm) (nI ud) (nI nu) sd (nI qn) (nI qw) qo (nI qb) (nI qp) qa (nI qi) (nI oc)), ra_I (g 24) cI 6 (l6 u0 u1 u2 u3 u4 u5), ra_I (g 25) cI 6 (l6 v0 v1 v2 v3 v4 v5), ra_N (g 26) cI 3200 cs, ra_I (g 31) cI 120 nw, ra_N (g 46) cI 9 pt, ra_J (g 86) cJ 1700 ql, ra_I (g 20) cI 4 (l4 (nI l0) (nI l1) (nI dm) (nI l3)), ra_I (g 38) cI 90 ws_, ra_I (g 36) cZ 900 yw, ra_I (g 37) cZ 900 yo, ra_J (g 43) cJ 90 be, ra_J (g 44) cJ 90 bf] (skI D (skT cI cJ cC cZ cS) (fun (r : Int32) (u : va_W) => ∃ (wv2 : Nat), ∃ (mv2 : Nat), ∃ (b : Nat), ∃ (nw2 : Nat → Int32), ∃ (tk2 : Int32), ∃ (qp2 : Nat), ∃ (am2 : Int32), ∃ (at_2 : Int32), ∃ (aa2 : Int32), ∃ (wy2 : Int64), ∃ (pt2 : Nat → Nat), ∃ (ql2 : Nat → Int64), ∃ (ws_2 : Nat → Int32), ∃ (yw2 : Nat → Int32), ∃ (yo2 : Nat → Int32), ∃ (be2 : Nat → Int64), ∃ (bf2 : Nat → Int64), nwX wv2 mv2 Ba We U ke lg nw2 ∧ ((b = 0 ∧ kcC (kcFo L wn Ba We U 0) dm 0 mN = 0 ∧ wv2 = wn ∧ mv2 = mN) ∨ (b = 1 ∧ 0 < kcC (kcFo L wn Ba We U 0) dm 0 mN ∧ wv2 = wn + 1 ∧ mv2 = kLast L dm (wn, mN, Ba, We, U, ke) 0)) ∧ (∀ j, pt2 j ≤ 9) ∧ r = nI b ∧ u = [ro_ mm 12 (mo g (nI ta) (nI pa) (nI pe) pd (nI pb) pp pf pg pn rt rn (nI cd) sn (nI il) tk2 am2 at_2 aa2 0 0 (-1) wt wy2 1 (nI rm) (nI ud) (nI nu) sd (nI qn) (nI qw) qo (nI qb) (nI qp2) qa (nI qi) (nI oc)), ra_I (g 24) cI 6 (l6 u0 u1 u2 u3 u4 u5), ra_I (g 25) cI 6 (l6 v0 v1 v2 v3 v4 v5), ra_N (g 26) cI 3200 cs, ra_I (g 31) cI 120 nw2, ra_N (g 46) cI 9 pt2, ra_J (g 86) cJ 1700 ql2, ra_I (g 20) cI 4 (l4 (nI l0) (nI l1) (nI dm) (nI l3)), ra_I (g 38) cI 90 ws_2, ra_I (g 36) cZ 900 yw2, ra_I (g 37) cZ 900 yo2, ra_J (g 43) cJ 90 be2, ra_J (g 44) cJ 90 bf2])) := by
  refine skM_of pf_X12_doGo (Nat.le_of_ble_eq_true rfl) ?_
  intro p e s m below meth c A ls E hP hD hl
  refine skE_el E (fun hx hb hr hml hlocks hin hown hts hK hA => ?_)
  have hown : s.vm.findClass RX12 = some m.cls := hown
  have hS : va_S A s.heap s.heap [] := va_S.rf
  have hl : lv_has ls 1 [(0, .ref mm)] := hl
  refine lv_aload_n hx hb dX12_doGo_0 rfl (lv_at hl 0 rfl) ?_
  refine sk_Vv (q0 := 0) (n := 0) (rest := []) (wr := fmR om_13_1fff _) ⟨hx, hb, hml, hown, hts⟩ hl.1 (c_nm_laysAll l D cI cJ cC cZ cS mm g ta pa pe pd pb pp pf pg pn rt rn cd sn il tk am at_ aa wt wy 1 rm ud nu sd qn qw qo qb qp qa qi oc u0 u1 u2 u3 u4 u5 v0 v1 v2 v3 v4 v5 cs nw pt ql l0 l1 dm l3 ws_ yw yo be bf wn mN Ba We U ke lg L hdm hdm1 hLk hkl hmw0 hmw1 hB9 hW9 hwk hcs hnw hpt) w_7_189 w_7_191 w_0_82 w_1_14 w_7_192 hd_X12_laysAll_0 ⟨⟨(Nat.le_of_ble_eq_true rfl), (Nat.le_of_ble_eq_true rfl)⟩, (Nat.le_of_ble_eq_true rfl), (Nat.le_of_ble_eq_true rfl)⟩ hK hP hD hS hA (fmT om_13_1fff 0) (fmF om_13_1fff 0) (fm_C1 rfl rfl) (fm_R rfl rfl) (fm_nT om_13_1fff 0) (fm_nF om_13_1fff 0) (fm_di om_13_1fff 0) rfl rfl rfl rfl (Nat.le_of_ble_eq_true rfl) dX12_doGo_1 (fun u H locs hw hP hD hS => ?_)
  refine exE hw (fun tk2_1 hw1 => exE hw1 (fun qp2_2 hw2 => exE hw2 (fun am2_3 hw3 => exE hw3 (fun at_2_4 hw4 => exE hw4 (fun aa2_5 hw5 => exE hw5 (fun wy2_6 hw6 => exE hw6 (fun ql2_7 hw7 => exE hw7 (fun ws_2_8 hw8 => exE hw8 (fun yw2_9 hw9 => exE hw9 (fun yo2_10 hw10 => exE hw10 (fun be2_11 hw11 => exE hw11 (fun bf2_12 hw12 => anE hw12 (fun hbe_13 hw13 => anE hw13 (fun hcf_14 hw14 => anE hw14 (fun hwy_15 eu_16 => ?_)))))))))))))))
  clear hw hw1 hw2 hw3 hw4 hw5 hw6 hw7 hw8 hw9 hw10 hw11 hw12 hw13 hw14
  refine o_mgE (ws' := [ro_ mm 12 (mo g (nI ta) (nI pa) (nI pe) pd (nI pb) pp pf pg pn rt rn (nI cd) sn (nI il) tk2_1 am2_3 at_2_4 aa2_5 0 0 (-1) wt wy2_6 1 (nI rm) (nI ud) (nI nu) sd (nI qn) (nI qw) qo (nI qb) (nI qp2_2) qa (nI qi) (nI oc)), ra_I (g 24) cI 6 (l6 u0 u1 u2 u3 u4 u5), ra_I (g 25) cI 6 (l6 v0 v1 v2 v3 v4 v5), ra_N (g 26) cI 3200 cs, ra_I (g 31) cI 120 nw, ra_N (g 46) cI 9 pt, ra_J (g 86) cJ 1700 ql2_7, ra_I (g 20) cI 4 (l4 (nI l0) (nI l1) (nI dm) (nI l3)), ra_I (g 38) cI 90 ws_2_8, ra_I (g 36) cZ 900 yw2_9, ra_I (g 37) cZ 900 yo2_10, ra_J (g 43) cJ 90 be2_11, ra_J (g 44) cJ 90 bf2_12]) eu_16 hP hD rfl (fun hP hD => ?_)
  refine lv_aload_n hx hb dX12_doGo_4 rfl (lv_at hl 0 rfl) ?_
  refine sk_get (v := .long wy2_6) (C := RX12) (T := TX12) (N := 92) hx hb hts inlX12 hown hK hP 0 rfl rfl 45 (Nat.le_of_ble_eq_true rfl) w_5_200 rfl dX12_doGo_5 ?_
  refine lv_lconst (v := 0) hx hb dX12_doGo_8 (by decide) ?_
  refine W.lcmp hx hb dX12_doGo_9 ?_
  refine lv_if_ne (tgt := 15) hx hb dX12_doGo_10 (by decide) (fun c_17 => ?_) (fun c_17 => ?_)
  · have hnx : 0 < kcC (kcFo L wn Ba We U 0) dm 0 mN := Nat.pos_of_ne_zero (fun hq => c_17 (by rw [hwy_15, hq]; rfl))
    refine lv_aload_n hx hb dX12_doGo_15 rfl (lv_at hl 0 rfl) ?_
    refine lv_lconst (v := 0) hx hb dX12_doGo_16 (by decide) ?_
    refine sk_topl (nL 0) rfl ?_
    refine sk_Vv (q0 := 0) (n := 1) (rest := []) (wr := fmR om_13_11ae _) ⟨hx, hb, hml, hown, hts⟩ hl.1 (c_nm_goesBy1 l D cI cJ cC cZ cS mm g ta pa pe pd pb pp pf pg pn rt rn cd sn il tk2_1 am2_3 at_2_4 aa2_5 wt wy2_6 rm ud nu sd qn qw qo qb qp2_2 qa qi oc l0 l1 dm l3 nw yo2_10 yw2_9 be2_11 pt wn mN Ba We U ke lg L 0 hdm hdm1 hbe_13 hcf_14 hwy_15 hnx hnw hpt) w_8_17 w_8_19 w_0_93 w_1_14 w_8_20 hd_X12_goesBy_1 ⟨⟨(Nat.le_of_ble_eq_true rfl), (Nat.le_of_ble_eq_true rfl)⟩, (Nat.le_of_ble_eq_true rfl), (Nat.le_of_ble_eq_true rfl)⟩ hK hP hD hS hA [0, 7, 4, 10, 9, 11, 5] (fmF om_13_11ae 0) rfl (fm_R rfl rfl) (by decide +kernel) (fm_nF om_13_11ae 0) (by decide +kernel) rfl rfl rfl rfl (Nat.le_of_ble_eq_true rfl) dX12_doGo_17 (fun u H locs hw hP hD hS => ?_)
    refine exE hw (fun nw2_18 hw1 => exE hw1 (fun pt2_19 hw2 => anE hw2 (fun hnw2_20 hw3 => anE hw3 (fun hpt2_21 eu_22 => ?_))))
    clear hw hw1 hw2 hw3
    refine o_mgqE (ux := [ro_ mm 12 (mo g (nI ta) (nI pa) (nI pe) pd (nI pb) pp pf pg pn rt rn (nI cd) sn (nI il) tk2_1 am2_3 at_2_4 aa2_5 0 0 (-1) wt wy2_6 1 (nI rm) (nI ud) (nI nu) sd (nI qn) (nI qw) qo (nI qb) (nI qp2_2) qa (nI qi) (nI oc)), ra_I (g 31) cI 120 nw2_18, ra_N (g 46) cI 9 pt2_19, ra_I (g 20) cI 4 (l4 (nI l0) (nI l1) (nI dm) (nI l3)), ra_I (g 36) cZ 900 yw2_9, ra_I (g 37) cZ 900 yo2_10, ra_J (g 43) cJ 90 be2_11]) (ws' := [ro_ mm 12 (mo g (nI ta) (nI pa) (nI pe) pd (nI pb) pp pf pg pn rt rn (nI cd) sn (nI il) tk2_1 am2_3 at_2_4 aa2_5 0 0 (-1) wt wy2_6 1 (nI rm) (nI ud) (nI nu) sd (nI qn) (nI qw) qo (nI qb) (nI qp2_2) qa (nI qi) (nI oc)), ra_I (g 24) cI 6 (l6 u0 u1 u2 u3 u4 u5), ra_I (g 25) cI 6 (l6 v0 v1 v2 v3 v4 v5), ra_N (g 26) cI 3200 cs, ra_I (g 31) cI 120 nw2_18, ra_N (g 46) cI 9 pt2_19, ra_J (g 86) cJ 1700 ql2_7, ra_I (g 20) cI 4 (l4 (nI l0) (nI l1) (nI dm) (nI l3)), ra_I (g 38) cI 90 ws_2_8, ra_I (g 36) cZ 900 yw2_9, ra_I (g 37) cZ 900 yo2_10, ra_J (g 43) cJ 90 be2_11, ra_J (g 44) cJ 90 bf2_12]) eu_22 [0, 2, 6, 1, 4, 3, 5] (by decide +kernel) rfl hP hD rfl (fun hP hD => ?_)
    refine lv_iconst (v := 1) hx hb dX12_doGo_20 ic_1 ?_
    exact sk_iret hx hb hr rfl hlocks hK hP hD hS (⟨(wn + 1), (kLast L dm (wn, mN, Ba, We, U, ke) 0), 1, nw2_18, tk2_1, qp2_2, am2_3, at_2_4, aa2_5, wy2_6, pt2_19, ql2_7, ws_2_8, yw2_9, yo2_10, be2_11, bf2_12, hnw2_20, Or.inr ⟨rfl, hnx, rfl, rfl⟩, hpt2_21, rfl, rfl⟩) (Nat.le_of_ble_eq_true rfl) (Nat.le_of_ble_eq_true rfl) dX12_doGo_21
  · have hz0 : kcC (kcFo L wn Ba We U 0) dm 0 mN = 0 := kz_0 (by rw [← hwy_15]; exact c_17) (by have := kcC_9 (kcFo L wn Ba We U 0) (show dm ≤ 9 by omega) 0 mN; omega)
    refine lv_iconst (v := 0) hx hb dX12_doGo_13 ic_0 ?_
    exact sk_iret hx hb hr rfl hlocks hK hP hD hS (⟨wn, mN, 0, nw, tk2_1, qp2_2, am2_3, at_2_4, aa2_5, wy2_6, pt, ql2_7, ws_2_8, yw2_9, yo2_10, be2_11, bf2_12, hnw, Or.inl ⟨rfl, hz0, rfl, rfl⟩, hpt, rfl, rfl⟩) (Nat.le_of_ble_eq_true rfl) (Nat.le_of_ble_eq_true rfl) dX12_doGo_14
theorem dg_X12_later_0_0 : bqL cX12_later 0 [(0, [42]), (1, [27]), (2, [3]), (3, [16, 30]), (5, [182, 1, 170]), (8, [154, 0, 5]), (13, [42]), (14, [182, 1, 173]), (17, [4]), (18, [61]), (19, [3]), (20, [62]), (21, [29]), (22, [27]), (23, [162, 0, 18]), (41, [42]), (42, [180, 0, 63]), (45, [4]), (46, [46]), (47, [62]), (48, [42]), (49, [182, 1, 180]), (52, [28]), (53, [153, 0, 7]), (60, [2]), (61, [172]), (56, [29]), (57, [167, 0, 4]), (26, [28]), (27, [153, 0, 14]), (30, [42]), (31, [182, 1, 176]), (34, [61]), (35, [132, 3, 1]), (38, [167, 255, 239]), (11, [2]), (12, [172])] = true := by decide +kernel
theorem dX12_later_0 : decode cX12_later 0 = .ok (.aload_n 0, 1) := q_aload_n0 (bat_get dg_X12_later_0_0 0 rfl rfl)
theorem dX12_later_1 : decode cX12_later 1 = .ok (.iload_n 1, 1) := q_iload_n1 (bat_get dg_X12_later_0_0 1 rfl rfl)
theorem dX12_later_2 : decode cX12_later 2 = .ok (.iconst 0, 1) := q_iconst0 (bat_get dg_X12_later_0_0 2 rfl rfl)
theorem dX12_later_3 : decode cX12_later 3 = .ok (.bipush 30, 2) := q_bipush (bat_get dg_X12_later_0_0 3 rfl rfl) rfl
theorem dX12_later_5 : decode cX12_later 5 = .ok (.invokevirtual 426, 3) := q_invokevirtual (bat_get dg_X12_later_0_0 4 rfl rfl) rfl
theorem dX12_later_8 : decode cX12_later 8 = .ok (.ifCond .ne 5, 3) := q_ifCond_ne (bat_get dg_X12_later_0_0 5 rfl rfl) rfl
theorem dX12_later_13 : decode cX12_later 13 = .ok (.aload_n 0, 1) := q_aload_n0 (bat_get dg_X12_later_0_0 6 rfl rfl)
theorem dX12_later_14 : decode cX12_later 14 = .ok (.invokevirtual 429, 3) := q_invokevirtual (bat_get dg_X12_later_0_0 7 rfl rfl) rfl
theorem dX12_later_17 : decode cX12_later 17 = .ok (.iconst 1, 1) := q_iconst1 (bat_get dg_X12_later_0_0 8 rfl rfl)
theorem dX12_later_18 : decode cX12_later 18 = .ok (.istore_n 2, 1) := q_istore_n2 (bat_get dg_X12_later_0_0 9 rfl rfl)
theorem dX12_later_19 : decode cX12_later 19 = .ok (.iconst 0, 1) := q_iconst0 (bat_get dg_X12_later_0_0 10 rfl rfl)
theorem dX12_later_20 : decode cX12_later 20 = .ok (.istore_n 3, 1) := q_istore_n3 (bat_get dg_X12_later_0_0 11 rfl rfl)
theorem dX12_later_21 : decode cX12_later 21 = .ok (.iload_n 3, 1) := q_iload_n3 (bat_get dg_X12_later_0_0 12 rfl rfl)
theorem dX12_later_22 : decode cX12_later 22 = .ok (.iload_n 1, 1) := q_iload_n1 (bat_get dg_X12_later_0_0 13 rfl rfl)
theorem dX12_later_23 : decode cX12_later 23 = .ok (.if_icmp .ge 18, 3) := q_if_icmp_ge (bat_get dg_X12_later_0_0 14 rfl rfl) rfl
theorem dX12_later_41 : decode cX12_later 41 = .ok (.aload_n 0, 1) := q_aload_n0 (bat_get dg_X12_later_0_0 15 rfl rfl)
theorem dX12_later_42 : decode cX12_later 42 = .ok (.getfield 63, 3) := q_getfield (bat_get dg_X12_later_0_0 16 rfl rfl) rfl
theorem dX12_later_45 : decode cX12_later 45 = .ok (.iconst 1, 1) := q_iconst1 (bat_get dg_X12_later_0_0 17 rfl rfl)
theorem dX12_later_46 : decode cX12_later 46 = .ok (.iaload, 1) := q_iaload (bat_get dg_X12_later_0_0 18 rfl rfl)
theorem dX12_later_47 : decode cX12_later 47 = .ok (.istore_n 3, 1) := q_istore_n3 (bat_get dg_X12_later_0_0 19 rfl rfl)
theorem dX12_later_48 : decode cX12_later 48 = .ok (.aload_n 0, 1) := q_aload_n0 (bat_get dg_X12_later_0_0 20 rfl rfl)
theorem dX12_later_49 : decode cX12_later 49 = .ok (.invokevirtual 436, 3) := q_invokevirtual (bat_get dg_X12_later_0_0 21 rfl rfl) rfl
theorem dX12_later_52 : decode cX12_later 52 = .ok (.iload_n 2, 1) := q_iload_n2 (bat_get dg_X12_later_0_0 22 rfl rfl)
theorem dX12_later_53 : decode cX12_later 53 = .ok (.ifCond .eq 7, 3) := q_ifCond_eq (bat_get dg_X12_later_0_0 23 rfl rfl) rfl
theorem dX12_later_60 : decode cX12_later 60 = .ok (.iconst (-1), 1) := q_iconstm1 (bat_get dg_X12_later_0_0 24 rfl rfl)
theorem dX12_later_61 : decode cX12_later 61 = .ok (.ireturn, 1) := q_ireturn (bat_get dg_X12_later_0_0 25 rfl rfl)
theorem dX12_later_56 : decode cX12_later 56 = .ok (.iload_n 3, 1) := q_iload_n3 (bat_get dg_X12_later_0_0 26 rfl rfl)
theorem dX12_later_57 : decode cX12_later 57 = .ok (.goto 4, 3) := q_goto (bat_get dg_X12_later_0_0 27 rfl rfl) rfl
theorem dX12_later_26 : decode cX12_later 26 = .ok (.iload_n 2, 1) := q_iload_n2 (bat_get dg_X12_later_0_0 28 rfl rfl)
theorem dX12_later_27 : decode cX12_later 27 = .ok (.ifCond .eq 14, 3) := q_ifCond_eq (bat_get dg_X12_later_0_0 29 rfl rfl) rfl
theorem dX12_later_30 : decode cX12_later 30 = .ok (.aload_n 0, 1) := q_aload_n0 (bat_get dg_X12_later_0_0 30 rfl rfl)
theorem dX12_later_31 : decode cX12_later 31 = .ok (.invokevirtual 432, 3) := q_invokevirtual (bat_get dg_X12_later_0_0 31 rfl rfl) rfl
theorem dX12_later_34 : decode cX12_later 34 = .ok (.istore_n 2, 1) := q_istore_n2 (bat_get dg_X12_later_0_0 32 rfl rfl)
theorem dX12_later_35 : decode cX12_later 35 = .ok (.iinc 3 1, 3) := q_iinc (bat_get dg_X12_later_0_0 33 rfl rfl) rfl
theorem dX12_later_38 : decode cX12_later 38 = .ok (.goto (-17), 3) := q_goto (bat_get dg_X12_later_0_0 34 rfl rfl) rfl
theorem dX12_later_11 : decode cX12_later 11 = .ok (.iconst (-1), 1) := q_iconstm1 (bat_get dg_X12_later_0_0 35 rfl rfl)
theorem dX12_later_12 : decode cX12_later 12 = .ok (.ireturn, 1) := q_ireturn (bat_get dg_X12_later_0_0 36 rfl rfl)
theorem w_8_9 : (Cond.methodLink RX12 429 yX12_putsAside) ∈ wsL_law := sk_mem (ck_8 _ (List.mem_of_getElem? (i := 9) rfl)) rfl
theorem w_8_11 : (Cond.instanceMethod yX12_putsAside) ∈ wsL_law := sk_mem (ck_8 _ (List.mem_of_getElem? (i := 11) rfl)) rfl
theorem w_0_91 : (Cond.selects RX12 yX12_putsAside yX12_putsAside) ∈ wsL_law := sk_mem (ck_0 _ (List.mem_of_getElem? (i := 91) rfl)) rfl
theorem w_8_25 : (Cond.methodLink RX12 436 yX12_takesBack) ∈ wsL_law := sk_mem (ck_8 _ (List.mem_of_getElem? (i := 25) rfl)) rfl
theorem w_8_27 : (Cond.instanceMethod yX12_takesBack) ∈ wsL_law := sk_mem (ck_8 _ (List.mem_of_getElem? (i := 27) rfl)) rfl
theorem w_0_95 : (Cond.selects RX12 yX12_takesBack yX12_takesBack) ∈ wsL_law := sk_mem (ck_0 _ (List.mem_of_getElem? (i := 95) rfl)) rfl
theorem w_8_13 : (Cond.methodLink RX12 432 yX12_doGo) ∈ wsL_law := sk_mem (ck_8 _ (List.mem_of_getElem? (i := 13) rfl)) rfl
theorem w_8_15 : (Cond.instanceMethod yX12_doGo) ∈ wsL_law := sk_mem (ck_8 _ (List.mem_of_getElem? (i := 15) rfl)) rfl
theorem w_0_92 : (Cond.selects RX12 yX12_doGo yX12_doGo) ∈ wsL_law := sk_mem (ck_0 _ (List.mem_of_getElem? (i := 92) rfl)) rfl
theorem w_8_4 : (Cond.code yX12_later cX12_later 4 (some .int)) ∈ wsL_law := sk_mem (ck_8 _ (List.mem_of_getElem? (i := 4) rfl)) rfl
def om_14_2200 : List Bool := true :: false :: false :: false :: true :: false :: false :: false :: false :: false :: false :: false :: false :: false :: []
def om_14_2201 : List Bool := true :: false :: false :: false :: true :: false :: false :: false :: false :: false :: false :: false :: false :: true :: []
theorem hd_X12_putsAside_0 : skD yX12_putsAside 0 := by decide +kernel
theorem hd_X12_takesBack_0 : skD yX12_takesBack 0 := by decide +kernel
theorem hd_X12_doGo_0 : skD yX12_doGo 0 := by decide +kernel
set_option maxHeartbeats 4000000 in
set_option maxRecDepth 100000 in
theorem c_nm_later (l : Launch) (D : va_G) (cI cJ cC cZ cS : ClassId) (mm : Nat) (g : Nat → Nat) (ta : Nat) (pa : Nat) (pe : Nat) (pd : Int32) (pb : Nat) (pp : Int32) (pf : Int32) (pg : Int32) (pn : Int32) (rt : Int32) (rn : Int32) (cd : Nat) (sn : Int32) (il : Nat) (tk : Int32) (am : Int32) (at_ : Int32) (aa : Int32) (wt : Int32) (wy : Int64) (rm : Nat) (ud : Nat) (nu : Nat) (sd : Int64) (qn : Nat) (qw : Nat) (qo : Int32) (qb : Nat) (qp : Nat) (qa : Int64) (qi : Nat) (oc : Nat) (n : Int32) (u0 : Int32) (u1 : Int32) (u2 : Int32) (u3 : Int32) (u4 : Int32) (u5 : Int32) (v0 : Int32) (v1 : Int32) (v2 : Int32) (v3 : Int32) (v4 : Int32) (v5 : Int32) (cs : Nat → Nat) (nw : Nat → Int32) (pt : Nat → Nat) (ql : Nat → Int64) (l0 : Nat) (l1 : Nat) (dm : Nat) (l3 : Nat) (ws_ : Nat → Int32) (yw : Nat → Int32) (yo : Nat → Int32) (be : Nat → Int64) (bf : Nat → Int64) (az : Nat → Int32) (wn : Nat) (mN : Nat) (Ba : Nat → Nat) (We : Nat → Nat) (U : Nat → Bool) (ke : Nat) (lg : KLg) (L : LkS) (hil : il ≤ 1) (hild : il = 1 → 1 ≤ dm) (hilb : 1 ≤ dm → il = 1) (hdm : dm ≤ 9) (hLk : kcLk L) (hkl : (lK L).length ≤ 1600) (hmw0 : mwO L 0 u3 v3 cs) (hmw1 : mwO L 1 u4 v4 cs) (hB9 : ∀ j, Ba j ≤ 9) (hW9 : ∀ j, We j ≤ 9) (hwk : wn ≤ 999) (hcs : ∀ j, cs j ≤ 20000) (hnw : nwX wn mN Ba We U ke lg nw) (hpt : ∀ j, pt j ≤ 9) : skM l yX12_later cX12_later 4 (some .int) 7 162 0 0 D (skT cI cJ cC cZ cS) [.ref mm, .int n] [ro_ mm 12 (mo g (nI ta) (nI pa) (nI pe) pd (nI pb) pp pf pg pn rt rn (nI cd) sn (nI il) tk am at_ aa 0 0 (-1) wt wy 0 (nI rm) (nI ud) (nI nu) sd (nI qn) (nI qw) qo (nI qb) (nI qp) qa (nI qi) (nI oc)), ra_I (g 24) cI 6 (l6 u0 u1 u2 u3 u4 u5), ra_I (g 25) cI 6 (l6 v0 v1 v2 v3 v4 v5), ra_N (g 26) cI 3200 cs, ra_I (g 31) cI 120 nw, ra_N (g 46) cI 9 pt, ra_J (g 86) cJ 1700 ql, ra_I (g 20) cI 4 (l4 (nI l0) (nI l1) (nI dm) (nI l3)), ra_I (g 38) cI 90 ws_, ra_I (g 36) cZ 900 yw, ra_I (g 37) cZ 900 yo, ra_J (g 43) cJ 90 be, ra_J (g 44) cJ 90 bf, ra_I (g 32) cI 29 az] (skI D (skT cI cJ cC cZ cS) (fun (r : Int32) (u : va_W) => ∃ (nw2 : Nat → Int32), ∃ (tk2 : Int32), ∃ (qp2 : Nat), ∃ (am2 : Int32), ∃ (at_2 : Int32), ∃ (aa2 : Int32), ∃ (wy2 : Int64), ∃ (pt2 : Nat → Nat), ∃ (ql2 : Nat → Int64), ∃ (ws_2 : Nat → Int32), ∃ (yw2 : Nat → Int32), ∃ (yo2 : Nat → Int32), ∃ (be2 : Nat → Int64), ∃ (bf2 : Nat → Int64), ∃ (az2 : Nat → Int32), nwX wn mN Ba We U ke lg nw2 ∧ (∀ j, pt2 j ≤ 9) ∧ u = [ro_ mm 12 (mo g (nI ta) (nI pa) (nI pe) pd (nI pb) pp pf pg pn rt rn (nI cd) sn (nI il) tk2 am2 at_2 aa2 0 0 (-1) wt wy2 0 (nI rm) (nI ud) (nI nu) sd (nI qn) (nI qw) qo (nI qb) (nI qp2) qa (nI qi) (nI oc)), ra_I (g 24) cI 6 (l6 u0 u1 u2 u3 u4 u5), ra_I (g 25) cI 6 (l6 v0 v1 v2 v3 v4 v5), ra_N (g 26) cI 3200 cs, ra_I (g 31) cI 120 nw2, ra_N (g 46) cI 9 pt2, ra_J (g 86) cJ 1700 ql2, ra_I (g 20) cI 4 (l4 (nI l0) (nI l1) (nI dm) (nI l3)), ra_I (g 38) cI 90 ws_2, ra_I (g 36) cZ 900 yw2, ra_I (g 37) cZ 900 yo2, ra_J (g 43) cJ 90 be2, ra_J (g 44) cJ 90 bf2, ra_I (g 32) cI 29 az2])) := by
  refine skM_of pf_X12_later (Nat.le_of_ble_eq_true rfl) ?_
  intro p e s m below meth c A ls E hP hD hl
  refine skE_el E (fun hx hb hr hml hlocks hin hown hts hK hA => ?_)
  have hown : s.vm.findClass RX12 = some m.cls := hown
  have hS : va_S A s.heap s.heap [] := va_S.rf
  have hl : lv_has ls 4 [(0, .ref mm), (1, .int n)] := hl
  refine lv_aload_n hx hb dX12_later_0 rfl (lv_at hl 0 rfl) ?_
  refine lv_iload_n hx hb dX12_later_1 rfl (lv_at hl 1 rfl) ?_
  refine lv_iconst (v := 0) hx hb dX12_later_2 ic_0 ?_
  refine lv_bipush (v := 30) hx hb dX12_later_3 (by decide) ?_
  refine sk_Vi (q0 := 0) (n := 3) (rest := []) (wr := fmR om_14_2200 _) ⟨hx, hb, hml, hown, hts⟩ hl.1 (c_nm_isAhead l D cI cJ cC cZ cS mm g ta pa pe pd pb pp pf pg pn rt rn cd sn il tk am at_ aa wt wy rm ud nu sd qn qw qo qb qp qa qi oc n 0 30 nw wn mN Ba We U ke lg hil hwk (by omega) (by omega) hnw) w_8_5 w_8_7 w_0_90 w_1_14 w_8_8 hd_X12_isAhead_3 ⟨⟨(Nat.le_of_ble_eq_true rfl), (Nat.le_of_ble_eq_true rfl)⟩, (Nat.le_of_ble_eq_true rfl), (Nat.le_of_ble_eq_true rfl)⟩ hK hP hD hS hA (fmT om_14_2200 0) (fmF om_14_2200 0) (fm_C1 rfl rfl) (fm_R rfl rfl) (fm_nT om_14_2200 0) (fm_nF om_14_2200 0) (fm_di om_14_2200 0) rfl rfl rfl rfl (Nat.le_of_ble_eq_true rfl) dX12_later_5 (fun r_2 u H locs hw hP hD hS => ?_)
  refine exE hw (fun b_1 hw1 => anE hw1 (fun hah_3 hw2 => anE hw2 (fun er_5 eu_4 => ?_)))
  clear hw hw1 hw2
  subst er_5
  refine o_mgE (ws' := [ro_ mm 12 (mo g (nI ta) (nI pa) (nI pe) pd (nI pb) pp pf pg pn rt rn (nI cd) sn (nI il) tk am at_ aa 0 0 (-1) wt wy 0 (nI rm) (nI ud) (nI nu) sd (nI qn) (nI qw) qo (nI qb) (nI qp) qa (nI qi) (nI oc)), ra_I (g 24) cI 6 (l6 u0 u1 u2 u3 u4 u5), ra_I (g 25) cI 6 (l6 v0 v1 v2 v3 v4 v5), ra_N (g 26) cI 3200 cs, ra_I (g 31) cI 120 nw, ra_N (g 46) cI 9 pt, ra_J (g 86) cJ 1700 ql, ra_I (g 20) cI 4 (l4 (nI l0) (nI l1) (nI dm) (nI l3)), ra_I (g 38) cI 90 ws_, ra_I (g 36) cZ 900 yw, ra_I (g 37) cZ 900 yo, ra_J (g 43) cJ 90 be, ra_J (g 44) cJ 90 bf, ra_I (g 32) cI 29 az]) eu_4 hP hD rfl (fun hP hD => ?_)
  refine lv_if_ne (tgt := 13) hx hb dX12_later_8 (by decide) (fun c_6 => ?_) (fun c_6 => ?_)
  · have c_6 : ¬ (b_1 = 0) := fun h => c_6 ((neq b_1 0 (by omega) (Nat.le_of_ble_eq_true rfl)).mpr h)
    obtain ⟨hil1, ka, hka1, hka2, rfl, hka3⟩ := rr_1 hah_3 (by omega)
    have hdm1 := hild hil1
    refine lv_aload_n hx hb dX12_later_13 rfl (lv_at hl 0 rfl) ?_
    refine sk_Vv (q0 := 0) (n := 0) (rest := []) (wr := fmR om_14_2201 _) ⟨hx, hb, hml, hown, hts⟩ hl.1 (c_nm_putsAside l D cI cJ cC cZ cS mm g ta pa pe pd pb pp pf pg pn rt rn cd sn il tk am at_ aa wt wy rm ud nu sd qn qw qo qb qp qa qi oc nw az wn mN Ba We U ke lg hnw) w_8_9 w_8_11 w_0_91 w_1_14 w_8_12 hd_X12_putsAside_0 ⟨⟨(Nat.le_of_ble_eq_true rfl), (Nat.le_of_ble_eq_true rfl)⟩, (Nat.le_of_ble_eq_true rfl), (Nat.le_of_ble_eq_true rfl)⟩ hK hP hD hS hA (fmT om_14_2201 0) (fmF om_14_2201 0) (fm_C1 rfl rfl) (fm_R rfl rfl) (fm_nT om_14_2201 0) (fm_nF om_14_2201 0) (fm_di om_14_2201 0) rfl rfl rfl rfl (Nat.le_of_ble_eq_true rfl) dX12_later_14 (fun u H locs hw hP hD hS => ?_)
    refine exE hw (fun az2_7 hw1 => anE hw1 (fun haz2_8 eu_9 => ?_))
    clear hw hw1
    refine o_mgE (ws' := [ro_ mm 12 (mo g (nI ta) (nI pa) (nI pe) pd (nI pb) pp pf pg pn rt rn (nI cd) sn (nI il) tk am at_ aa 0 0 (-1) wt wy 1 (nI rm) (nI ud) (nI nu) sd (nI qn) (nI qw) qo (nI qb) (nI qp) qa (nI qi) (nI oc)), ra_I (g 24) cI 6 (l6 u0 u1 u2 u3 u4 u5), ra_I (g 25) cI 6 (l6 v0 v1 v2 v3 v4 v5), ra_N (g 26) cI 3200 cs, ra_I (g 31) cI 120 nw, ra_N (g 46) cI 9 pt, ra_J (g 86) cJ 1700 ql, ra_I (g 20) cI 4 (l4 (nI l0) (nI l1) (nI dm) (nI l3)), ra_I (g 38) cI 90 ws_, ra_I (g 36) cZ 900 yw, ra_I (g 37) cZ 900 yo, ra_J (g 43) cJ 90 be, ra_J (g 44) cJ 90 bf, ra_I (g 32) cI 29 az2_7]) eu_9 hP hD rfl (fun hP hD => ?_)
    refine lv_iconst (v := 1) hx hb dX12_later_17 ic_1 ?_
    refine lv_istore_n (lv' := [(2, .int 1), (0, .ref mm), (1, .int (nI ka))]) hx hb dX12_later_18 rfl hl (by decide) rfl (fun ls hl => ?_)
    refine lv_iconst (v := 0) hx hb dX12_later_19 ic_0 ?_
    refine lv_istore_n (lv' := [(3, .int 0), (2, .int 1), (0, .ref mm), (1, .int (nI ka))]) hx hb dX12_later_20 rfl hl (by decide) rfl (fun ls hl => ?_)
    have lp_10 : ∀ (n_11 : Nat) (i : Nat) (gb : Nat) (zaml : Int32) (zat_l : Int32) (zaal : Int32) (ztkl : Int32) (zqpl : Nat) (zwyl : Int64) (zn : Nat → Int32) (y46l : Nat → Nat) (y86l : Nat → Int64) (y38l : Nat → Int32) (y36l : Nat → Int32) (y37l : Nat → Int32) (y43l : Nat → Int64) (y44l : Nat → Int64) (wv : Nat) (mv : Nat) (H : Heap) (locs : List Loc) (ls : Array Slot), 31 - i < n_11 → (∀ j, y46l j ≤ 9) → (i ≤ 30) → (gb ≤ 1) → (wv ≤ wn + i) → (nwX wv mv Ba We U ke lg zn) → va_P D vwCl [ro_ mm 12 (mo g (nI ta) (nI pa) (nI pe) pd (nI pb) pp pf pg pn rt rn (nI cd) sn (nI il) ztkl zaml zat_l zaal 0 0 (-1) wt zwyl 1 (nI rm) (nI ud) (nI nu) sd (nI qn) (nI qw) qo (nI qb) (nI zqpl) qa (nI qi) (nI oc)), ra_I (g 24) cI 6 (l6 u0 u1 u2 u3 u4 u5), ra_I (g 25) cI 6 (l6 v0 v1 v2 v3 v4 v5), ra_N (g 26) cI 3200 cs, ra_I (g 31) cI 120 zn, ra_N (g 46) cI 9 y46l, ra_J (g 86) cJ 1700 y86l, ra_I (g 20) cI 4 (l4 (nI l0) (nI l1) (nI dm) (nI l3)), ra_I (g 38) cI 90 y38l, ra_I (g 36) cZ 900 y36l, ra_I (g 37) cZ 900 y37l, ra_J (g 43) cJ 90 y43l, ra_J (g 44) cJ 90 y44l, ra_I (g 32) cI 29 az2_7] H → va_D A [ro_ mm 12 (mo g (nI ta) (nI pa) (nI pe) pd (nI pb) pp pf pg pn rt rn (nI cd) sn (nI il) ztkl zaml zat_l zaal 0 0 (-1) wt zwyl 1 (nI rm) (nI ud) (nI nu) sd (nI qn) (nI qw) qo (nI qb) (nI zqpl) qa (nI qi) (nI oc)), ra_I (g 24) cI 6 (l6 u0 u1 u2 u3 u4 u5), ra_I (g 25) cI 6 (l6 v0 v1 v2 v3 v4 v5), ra_N (g 26) cI 3200 cs, ra_I (g 31) cI 120 zn, ra_N (g 46) cI 9 y46l, ra_J (g 86) cJ 1700 y86l, ra_I (g 20) cI 4 (l4 (nI l0) (nI l1) (nI dm) (nI l3)), ra_I (g 38) cI 90 y38l, ra_I (g 36) cZ 900 y36l, ra_I (g 37) cZ 900 y37l, ra_J (g 43) cJ 90 y43l, ra_J (g 44) cJ 90 y44l, ra_I (g 32) cI 29 az2_7] → va_S A s.heap H locs → lv_has ls 4 [(3, .int (nI i)), (2, .int (nI gb)), (0, .ref mm), (1, .int (nI ka))] → W p l e { frames := 7, cells := 0, slots := 0, locals := 162 } s m ([.ref mm, .int (nI ka)] : List Value).toArray below meth c H locs 0 0 (MQ below (skI D (skT cI cJ cC cZ cS) (fun (r : Int32) (u : va_W) => ∃ (nw2 : Nat → Int32), ∃ (tk2 : Int32), ∃ (qp2 : Nat), ∃ (am2 : Int32), ∃ (at_2 : Int32), ∃ (aa2 : Int32), ∃ (wy2 : Int64), ∃ (pt2 : Nat → Nat), ∃ (ql2 : Nat → Int64), ∃ (ws_2 : Nat → Int32), ∃ (yw2 : Nat → Int32), ∃ (yo2 : Nat → Int32), ∃ (be2 : Nat → Int64), ∃ (bf2 : Nat → Int64), ∃ (az2 : Nat → Int32), nwX wn mN Ba We U ke lg nw2 ∧ (∀ j, pt2 j ≤ 9) ∧ u = [ro_ mm 12 (mo g (nI ta) (nI pa) (nI pe) pd (nI pb) pp pf pg pn rt rn (nI cd) sn (nI il) tk2 am2 at_2 aa2 0 0 (-1) wt wy2 0 (nI rm) (nI ud) (nI nu) sd (nI qn) (nI qw) qo (nI qb) (nI qp2) qa (nI qi) (nI oc)), ra_I (g 24) cI 6 (l6 u0 u1 u2 u3 u4 u5), ra_I (g 25) cI 6 (l6 v0 v1 v2 v3 v4 v5), ra_N (g 26) cI 3200 cs, ra_I (g 31) cI 120 nw2, ra_N (g 46) cI 9 pt2, ra_J (g 86) cJ 1700 ql2, ra_I (g 20) cI 4 (l4 (nI l0) (nI l1) (nI dm) (nI l3)), ra_I (g 38) cI 90 ws_2, ra_I (g 36) cZ 900 yw2, ra_I (g 37) cZ 900 yo2, ra_J (g 43) cJ 90 be2, ra_J (g 44) cJ 90 bf2, ra_I (g 32) cI 29 az2]) A) ([.ref mm, .int (nI ka)] : List Value).toArray s 0 0 A) (F0 m 21 ls []) := by
      intro n_11
      induction n_11 with
      | zero => intro i gb zaml zat_l zaal ztkl zqpl zwyl zn y46l y86l y38l y36l y37l y43l y44l wv mv H locs ls hm; exact absurd hm (Nat.not_lt_zero _)
      | succ n_11 ih_lp_10 =>
        intro i gb zaml zat_l zaal ztkl zqpl zwyl zn y46l y86l y38l y36l y37l y43l y44l wv mv H locs ls hm hy46l hi hgb hwv hzn hP hD hS hl
        refine lv_iload_n hx hb dX12_later_21 rfl (lv_at hl 0 rfl) ?_
        refine lv_iload_n hx hb dX12_later_22 rfl (lv_at hl 3 rfl) ?_
        refine lv_icmp_ge (tgt := 41) hx hb dX12_later_23 (by decide) (fun c_12 => ?_) (fun c_12 => ?_)
        · have c_12 : ka ≤ i := (nle ka i (by omega) (by omega)).mp c_12
          refine lv_aload_n hx hb dX12_later_41 rfl (lv_at hl 2 rfl) ?_
          refine sk_get (v := .ref (g 31)) (C := RX12) (T := TX12) (N := 92) hx hb hts inlX12 hown hK hP 0 rfl rfl 31 (Nat.le_of_ble_eq_true rfl) w_5_186 rfl dX12_later_42 ?_
          refine lv_iconst (v := 1) hx hb dX12_later_45 ic_1 ?_
          refine va_iald hx hb hK.1 hP 4 0 rfl rfl (by unfold vp_in; decide) dX12_later_46 ?_
          refine sk_top (nI mv) (nwX_1 hzn) ?_
          refine lv_istore_n (lv' := [(3, .int (nI mv)), (2, .int (nI gb)), (0, .ref mm), (1, .int (nI ka))]) hx hb dX12_later_47 rfl hl (by decide) rfl (fun ls hl => ?_)
          refine lv_aload_n hx hb dX12_later_48 rfl (lv_at hl 2 rfl) ?_
          refine sk_Vv (q0 := 0) (n := 0) (rest := []) (wr := fmR om_14_2201 _) ⟨hx, hb, hml, hown, hts⟩ hl.1 (c_nm_takesBack l D cI cJ cC cZ cS mm g ta pa pe pd pb pp pf pg pn rt rn cd sn il ztkl zaml zat_l zaal wt zwyl rm ud nu sd qn qw qo qb zqpl qa qi oc zn az2_7 wn mN Ba We U ke lg wv mv Ba We U haz2_8 hzn) w_8_25 w_8_27 w_0_95 w_1_14 w_8_28 hd_X12_takesBack_0 ⟨⟨(Nat.le_of_ble_eq_true rfl), (Nat.le_of_ble_eq_true rfl)⟩, (Nat.le_of_ble_eq_true rfl), (Nat.le_of_ble_eq_true rfl)⟩ hK hP hD hS hA (fmT om_14_2201 0) (fmF om_14_2201 0) (fm_C1 rfl rfl) (fm_R rfl rfl) (fm_nT om_14_2201 0) (fm_nF om_14_2201 0) (fm_di om_14_2201 0) rfl rfl rfl rfl (Nat.le_of_ble_eq_true rfl) dX12_later_49 (fun u H locs hw hP hD hS => ?_)
          refine exE hw (fun nw2_13 hw1 => anE hw1 (fun hnw2_14 eu_15 => ?_))
          clear hw hw1
          refine o_mgE (ws' := [ro_ mm 12 (mo g (nI ta) (nI pa) (nI pe) pd (nI pb) pp pf pg pn rt rn (nI cd) sn (nI il) ztkl zaml zat_l zaal 0 0 (-1) wt zwyl 0 (nI rm) (nI ud) (nI nu) sd (nI qn) (nI qw) qo (nI qb) (nI zqpl) qa (nI qi) (nI oc)), ra_I (g 24) cI 6 (l6 u0 u1 u2 u3 u4 u5), ra_I (g 25) cI 6 (l6 v0 v1 v2 v3 v4 v5), ra_N (g 26) cI 3200 cs, ra_I (g 31) cI 120 nw2_13, ra_N (g 46) cI 9 y46l, ra_J (g 86) cJ 1700 y86l, ra_I (g 20) cI 4 (l4 (nI l0) (nI l1) (nI dm) (nI l3)), ra_I (g 38) cI 90 y38l, ra_I (g 36) cZ 900 y36l, ra_I (g 37) cZ 900 y37l, ra_J (g 43) cJ 90 y43l, ra_J (g 44) cJ 90 y44l, ra_I (g 32) cI 29 az2_7]) eu_15 hP hD rfl (fun hP hD => ?_)
          refine lv_iload_n hx hb dX12_later_52 rfl (lv_at hl 1 rfl) ?_
          refine lv_if_eq (tgt := 60) hx hb dX12_later_53 (by decide) (fun c_16 => ?_) (fun c_16 => ?_)
          · have c_16 : gb = 0 := (neq gb 0 (by omega) (Nat.le_of_ble_eq_true rfl)).mp c_16
            refine lv_iconst (v := (-1)) hx hb dX12_later_60 (by decide) ?_
            exact sk_iret hx hb hr rfl hlocks hK hP hD hS (⟨nw2_13, ztkl, zqpl, zaml, zat_l, zaal, zwyl, y46l, y86l, y38l, y36l, y37l, y43l, y44l, az2_7, hnw2_14, hy46l, rfl⟩) (Nat.le_of_ble_eq_true rfl) (Nat.le_of_ble_eq_true rfl) dX12_later_61
          · have c_16 : ¬ (gb = 0) := fun h => c_16 ((neq gb 0 (by omega) (Nat.le_of_ble_eq_true rfl)).mpr h)
            refine lv_iload_n hx hb dX12_later_56 rfl (lv_at hl 0 rfl) ?_
            refine lv_goto (tgt := 61) hx hb dX12_later_57 (by decide) ?_
            exact sk_iret hx hb hr rfl hlocks hK hP hD hS (⟨nw2_13, ztkl, zqpl, zaml, zat_l, zaal, zwyl, y46l, y86l, y38l, y36l, y37l, y43l, y44l, az2_7, hnw2_14, hy46l, rfl⟩) (Nat.le_of_ble_eq_true rfl) (Nat.le_of_ble_eq_true rfl) dX12_later_61
        · have c_12 : ¬ (ka ≤ i) := fun h => c_12 ((nle ka i (by omega) (by omega)).mpr h)
          refine lv_iload_n hx hb dX12_later_26 rfl (lv_at hl 1 rfl) ?_
          refine lv_if_eq (tgt := 41) hx hb dX12_later_27 (by decide) (fun c_17 => ?_) (fun c_17 => ?_)
          · have c_17 : gb = 0 := (neq gb 0 (by omega) (Nat.le_of_ble_eq_true rfl)).mp c_17
            refine lv_aload_n hx hb dX12_later_41 rfl (lv_at hl 2 rfl) ?_
            refine sk_get (v := .ref (g 31)) (C := RX12) (T := TX12) (N := 92) hx hb hts inlX12 hown hK hP 0 rfl rfl 31 (Nat.le_of_ble_eq_true rfl) w_5_186 rfl dX12_later_42 ?_
            refine lv_iconst (v := 1) hx hb dX12_later_45 ic_1 ?_
            refine va_iald hx hb hK.1 hP 4 0 rfl rfl (by unfold vp_in; decide) dX12_later_46 ?_
            refine sk_top (nI mv) (nwX_1 hzn) ?_
            refine lv_istore_n (lv' := [(3, .int (nI mv)), (2, .int (nI gb)), (0, .ref mm), (1, .int (nI ka))]) hx hb dX12_later_47 rfl hl (by decide) rfl (fun ls hl => ?_)
            refine lv_aload_n hx hb dX12_later_48 rfl (lv_at hl 2 rfl) ?_
            refine sk_Vv (q0 := 0) (n := 0) (rest := []) (wr := fmR om_14_2201 _) ⟨hx, hb, hml, hown, hts⟩ hl.1 (c_nm_takesBack l D cI cJ cC cZ cS mm g ta pa pe pd pb pp pf pg pn rt rn cd sn il ztkl zaml zat_l zaal wt zwyl rm ud nu sd qn qw qo qb zqpl qa qi oc zn az2_7 wn mN Ba We U ke lg wv mv Ba We U haz2_8 hzn) w_8_25 w_8_27 w_0_95 w_1_14 w_8_28 hd_X12_takesBack_0 ⟨⟨(Nat.le_of_ble_eq_true rfl), (Nat.le_of_ble_eq_true rfl)⟩, (Nat.le_of_ble_eq_true rfl), (Nat.le_of_ble_eq_true rfl)⟩ hK hP hD hS hA (fmT om_14_2201 0) (fmF om_14_2201 0) (fm_C1 rfl rfl) (fm_R rfl rfl) (fm_nT om_14_2201 0) (fm_nF om_14_2201 0) (fm_di om_14_2201 0) rfl rfl rfl rfl (Nat.le_of_ble_eq_true rfl) dX12_later_49 (fun u H locs hw hP hD hS => ?_)
            refine exE hw (fun nw2_18 hw1 => anE hw1 (fun hnw2_19 eu_20 => ?_))
            clear hw hw1
            refine o_mgE (ws' := [ro_ mm 12 (mo g (nI ta) (nI pa) (nI pe) pd (nI pb) pp pf pg pn rt rn (nI cd) sn (nI il) ztkl zaml zat_l zaal 0 0 (-1) wt zwyl 0 (nI rm) (nI ud) (nI nu) sd (nI qn) (nI qw) qo (nI qb) (nI zqpl) qa (nI qi) (nI oc)), ra_I (g 24) cI 6 (l6 u0 u1 u2 u3 u4 u5), ra_I (g 25) cI 6 (l6 v0 v1 v2 v3 v4 v5), ra_N (g 26) cI 3200 cs, ra_I (g 31) cI 120 nw2_18, ra_N (g 46) cI 9 y46l, ra_J (g 86) cJ 1700 y86l, ra_I (g 20) cI 4 (l4 (nI l0) (nI l1) (nI dm) (nI l3)), ra_I (g 38) cI 90 y38l, ra_I (g 36) cZ 900 y36l, ra_I (g 37) cZ 900 y37l, ra_J (g 43) cJ 90 y43l, ra_J (g 44) cJ 90 y44l, ra_I (g 32) cI 29 az2_7]) eu_20 hP hD rfl (fun hP hD => ?_)
            refine lv_iload_n hx hb dX12_later_52 rfl (lv_at hl 1 rfl) ?_
            refine lv_if_eq (tgt := 60) hx hb dX12_later_53 (by decide) (fun c_21 => ?_) (fun c_21 => ?_)
            · have c_21 : gb = 0 := (neq gb 0 (by omega) (Nat.le_of_ble_eq_true rfl)).mp c_21
              refine lv_iconst (v := (-1)) hx hb dX12_later_60 (by decide) ?_
              exact sk_iret hx hb hr rfl hlocks hK hP hD hS (⟨nw2_18, ztkl, zqpl, zaml, zat_l, zaal, zwyl, y46l, y86l, y38l, y36l, y37l, y43l, y44l, az2_7, hnw2_19, hy46l, rfl⟩) (Nat.le_of_ble_eq_true rfl) (Nat.le_of_ble_eq_true rfl) dX12_later_61
            · have c_21 : ¬ (gb = 0) := fun h => c_21 ((neq gb 0 (by omega) (Nat.le_of_ble_eq_true rfl)).mpr h)
              refine lv_iload_n hx hb dX12_later_56 rfl (lv_at hl 0 rfl) ?_
              refine lv_goto (tgt := 61) hx hb dX12_later_57 (by decide) ?_
              exact sk_iret hx hb hr rfl hlocks hK hP hD hS (⟨nw2_18, ztkl, zqpl, zaml, zat_l, zaal, zwyl, y46l, y86l, y38l, y36l, y37l, y43l, y44l, az2_7, hnw2_19, hy46l, rfl⟩) (Nat.le_of_ble_eq_true rfl) (Nat.le_of_ble_eq_true rfl) dX12_later_61
          · have c_17 : ¬ (gb = 0) := fun h => c_17 ((neq gb 0 (by omega) (Nat.le_of_ble_eq_true rfl)).mpr h)
            refine lv_aload_n hx hb dX12_later_30 rfl (lv_at hl 2 rfl) ?_
            refine sk_Vi (q0 := 0) (n := 0) (rest := []) (wr := fmR om_14_3ffe _) ⟨hx, hb, hml, hown, hts⟩ hl.1 (c_nm_doGo l D cI cJ cC cZ cS mm g ta pa pe pd pb pp pf pg pn rt rn cd sn il ztkl zaml zat_l zaal wt zwyl rm ud nu sd qn qw qo qb zqpl qa qi oc u0 u1 u2 u3 u4 u5 v0 v1 v2 v3 v4 v5 cs zn y46l y86l l0 l1 dm l3 y38l y36l y37l y43l y44l wv mv Ba We U ke lg L hdm (by omega) hLk hkl hmw0 hmw1 hB9 hW9 (by omega) hcs hzn hy46l) w_8_13 w_8_15 w_0_92 w_1_14 w_8_16 hd_X12_doGo_0 ⟨⟨(Nat.le_of_ble_eq_true rfl), (Nat.le_of_ble_eq_true rfl)⟩, (Nat.le_of_ble_eq_true rfl), (Nat.le_of_ble_eq_true rfl)⟩ hK hP hD hS hA (fmT om_14_3ffe 0) (fmF om_14_3ffe 0) (fm_C1 rfl rfl) (fm_R rfl rfl) (fm_nT om_14_3ffe 0) (fm_nF om_14_3ffe 0) (fm_di om_14_3ffe 0) rfl rfl rfl rfl (Nat.le_of_ble_eq_true rfl) dX12_later_31 (fun r_39 u H locs hw hP hD hS => ?_)
            refine exE hw (fun wv2_22 hw1 => exE hw1 (fun mv2_23 hw2 => exE hw2 (fun b_24 hw3 => exE hw3 (fun nw2_25 hw4 => exE hw4 (fun tk2_26 hw5 => exE hw5 (fun qp2_27 hw6 => exE hw6 (fun am2_28 hw7 => exE hw7 (fun at_2_29 hw8 => exE hw8 (fun aa2_30 hw9 => exE hw9 (fun wy2_31 hw10 => exE hw10 (fun pt2_32 hw11 => exE hw11 (fun ql2_33 hw12 => exE hw12 (fun ws_2_34 hw13 => exE hw13 (fun yw2_35 hw14 => exE hw14 (fun yo2_36 hw15 => exE hw15 (fun be2_37 hw16 => exE hw16 (fun bf2_38 hw17 => anE hw17 (fun hnw2_40 hw18 => anE hw18 (fun hdg_41 hw19 => anE hw19 (fun hpt2_42 hw20 => anE hw20 (fun er_44 eu_43 => ?_)))))))))))))))))))))
            clear hw hw1 hw2 hw3 hw4 hw5 hw6 hw7 hw8 hw9 hw10 hw11 hw12 hw13 hw14 hw15 hw16 hw17 hw18 hw19 hw20
            subst er_44
            refine o_mgE (ws' := [ro_ mm 12 (mo g (nI ta) (nI pa) (nI pe) pd (nI pb) pp pf pg pn rt rn (nI cd) sn (nI il) tk2_26 am2_28 at_2_29 aa2_30 0 0 (-1) wt wy2_31 1 (nI rm) (nI ud) (nI nu) sd (nI qn) (nI qw) qo (nI qb) (nI qp2_27) qa (nI qi) (nI oc)), ra_I (g 24) cI 6 (l6 u0 u1 u2 u3 u4 u5), ra_I (g 25) cI 6 (l6 v0 v1 v2 v3 v4 v5), ra_N (g 26) cI 3200 cs, ra_I (g 31) cI 120 nw2_25, ra_N (g 46) cI 9 pt2_32, ra_J (g 86) cJ 1700 ql2_33, ra_I (g 20) cI 4 (l4 (nI l0) (nI l1) (nI dm) (nI l3)), ra_I (g 38) cI 90 ws_2_34, ra_I (g 36) cZ 900 yw2_35, ra_I (g 37) cZ 900 yo2_36, ra_J (g 43) cJ 90 be2_37, ra_J (g 44) cJ 90 bf2_38, ra_I (g 32) cI 29 az2_7]) eu_43 hP hD rfl (fun hP hD => ?_)
            have hm_45 := hnw2_40.1
            have hm_46 := hnw.1
            refine lv_istore_n (lv' := [(2, .int (nI b_24)), (3, .int (nI i)), (0, .ref mm), (1, .int (nI ka))]) hx hb dX12_later_34 rfl hl (by decide) rfl (fun ls hl => ?_)
            refine lv_iinc (v := nI (i + 1)) (lv' := [(3, .int (nI (i + 1))), (2, .int (nI b_24)), (0, .ref mm), (1, .int (nI ka))]) hx hb dX12_later_35 hl (k := 1) rfl (ninc i 1 (by decide)) (by decide) rfl (fun ls hl => ?_)
            refine lv_goto (tgt := 21) hx hb dX12_later_38 (by decide) ?_
            exact ih_lp_10 (i + 1) b_24 am2_28 at_2_29 aa2_30 tk2_26 qp2_27 wy2_31 nw2_25 pt2_32 ql2_33 ws_2_34 yw2_35 yo2_36 be2_37 bf2_38 wv2_22 mv2_23 _ _ _ (by omega) hpt2_42 (by omega) (by omega) (by omega) hnw2_40 hP hD hS (lv_sub hl [0, 1, 2, 3] rfl)
    exact lp_10 (31 - 0 + 1) 0 1 am at_ aa tk qp wy nw pt ql ws_ yw yo be bf wn mN _ _ _ (Nat.lt_succ_self _) hpt (by omega) (by omega) (by omega) hnw hP hD hS (lv_sub hl [0, 1, 2, 3] rfl)
  · have c_6 : b_1 = 0 := (neq b_1 0 (by omega) (Nat.le_of_ble_eq_true rfl)).mp c_6
    refine lv_iconst (v := (-1)) hx hb dX12_later_11 (by decide) ?_
    exact sk_iret hx hb hr rfl hlocks hK hP hD hS (⟨nw, tk, qp, am, at_, aa, wy, pt, ql, ws_, yw, yo, be, bf, az, hnw, hpt, rfl⟩) (Nat.le_of_ble_eq_true rfl) (Nat.le_of_ble_eq_true rfl) dX12_later_12
theorem dg_X12_ring_0_0 : bqL cX12_ring 0 [(0, [42]), (1, [180, 1, 46]), (4, [154, 0, 5]), (9, [42]), (10, [180, 0, 63]), (13, [4]), (14, [46]), (15, [60]), (16, [2]), (17, [61]), (18, [42]), (19, [182, 1, 173]), (22, [4]), (23, [62]), (24, [29]), (25, [16, 30]), (27, [163, 0, 45]), (72, [42]), (73, [182, 1, 180]), (76, [28]), (77, [172]), (30, [28]), (31, [2]), (32, [160, 0, 40]), (35, [42]), (36, [180, 0, 63]), (39, [3]), (40, [46]), (41, [17, 3, 231]), (44, [162, 0, 28]), (47, [42]), (48, [182, 1, 176]), (51, [153, 0, 21]), (54, [42]), (55, [180, 0, 63]), (58, [4]), (59, [46]), (60, [27]), (61, [160, 0, 5]), (66, [132, 3, 1])] = true := by decide +kernel
theorem dX12_ring_0 : decode cX12_ring 0 = .ok (.aload_n 0, 1) := q_aload_n0 (bat_get dg_X12_ring_0_0 0 rfl rfl)
theorem dX12_ring_1 : decode cX12_ring 1 = .ok (.getfield 302, 3) := q_getfield (bat_get dg_X12_ring_0_0 1 rfl rfl) rfl
theorem dX12_ring_4 : decode cX12_ring 4 = .ok (.ifCond .ne 5, 3) := q_ifCond_ne (bat_get dg_X12_ring_0_0 2 rfl rfl) rfl
theorem dX12_ring_9 : decode cX12_ring 9 = .ok (.aload_n 0, 1) := q_aload_n0 (bat_get dg_X12_ring_0_0 3 rfl rfl)
theorem dX12_ring_10 : decode cX12_ring 10 = .ok (.getfield 63, 3) := q_getfield (bat_get dg_X12_ring_0_0 4 rfl rfl) rfl
theorem dX12_ring_13 : decode cX12_ring 13 = .ok (.iconst 1, 1) := q_iconst1 (bat_get dg_X12_ring_0_0 5 rfl rfl)
theorem dX12_ring_14 : decode cX12_ring 14 = .ok (.iaload, 1) := q_iaload (bat_get dg_X12_ring_0_0 6 rfl rfl)
theorem dX12_ring_15 : decode cX12_ring 15 = .ok (.istore_n 1, 1) := q_istore_n1 (bat_get dg_X12_ring_0_0 7 rfl rfl)
theorem dX12_ring_16 : decode cX12_ring 16 = .ok (.iconst (-1), 1) := q_iconstm1 (bat_get dg_X12_ring_0_0 8 rfl rfl)
theorem dX12_ring_17 : decode cX12_ring 17 = .ok (.istore_n 2, 1) := q_istore_n2 (bat_get dg_X12_ring_0_0 9 rfl rfl)
theorem dX12_ring_18 : decode cX12_ring 18 = .ok (.aload_n 0, 1) := q_aload_n0 (bat_get dg_X12_ring_0_0 10 rfl rfl)
theorem dX12_ring_19 : decode cX12_ring 19 = .ok (.invokevirtual 429, 3) := q_invokevirtual (bat_get dg_X12_ring_0_0 11 rfl rfl) rfl
theorem dX12_ring_22 : decode cX12_ring 22 = .ok (.iconst 1, 1) := q_iconst1 (bat_get dg_X12_ring_0_0 12 rfl rfl)
theorem dX12_ring_23 : decode cX12_ring 23 = .ok (.istore_n 3, 1) := q_istore_n3 (bat_get dg_X12_ring_0_0 13 rfl rfl)
theorem dX12_ring_24 : decode cX12_ring 24 = .ok (.iload_n 3, 1) := q_iload_n3 (bat_get dg_X12_ring_0_0 14 rfl rfl)
theorem dX12_ring_25 : decode cX12_ring 25 = .ok (.bipush 30, 2) := q_bipush (bat_get dg_X12_ring_0_0 15 rfl rfl) rfl
theorem dX12_ring_27 : decode cX12_ring 27 = .ok (.if_icmp .gt 45, 3) := q_if_icmp_gt (bat_get dg_X12_ring_0_0 16 rfl rfl) rfl
theorem dX12_ring_72 : decode cX12_ring 72 = .ok (.aload_n 0, 1) := q_aload_n0 (bat_get dg_X12_ring_0_0 17 rfl rfl)
theorem dX12_ring_73 : decode cX12_ring 73 = .ok (.invokevirtual 436, 3) := q_invokevirtual (bat_get dg_X12_ring_0_0 18 rfl rfl) rfl
theorem dX12_ring_76 : decode cX12_ring 76 = .ok (.iload_n 2, 1) := q_iload_n2 (bat_get dg_X12_ring_0_0 19 rfl rfl)
theorem dX12_ring_77 : decode cX12_ring 77 = .ok (.ireturn, 1) := q_ireturn (bat_get dg_X12_ring_0_0 20 rfl rfl)
theorem dX12_ring_30 : decode cX12_ring 30 = .ok (.iload_n 2, 1) := q_iload_n2 (bat_get dg_X12_ring_0_0 21 rfl rfl)
theorem dX12_ring_31 : decode cX12_ring 31 = .ok (.iconst (-1), 1) := q_iconstm1 (bat_get dg_X12_ring_0_0 22 rfl rfl)
theorem dX12_ring_32 : decode cX12_ring 32 = .ok (.if_icmp .ne 40, 3) := q_if_icmp_ne (bat_get dg_X12_ring_0_0 23 rfl rfl) rfl
theorem dX12_ring_35 : decode cX12_ring 35 = .ok (.aload_n 0, 1) := q_aload_n0 (bat_get dg_X12_ring_0_0 24 rfl rfl)
theorem dX12_ring_36 : decode cX12_ring 36 = .ok (.getfield 63, 3) := q_getfield (bat_get dg_X12_ring_0_0 25 rfl rfl) rfl
theorem dX12_ring_39 : decode cX12_ring 39 = .ok (.iconst 0, 1) := q_iconst0 (bat_get dg_X12_ring_0_0 26 rfl rfl)
theorem dX12_ring_40 : decode cX12_ring 40 = .ok (.iaload, 1) := q_iaload (bat_get dg_X12_ring_0_0 27 rfl rfl)
theorem dX12_ring_41 : decode cX12_ring 41 = .ok (.sipush 999, 3) := q_sipush (bat_get dg_X12_ring_0_0 28 rfl rfl) rfl
theorem dX12_ring_44 : decode cX12_ring 44 = .ok (.if_icmp .ge 28, 3) := q_if_icmp_ge (bat_get dg_X12_ring_0_0 29 rfl rfl) rfl
theorem dX12_ring_47 : decode cX12_ring 47 = .ok (.aload_n 0, 1) := q_aload_n0 (bat_get dg_X12_ring_0_0 30 rfl rfl)
theorem dX12_ring_48 : decode cX12_ring 48 = .ok (.invokevirtual 432, 3) := q_invokevirtual (bat_get dg_X12_ring_0_0 31 rfl rfl) rfl
theorem dX12_ring_51 : decode cX12_ring 51 = .ok (.ifCond .eq 21, 3) := q_ifCond_eq (bat_get dg_X12_ring_0_0 32 rfl rfl) rfl
theorem dX12_ring_54 : decode cX12_ring 54 = .ok (.aload_n 0, 1) := q_aload_n0 (bat_get dg_X12_ring_0_0 33 rfl rfl)
theorem dX12_ring_55 : decode cX12_ring 55 = .ok (.getfield 63, 3) := q_getfield (bat_get dg_X12_ring_0_0 34 rfl rfl) rfl
theorem dX12_ring_58 : decode cX12_ring 58 = .ok (.iconst 1, 1) := q_iconst1 (bat_get dg_X12_ring_0_0 35 rfl rfl)
theorem dX12_ring_59 : decode cX12_ring 59 = .ok (.iaload, 1) := q_iaload (bat_get dg_X12_ring_0_0 36 rfl rfl)
theorem dX12_ring_60 : decode cX12_ring 60 = .ok (.iload_n 1, 1) := q_iload_n1 (bat_get dg_X12_ring_0_0 37 rfl rfl)
theorem dX12_ring_61 : decode cX12_ring 61 = .ok (.if_icmp .ne 5, 3) := q_if_icmp_ne (bat_get dg_X12_ring_0_0 38 rfl rfl) rfl
theorem dX12_ring_66 : decode cX12_ring 66 = .ok (.iinc 3 1, 3) := q_iinc (bat_get dg_X12_ring_0_0 39 rfl rfl) rfl
theorem dg_X12_ring_7_69 : bqL cX12_ring 7 [(62, [167, 255, 211]), (57, [29]), (58, [61]), (0, [2]), (1, [172])] = true := by decide +kernel
theorem dX12_ring_69 : decode cX12_ring 69 = .ok (.goto (-45), 3) := q_goto (bat_get dg_X12_ring_7_69 0 rfl rfl) rfl
theorem dX12_ring_64 : decode cX12_ring 64 = .ok (.iload_n 3, 1) := q_iload_n3 (bat_get dg_X12_ring_7_69 1 rfl rfl)
theorem dX12_ring_65 : decode cX12_ring 65 = .ok (.istore_n 2, 1) := q_istore_n2 (bat_get dg_X12_ring_7_69 2 rfl rfl)
theorem dX12_ring_7 : decode cX12_ring 7 = .ok (.iconst (-1), 1) := q_iconstm1 (bat_get dg_X12_ring_7_69 3 rfl rfl)
theorem dX12_ring_8 : decode cX12_ring 8 = .ok (.ireturn, 1) := q_ireturn (bat_get dg_X12_ring_7_69 4 rfl rfl)
theorem w_8_32 : (Cond.code yX12_ring cX12_ring 4 (some .int)) ∈ wsL_law := sk_mem (ck_8 _ (List.mem_of_getElem? (i := 32) rfl)) rfl
set_option maxHeartbeats 4000000 in
set_option maxRecDepth 100000 in
theorem c_nm_ring (l : Launch) (D : va_G) (cI cJ cC cZ cS : ClassId) (mm : Nat) (g : Nat → Nat) (ta : Nat) (pa : Nat) (pe : Nat) (pd : Int32) (pb : Nat) (pp : Int32) (pf : Int32) (pg : Int32) (pn : Int32) (rt : Int32) (rn : Int32) (cd : Nat) (sn : Int32) (il : Nat) (tk : Int32) (am : Int32) (at_ : Int32) (aa : Int32) (wt : Int32) (wy : Int64) (rm : Nat) (ud : Nat) (nu : Nat) (sd : Int64) (qn : Nat) (qw : Nat) (qo : Int32) (qb : Nat) (qp : Nat) (qa : Int64) (qi : Nat) (oc : Nat) (u0 : Int32) (u1 : Int32) (u2 : Int32) (u3 : Int32) (u4 : Int32) (u5 : Int32) (v0 : Int32) (v1 : Int32) (v2 : Int32) (v3 : Int32) (v4 : Int32) (v5 : Int32) (cs : Nat → Nat) (nw : Nat → Int32) (pt : Nat → Nat) (ql : Nat → Int64) (l0 : Nat) (l1 : Nat) (dm : Nat) (l3 : Nat) (ws_ : Nat → Int32) (yw : Nat → Int32) (yo : Nat → Int32) (be : Nat → Int64) (bf : Nat → Int64) (az : Nat → Int32) (wn : Nat) (mN : Nat) (Ba : Nat → Nat) (We : Nat → Nat) (U : Nat → Bool) (ke : Nat) (lg : KLg) (L : LkS) (hil : il ≤ 1) (hild : il = 1 → 1 ≤ dm) (hilb : 1 ≤ dm → il = 1) (hdm : dm ≤ 9) (hLk : kcLk L) (hkl : (lK L).length ≤ 1600) (hmw0 : mwO L 0 u3 v3 cs) (hmw1 : mwO L 1 u4 v4 cs) (hB9 : ∀ j, Ba j ≤ 9) (hW9 : ∀ j, We j ≤ 9) (hwk : wn ≤ 999) (hcs : ∀ j, cs j ≤ 20000) (hnw : nwX wn mN Ba We U ke lg nw) (hpt : ∀ j, pt j ≤ 9) : skM l yX12_ring cX12_ring 4 (some .int) 7 162 0 0 D (skT cI cJ cC cZ cS) [.ref mm] [ro_ mm 12 (mo g (nI ta) (nI pa) (nI pe) pd (nI pb) pp pf pg pn rt rn (nI cd) sn (nI il) tk am at_ aa 0 0 (-1) wt wy 0 (nI rm) (nI ud) (nI nu) sd (nI qn) (nI qw) qo (nI qb) (nI qp) qa (nI qi) (nI oc)), ra_I (g 24) cI 6 (l6 u0 u1 u2 u3 u4 u5), ra_I (g 25) cI 6 (l6 v0 v1 v2 v3 v4 v5), ra_N (g 26) cI 3200 cs, ra_I (g 31) cI 120 nw, ra_N (g 46) cI 9 pt, ra_J (g 86) cJ 1700 ql, ra_I (g 20) cI 4 (l4 (nI l0) (nI l1) (nI dm) (nI l3)), ra_I (g 38) cI 90 ws_, ra_I (g 36) cZ 900 yw, ra_I (g 37) cZ 900 yo, ra_J (g 43) cJ 90 be, ra_J (g 44) cJ 90 bf, ra_I (g 32) cI 29 az] (skI D (skT cI cJ cC cZ cS) (fun (r : Int32) (u : va_W) => ∃ (nw2 : Nat → Int32), ∃ (tk2 : Int32), ∃ (qp2 : Nat), ∃ (am2 : Int32), ∃ (at_2 : Int32), ∃ (aa2 : Int32), ∃ (wy2 : Int64), ∃ (pt2 : Nat → Nat), ∃ (ql2 : Nat → Int64), ∃ (ws_2 : Nat → Int32), ∃ (yw2 : Nat → Int32), ∃ (yo2 : Nat → Int32), ∃ (be2 : Nat → Int64), ∃ (bf2 : Nat → Int64), ∃ (az2 : Nat → Int32), nwX wn mN Ba We U ke lg nw2 ∧ (∀ j, pt2 j ≤ 9) ∧ u = [ro_ mm 12 (mo g (nI ta) (nI pa) (nI pe) pd (nI pb) pp pf pg pn rt rn (nI cd) sn (nI il) tk2 am2 at_2 aa2 0 0 (-1) wt wy2 0 (nI rm) (nI ud) (nI nu) sd (nI qn) (nI qw) qo (nI qb) (nI qp2) qa (nI qi) (nI oc)), ra_I (g 24) cI 6 (l6 u0 u1 u2 u3 u4 u5), ra_I (g 25) cI 6 (l6 v0 v1 v2 v3 v4 v5), ra_N (g 26) cI 3200 cs, ra_I (g 31) cI 120 nw2, ra_N (g 46) cI 9 pt2, ra_J (g 86) cJ 1700 ql2, ra_I (g 20) cI 4 (l4 (nI l0) (nI l1) (nI dm) (nI l3)), ra_I (g 38) cI 90 ws_2, ra_I (g 36) cZ 900 yw2, ra_I (g 37) cZ 900 yo2, ra_J (g 43) cJ 90 be2, ra_J (g 44) cJ 90 bf2, ra_I (g 32) cI 29 az2])) := by
  refine skM_of pf_X12_ring (Nat.le_of_ble_eq_true rfl) ?_
  intro p e s m below meth c A ls E hP hD hl
  refine skE_el E (fun hx hb hr hml hlocks hin hown hts hK hA => ?_)
  have hown : s.vm.findClass RX12 = some m.cls := hown
  have hS : va_S A s.heap s.heap [] := va_S.rf
  have hl : lv_has ls 4 [(0, .ref mm)] := hl
  refine lv_aload_n hx hb dX12_ring_0 rfl (lv_at hl 0 rfl) ?_
  refine sk_get (v := .int (nI il)) (C := RX12) (T := TX12) (N := 92) hx hb hts inlX12 hown hK hP 0 rfl rfl 29 (Nat.le_of_ble_eq_true rfl) w_5_184 rfl dX12_ring_1 ?_
  refine lv_if_ne (tgt := 9) hx hb dX12_ring_4 (by decide) (fun c_1 => ?_) (fun c_1 => ?_)
  · have c_1 : ¬ (il = 0) := fun h => c_1 ((neq il 0 (by omega) (Nat.le_of_ble_eq_true rfl)).mpr h)
    refine lv_aload_n hx hb dX12_ring_9 rfl (lv_at hl 0 rfl) ?_
    refine sk_get (v := .ref (g 31)) (C := RX12) (T := TX12) (N := 92) hx hb hts inlX12 hown hK hP 0 rfl rfl 31 (Nat.le_of_ble_eq_true rfl) w_5_186 rfl dX12_ring_10 ?_
    refine lv_iconst (v := 1) hx hb dX12_ring_13 ic_1 ?_
    refine va_iald hx hb hK.1 hP 4 0 rfl rfl (by unfold vp_in; decide) dX12_ring_14 ?_
    refine sk_top (nI mN) (nwX_1 hnw) ?_
    refine lv_istore_n (lv' := [(1, .int (nI mN)), (0, .ref mm)]) hx hb dX12_ring_15 rfl hl (by decide) rfl (fun ls hl => ?_)
    refine lv_iconst (v := (-1)) hx hb dX12_ring_16 (by decide) ?_
    refine lv_istore_n (lv' := [(2, .int (-1)), (1, .int (nI mN)), (0, .ref mm)]) hx hb dX12_ring_17 rfl hl (by decide) rfl (fun ls hl => ?_)
    refine lv_aload_n hx hb dX12_ring_18 rfl (lv_at hl 2 rfl) ?_
    refine sk_Vv (q0 := 0) (n := 0) (rest := []) (wr := fmR om_14_2201 _) ⟨hx, hb, hml, hown, hts⟩ hl.1 (c_nm_putsAside l D cI cJ cC cZ cS mm g ta pa pe pd pb pp pf pg pn rt rn cd sn il tk am at_ aa wt wy rm ud nu sd qn qw qo qb qp qa qi oc nw az wn mN Ba We U ke lg hnw) w_8_9 w_8_11 w_0_91 w_1_14 w_8_12 hd_X12_putsAside_0 ⟨⟨(Nat.le_of_ble_eq_true rfl), (Nat.le_of_ble_eq_true rfl)⟩, (Nat.le_of_ble_eq_true rfl), (Nat.le_of_ble_eq_true rfl)⟩ hK hP hD hS hA (fmT om_14_2201 0) (fmF om_14_2201 0) (fm_C1 rfl rfl) (fm_R rfl rfl) (fm_nT om_14_2201 0) (fm_nF om_14_2201 0) (fm_di om_14_2201 0) rfl rfl rfl rfl (Nat.le_of_ble_eq_true rfl) dX12_ring_19 (fun u H locs hw hP hD hS => ?_)
    refine exE hw (fun az2_2 hw1 => anE hw1 (fun haz2_3 eu_4 => ?_))
    clear hw hw1
    refine o_mgE (ws' := [ro_ mm 12 (mo g (nI ta) (nI pa) (nI pe) pd (nI pb) pp pf pg pn rt rn (nI cd) sn (nI il) tk am at_ aa 0 0 (-1) wt wy 1 (nI rm) (nI ud) (nI nu) sd (nI qn) (nI qw) qo (nI qb) (nI qp) qa (nI qi) (nI oc)), ra_I (g 24) cI 6 (l6 u0 u1 u2 u3 u4 u5), ra_I (g 25) cI 6 (l6 v0 v1 v2 v3 v4 v5), ra_N (g 26) cI 3200 cs, ra_I (g 31) cI 120 nw, ra_N (g 46) cI 9 pt, ra_J (g 86) cJ 1700 ql, ra_I (g 20) cI 4 (l4 (nI l0) (nI l1) (nI dm) (nI l3)), ra_I (g 38) cI 90 ws_, ra_I (g 36) cZ 900 yw, ra_I (g 37) cZ 900 yo, ra_J (g 43) cJ 90 be, ra_J (g 44) cJ 90 bf, ra_I (g 32) cI 29 az2_2]) eu_4 hP hD rfl (fun hP hD => ?_)
    refine lv_iconst (v := 1) hx hb dX12_ring_22 ic_1 ?_
    refine lv_istore_n (lv' := [(3, .int 1), (2, .int (-1)), (1, .int (nI mN)), (0, .ref mm)]) hx hb dX12_ring_23 rfl hl (by decide) rfl (fun ls hl => ?_)
    have lp_5 : ∀ (n_6 : Nat) (i : Nat) (fo : Int32) (zaml : Int32) (zat_l : Int32) (zaal : Int32) (ztkl : Int32) (zqpl : Nat) (zwyl : Int64) (zn : Nat → Int32) (y46l : Nat → Nat) (y86l : Nat → Int64) (y38l : Nat → Int32) (y36l : Nat → Int32) (y37l : Nat → Int32) (y43l : Nat → Int64) (y44l : Nat → Int64) (wv : Nat) (mv : Nat) (H : Heap) (locs : List Loc) (ls : Array Slot), 31 - i < n_6 → (∀ j, y46l j ≤ 9) → (i ≤ 31) → (wv ≤ 999) → (nwX wv mv Ba We U ke lg zn) → va_P D vwCl [ro_ mm 12 (mo g (nI ta) (nI pa) (nI pe) pd (nI pb) pp pf pg pn rt rn (nI cd) sn (nI il) ztkl zaml zat_l zaal 0 0 (-1) wt zwyl 1 (nI rm) (nI ud) (nI nu) sd (nI qn) (nI qw) qo (nI qb) (nI zqpl) qa (nI qi) (nI oc)), ra_I (g 24) cI 6 (l6 u0 u1 u2 u3 u4 u5), ra_I (g 25) cI 6 (l6 v0 v1 v2 v3 v4 v5), ra_N (g 26) cI 3200 cs, ra_I (g 31) cI 120 zn, ra_N (g 46) cI 9 y46l, ra_J (g 86) cJ 1700 y86l, ra_I (g 20) cI 4 (l4 (nI l0) (nI l1) (nI dm) (nI l3)), ra_I (g 38) cI 90 y38l, ra_I (g 36) cZ 900 y36l, ra_I (g 37) cZ 900 y37l, ra_J (g 43) cJ 90 y43l, ra_J (g 44) cJ 90 y44l, ra_I (g 32) cI 29 az2_2] H → va_D A [ro_ mm 12 (mo g (nI ta) (nI pa) (nI pe) pd (nI pb) pp pf pg pn rt rn (nI cd) sn (nI il) ztkl zaml zat_l zaal 0 0 (-1) wt zwyl 1 (nI rm) (nI ud) (nI nu) sd (nI qn) (nI qw) qo (nI qb) (nI zqpl) qa (nI qi) (nI oc)), ra_I (g 24) cI 6 (l6 u0 u1 u2 u3 u4 u5), ra_I (g 25) cI 6 (l6 v0 v1 v2 v3 v4 v5), ra_N (g 26) cI 3200 cs, ra_I (g 31) cI 120 zn, ra_N (g 46) cI 9 y46l, ra_J (g 86) cJ 1700 y86l, ra_I (g 20) cI 4 (l4 (nI l0) (nI l1) (nI dm) (nI l3)), ra_I (g 38) cI 90 y38l, ra_I (g 36) cZ 900 y36l, ra_I (g 37) cZ 900 y37l, ra_J (g 43) cJ 90 y43l, ra_J (g 44) cJ 90 y44l, ra_I (g 32) cI 29 az2_2] → va_S A s.heap H locs → lv_has ls 4 [(3, .int (nI i)), (2, .int fo), (1, .int (nI mN)), (0, .ref mm)] → W p l e { frames := 7, cells := 0, slots := 0, locals := 162 } s m ([.ref mm] : List Value).toArray below meth c H locs 0 0 (MQ below (skI D (skT cI cJ cC cZ cS) (fun (r : Int32) (u : va_W) => ∃ (nw2 : Nat → Int32), ∃ (tk2 : Int32), ∃ (qp2 : Nat), ∃ (am2 : Int32), ∃ (at_2 : Int32), ∃ (aa2 : Int32), ∃ (wy2 : Int64), ∃ (pt2 : Nat → Nat), ∃ (ql2 : Nat → Int64), ∃ (ws_2 : Nat → Int32), ∃ (yw2 : Nat → Int32), ∃ (yo2 : Nat → Int32), ∃ (be2 : Nat → Int64), ∃ (bf2 : Nat → Int64), ∃ (az2 : Nat → Int32), nwX wn mN Ba We U ke lg nw2 ∧ (∀ j, pt2 j ≤ 9) ∧ u = [ro_ mm 12 (mo g (nI ta) (nI pa) (nI pe) pd (nI pb) pp pf pg pn rt rn (nI cd) sn (nI il) tk2 am2 at_2 aa2 0 0 (-1) wt wy2 0 (nI rm) (nI ud) (nI nu) sd (nI qn) (nI qw) qo (nI qb) (nI qp2) qa (nI qi) (nI oc)), ra_I (g 24) cI 6 (l6 u0 u1 u2 u3 u4 u5), ra_I (g 25) cI 6 (l6 v0 v1 v2 v3 v4 v5), ra_N (g 26) cI 3200 cs, ra_I (g 31) cI 120 nw2, ra_N (g 46) cI 9 pt2, ra_J (g 86) cJ 1700 ql2, ra_I (g 20) cI 4 (l4 (nI l0) (nI l1) (nI dm) (nI l3)), ra_I (g 38) cI 90 ws_2, ra_I (g 36) cZ 900 yw2, ra_I (g 37) cZ 900 yo2, ra_J (g 43) cJ 90 be2, ra_J (g 44) cJ 90 bf2, ra_I (g 32) cI 29 az2]) A) ([.ref mm] : List Value).toArray s 0 0 A) (F0 m 24 ls []) := by
      intro n_6
      induction n_6 with
      | zero => intro i fo zaml zat_l zaal ztkl zqpl zwyl zn y46l y86l y38l y36l y37l y43l y44l wv mv H locs ls hm; exact absurd hm (Nat.not_lt_zero _)
      | succ n_6 ih_lp_5 =>
        intro i fo zaml zat_l zaal ztkl zqpl zwyl zn y46l y86l y38l y36l y37l y43l y44l wv mv H locs ls hm hy46l hi hwv hzn hP hD hS hl
        refine lv_iload_n hx hb dX12_ring_24 rfl (lv_at hl 0 rfl) ?_
        refine lv_bipush (v := 30) hx hb dX12_ring_25 (by decide) ?_
        refine lv_icmp_gt (tgt := 72) hx hb dX12_ring_27 (by decide) (fun c_7 => ?_) (fun c_7 => ?_)
        · have c_7 : 30 < i := (nlt 30 i (Nat.le_of_ble_eq_true rfl) (by omega)).mp c_7
          refine lv_aload_n hx hb dX12_ring_72 rfl (lv_at hl 3 rfl) ?_
          refine sk_Vv (q0 := 0) (n := 0) (rest := []) (wr := fmR om_14_2201 _) ⟨hx, hb, hml, hown, hts⟩ hl.1 (c_nm_takesBack l D cI cJ cC cZ cS mm g ta pa pe pd pb pp pf pg pn rt rn cd sn il ztkl zaml zat_l zaal wt zwyl rm ud nu sd qn qw qo qb zqpl qa qi oc zn az2_2 wn mN Ba We U ke lg wv mv Ba We U haz2_3 hzn) w_8_25 w_8_27 w_0_95 w_1_14 w_8_28 hd_X12_takesBack_0 ⟨⟨(Nat.le_of_ble_eq_true rfl), (Nat.le_of_ble_eq_true rfl)⟩, (Nat.le_of_ble_eq_true rfl), (Nat.le_of_ble_eq_true rfl)⟩ hK hP hD hS hA (fmT om_14_2201 0) (fmF om_14_2201 0) (fm_C1 rfl rfl) (fm_R rfl rfl) (fm_nT om_14_2201 0) (fm_nF om_14_2201 0) (fm_di om_14_2201 0) rfl rfl rfl rfl (Nat.le_of_ble_eq_true rfl) dX12_ring_73 (fun u H locs hw hP hD hS => ?_)
          refine exE hw (fun nw2_8 hw1 => anE hw1 (fun hnw2_9 eu_10 => ?_))
          clear hw hw1
          refine o_mgE (ws' := [ro_ mm 12 (mo g (nI ta) (nI pa) (nI pe) pd (nI pb) pp pf pg pn rt rn (nI cd) sn (nI il) ztkl zaml zat_l zaal 0 0 (-1) wt zwyl 0 (nI rm) (nI ud) (nI nu) sd (nI qn) (nI qw) qo (nI qb) (nI zqpl) qa (nI qi) (nI oc)), ra_I (g 24) cI 6 (l6 u0 u1 u2 u3 u4 u5), ra_I (g 25) cI 6 (l6 v0 v1 v2 v3 v4 v5), ra_N (g 26) cI 3200 cs, ra_I (g 31) cI 120 nw2_8, ra_N (g 46) cI 9 y46l, ra_J (g 86) cJ 1700 y86l, ra_I (g 20) cI 4 (l4 (nI l0) (nI l1) (nI dm) (nI l3)), ra_I (g 38) cI 90 y38l, ra_I (g 36) cZ 900 y36l, ra_I (g 37) cZ 900 y37l, ra_J (g 43) cJ 90 y43l, ra_J (g 44) cJ 90 y44l, ra_I (g 32) cI 29 az2_2]) eu_10 hP hD rfl (fun hP hD => ?_)
          refine lv_iload_n hx hb dX12_ring_76 rfl (lv_at hl 1 rfl) ?_
          exact sk_iret hx hb hr rfl hlocks hK hP hD hS (⟨nw2_8, ztkl, zqpl, zaml, zat_l, zaal, zwyl, y46l, y86l, y38l, y36l, y37l, y43l, y44l, az2_2, hnw2_9, hy46l, rfl⟩) (Nat.le_of_ble_eq_true rfl) (Nat.le_of_ble_eq_true rfl) dX12_ring_77
        · have c_7 : ¬ (30 < i) := fun h => c_7 ((nlt 30 i (Nat.le_of_ble_eq_true rfl) (by omega)).mpr h)
          refine lv_iload_n hx hb dX12_ring_30 rfl (lv_at hl 1 rfl) ?_
          refine lv_iconst (v := (-1)) hx hb dX12_ring_31 (by decide) ?_
          refine lv_icmp_ne (tgt := 72) hx hb dX12_ring_32 (by decide) (fun c_11 => ?_) (fun c_11 => ?_)
          · skip
            refine lv_aload_n hx hb dX12_ring_72 rfl (lv_at hl 3 rfl) ?_
            refine sk_Vv (q0 := 0) (n := 0) (rest := []) (wr := fmR om_14_2201 _) ⟨hx, hb, hml, hown, hts⟩ hl.1 (c_nm_takesBack l D cI cJ cC cZ cS mm g ta pa pe pd pb pp pf pg pn rt rn cd sn il ztkl zaml zat_l zaal wt zwyl rm ud nu sd qn qw qo qb zqpl qa qi oc zn az2_2 wn mN Ba We U ke lg wv mv Ba We U haz2_3 hzn) w_8_25 w_8_27 w_0_95 w_1_14 w_8_28 hd_X12_takesBack_0 ⟨⟨(Nat.le_of_ble_eq_true rfl), (Nat.le_of_ble_eq_true rfl)⟩, (Nat.le_of_ble_eq_true rfl), (Nat.le_of_ble_eq_true rfl)⟩ hK hP hD hS hA (fmT om_14_2201 0) (fmF om_14_2201 0) (fm_C1 rfl rfl) (fm_R rfl rfl) (fm_nT om_14_2201 0) (fm_nF om_14_2201 0) (fm_di om_14_2201 0) rfl rfl rfl rfl (Nat.le_of_ble_eq_true rfl) dX12_ring_73 (fun u H locs hw hP hD hS => ?_)
            refine exE hw (fun nw2_12 hw1 => anE hw1 (fun hnw2_13 eu_14 => ?_))
            clear hw hw1
            refine o_mgE (ws' := [ro_ mm 12 (mo g (nI ta) (nI pa) (nI pe) pd (nI pb) pp pf pg pn rt rn (nI cd) sn (nI il) ztkl zaml zat_l zaal 0 0 (-1) wt zwyl 0 (nI rm) (nI ud) (nI nu) sd (nI qn) (nI qw) qo (nI qb) (nI zqpl) qa (nI qi) (nI oc)), ra_I (g 24) cI 6 (l6 u0 u1 u2 u3 u4 u5), ra_I (g 25) cI 6 (l6 v0 v1 v2 v3 v4 v5), ra_N (g 26) cI 3200 cs, ra_I (g 31) cI 120 nw2_12, ra_N (g 46) cI 9 y46l, ra_J (g 86) cJ 1700 y86l, ra_I (g 20) cI 4 (l4 (nI l0) (nI l1) (nI dm) (nI l3)), ra_I (g 38) cI 90 y38l, ra_I (g 36) cZ 900 y36l, ra_I (g 37) cZ 900 y37l, ra_J (g 43) cJ 90 y43l, ra_J (g 44) cJ 90 y44l, ra_I (g 32) cI 29 az2_2]) eu_14 hP hD rfl (fun hP hD => ?_)
            refine lv_iload_n hx hb dX12_ring_76 rfl (lv_at hl 1 rfl) ?_
            exact sk_iret hx hb hr rfl hlocks hK hP hD hS (⟨nw2_12, ztkl, zqpl, zaml, zat_l, zaal, zwyl, y46l, y86l, y38l, y36l, y37l, y43l, y44l, az2_2, hnw2_13, hy46l, rfl⟩) (Nat.le_of_ble_eq_true rfl) (Nat.le_of_ble_eq_true rfl) dX12_ring_77
          · skip
            refine lv_aload_n hx hb dX12_ring_35 rfl (lv_at hl 3 rfl) ?_
            refine sk_get (v := .ref (g 31)) (C := RX12) (T := TX12) (N := 92) hx hb hts inlX12 hown hK hP 0 rfl rfl 31 (Nat.le_of_ble_eq_true rfl) w_5_186 rfl dX12_ring_36 ?_
            refine lv_iconst (v := 0) hx hb dX12_ring_39 ic_0 ?_
            refine va_iald hx hb hK.1 hP 4 0 rfl rfl (by unfold vp_in; decide) dX12_ring_40 ?_
            refine sk_top (nI wv) (nwX_0 hzn) ?_
            refine lv_sipush (v := 999) hx hb dX12_ring_41 (by decide) ?_
            refine lv_icmp_ge (tgt := 72) hx hb dX12_ring_44 (by decide) (fun c_15 => ?_) (fun c_15 => ?_)
            · have c_15 : 999 ≤ wv := (nle 999 wv (Nat.le_of_ble_eq_true rfl) (by omega)).mp c_15
              refine lv_aload_n hx hb dX12_ring_72 rfl (lv_at hl 3 rfl) ?_
              refine sk_Vv (q0 := 0) (n := 0) (rest := []) (wr := fmR om_14_2201 _) ⟨hx, hb, hml, hown, hts⟩ hl.1 (c_nm_takesBack l D cI cJ cC cZ cS mm g ta pa pe pd pb pp pf pg pn rt rn cd sn il ztkl zaml zat_l zaal wt zwyl rm ud nu sd qn qw qo qb zqpl qa qi oc zn az2_2 wn mN Ba We U ke lg wv mv Ba We U haz2_3 hzn) w_8_25 w_8_27 w_0_95 w_1_14 w_8_28 hd_X12_takesBack_0 ⟨⟨(Nat.le_of_ble_eq_true rfl), (Nat.le_of_ble_eq_true rfl)⟩, (Nat.le_of_ble_eq_true rfl), (Nat.le_of_ble_eq_true rfl)⟩ hK hP hD hS hA (fmT om_14_2201 0) (fmF om_14_2201 0) (fm_C1 rfl rfl) (fm_R rfl rfl) (fm_nT om_14_2201 0) (fm_nF om_14_2201 0) (fm_di om_14_2201 0) rfl rfl rfl rfl (Nat.le_of_ble_eq_true rfl) dX12_ring_73 (fun u H locs hw hP hD hS => ?_)
              refine exE hw (fun nw2_16 hw1 => anE hw1 (fun hnw2_17 eu_18 => ?_))
              clear hw hw1
              refine o_mgE (ws' := [ro_ mm 12 (mo g (nI ta) (nI pa) (nI pe) pd (nI pb) pp pf pg pn rt rn (nI cd) sn (nI il) ztkl zaml zat_l zaal 0 0 (-1) wt zwyl 0 (nI rm) (nI ud) (nI nu) sd (nI qn) (nI qw) qo (nI qb) (nI zqpl) qa (nI qi) (nI oc)), ra_I (g 24) cI 6 (l6 u0 u1 u2 u3 u4 u5), ra_I (g 25) cI 6 (l6 v0 v1 v2 v3 v4 v5), ra_N (g 26) cI 3200 cs, ra_I (g 31) cI 120 nw2_16, ra_N (g 46) cI 9 y46l, ra_J (g 86) cJ 1700 y86l, ra_I (g 20) cI 4 (l4 (nI l0) (nI l1) (nI dm) (nI l3)), ra_I (g 38) cI 90 y38l, ra_I (g 36) cZ 900 y36l, ra_I (g 37) cZ 900 y37l, ra_J (g 43) cJ 90 y43l, ra_J (g 44) cJ 90 y44l, ra_I (g 32) cI 29 az2_2]) eu_18 hP hD rfl (fun hP hD => ?_)
              refine lv_iload_n hx hb dX12_ring_76 rfl (lv_at hl 1 rfl) ?_
              exact sk_iret hx hb hr rfl hlocks hK hP hD hS (⟨nw2_16, ztkl, zqpl, zaml, zat_l, zaal, zwyl, y46l, y86l, y38l, y36l, y37l, y43l, y44l, az2_2, hnw2_17, hy46l, rfl⟩) (Nat.le_of_ble_eq_true rfl) (Nat.le_of_ble_eq_true rfl) dX12_ring_77
            · have c_15 : ¬ (999 ≤ wv) := fun h => c_15 ((nle 999 wv (Nat.le_of_ble_eq_true rfl) (by omega)).mpr h)
              refine lv_aload_n hx hb dX12_ring_47 rfl (lv_at hl 3 rfl) ?_
              refine sk_Vi (q0 := 0) (n := 0) (rest := []) (wr := fmR om_14_3ffe _) ⟨hx, hb, hml, hown, hts⟩ hl.1 (c_nm_doGo l D cI cJ cC cZ cS mm g ta pa pe pd pb pp pf pg pn rt rn cd sn il ztkl zaml zat_l zaal wt zwyl rm ud nu sd qn qw qo qb zqpl qa qi oc u0 u1 u2 u3 u4 u5 v0 v1 v2 v3 v4 v5 cs zn y46l y86l l0 l1 dm l3 y38l y36l y37l y43l y44l wv mv Ba We U ke lg L hdm (by omega) hLk hkl hmw0 hmw1 hB9 hW9 hwv hcs hzn hy46l) w_8_13 w_8_15 w_0_92 w_1_14 w_8_16 hd_X12_doGo_0 ⟨⟨(Nat.le_of_ble_eq_true rfl), (Nat.le_of_ble_eq_true rfl)⟩, (Nat.le_of_ble_eq_true rfl), (Nat.le_of_ble_eq_true rfl)⟩ hK hP hD hS hA (fmT om_14_3ffe 0) (fmF om_14_3ffe 0) (fm_C1 rfl rfl) (fm_R rfl rfl) (fm_nT om_14_3ffe 0) (fm_nF om_14_3ffe 0) (fm_di om_14_3ffe 0) rfl rfl rfl rfl (Nat.le_of_ble_eq_true rfl) dX12_ring_48 (fun r_36 u H locs hw hP hD hS => ?_)
              refine exE hw (fun wv2_19 hw1 => exE hw1 (fun mv2_20 hw2 => exE hw2 (fun b_21 hw3 => exE hw3 (fun nw2_22 hw4 => exE hw4 (fun tk2_23 hw5 => exE hw5 (fun qp2_24 hw6 => exE hw6 (fun am2_25 hw7 => exE hw7 (fun at_2_26 hw8 => exE hw8 (fun aa2_27 hw9 => exE hw9 (fun wy2_28 hw10 => exE hw10 (fun pt2_29 hw11 => exE hw11 (fun ql2_30 hw12 => exE hw12 (fun ws_2_31 hw13 => exE hw13 (fun yw2_32 hw14 => exE hw14 (fun yo2_33 hw15 => exE hw15 (fun be2_34 hw16 => exE hw16 (fun bf2_35 hw17 => anE hw17 (fun hnw2_37 hw18 => anE hw18 (fun hdg_38 hw19 => anE hw19 (fun hpt2_39 hw20 => anE hw20 (fun er_41 eu_40 => ?_)))))))))))))))))))))
              clear hw hw1 hw2 hw3 hw4 hw5 hw6 hw7 hw8 hw9 hw10 hw11 hw12 hw13 hw14 hw15 hw16 hw17 hw18 hw19 hw20
              subst er_41
              refine o_mgE (ws' := [ro_ mm 12 (mo g (nI ta) (nI pa) (nI pe) pd (nI pb) pp pf pg pn rt rn (nI cd) sn (nI il) tk2_23 am2_25 at_2_26 aa2_27 0 0 (-1) wt wy2_28 1 (nI rm) (nI ud) (nI nu) sd (nI qn) (nI qw) qo (nI qb) (nI qp2_24) qa (nI qi) (nI oc)), ra_I (g 24) cI 6 (l6 u0 u1 u2 u3 u4 u5), ra_I (g 25) cI 6 (l6 v0 v1 v2 v3 v4 v5), ra_N (g 26) cI 3200 cs, ra_I (g 31) cI 120 nw2_22, ra_N (g 46) cI 9 pt2_29, ra_J (g 86) cJ 1700 ql2_30, ra_I (g 20) cI 4 (l4 (nI l0) (nI l1) (nI dm) (nI l3)), ra_I (g 38) cI 90 ws_2_31, ra_I (g 36) cZ 900 yw2_32, ra_I (g 37) cZ 900 yo2_33, ra_J (g 43) cJ 90 be2_34, ra_J (g 44) cJ 90 bf2_35, ra_I (g 32) cI 29 az2_2]) eu_40 hP hD rfl (fun hP hD => ?_)
              have hm_42 := hnw2_37.1
              have hm_43 := hnw.1
              refine lv_if_eq (tgt := 72) hx hb dX12_ring_51 (by decide) (fun c_44 => ?_) (fun c_44 => ?_)
              · have c_44 : b_21 = 0 := (neq b_21 0 (by omega) (Nat.le_of_ble_eq_true rfl)).mp c_44
                refine lv_aload_n hx hb dX12_ring_72 rfl (lv_at hl 3 rfl) ?_
                refine sk_Vv (q0 := 0) (n := 0) (rest := []) (wr := fmR om_14_2201 _) ⟨hx, hb, hml, hown, hts⟩ hl.1 (c_nm_takesBack l D cI cJ cC cZ cS mm g ta pa pe pd pb pp pf pg pn rt rn cd sn il tk2_23 am2_25 at_2_26 aa2_27 wt wy2_28 rm ud nu sd qn qw qo qb qp2_24 qa qi oc nw2_22 az2_2 wn mN Ba We U ke lg wv2_19 mv2_20 Ba We U haz2_3 hnw2_37) w_8_25 w_8_27 w_0_95 w_1_14 w_8_28 hd_X12_takesBack_0 ⟨⟨(Nat.le_of_ble_eq_true rfl), (Nat.le_of_ble_eq_true rfl)⟩, (Nat.le_of_ble_eq_true rfl), (Nat.le_of_ble_eq_true rfl)⟩ hK hP hD hS hA (fmT om_14_2201 0) (fmF om_14_2201 0) (fm_C1 rfl rfl) (fm_R rfl rfl) (fm_nT om_14_2201 0) (fm_nF om_14_2201 0) (fm_di om_14_2201 0) rfl rfl rfl rfl (Nat.le_of_ble_eq_true rfl) dX12_ring_73 (fun u H locs hw hP hD hS => ?_)
                refine exE hw (fun nw2_45 hw1 => anE hw1 (fun hnw2_46 eu_47 => ?_))
                clear hw hw1
                refine o_mgE (ws' := [ro_ mm 12 (mo g (nI ta) (nI pa) (nI pe) pd (nI pb) pp pf pg pn rt rn (nI cd) sn (nI il) tk2_23 am2_25 at_2_26 aa2_27 0 0 (-1) wt wy2_28 0 (nI rm) (nI ud) (nI nu) sd (nI qn) (nI qw) qo (nI qb) (nI qp2_24) qa (nI qi) (nI oc)), ra_I (g 24) cI 6 (l6 u0 u1 u2 u3 u4 u5), ra_I (g 25) cI 6 (l6 v0 v1 v2 v3 v4 v5), ra_N (g 26) cI 3200 cs, ra_I (g 31) cI 120 nw2_45, ra_N (g 46) cI 9 pt2_29, ra_J (g 86) cJ 1700 ql2_30, ra_I (g 20) cI 4 (l4 (nI l0) (nI l1) (nI dm) (nI l3)), ra_I (g 38) cI 90 ws_2_31, ra_I (g 36) cZ 900 yw2_32, ra_I (g 37) cZ 900 yo2_33, ra_J (g 43) cJ 90 be2_34, ra_J (g 44) cJ 90 bf2_35, ra_I (g 32) cI 29 az2_2]) eu_47 hP hD rfl (fun hP hD => ?_)
                refine lv_iload_n hx hb dX12_ring_76 rfl (lv_at hl 1 rfl) ?_
                exact sk_iret hx hb hr rfl hlocks hK hP hD hS (⟨nw2_45, tk2_23, qp2_24, am2_25, at_2_26, aa2_27, wy2_28, pt2_29, ql2_30, ws_2_31, yw2_32, yo2_33, be2_34, bf2_35, az2_2, hnw2_46, hpt2_39, rfl⟩) (Nat.le_of_ble_eq_true rfl) (Nat.le_of_ble_eq_true rfl) dX12_ring_77
              · have c_44 : ¬ (b_21 = 0) := fun h => c_44 ((neq b_21 0 (by omega) (Nat.le_of_ble_eq_true rfl)).mpr h)
                refine lv_aload_n hx hb dX12_ring_54 rfl (lv_at hl 3 rfl) ?_
                refine sk_get (v := .ref (g 31)) (C := RX12) (T := TX12) (N := 92) hx hb hts inlX12 hown hK hP 0 rfl rfl 31 (Nat.le_of_ble_eq_true rfl) w_5_186 rfl dX12_ring_55 ?_
                refine lv_iconst (v := 1) hx hb dX12_ring_58 ic_1 ?_
                refine va_iald hx hb hK.1 hP 4 0 rfl rfl (by unfold vp_in; decide) dX12_ring_59 ?_
                refine sk_top (nI mv2_20) (nwX_1 hnw2_37) ?_
                refine lv_iload_n hx hb dX12_ring_60 rfl (lv_at hl 2 rfl) ?_
                refine lv_icmp_ne (tgt := 66) hx hb dX12_ring_61 (by decide) (fun c_48 => ?_) (fun c_48 => ?_)
                · have c_48 : ¬ (mv2_20 = mN) := fun h => c_48 ((neq mv2_20 mN (by omega) (by omega)).mpr h)
                  refine lv_iinc (v := nI (i + 1)) (lv' := [(3, .int (nI (i + 1))), (2, .int fo), (1, .int (nI mN)), (0, .ref mm)]) hx hb dX12_ring_66 hl (k := 0) rfl (ninc i 1 (by decide)) (by decide) rfl (fun ls hl => ?_)
                  refine lv_goto (tgt := 24) hx hb dX12_ring_69 (by decide) ?_
                  exact ih_lp_5 (i + 1) fo am2_25 at_2_26 aa2_27 tk2_23 qp2_24 wy2_28 nw2_22 pt2_29 ql2_30 ws_2_31 yw2_32 yo2_33 be2_34 bf2_35 wv2_19 mv2_20 _ _ _ (by omega) hpt2_39 (by omega) (by omega) hnw2_37 hP hD hS (lv_sub hl [0, 1, 2, 3] rfl)
                · have c_48 : mv2_20 = mN := (neq mv2_20 mN (by omega) (by omega)).mp c_48
                  refine lv_iload_n hx hb dX12_ring_64 rfl (lv_at hl 0 rfl) ?_
                  refine lv_istore_n (lv' := [(2, .int (nI i)), (3, .int (nI i)), (1, .int (nI mN)), (0, .ref mm)]) hx hb dX12_ring_65 rfl hl (by decide) rfl (fun ls hl => ?_)
                  refine lv_iinc (v := nI (i + 1)) (lv' := [(3, .int (nI (i + 1))), (2, .int (nI i)), (1, .int (nI mN)), (0, .ref mm)]) hx hb dX12_ring_66 hl (k := 1) rfl (ninc i 1 (by decide)) (by decide) rfl (fun ls hl => ?_)
                  refine lv_goto (tgt := 24) hx hb dX12_ring_69 (by decide) ?_
                  exact ih_lp_5 (i + 1) (nI i) am2_25 at_2_26 aa2_27 tk2_23 qp2_24 wy2_28 nw2_22 pt2_29 ql2_30 ws_2_31 yw2_32 yo2_33 be2_34 bf2_35 wv2_19 mv2_20 _ _ _ (by omega) hpt2_39 (by omega) (by omega) hnw2_37 hP hD hS (lv_sub hl [0, 1, 2, 3] rfl)
    exact lp_5 (31 - 1 + 1) 1 (-1) am at_ aa tk qp wy nw pt ql ws_ yw yo be bf wn mN _ _ _ (Nat.lt_succ_self _) hpt (by omega) (by omega) hnw hP hD hS (lv_sub hl [0, 1, 2, 3] rfl)
  · have c_1 : il = 0 := (neq il 0 (by omega) (Nat.le_of_ble_eq_true rfl)).mp c_1
    refine lv_iconst (v := (-1)) hx hb dX12_ring_7 (by decide) ?_
    exact sk_iret hx hb hr rfl hlocks hK hP hD hS (⟨nw, tk, qp, am, at_, aa, wy, pt, ql, ws_, yw, yo, be, bf, az, hnw, hpt, rfl⟩) (Nat.le_of_ble_eq_true rfl) (Nat.le_of_ble_eq_true rfl) dX12_ring_8
theorem dg_X12_frees_0_0 : bqL cX12_frees 0 [(0, [42]), (1, [27]), (2, [182, 1, 157]), (5, [153, 0, 13]), (18, [2]), (19, [172]), (8, [28]), (9, [133]), (10, [9]), (11, [10]), (12, [184, 0, 238]), (15, [154, 0, 5]), (20, [5]), (21, [6]), (22, [27]), (23, [104]), (24, [96]), (25, [28]), (26, [96]), (27, [62]), (28, [42]), (29, [180, 0, 63]), (32, [29]), (33, [46]), (34, [54, 4]), (36, [2]), (37, [54, 5]), (39, [9]), (40, [55, 6]), (42, [3]), (43, [54, 8]), (45, [21, 8]), (47, [16, 10]), (49, [162, 0, 50]), (99, [42]), (100, [180, 0, 63]), (103, [29]), (104, [21, 4]), (106, [79]), (107, [21, 5])] = true := by decide +kernel
theorem dX12_frees_0 : decode cX12_frees 0 = .ok (.aload_n 0, 1) := q_aload_n0 (bat_get dg_X12_frees_0_0 0 rfl rfl)
theorem dX12_frees_1 : decode cX12_frees 1 = .ok (.iload_n 1, 1) := q_iload_n1 (bat_get dg_X12_frees_0_0 1 rfl rfl)
theorem dX12_frees_2 : decode cX12_frees 2 = .ok (.invokevirtual 413, 3) := q_invokevirtual (bat_get dg_X12_frees_0_0 2 rfl rfl) rfl
theorem dX12_frees_5 : decode cX12_frees 5 = .ok (.ifCond .eq 13, 3) := q_ifCond_eq (bat_get dg_X12_frees_0_0 3 rfl rfl) rfl
theorem dX12_frees_18 : decode cX12_frees 18 = .ok (.iconst (-1), 1) := q_iconstm1 (bat_get dg_X12_frees_0_0 4 rfl rfl)
theorem dX12_frees_19 : decode cX12_frees 19 = .ok (.ireturn, 1) := q_ireturn (bat_get dg_X12_frees_0_0 5 rfl rfl)
theorem dX12_frees_8 : decode cX12_frees 8 = .ok (.iload_n 2, 1) := q_iload_n2 (bat_get dg_X12_frees_0_0 6 rfl rfl)
theorem dX12_frees_9 : decode cX12_frees 9 = .ok (.i2l, 1) := q_i2l (bat_get dg_X12_frees_0_0 7 rfl rfl)
theorem dX12_frees_10 : decode cX12_frees 10 = .ok (.lconst 0, 1) := q_lconst0 (bat_get dg_X12_frees_0_0 8 rfl rfl)
theorem dX12_frees_11 : decode cX12_frees 11 = .ok (.lconst 1, 1) := q_lconst1 (bat_get dg_X12_frees_0_0 9 rfl rfl)
theorem dX12_frees_12 : decode cX12_frees 12 = .ok (.invokestatic 238, 3) := q_invokestatic (bat_get dg_X12_frees_0_0 10 rfl rfl) rfl
theorem dX12_frees_15 : decode cX12_frees 15 = .ok (.ifCond .ne 5, 3) := q_ifCond_ne (bat_get dg_X12_frees_0_0 11 rfl rfl) rfl
theorem dX12_frees_20 : decode cX12_frees 20 = .ok (.iconst 2, 1) := q_iconst2 (bat_get dg_X12_frees_0_0 12 rfl rfl)
theorem dX12_frees_21 : decode cX12_frees 21 = .ok (.iconst 3, 1) := q_iconst3 (bat_get dg_X12_frees_0_0 13 rfl rfl)
theorem dX12_frees_22 : decode cX12_frees 22 = .ok (.iload_n 1, 1) := q_iload_n1 (bat_get dg_X12_frees_0_0 14 rfl rfl)
theorem dX12_frees_23 : decode cX12_frees 23 = .ok (.imul, 1) := q_imul (bat_get dg_X12_frees_0_0 15 rfl rfl)
theorem dX12_frees_24 : decode cX12_frees 24 = .ok (.iadd, 1) := q_iadd (bat_get dg_X12_frees_0_0 16 rfl rfl)
theorem dX12_frees_25 : decode cX12_frees 25 = .ok (.iload_n 2, 1) := q_iload_n2 (bat_get dg_X12_frees_0_0 17 rfl rfl)
theorem dX12_frees_26 : decode cX12_frees 26 = .ok (.iadd, 1) := q_iadd (bat_get dg_X12_frees_0_0 18 rfl rfl)
theorem dX12_frees_27 : decode cX12_frees 27 = .ok (.istore_n 3, 1) := q_istore_n3 (bat_get dg_X12_frees_0_0 19 rfl rfl)
theorem dX12_frees_28 : decode cX12_frees 28 = .ok (.aload_n 0, 1) := q_aload_n0 (bat_get dg_X12_frees_0_0 20 rfl rfl)
theorem dX12_frees_29 : decode cX12_frees 29 = .ok (.getfield 63, 3) := q_getfield (bat_get dg_X12_frees_0_0 21 rfl rfl) rfl
theorem dX12_frees_32 : decode cX12_frees 32 = .ok (.iload_n 3, 1) := q_iload_n3 (bat_get dg_X12_frees_0_0 22 rfl rfl)
theorem dX12_frees_33 : decode cX12_frees 33 = .ok (.iaload, 1) := q_iaload (bat_get dg_X12_frees_0_0 23 rfl rfl)
theorem dX12_frees_34 : decode cX12_frees 34 = .ok (.istore 4, 2) := q_istore (bat_get dg_X12_frees_0_0 24 rfl rfl)
theorem dX12_frees_36 : decode cX12_frees 36 = .ok (.iconst (-1), 1) := q_iconstm1 (bat_get dg_X12_frees_0_0 25 rfl rfl)
theorem dX12_frees_37 : decode cX12_frees 37 = .ok (.istore 5, 2) := q_istore (bat_get dg_X12_frees_0_0 26 rfl rfl)
theorem dX12_frees_39 : decode cX12_frees 39 = .ok (.lconst 0, 1) := q_lconst0 (bat_get dg_X12_frees_0_0 27 rfl rfl)
theorem dX12_frees_40 : decode cX12_frees 40 = .ok (.lstore 6, 2) := q_lstore (bat_get dg_X12_frees_0_0 28 rfl rfl)
theorem dX12_frees_42 : decode cX12_frees 42 = .ok (.iconst 0, 1) := q_iconst0 (bat_get dg_X12_frees_0_0 29 rfl rfl)
theorem dX12_frees_43 : decode cX12_frees 43 = .ok (.istore 8, 2) := q_istore (bat_get dg_X12_frees_0_0 30 rfl rfl)
theorem dX12_frees_45 : decode cX12_frees 45 = .ok (.iload 8, 2) := q_iload (bat_get dg_X12_frees_0_0 31 rfl rfl)
theorem dX12_frees_47 : decode cX12_frees 47 = .ok (.bipush 10, 2) := q_bipush (bat_get dg_X12_frees_0_0 32 rfl rfl) rfl
theorem dX12_frees_49 : decode cX12_frees 49 = .ok (.if_icmp .ge 50, 3) := q_if_icmp_ge (bat_get dg_X12_frees_0_0 33 rfl rfl) rfl
theorem dX12_frees_99 : decode cX12_frees 99 = .ok (.aload_n 0, 1) := q_aload_n0 (bat_get dg_X12_frees_0_0 34 rfl rfl)
theorem dX12_frees_100 : decode cX12_frees 100 = .ok (.getfield 63, 3) := q_getfield (bat_get dg_X12_frees_0_0 35 rfl rfl) rfl
theorem dX12_frees_103 : decode cX12_frees 103 = .ok (.iload_n 3, 1) := q_iload_n3 (bat_get dg_X12_frees_0_0 36 rfl rfl)
theorem dX12_frees_104 : decode cX12_frees 104 = .ok (.iload 4, 2) := q_iload (bat_get dg_X12_frees_0_0 37 rfl rfl)
theorem dX12_frees_106 : decode cX12_frees 106 = .ok (.iastore, 1) := q_iastore (bat_get dg_X12_frees_0_0 38 rfl rfl)
theorem dX12_frees_107 : decode cX12_frees 107 = .ok (.iload 5, 2) := q_iload (bat_get dg_X12_frees_0_0 39 rfl rfl)
theorem dg_X12_frees_52_109 : bqL cX12_frees 52 [(57, [172]), (0, [42]), (1, [180, 0, 63]), (4, [29]), (5, [21, 8]), (7, [79]), (8, [42]), (9, [182, 1, 144]), (12, [21, 5]), (14, [2]), (15, [159, 0, 16]), (31, [21, 8]), (33, [54, 5]), (35, [42]), (36, [180, 1, 126]), (39, [55, 6]), (41, [132, 8, 1]), (44, [167, 255, 205]), (18, [42]), (19, [180, 1, 126]), (22, [22, 6]), (24, [148]), (25, [157, 0, 6]), (28, [167, 0, 13])] = true := by decide +kernel
theorem dX12_frees_109 : decode cX12_frees 109 = .ok (.ireturn, 1) := q_ireturn (bat_get dg_X12_frees_52_109 0 rfl rfl)
theorem dX12_frees_52 : decode cX12_frees 52 = .ok (.aload_n 0, 1) := q_aload_n0 (bat_get dg_X12_frees_52_109 1 rfl rfl)
theorem dX12_frees_53 : decode cX12_frees 53 = .ok (.getfield 63, 3) := q_getfield (bat_get dg_X12_frees_52_109 2 rfl rfl) rfl
theorem dX12_frees_56 : decode cX12_frees 56 = .ok (.iload_n 3, 1) := q_iload_n3 (bat_get dg_X12_frees_52_109 3 rfl rfl)
theorem dX12_frees_57 : decode cX12_frees 57 = .ok (.iload 8, 2) := q_iload (bat_get dg_X12_frees_52_109 4 rfl rfl)
theorem dX12_frees_59 : decode cX12_frees 59 = .ok (.iastore, 1) := q_iastore (bat_get dg_X12_frees_52_109 5 rfl rfl)
theorem dX12_frees_60 : decode cX12_frees 60 = .ok (.aload_n 0, 1) := q_aload_n0 (bat_get dg_X12_frees_52_109 6 rfl rfl)
theorem dX12_frees_61 : decode cX12_frees 61 = .ok (.invokevirtual 400, 3) := q_invokevirtual (bat_get dg_X12_frees_52_109 7 rfl rfl) rfl
theorem dX12_frees_64 : decode cX12_frees 64 = .ok (.iload 5, 2) := q_iload (bat_get dg_X12_frees_52_109 8 rfl rfl)
theorem dX12_frees_66 : decode cX12_frees 66 = .ok (.iconst (-1), 1) := q_iconstm1 (bat_get dg_X12_frees_52_109 9 rfl rfl)
theorem dX12_frees_67 : decode cX12_frees 67 = .ok (.if_icmp .eq 16, 3) := q_if_icmp_eq (bat_get dg_X12_frees_52_109 10 rfl rfl) rfl
theorem dX12_frees_83 : decode cX12_frees 83 = .ok (.iload 8, 2) := q_iload (bat_get dg_X12_frees_52_109 11 rfl rfl)
theorem dX12_frees_85 : decode cX12_frees 85 = .ok (.istore 5, 2) := q_istore (bat_get dg_X12_frees_52_109 12 rfl rfl)
theorem dX12_frees_87 : decode cX12_frees 87 = .ok (.aload_n 0, 1) := q_aload_n0 (bat_get dg_X12_frees_52_109 13 rfl rfl)
theorem dX12_frees_88 : decode cX12_frees 88 = .ok (.getfield 382, 3) := q_getfield (bat_get dg_X12_frees_52_109 14 rfl rfl) rfl
theorem dX12_frees_91 : decode cX12_frees 91 = .ok (.lstore 6, 2) := q_lstore (bat_get dg_X12_frees_52_109 15 rfl rfl)
theorem dX12_frees_93 : decode cX12_frees 93 = .ok (.iinc 8 1, 3) := q_iinc (bat_get dg_X12_frees_52_109 16 rfl rfl) rfl
theorem dX12_frees_96 : decode cX12_frees 96 = .ok (.goto (-51), 3) := q_goto (bat_get dg_X12_frees_52_109 17 rfl rfl) rfl
theorem dX12_frees_70 : decode cX12_frees 70 = .ok (.aload_n 0, 1) := q_aload_n0 (bat_get dg_X12_frees_52_109 18 rfl rfl)
theorem dX12_frees_71 : decode cX12_frees 71 = .ok (.getfield 382, 3) := q_getfield (bat_get dg_X12_frees_52_109 19 rfl rfl) rfl
theorem dX12_frees_74 : decode cX12_frees 74 = .ok (.lload 6, 2) := q_lload (bat_get dg_X12_frees_52_109 20 rfl rfl)
theorem dX12_frees_76 : decode cX12_frees 76 = .ok (.lcmp, 1) := q_lcmp (bat_get dg_X12_frees_52_109 21 rfl rfl)
theorem dX12_frees_77 : decode cX12_frees 77 = .ok (.ifCond .gt 6, 3) := q_ifCond_gt (bat_get dg_X12_frees_52_109 22 rfl rfl) rfl
theorem dX12_frees_80 : decode cX12_frees 80 = .ok (.goto 13, 3) := q_goto (bat_get dg_X12_frees_52_109 23 rfl rfl) rfl
theorem w_8_36 : (Cond.code yX12_frees cX12_frees 9 (some .int)) ∈ wsL_law := sk_mem (ck_8 _ (List.mem_of_getElem? (i := 36) rfl)) rfl
set_option maxHeartbeats 4000000 in
set_option maxRecDepth 100000 in
theorem c_nm_frees (l : Launch) (D : va_G) (cI cJ cC cZ cS : ClassId) (mm : Nat) (g : Nat → Nat) (ta : Nat) (pa : Nat) (pe : Nat) (pd : Int32) (pb : Nat) (pp : Int32) (pf : Int32) (pg : Int32) (pn : Int32) (rt : Int32) (rn : Int32) (cd : Nat) (sn : Int32) (il : Nat) (tk : Int32) (am : Int32) (at_ : Int32) (aa : Int32) (wt : Int32) (wy : Int64) (rm : Nat) (ud : Nat) (nu : Nat) (sd : Int64) (qn : Nat) (qw : Nat) (qo : Int32) (qb : Nat) (qp : Nat) (qa : Int64) (qi : Nat) (oc : Nat) (d : Int32) (w : Int32) (u0 : Int32) (u1 : Int32) (u2 : Int32) (u3 : Int32) (u4 : Int32) (u5 : Int32) (v0 : Int32) (v1 : Int32) (v2 : Int32) (v3 : Int32) (v4 : Int32) (v5 : Int32) (cs : Nat → Nat) (nw : Nat → Int32) (pt : Nat → Nat) (ql : Nat → Int64) (l0 : Nat) (l1 : Nat) (dm : Nat) (l3 : Nat) (ws_ : Nat → Int32) (yw : Nat → Int32) (yo : Nat → Int32) (be : Nat → Int64) (bf : Nat → Int64) (wn : Nat) (mN : Nat) (Ba : Nat → Nat) (We : Nat → Nat) (U : Nat → Bool) (ke : Nat) (lg : KLg) (L : LkS) (hil : il ≤ 1) (hild : il = 1 → 1 ≤ dm) (hilb : 1 ≤ dm → il = 1) (hdm : dm ≤ 9) (hLk : kcLk L) (hkl : (lK L).length ≤ 1600) (hmw0 : mwO L 0 u3 v3 cs) (hmw1 : mwO L 1 u4 v4 cs) (hB9 : ∀ j, Ba j ≤ 9) (hW9 : ∀ j, We j ≤ 9) (hwk : wn ≤ 999) (hcs : ∀ j, cs j ≤ 20000) (hnw : nwX wn mN Ba We U ke lg nw) (hpt : ∀ j, pt j ≤ 9) : skM l yX12_frees cX12_frees 9 (some .int) 6 142 0 0 D (skT cI cJ cC cZ cS) [.ref mm, .int d, .int w] [ro_ mm 12 (mo g (nI ta) (nI pa) (nI pe) pd (nI pb) pp pf pg pn rt rn (nI cd) sn (nI il) tk am at_ aa 0 0 (-1) wt wy 0 (nI rm) (nI ud) (nI nu) sd (nI qn) (nI qw) qo (nI qb) (nI qp) qa (nI qi) (nI oc)), ra_I (g 24) cI 6 (l6 u0 u1 u2 u3 u4 u5), ra_I (g 25) cI 6 (l6 v0 v1 v2 v3 v4 v5), ra_N (g 26) cI 3200 cs, ra_I (g 31) cI 120 nw, ra_N (g 46) cI 9 pt, ra_J (g 86) cJ 1700 ql, ra_I (g 20) cI 4 (l4 (nI l0) (nI l1) (nI dm) (nI l3)), ra_I (g 38) cI 90 ws_, ra_I (g 36) cZ 900 yw, ra_I (g 37) cZ 900 yo, ra_J (g 43) cJ 90 be, ra_J (g 44) cJ 90 bf] (skI D (skT cI cJ cC cZ cS) (fun (r : Int32) (u : va_W) => ∃ (nw2 : Nat → Int32), ∃ (tk2 : Int32), ∃ (qp2 : Nat), ∃ (am2 : Int32), ∃ (at_2 : Int32), ∃ (aa2 : Int32), ∃ (wy2 : Int64), ∃ (ql2 : Nat → Int64), ∃ (ws_2 : Nat → Int32), ∃ (yw2 : Nat → Int32), ∃ (yo2 : Nat → Int32), ∃ (be2 : Nat → Int64), ∃ (bf2 : Nat → Int64), nwX wn mN Ba We U ke lg nw2 ∧ u = [ro_ mm 12 (mo g (nI ta) (nI pa) (nI pe) pd (nI pb) pp pf pg pn rt rn (nI cd) sn (nI il) tk2 am2 at_2 aa2 0 0 (-1) wt wy2 0 (nI rm) (nI ud) (nI nu) sd (nI qn) (nI qw) qo (nI qb) (nI qp2) qa (nI qi) (nI oc)), ra_I (g 24) cI 6 (l6 u0 u1 u2 u3 u4 u5), ra_I (g 25) cI 6 (l6 v0 v1 v2 v3 v4 v5), ra_N (g 26) cI 3200 cs, ra_I (g 31) cI 120 nw2, ra_N (g 46) cI 9 pt, ra_J (g 86) cJ 1700 ql2, ra_I (g 20) cI 4 (l4 (nI l0) (nI l1) (nI dm) (nI l3)), ra_I (g 38) cI 90 ws_2, ra_I (g 36) cZ 900 yw2, ra_I (g 37) cZ 900 yo2, ra_J (g 43) cJ 90 be2, ra_J (g 44) cJ 90 bf2])) := by
  refine skM_of pf_X12_frees (Nat.le_of_ble_eq_true rfl) ?_
  intro p e s m below meth c A ls E hP hD hl
  refine skE_el E (fun hx hb hr hml hlocks hin hown hts hK hA => ?_)
  have hown : s.vm.findClass RX12 = some m.cls := hown
  have hS : va_S A s.heap s.heap [] := va_S.rf
  have hl : lv_has ls 9 [(0, .ref mm), (1, .int d), (2, .int w)] := hl
  refine lv_aload_n hx hb dX12_frees_0 rfl (lv_at hl 0 rfl) ?_
  refine lv_iload_n hx hb dX12_frees_1 rfl (lv_at hl 1 rfl) ?_
  refine sk_Vi (q0 := 0) (n := 1) (rest := []) (wr := fmR om_13_1020 _) ⟨hx, hb, hml, hown, hts⟩ hl.1 (c_nm_isDay l D cI cJ cC cZ cS mm g ta pa pe pd pb pp pf pg pn rt rn cd sn il tk am at_ aa wt wy rm ud nu sd qn qw qo qb qp qa qi oc d l0 l1 dm l3 hdm) w_7_117 w_7_119 w_0_72 w_1_14 w_7_120 hd_X12_isDay_1 ⟨⟨(Nat.le_of_ble_eq_true rfl), (Nat.le_of_ble_eq_true rfl)⟩, (Nat.le_of_ble_eq_true rfl), (Nat.le_of_ble_eq_true rfl)⟩ hK hP hD hS hA (fmT om_13_1020 0) (fmF om_13_1020 0) (fm_C1 rfl rfl) (fm_R rfl rfl) (fm_nT om_13_1020 0) (fm_nF om_13_1020 0) (fm_di om_13_1020 0) rfl rfl rfl rfl (Nat.le_of_ble_eq_true rfl) dX12_frees_2 (fun r_2 u H locs hw hP hD hS => ?_)
  refine exE hw (fun b_1 hw1 => anE hw1 (fun hb1_3 hw2 => anE hw2 (fun er_5 eu_4 => ?_)))
  clear hw hw1 hw2
  subst er_5
  refine o_mgE (ws' := [ro_ mm 12 (mo g (nI ta) (nI pa) (nI pe) pd (nI pb) pp pf pg pn rt rn (nI cd) sn (nI il) tk am at_ aa 0 0 (-1) wt wy 0 (nI rm) (nI ud) (nI nu) sd (nI qn) (nI qw) qo (nI qb) (nI qp) qa (nI qi) (nI oc)), ra_I (g 24) cI 6 (l6 u0 u1 u2 u3 u4 u5), ra_I (g 25) cI 6 (l6 v0 v1 v2 v3 v4 v5), ra_N (g 26) cI 3200 cs, ra_I (g 31) cI 120 nw, ra_N (g 46) cI 9 pt, ra_J (g 86) cJ 1700 ql, ra_I (g 20) cI 4 (l4 (nI l0) (nI l1) (nI dm) (nI l3)), ra_I (g 38) cI 90 ws_, ra_I (g 36) cZ 900 yw, ra_I (g 37) cZ 900 yo, ra_J (g 43) cJ 90 be, ra_J (g 44) cJ 90 bf]) eu_4 hP hD rfl (fun hP hD => ?_)
  refine lv_if_eq (tgt := 18) hx hb dX12_frees_5 (by decide) (fun c_6 => ?_) (fun c_6 => ?_)
  · have c_6 : b_1 = 0 := (neq b_1 0 (by omega) (Nat.le_of_ble_eq_true rfl)).mp c_6
    refine lv_iconst (v := (-1)) hx hb dX12_frees_18 (by decide) ?_
    exact sk_iret hx hb hr rfl hlocks hK hP hD hS (⟨nw, tk, qp, am, at_, aa, wy, ql, ws_, yw, yo, be, bf, hnw, rfl⟩) (Nat.le_of_ble_eq_true rfl) (Nat.le_of_ble_eq_true rfl) dX12_frees_19
  · have c_6 : ¬ (b_1 = 0) := fun h => c_6 ((neq b_1 0 (by omega) (Nat.le_of_ble_eq_true rfl)).mpr h)
    obtain ⟨kd_7, hkd_7, rfl⟩ := rr_1 hb1_3 (by omega)
    refine lv_iload_n hx hb dX12_frees_8 rfl (lv_at hl 2 rfl) ?_
    refine lv_i2l hx hb dX12_frees_9 rfl ?_
    refine lv_lconst (v := 0) hx hb dX12_frees_10 (by decide) ?_
    refine lv_lconst (v := 1) hx hb dX12_frees_11 (by decide) ?_
    refine sk_Si (n := 3) (rest := []) (wr := [ro_ mm 12 (mo g (nI ta) (nI pa) (nI pe) pd (nI pb) pp pf pg pn rt rn (nI cd) sn (nI il) tk am at_ aa 0 0 (-1) wt wy 0 (nI rm) (nI ud) (nI nu) sd (nI qn) (nI qw) qo (nI qb) (nI qp) qa (nI qi) (nI oc)), ra_I (g 24) cI 6 (l6 u0 u1 u2 u3 u4 u5), ra_I (g 25) cI 6 (l6 v0 v1 v2 v3 v4 v5), ra_N (g 26) cI 3200 cs, ra_I (g 31) cI 120 nw, ra_N (g 46) cI 9 pt, ra_J (g 86) cJ 1700 ql, ra_I (g 20) cI 4 (l4 (nI l0) (nI l1) (nI dm) (nI l3)), ra_I (g 38) cI 90 ws_, ra_I (g 36) cZ 900 yw, ra_I (g 37) cZ 900 yo, ra_J (g 43) cJ 90 be, ra_J (g 44) cJ 90 bf]) ⟨hx, hb, hml, hown, hts⟩ hl.1 (c_nm_isIn l D cI cJ cC cZ cS (Int32.toInt64 w) 0 1) w_7_0 w_7_1 w_1_14 w_7_2 hd_X12_isIn_3 ⟨⟨(Nat.le_of_ble_eq_true rfl), (Nat.le_of_ble_eq_true rfl)⟩, (Nat.le_of_ble_eq_true rfl), (Nat.le_of_ble_eq_true rfl)⟩ hK hP hD hS hA [] [0, 1, 2, 3, 4, 5, 6, 7, 8, 9, 10, 11, 12] rfl rfl (by decide +kernel) (by decide +kernel) (by decide +kernel) rfl rfl (Nat.le_of_ble_eq_true rfl) dX12_frees_12 (fun r_9 u H locs hw hP hD hS => ?_)
    obtain ⟨b_8, hb1_10, rfl, rfl⟩ := hw
    refine o_re (ws' := [ro_ mm 12 (mo g (nI ta) (nI pa) (nI pe) pd (nI pb) pp pf pg pn rt rn (nI cd) sn (nI il) tk am at_ aa 0 0 (-1) wt wy 0 (nI rm) (nI ud) (nI nu) sd (nI qn) (nI qw) qo (nI qb) (nI qp) qa (nI qi) (nI oc)), ra_I (g 24) cI 6 (l6 u0 u1 u2 u3 u4 u5), ra_I (g 25) cI 6 (l6 v0 v1 v2 v3 v4 v5), ra_N (g 26) cI 3200 cs, ra_I (g 31) cI 120 nw, ra_N (g 46) cI 9 pt, ra_J (g 86) cJ 1700 ql, ra_I (g 20) cI 4 (l4 (nI l0) (nI l1) (nI dm) (nI l3)), ra_I (g 38) cI 90 ws_, ra_I (g 36) cZ 900 yw, ra_I (g 37) cZ 900 yo, ra_J (g 43) cJ 90 be, ra_J (g 44) cJ 90 bf]) hP hD rfl (fun hP hD => ?_)
    refine lv_if_ne (tgt := 20) hx hb dX12_frees_15 (by decide) (fun c_11 => ?_) (fun c_11 => ?_)
    · have c_11 : ¬ (b_8 = 0) := fun h => c_11 ((neq b_8 0 (by omega) (Nat.le_of_ble_eq_true rfl)).mpr h)
      obtain ⟨kd_12, hkd_12, rfl⟩ := (kin0 (n := 2) (by decide) (by omega)).mp (rr_1 hb1_10 (by omega))
      refine lv_iconst (v := 2) hx hb dX12_frees_20 ic_2 ?_
      refine lv_iconst (v := 3) hx hb dX12_frees_21 ic_3 ?_
      refine lv_iload_n hx hb dX12_frees_22 rfl (lv_at hl 1 rfl) ?_
      refine lv_imul hx hb dX12_frees_23 ?_
      refine sk_top (nI (3 * kd_7)) (nmul 3 kd_7) ?_
      refine lv_iadd hx hb dX12_frees_24 ?_
      refine sk_top (nI (2 + (3 * kd_7))) (nI_add 2 (3 * kd_7)) ?_
      refine lv_iload_n hx hb dX12_frees_25 rfl (lv_at hl 2 rfl) ?_
      refine lv_iadd hx hb dX12_frees_26 ?_
      refine sk_top (nI (2 + (3 * kd_7) + kd_12)) (nI_add (2 + (3 * kd_7)) kd_12) ?_
      refine lv_istore_n (lv' := [(3, .int (nI (2 + (3 * kd_7) + kd_12))), (0, .ref mm), (1, .int (nI kd_7)), (2, .int (nI kd_12))]) hx hb dX12_frees_27 rfl hl (by decide) rfl (fun ls hl => ?_)
      rcases (show kd_12 = 0 ∨ kd_12 = 1 by omega) with rfl | rfl
      · skip
        refine lv_aload_n hx hb dX12_frees_28 rfl (lv_at hl 1 rfl) ?_
        refine sk_get (v := .ref (g 31)) (C := RX12) (T := TX12) (N := 92) hx hb hts inlX12 hown hK hP 0 rfl rfl 31 (Nat.le_of_ble_eq_true rfl) w_5_186 rfl dX12_frees_29 ?_
        refine lv_iload_n hx hb dX12_frees_32 rfl (lv_at hl 0 rfl) ?_
        refine va_iald hx hb hK.1 hP 4 0 rfl rfl (vin (2 + (3 * kd_7) + 0) 120 (by omega) (Nat.le_of_ble_eq_true rfl)) dX12_frees_33 ?_
        refine sk_top (nI (Ba kd_7)) (by rw [nI_clamp (by omega)]; exact nwX_b hnw (by omega)) ?_
        refine lv_istore (lv' := [(4, .int (nI (Ba kd_7))), (3, .int (nI (2 + (3 * kd_7) + 0))), (0, .ref mm), (1, .int (nI kd_7)), (2, .int 0)]) hx hb dX12_frees_34 hl (by decide) rfl (fun ls hl => ?_)
        refine lv_iconst (v := (-1)) hx hb dX12_frees_36 (by decide) ?_
        refine lv_istore (lv' := [(5, .int (-1)), (4, .int (nI (Ba kd_7))), (3, .int (nI (2 + (3 * kd_7) + 0))), (0, .ref mm), (1, .int (nI kd_7)), (2, .int 0)]) hx hb dX12_frees_37 hl (by decide) rfl (fun ls hl => ?_)
        refine lv_lconst (v := 0) hx hb dX12_frees_39 (by decide) ?_
        refine lv_lstore (lv' := [(6, .long 0), (5, .int (-1)), (4, .int (nI (Ba kd_7))), (3, .int (nI (2 + (3 * kd_7) + 0))), (0, .ref mm), (1, .int (nI kd_7)), (2, .int 0)]) hx hb dX12_frees_40 hl (by decide) rfl (fun ls hl => ?_)
        refine lv_iconst (v := 0) hx hb dX12_frees_42 ic_0 ?_
        refine lv_istore (lv' := [(8, .int 0), (6, .long 0), (5, .int (-1)), (4, .int (nI (Ba kd_7))), (3, .int (nI (2 + (3 * kd_7) + 0))), (0, .ref mm), (1, .int (nI kd_7)), (2, .int 0)]) hx hb dX12_frees_43 hl (by decide) rfl (fun ls hl => ?_)
        have lp_13 : ∀ (n_14 : Nat) (i : Nat) (mo_ : Int64) (be_ : Int32) (zaml : Int32) (zat_l : Int32) (zaal : Int32) (ztkl : Int32) (zqpl : Nat) (zwyl : Int64) (zn : Nat → Int32) (y86l : Nat → Int64) (y38l : Nat → Int32) (y36l : Nat → Int32) (y37l : Nat → Int32) (y43l : Nat → Int64) (y44l : Nat → Int64) (BB : Nat → Nat) (H : Heap) (locs : List Loc) (ls : Array Slot), 10 - i < n_14 → (i ≤ 10) → (nwX wn mN BB We U ke lg zn) → (∀ j, BB j ≤ 9) → (∀ j, ¬ j = kd_7 → BB j = Ba j) → va_P D vwCl [ro_ mm 12 (mo g (nI ta) (nI pa) (nI pe) pd (nI pb) pp pf pg pn rt rn (nI cd) sn (nI il) ztkl zaml zat_l zaal 0 0 (-1) wt zwyl 0 (nI rm) (nI ud) (nI nu) sd (nI qn) (nI qw) qo (nI qb) (nI zqpl) qa (nI qi) (nI oc)), ra_I (g 24) cI 6 (l6 u0 u1 u2 u3 u4 u5), ra_I (g 25) cI 6 (l6 v0 v1 v2 v3 v4 v5), ra_N (g 26) cI 3200 cs, ra_I (g 31) cI 120 zn, ra_N (g 46) cI 9 pt, ra_J (g 86) cJ 1700 y86l, ra_I (g 20) cI 4 (l4 (nI l0) (nI l1) (nI dm) (nI l3)), ra_I (g 38) cI 90 y38l, ra_I (g 36) cZ 900 y36l, ra_I (g 37) cZ 900 y37l, ra_J (g 43) cJ 90 y43l, ra_J (g 44) cJ 90 y44l] H → va_D A [ro_ mm 12 (mo g (nI ta) (nI pa) (nI pe) pd (nI pb) pp pf pg pn rt rn (nI cd) sn (nI il) ztkl zaml zat_l zaal 0 0 (-1) wt zwyl 0 (nI rm) (nI ud) (nI nu) sd (nI qn) (nI qw) qo (nI qb) (nI zqpl) qa (nI qi) (nI oc)), ra_I (g 24) cI 6 (l6 u0 u1 u2 u3 u4 u5), ra_I (g 25) cI 6 (l6 v0 v1 v2 v3 v4 v5), ra_N (g 26) cI 3200 cs, ra_I (g 31) cI 120 zn, ra_N (g 46) cI 9 pt, ra_J (g 86) cJ 1700 y86l, ra_I (g 20) cI 4 (l4 (nI l0) (nI l1) (nI dm) (nI l3)), ra_I (g 38) cI 90 y38l, ra_I (g 36) cZ 900 y36l, ra_I (g 37) cZ 900 y37l, ra_J (g 43) cJ 90 y43l, ra_J (g 44) cJ 90 y44l] → va_S A s.heap H locs → lv_has ls 9 [(8, .int (nI i)), (6, .long mo_), (5, .int be_), (4, .int (nI (Ba kd_7))), (3, .int (nI (2 + (3 * kd_7) + 0))), (0, .ref mm), (1, .int (nI kd_7)), (2, .int 0)] → W p l e { frames := 6, cells := 0, slots := 0, locals := 142 } s m ([.ref mm, .int (nI kd_7), .int (nI 0)] : List Value).toArray below meth c H locs 0 0 (MQ below (skI D (skT cI cJ cC cZ cS) (fun (r : Int32) (u : va_W) => ∃ (nw2 : Nat → Int32), ∃ (tk2 : Int32), ∃ (qp2 : Nat), ∃ (am2 : Int32), ∃ (at_2 : Int32), ∃ (aa2 : Int32), ∃ (wy2 : Int64), ∃ (ql2 : Nat → Int64), ∃ (ws_2 : Nat → Int32), ∃ (yw2 : Nat → Int32), ∃ (yo2 : Nat → Int32), ∃ (be2 : Nat → Int64), ∃ (bf2 : Nat → Int64), nwX wn mN Ba We U ke lg nw2 ∧ u = [ro_ mm 12 (mo g (nI ta) (nI pa) (nI pe) pd (nI pb) pp pf pg pn rt rn (nI cd) sn (nI il) tk2 am2 at_2 aa2 0 0 (-1) wt wy2 0 (nI rm) (nI ud) (nI nu) sd (nI qn) (nI qw) qo (nI qb) (nI qp2) qa (nI qi) (nI oc)), ra_I (g 24) cI 6 (l6 u0 u1 u2 u3 u4 u5), ra_I (g 25) cI 6 (l6 v0 v1 v2 v3 v4 v5), ra_N (g 26) cI 3200 cs, ra_I (g 31) cI 120 nw2, ra_N (g 46) cI 9 pt, ra_J (g 86) cJ 1700 ql2, ra_I (g 20) cI 4 (l4 (nI l0) (nI l1) (nI dm) (nI l3)), ra_I (g 38) cI 90 ws_2, ra_I (g 36) cZ 900 yw2, ra_I (g 37) cZ 900 yo2, ra_J (g 43) cJ 90 be2, ra_J (g 44) cJ 90 bf2]) A) ([.ref mm, .int (nI kd_7), .int (nI 0)] : List Value).toArray s 0 0 A) (F0 m 45 ls []) := by
          intro n_14
          induction n_14 with
          | zero => intro i mo_ be_ zaml zat_l zaal ztkl zqpl zwyl zn y86l y38l y36l y37l y43l y44l BB H locs ls hm; exact absurd hm (Nat.not_lt_zero _)
          | succ n_14 ih_lp_13 =>
            intro i mo_ be_ zaml zat_l zaal ztkl zqpl zwyl zn y86l y38l y36l y37l y43l y44l BB H locs ls hm hi hzn hBB hBe hP hD hS hl
            refine lv_iload hx hb dX12_frees_45 (lv_at hl 0 rfl) ?_
            refine lv_bipush (v := 10) hx hb dX12_frees_47 (by decide) ?_
            refine lv_icmp_ge (tgt := 99) hx hb dX12_frees_49 (by decide) (fun c_15 => ?_) (fun c_15 => ?_)
            · have c_15 : 10 ≤ i := (nle 10 i (Nat.le_of_ble_eq_true rfl) (by omega)).mp c_15
              refine lv_aload_n hx hb dX12_frees_99 rfl (lv_at hl 5 rfl) ?_
              refine sk_get (v := .ref (g 31)) (C := RX12) (T := TX12) (N := 92) hx hb hts inlX12 hown hK hP 0 rfl rfl 31 (Nat.le_of_ble_eq_true rfl) w_5_186 rfl dX12_frees_100 ?_
              refine lv_iload_n hx hb dX12_frees_103 rfl (lv_at hl 4 rfl) ?_
              refine lv_iload hx hb dX12_frees_104 (lv_at hl 3 rfl) ?_
              refine sk_iastE (k := (2 + (3 * kd_7) + 0)) (x := (nI (Ba kd_7))) (ws' := fun f_16 => [ro_ mm 12 (mo g (nI ta) (nI pa) (nI pe) pd (nI pb) pp pf pg pn rt rn (nI cd) sn (nI il) ztkl zaml zat_l zaal 0 0 (-1) wt zwyl 0 (nI rm) (nI ud) (nI nu) sd (nI qn) (nI qw) qo (nI qb) (nI zqpl) qa (nI qi) (nI oc)), ra_I (g 24) cI 6 (l6 u0 u1 u2 u3 u4 u5), ra_I (g 25) cI 6 (l6 v0 v1 v2 v3 v4 v5), ra_N (g 26) cI 3200 cs, ra_I (g 31) cI 120 f_16, ra_N (g 46) cI 9 pt, ra_J (g 86) cJ 1700 y86l, ra_I (g 20) cI 4 (l4 (nI l0) (nI l1) (nI dm) (nI l3)), ra_I (g 38) cI 90 y38l, ra_I (g 36) cZ 900 y36l, ra_I (g 37) cZ 900 y37l, ra_J (g 43) cJ 90 y43l, ra_J (g 44) cJ 90 y44l]) hx hb hK hP hD hS 4 0 rfl rfl (by omega) (by omega) (fun _ => rfl) dX12_frees_106 (fun f_16 H locs ef_17 hP hD hS => ?_)
              have hN_18 : nwX wn mN Ba We U ke lg f_16 := (by have h9 := nwX_upb hzn ef_17 (by omega); rw [upd_back hBe] at h9; exact h9)
              refine lv_iload hx hb dX12_frees_107 (lv_at hl 2 rfl) ?_
              exact sk_iret hx hb hr rfl hlocks hK hP hD hS (⟨f_16, ztkl, zqpl, zaml, zat_l, zaal, zwyl, y86l, y38l, y36l, y37l, y43l, y44l, hN_18, rfl⟩) (Nat.le_of_ble_eq_true rfl) (Nat.le_of_ble_eq_true rfl) dX12_frees_109
            · have c_15 : ¬ (10 ≤ i) := fun h => c_15 ((nle 10 i (Nat.le_of_ble_eq_true rfl) (by omega)).mpr h)
              refine lv_aload_n hx hb dX12_frees_52 rfl (lv_at hl 5 rfl) ?_
              refine sk_get (v := .ref (g 31)) (C := RX12) (T := TX12) (N := 92) hx hb hts inlX12 hown hK hP 0 rfl rfl 31 (Nat.le_of_ble_eq_true rfl) w_5_186 rfl dX12_frees_53 ?_
              refine lv_iload_n hx hb dX12_frees_56 rfl (lv_at hl 4 rfl) ?_
              refine lv_iload hx hb dX12_frees_57 (lv_at hl 0 rfl) ?_
              refine sk_iastE (k := (2 + (3 * kd_7) + 0)) (x := (nI i)) (ws' := fun f_19 => [ro_ mm 12 (mo g (nI ta) (nI pa) (nI pe) pd (nI pb) pp pf pg pn rt rn (nI cd) sn (nI il) ztkl zaml zat_l zaal 0 0 (-1) wt zwyl 0 (nI rm) (nI ud) (nI nu) sd (nI qn) (nI qw) qo (nI qb) (nI zqpl) qa (nI qi) (nI oc)), ra_I (g 24) cI 6 (l6 u0 u1 u2 u3 u4 u5), ra_I (g 25) cI 6 (l6 v0 v1 v2 v3 v4 v5), ra_N (g 26) cI 3200 cs, ra_I (g 31) cI 120 f_19, ra_N (g 46) cI 9 pt, ra_J (g 86) cJ 1700 y86l, ra_I (g 20) cI 4 (l4 (nI l0) (nI l1) (nI dm) (nI l3)), ra_I (g 38) cI 90 y38l, ra_I (g 36) cZ 900 y36l, ra_I (g 37) cZ 900 y37l, ra_J (g 43) cJ 90 y43l, ra_J (g 44) cJ 90 y44l]) hx hb hK hP hD hS 4 0 rfl rfl (by omega) (by omega) (fun _ => rfl) dX12_frees_59 (fun f_19 H locs ef_20 hP hD hS => ?_)
              have hN_21 : nwX wn mN (updG BB kd_7 i) We U ke lg f_19 := nwX_upb hzn ef_20 (by omega)
              refine lv_aload_n hx hb dX12_frees_60 rfl (lv_at hl 5 rfl) ?_
              refine sk_Vv (q0 := 0) (n := 0) (rest := []) (wr := fmR om_13_1fff _) ⟨hx, hb, hml, hown, hts⟩ hl.1 (c_nm_laysAll l D cI cJ cC cZ cS mm g ta pa pe pd pb pp pf pg pn rt rn cd sn il ztkl zaml zat_l zaal wt zwyl 0 rm ud nu sd qn qw qo qb zqpl qa qi oc u0 u1 u2 u3 u4 u5 v0 v1 v2 v3 v4 v5 cs f_19 pt y86l l0 l1 dm l3 y38l y36l y37l y43l y44l wn mN (updG BB kd_7 i) We U ke lg L hdm (by omega) hLk hkl hmw0 hmw1 (updG_le hBB (by omega)) hW9 hwk hcs hN_21 hpt) w_7_189 w_7_191 w_0_82 w_1_14 w_7_192 hd_X12_laysAll_0 ⟨⟨(Nat.le_of_ble_eq_true rfl), (Nat.le_of_ble_eq_true rfl)⟩, (Nat.le_of_ble_eq_true rfl), (Nat.le_of_ble_eq_true rfl)⟩ hK hP hD hS hA (fmT om_13_1fff 0) (fmF om_13_1fff 0) (fm_C1 rfl rfl) (fm_R rfl rfl) (fm_nT om_13_1fff 0) (fm_nF om_13_1fff 0) (fm_di om_13_1fff 0) rfl rfl rfl rfl (Nat.le_of_ble_eq_true rfl) dX12_frees_61 (fun u H locs hw hP hD hS => ?_)
              refine exE hw (fun tk2_22 hw1 => exE hw1 (fun qp2_23 hw2 => exE hw2 (fun am2_24 hw3 => exE hw3 (fun at_2_25 hw4 => exE hw4 (fun aa2_26 hw5 => exE hw5 (fun wy2_27 hw6 => exE hw6 (fun ql2_28 hw7 => exE hw7 (fun ws_2_29 hw8 => exE hw8 (fun yw2_30 hw9 => exE hw9 (fun yo2_31 hw10 => exE hw10 (fun be2_32 hw11 => exE hw11 (fun bf2_33 hw12 => anE hw12 (fun hbe_34 hw13 => anE hw13 (fun hcf_35 hw14 => anE hw14 (fun hwy_36 eu_37 => ?_)))))))))))))))
              clear hw hw1 hw2 hw3 hw4 hw5 hw6 hw7 hw8 hw9 hw10 hw11 hw12 hw13 hw14
              refine o_mgE (ws' := [ro_ mm 12 (mo g (nI ta) (nI pa) (nI pe) pd (nI pb) pp pf pg pn rt rn (nI cd) sn (nI il) tk2_22 am2_24 at_2_25 aa2_26 0 0 (-1) wt wy2_27 0 (nI rm) (nI ud) (nI nu) sd (nI qn) (nI qw) qo (nI qb) (nI qp2_23) qa (nI qi) (nI oc)), ra_I (g 24) cI 6 (l6 u0 u1 u2 u3 u4 u5), ra_I (g 25) cI 6 (l6 v0 v1 v2 v3 v4 v5), ra_N (g 26) cI 3200 cs, ra_I (g 31) cI 120 f_19, ra_N (g 46) cI 9 pt, ra_J (g 86) cJ 1700 ql2_28, ra_I (g 20) cI 4 (l4 (nI l0) (nI l1) (nI dm) (nI l3)), ra_I (g 38) cI 90 ws_2_29, ra_I (g 36) cZ 900 yw2_30, ra_I (g 37) cZ 900 yo2_31, ra_J (g 43) cJ 90 be2_32, ra_J (g 44) cJ 90 bf2_33]) eu_37 hP hD rfl (fun hP hD => ?_)
              refine lv_iload hx hb dX12_frees_64 (lv_at hl 2 rfl) ?_
              refine lv_iconst (v := (-1)) hx hb dX12_frees_66 (by decide) ?_
              refine lv_icmp_eq (tgt := 83) hx hb dX12_frees_67 (by decide) (fun c_38 => ?_) (fun c_38 => ?_)
              · skip
                refine lv_iload hx hb dX12_frees_83 (lv_at hl 0 rfl) ?_
                refine lv_istore (lv' := [(5, .int (nI i)), (8, .int (nI i)), (6, .long mo_), (4, .int (nI (Ba kd_7))), (3, .int (nI (2 + (3 * kd_7) + 0))), (0, .ref mm), (1, .int (nI kd_7)), (2, .int 0)]) hx hb dX12_frees_85 hl (by decide) rfl (fun ls hl => ?_)
                refine lv_aload_n hx hb dX12_frees_87 rfl (lv_at hl 5 rfl) ?_
                refine sk_get (v := .long wy2_27) (C := RX12) (T := TX12) (N := 92) hx hb hts inlX12 hown hK hP 0 rfl rfl 45 (Nat.le_of_ble_eq_true rfl) w_5_200 rfl dX12_frees_88 ?_
                refine lv_lstore (lv' := [(6, .long wy2_27), (5, .int (nI i)), (8, .int (nI i)), (4, .int (nI (Ba kd_7))), (3, .int (nI (2 + (3 * kd_7) + 0))), (0, .ref mm), (1, .int (nI kd_7)), (2, .int 0)]) hx hb dX12_frees_91 hl (by decide) rfl (fun ls hl => ?_)
                refine lv_iinc (v := nI (i + 1)) (lv' := [(8, .int (nI (i + 1))), (6, .long wy2_27), (5, .int (nI i)), (4, .int (nI (Ba kd_7))), (3, .int (nI (2 + (3 * kd_7) + 0))), (0, .ref mm), (1, .int (nI kd_7)), (2, .int 0)]) hx hb dX12_frees_93 hl (k := 2) rfl (ninc i 1 (by decide)) (by decide) rfl (fun ls hl => ?_)
                refine lv_goto (tgt := 45) hx hb dX12_frees_96 (by decide) ?_
                exact ih_lp_13 (i + 1) wy2_27 (nI i) am2_24 at_2_25 aa2_26 tk2_22 qp2_23 wy2_27 f_19 ql2_28 ws_2_29 yw2_30 yo2_31 be2_32 bf2_33 (updG BB kd_7 i) _ _ _ (by omega) (by omega) hN_21 (updG_le hBB (by omega)) (fun j hj => by unfold updG; rw [if_neg hj]; exact hBe j hj) hP hD hS (lv_sub hl [0, 1, 2, 3, 4, 5, 6, 7] rfl)
              · skip
                refine lv_aload_n hx hb dX12_frees_70 rfl (lv_at hl 5 rfl) ?_
                refine sk_get (v := .long wy2_27) (C := RX12) (T := TX12) (N := 92) hx hb hts inlX12 hown hK hP 0 rfl rfl 45 (Nat.le_of_ble_eq_true rfl) w_5_200 rfl dX12_frees_71 ?_
                refine lv_lload hx hb dX12_frees_74 (lv_at hl 1 rfl) ?_
                refine W.lcmp hx hb dX12_frees_76 ?_
                refine lv_if_gt (tgt := 83) hx hb dX12_frees_77 (by decide) (fun c_39 => ?_) (fun c_39 => ?_)
                · skip
                  refine lv_iload hx hb dX12_frees_83 (lv_at hl 0 rfl) ?_
                  refine lv_istore (lv' := [(5, .int (nI i)), (8, .int (nI i)), (6, .long mo_), (4, .int (nI (Ba kd_7))), (3, .int (nI (2 + (3 * kd_7) + 0))), (0, .ref mm), (1, .int (nI kd_7)), (2, .int 0)]) hx hb dX12_frees_85 hl (by decide) rfl (fun ls hl => ?_)
                  refine lv_aload_n hx hb dX12_frees_87 rfl (lv_at hl 5 rfl) ?_
                  refine sk_get (v := .long wy2_27) (C := RX12) (T := TX12) (N := 92) hx hb hts inlX12 hown hK hP 0 rfl rfl 45 (Nat.le_of_ble_eq_true rfl) w_5_200 rfl dX12_frees_88 ?_
                  refine lv_lstore (lv' := [(6, .long wy2_27), (5, .int (nI i)), (8, .int (nI i)), (4, .int (nI (Ba kd_7))), (3, .int (nI (2 + (3 * kd_7) + 0))), (0, .ref mm), (1, .int (nI kd_7)), (2, .int 0)]) hx hb dX12_frees_91 hl (by decide) rfl (fun ls hl => ?_)
                  refine lv_iinc (v := nI (i + 1)) (lv' := [(8, .int (nI (i + 1))), (6, .long wy2_27), (5, .int (nI i)), (4, .int (nI (Ba kd_7))), (3, .int (nI (2 + (3 * kd_7) + 0))), (0, .ref mm), (1, .int (nI kd_7)), (2, .int 0)]) hx hb dX12_frees_93 hl (k := 2) rfl (ninc i 1 (by decide)) (by decide) rfl (fun ls hl => ?_)
                  refine lv_goto (tgt := 45) hx hb dX12_frees_96 (by decide) ?_
                  exact ih_lp_13 (i + 1) wy2_27 (nI i) am2_24 at_2_25 aa2_26 tk2_22 qp2_23 wy2_27 f_19 ql2_28 ws_2_29 yw2_30 yo2_31 be2_32 bf2_33 (updG BB kd_7 i) _ _ _ (by omega) (by omega) hN_21 (updG_le hBB (by omega)) (fun j hj => by unfold updG; rw [if_neg hj]; exact hBe j hj) hP hD hS (lv_sub hl [0, 1, 2, 3, 4, 5, 6, 7] rfl)
                · skip
                  refine lv_goto (tgt := 93) hx hb dX12_frees_80 (by decide) ?_
                  refine lv_iinc (v := nI (i + 1)) (lv' := [(8, .int (nI (i + 1))), (6, .long mo_), (5, .int be_), (4, .int (nI (Ba kd_7))), (3, .int (nI (2 + (3 * kd_7) + 0))), (0, .ref mm), (1, .int (nI kd_7)), (2, .int 0)]) hx hb dX12_frees_93 hl (k := 0) rfl (ninc i 1 (by decide)) (by decide) rfl (fun ls hl => ?_)
                  refine lv_goto (tgt := 45) hx hb dX12_frees_96 (by decide) ?_
                  exact ih_lp_13 (i + 1) mo_ be_ am2_24 at_2_25 aa2_26 tk2_22 qp2_23 wy2_27 f_19 ql2_28 ws_2_29 yw2_30 yo2_31 be2_32 bf2_33 (updG BB kd_7 i) _ _ _ (by omega) (by omega) hN_21 (updG_le hBB (by omega)) (fun j hj => by unfold updG; rw [if_neg hj]; exact hBe j hj) hP hD hS (lv_sub hl [0, 1, 2, 3, 4, 5, 6, 7] rfl)
        exact lp_13 (10 - 0 + 1) 0 0 (-1) am at_ aa tk qp wy nw ql ws_ yw yo be bf Ba _ _ _ (Nat.lt_succ_self _) (by omega) hnw hB9 (fun _ _ => rfl) hP hD hS (lv_sub hl [0, 1, 2, 3, 4, 5, 6, 7] rfl)
      · skip
        refine lv_aload_n hx hb dX12_frees_28 rfl (lv_at hl 1 rfl) ?_
        refine sk_get (v := .ref (g 31)) (C := RX12) (T := TX12) (N := 92) hx hb hts inlX12 hown hK hP 0 rfl rfl 31 (Nat.le_of_ble_eq_true rfl) w_5_186 rfl dX12_frees_29 ?_
        refine lv_iload_n hx hb dX12_frees_32 rfl (lv_at hl 0 rfl) ?_
        refine va_iald hx hb hK.1 hP 4 0 rfl rfl (vin (2 + (3 * kd_7) + 1) 120 (by omega) (Nat.le_of_ble_eq_true rfl)) dX12_frees_33 ?_
        refine sk_top (nI (We kd_7)) (by rw [nI_clamp (by omega)]; exact nwX_w hnw (by omega)) ?_
        refine lv_istore (lv' := [(4, .int (nI (We kd_7))), (3, .int (nI (2 + (3 * kd_7) + 1))), (0, .ref mm), (1, .int (nI kd_7)), (2, .int 1)]) hx hb dX12_frees_34 hl (by decide) rfl (fun ls hl => ?_)
        refine lv_iconst (v := (-1)) hx hb dX12_frees_36 (by decide) ?_
        refine lv_istore (lv' := [(5, .int (-1)), (4, .int (nI (We kd_7))), (3, .int (nI (2 + (3 * kd_7) + 1))), (0, .ref mm), (1, .int (nI kd_7)), (2, .int 1)]) hx hb dX12_frees_37 hl (by decide) rfl (fun ls hl => ?_)
        refine lv_lconst (v := 0) hx hb dX12_frees_39 (by decide) ?_
        refine lv_lstore (lv' := [(6, .long 0), (5, .int (-1)), (4, .int (nI (We kd_7))), (3, .int (nI (2 + (3 * kd_7) + 1))), (0, .ref mm), (1, .int (nI kd_7)), (2, .int 1)]) hx hb dX12_frees_40 hl (by decide) rfl (fun ls hl => ?_)
        refine lv_iconst (v := 0) hx hb dX12_frees_42 ic_0 ?_
        refine lv_istore (lv' := [(8, .int 0), (6, .long 0), (5, .int (-1)), (4, .int (nI (We kd_7))), (3, .int (nI (2 + (3 * kd_7) + 1))), (0, .ref mm), (1, .int (nI kd_7)), (2, .int 1)]) hx hb dX12_frees_43 hl (by decide) rfl (fun ls hl => ?_)
        have lp_40 : ∀ (n_41 : Nat) (i : Nat) (mo_ : Int64) (be_ : Int32) (zaml : Int32) (zat_l : Int32) (zaal : Int32) (ztkl : Int32) (zqpl : Nat) (zwyl : Int64) (zn : Nat → Int32) (y86l : Nat → Int64) (y38l : Nat → Int32) (y36l : Nat → Int32) (y37l : Nat → Int32) (y43l : Nat → Int64) (y44l : Nat → Int64) (BB : Nat → Nat) (H : Heap) (locs : List Loc) (ls : Array Slot), 10 - i < n_41 → (i ≤ 10) → (nwX wn mN Ba BB U ke lg zn) → (∀ j, BB j ≤ 9) → (∀ j, ¬ j = kd_7 → BB j = We j) → va_P D vwCl [ro_ mm 12 (mo g (nI ta) (nI pa) (nI pe) pd (nI pb) pp pf pg pn rt rn (nI cd) sn (nI il) ztkl zaml zat_l zaal 0 0 (-1) wt zwyl 0 (nI rm) (nI ud) (nI nu) sd (nI qn) (nI qw) qo (nI qb) (nI zqpl) qa (nI qi) (nI oc)), ra_I (g 24) cI 6 (l6 u0 u1 u2 u3 u4 u5), ra_I (g 25) cI 6 (l6 v0 v1 v2 v3 v4 v5), ra_N (g 26) cI 3200 cs, ra_I (g 31) cI 120 zn, ra_N (g 46) cI 9 pt, ra_J (g 86) cJ 1700 y86l, ra_I (g 20) cI 4 (l4 (nI l0) (nI l1) (nI dm) (nI l3)), ra_I (g 38) cI 90 y38l, ra_I (g 36) cZ 900 y36l, ra_I (g 37) cZ 900 y37l, ra_J (g 43) cJ 90 y43l, ra_J (g 44) cJ 90 y44l] H → va_D A [ro_ mm 12 (mo g (nI ta) (nI pa) (nI pe) pd (nI pb) pp pf pg pn rt rn (nI cd) sn (nI il) ztkl zaml zat_l zaal 0 0 (-1) wt zwyl 0 (nI rm) (nI ud) (nI nu) sd (nI qn) (nI qw) qo (nI qb) (nI zqpl) qa (nI qi) (nI oc)), ra_I (g 24) cI 6 (l6 u0 u1 u2 u3 u4 u5), ra_I (g 25) cI 6 (l6 v0 v1 v2 v3 v4 v5), ra_N (g 26) cI 3200 cs, ra_I (g 31) cI 120 zn, ra_N (g 46) cI 9 pt, ra_J (g 86) cJ 1700 y86l, ra_I (g 20) cI 4 (l4 (nI l0) (nI l1) (nI dm) (nI l3)), ra_I (g 38) cI 90 y38l, ra_I (g 36) cZ 900 y36l, ra_I (g 37) cZ 900 y37l, ra_J (g 43) cJ 90 y43l, ra_J (g 44) cJ 90 y44l] → va_S A s.heap H locs → lv_has ls 9 [(8, .int (nI i)), (6, .long mo_), (5, .int be_), (4, .int (nI (We kd_7))), (3, .int (nI (2 + (3 * kd_7) + 1))), (0, .ref mm), (1, .int (nI kd_7)), (2, .int 1)] → W p l e { frames := 6, cells := 0, slots := 0, locals := 142 } s m ([.ref mm, .int (nI kd_7), .int (nI 1)] : List Value).toArray below meth c H locs 0 0 (MQ below (skI D (skT cI cJ cC cZ cS) (fun (r : Int32) (u : va_W) => ∃ (nw2 : Nat → Int32), ∃ (tk2 : Int32), ∃ (qp2 : Nat), ∃ (am2 : Int32), ∃ (at_2 : Int32), ∃ (aa2 : Int32), ∃ (wy2 : Int64), ∃ (ql2 : Nat → Int64), ∃ (ws_2 : Nat → Int32), ∃ (yw2 : Nat → Int32), ∃ (yo2 : Nat → Int32), ∃ (be2 : Nat → Int64), ∃ (bf2 : Nat → Int64), nwX wn mN Ba We U ke lg nw2 ∧ u = [ro_ mm 12 (mo g (nI ta) (nI pa) (nI pe) pd (nI pb) pp pf pg pn rt rn (nI cd) sn (nI il) tk2 am2 at_2 aa2 0 0 (-1) wt wy2 0 (nI rm) (nI ud) (nI nu) sd (nI qn) (nI qw) qo (nI qb) (nI qp2) qa (nI qi) (nI oc)), ra_I (g 24) cI 6 (l6 u0 u1 u2 u3 u4 u5), ra_I (g 25) cI 6 (l6 v0 v1 v2 v3 v4 v5), ra_N (g 26) cI 3200 cs, ra_I (g 31) cI 120 nw2, ra_N (g 46) cI 9 pt, ra_J (g 86) cJ 1700 ql2, ra_I (g 20) cI 4 (l4 (nI l0) (nI l1) (nI dm) (nI l3)), ra_I (g 38) cI 90 ws_2, ra_I (g 36) cZ 900 yw2, ra_I (g 37) cZ 900 yo2, ra_J (g 43) cJ 90 be2, ra_J (g 44) cJ 90 bf2]) A) ([.ref mm, .int (nI kd_7), .int (nI 1)] : List Value).toArray s 0 0 A) (F0 m 45 ls []) := by
          intro n_41
          induction n_41 with
          | zero => intro i mo_ be_ zaml zat_l zaal ztkl zqpl zwyl zn y86l y38l y36l y37l y43l y44l BB H locs ls hm; exact absurd hm (Nat.not_lt_zero _)
          | succ n_41 ih_lp_40 =>
            intro i mo_ be_ zaml zat_l zaal ztkl zqpl zwyl zn y86l y38l y36l y37l y43l y44l BB H locs ls hm hi hzn hBB hBe hP hD hS hl
            refine lv_iload hx hb dX12_frees_45 (lv_at hl 0 rfl) ?_
            refine lv_bipush (v := 10) hx hb dX12_frees_47 (by decide) ?_
            refine lv_icmp_ge (tgt := 99) hx hb dX12_frees_49 (by decide) (fun c_42 => ?_) (fun c_42 => ?_)
            · have c_42 : 10 ≤ i := (nle 10 i (Nat.le_of_ble_eq_true rfl) (by omega)).mp c_42
              refine lv_aload_n hx hb dX12_frees_99 rfl (lv_at hl 5 rfl) ?_
              refine sk_get (v := .ref (g 31)) (C := RX12) (T := TX12) (N := 92) hx hb hts inlX12 hown hK hP 0 rfl rfl 31 (Nat.le_of_ble_eq_true rfl) w_5_186 rfl dX12_frees_100 ?_
              refine lv_iload_n hx hb dX12_frees_103 rfl (lv_at hl 4 rfl) ?_
              refine lv_iload hx hb dX12_frees_104 (lv_at hl 3 rfl) ?_
              refine sk_iastE (k := (2 + (3 * kd_7) + 1)) (x := (nI (We kd_7))) (ws' := fun f_43 => [ro_ mm 12 (mo g (nI ta) (nI pa) (nI pe) pd (nI pb) pp pf pg pn rt rn (nI cd) sn (nI il) ztkl zaml zat_l zaal 0 0 (-1) wt zwyl 0 (nI rm) (nI ud) (nI nu) sd (nI qn) (nI qw) qo (nI qb) (nI zqpl) qa (nI qi) (nI oc)), ra_I (g 24) cI 6 (l6 u0 u1 u2 u3 u4 u5), ra_I (g 25) cI 6 (l6 v0 v1 v2 v3 v4 v5), ra_N (g 26) cI 3200 cs, ra_I (g 31) cI 120 f_43, ra_N (g 46) cI 9 pt, ra_J (g 86) cJ 1700 y86l, ra_I (g 20) cI 4 (l4 (nI l0) (nI l1) (nI dm) (nI l3)), ra_I (g 38) cI 90 y38l, ra_I (g 36) cZ 900 y36l, ra_I (g 37) cZ 900 y37l, ra_J (g 43) cJ 90 y43l, ra_J (g 44) cJ 90 y44l]) hx hb hK hP hD hS 4 0 rfl rfl (by omega) (by omega) (fun _ => rfl) dX12_frees_106 (fun f_43 H locs ef_44 hP hD hS => ?_)
              have hN_45 : nwX wn mN Ba We U ke lg f_43 := (by have h9 := nwX_upw hzn ef_44 (by omega); rw [upd_back hBe] at h9; exact h9)
              refine lv_iload hx hb dX12_frees_107 (lv_at hl 2 rfl) ?_
              exact sk_iret hx hb hr rfl hlocks hK hP hD hS (⟨f_43, ztkl, zqpl, zaml, zat_l, zaal, zwyl, y86l, y38l, y36l, y37l, y43l, y44l, hN_45, rfl⟩) (Nat.le_of_ble_eq_true rfl) (Nat.le_of_ble_eq_true rfl) dX12_frees_109
            · have c_42 : ¬ (10 ≤ i) := fun h => c_42 ((nle 10 i (Nat.le_of_ble_eq_true rfl) (by omega)).mpr h)
              refine lv_aload_n hx hb dX12_frees_52 rfl (lv_at hl 5 rfl) ?_
              refine sk_get (v := .ref (g 31)) (C := RX12) (T := TX12) (N := 92) hx hb hts inlX12 hown hK hP 0 rfl rfl 31 (Nat.le_of_ble_eq_true rfl) w_5_186 rfl dX12_frees_53 ?_
              refine lv_iload_n hx hb dX12_frees_56 rfl (lv_at hl 4 rfl) ?_
              refine lv_iload hx hb dX12_frees_57 (lv_at hl 0 rfl) ?_
              refine sk_iastE (k := (2 + (3 * kd_7) + 1)) (x := (nI i)) (ws' := fun f_46 => [ro_ mm 12 (mo g (nI ta) (nI pa) (nI pe) pd (nI pb) pp pf pg pn rt rn (nI cd) sn (nI il) ztkl zaml zat_l zaal 0 0 (-1) wt zwyl 0 (nI rm) (nI ud) (nI nu) sd (nI qn) (nI qw) qo (nI qb) (nI zqpl) qa (nI qi) (nI oc)), ra_I (g 24) cI 6 (l6 u0 u1 u2 u3 u4 u5), ra_I (g 25) cI 6 (l6 v0 v1 v2 v3 v4 v5), ra_N (g 26) cI 3200 cs, ra_I (g 31) cI 120 f_46, ra_N (g 46) cI 9 pt, ra_J (g 86) cJ 1700 y86l, ra_I (g 20) cI 4 (l4 (nI l0) (nI l1) (nI dm) (nI l3)), ra_I (g 38) cI 90 y38l, ra_I (g 36) cZ 900 y36l, ra_I (g 37) cZ 900 y37l, ra_J (g 43) cJ 90 y43l, ra_J (g 44) cJ 90 y44l]) hx hb hK hP hD hS 4 0 rfl rfl (by omega) (by omega) (fun _ => rfl) dX12_frees_59 (fun f_46 H locs ef_47 hP hD hS => ?_)
              have hN_48 : nwX wn mN Ba (updG BB kd_7 i) U ke lg f_46 := nwX_upw hzn ef_47 (by omega)
              refine lv_aload_n hx hb dX12_frees_60 rfl (lv_at hl 5 rfl) ?_
              refine sk_Vv (q0 := 0) (n := 0) (rest := []) (wr := fmR om_13_1fff _) ⟨hx, hb, hml, hown, hts⟩ hl.1 (c_nm_laysAll l D cI cJ cC cZ cS mm g ta pa pe pd pb pp pf pg pn rt rn cd sn il ztkl zaml zat_l zaal wt zwyl 0 rm ud nu sd qn qw qo qb zqpl qa qi oc u0 u1 u2 u3 u4 u5 v0 v1 v2 v3 v4 v5 cs f_46 pt y86l l0 l1 dm l3 y38l y36l y37l y43l y44l wn mN Ba (updG BB kd_7 i) U ke lg L hdm (by omega) hLk hkl hmw0 hmw1 hB9 (updG_le hBB (by omega)) hwk hcs hN_48 hpt) w_7_189 w_7_191 w_0_82 w_1_14 w_7_192 hd_X12_laysAll_0 ⟨⟨(Nat.le_of_ble_eq_true rfl), (Nat.le_of_ble_eq_true rfl)⟩, (Nat.le_of_ble_eq_true rfl), (Nat.le_of_ble_eq_true rfl)⟩ hK hP hD hS hA (fmT om_13_1fff 0) (fmF om_13_1fff 0) (fm_C1 rfl rfl) (fm_R rfl rfl) (fm_nT om_13_1fff 0) (fm_nF om_13_1fff 0) (fm_di om_13_1fff 0) rfl rfl rfl rfl (Nat.le_of_ble_eq_true rfl) dX12_frees_61 (fun u H locs hw hP hD hS => ?_)
              refine exE hw (fun tk2_49 hw1 => exE hw1 (fun qp2_50 hw2 => exE hw2 (fun am2_51 hw3 => exE hw3 (fun at_2_52 hw4 => exE hw4 (fun aa2_53 hw5 => exE hw5 (fun wy2_54 hw6 => exE hw6 (fun ql2_55 hw7 => exE hw7 (fun ws_2_56 hw8 => exE hw8 (fun yw2_57 hw9 => exE hw9 (fun yo2_58 hw10 => exE hw10 (fun be2_59 hw11 => exE hw11 (fun bf2_60 hw12 => anE hw12 (fun hbe_61 hw13 => anE hw13 (fun hcf_62 hw14 => anE hw14 (fun hwy_63 eu_64 => ?_)))))))))))))))
              clear hw hw1 hw2 hw3 hw4 hw5 hw6 hw7 hw8 hw9 hw10 hw11 hw12 hw13 hw14
              refine o_mgE (ws' := [ro_ mm 12 (mo g (nI ta) (nI pa) (nI pe) pd (nI pb) pp pf pg pn rt rn (nI cd) sn (nI il) tk2_49 am2_51 at_2_52 aa2_53 0 0 (-1) wt wy2_54 0 (nI rm) (nI ud) (nI nu) sd (nI qn) (nI qw) qo (nI qb) (nI qp2_50) qa (nI qi) (nI oc)), ra_I (g 24) cI 6 (l6 u0 u1 u2 u3 u4 u5), ra_I (g 25) cI 6 (l6 v0 v1 v2 v3 v4 v5), ra_N (g 26) cI 3200 cs, ra_I (g 31) cI 120 f_46, ra_N (g 46) cI 9 pt, ra_J (g 86) cJ 1700 ql2_55, ra_I (g 20) cI 4 (l4 (nI l0) (nI l1) (nI dm) (nI l3)), ra_I (g 38) cI 90 ws_2_56, ra_I (g 36) cZ 900 yw2_57, ra_I (g 37) cZ 900 yo2_58, ra_J (g 43) cJ 90 be2_59, ra_J (g 44) cJ 90 bf2_60]) eu_64 hP hD rfl (fun hP hD => ?_)
              refine lv_iload hx hb dX12_frees_64 (lv_at hl 2 rfl) ?_
              refine lv_iconst (v := (-1)) hx hb dX12_frees_66 (by decide) ?_
              refine lv_icmp_eq (tgt := 83) hx hb dX12_frees_67 (by decide) (fun c_65 => ?_) (fun c_65 => ?_)
              · skip
                refine lv_iload hx hb dX12_frees_83 (lv_at hl 0 rfl) ?_
                refine lv_istore (lv' := [(5, .int (nI i)), (8, .int (nI i)), (6, .long mo_), (4, .int (nI (We kd_7))), (3, .int (nI (2 + (3 * kd_7) + 1))), (0, .ref mm), (1, .int (nI kd_7)), (2, .int 1)]) hx hb dX12_frees_85 hl (by decide) rfl (fun ls hl => ?_)
                refine lv_aload_n hx hb dX12_frees_87 rfl (lv_at hl 5 rfl) ?_
                refine sk_get (v := .long wy2_54) (C := RX12) (T := TX12) (N := 92) hx hb hts inlX12 hown hK hP 0 rfl rfl 45 (Nat.le_of_ble_eq_true rfl) w_5_200 rfl dX12_frees_88 ?_
                refine lv_lstore (lv' := [(6, .long wy2_54), (5, .int (nI i)), (8, .int (nI i)), (4, .int (nI (We kd_7))), (3, .int (nI (2 + (3 * kd_7) + 1))), (0, .ref mm), (1, .int (nI kd_7)), (2, .int 1)]) hx hb dX12_frees_91 hl (by decide) rfl (fun ls hl => ?_)
                refine lv_iinc (v := nI (i + 1)) (lv' := [(8, .int (nI (i + 1))), (6, .long wy2_54), (5, .int (nI i)), (4, .int (nI (We kd_7))), (3, .int (nI (2 + (3 * kd_7) + 1))), (0, .ref mm), (1, .int (nI kd_7)), (2, .int 1)]) hx hb dX12_frees_93 hl (k := 2) rfl (ninc i 1 (by decide)) (by decide) rfl (fun ls hl => ?_)
                refine lv_goto (tgt := 45) hx hb dX12_frees_96 (by decide) ?_
                exact ih_lp_40 (i + 1) wy2_54 (nI i) am2_51 at_2_52 aa2_53 tk2_49 qp2_50 wy2_54 f_46 ql2_55 ws_2_56 yw2_57 yo2_58 be2_59 bf2_60 (updG BB kd_7 i) _ _ _ (by omega) (by omega) hN_48 (updG_le hBB (by omega)) (fun j hj => by unfold updG; rw [if_neg hj]; exact hBe j hj) hP hD hS (lv_sub hl [0, 1, 2, 3, 4, 5, 6, 7] rfl)
              · skip
                refine lv_aload_n hx hb dX12_frees_70 rfl (lv_at hl 5 rfl) ?_
                refine sk_get (v := .long wy2_54) (C := RX12) (T := TX12) (N := 92) hx hb hts inlX12 hown hK hP 0 rfl rfl 45 (Nat.le_of_ble_eq_true rfl) w_5_200 rfl dX12_frees_71 ?_
                refine lv_lload hx hb dX12_frees_74 (lv_at hl 1 rfl) ?_
                refine W.lcmp hx hb dX12_frees_76 ?_
                refine lv_if_gt (tgt := 83) hx hb dX12_frees_77 (by decide) (fun c_66 => ?_) (fun c_66 => ?_)
                · skip
                  refine lv_iload hx hb dX12_frees_83 (lv_at hl 0 rfl) ?_
                  refine lv_istore (lv' := [(5, .int (nI i)), (8, .int (nI i)), (6, .long mo_), (4, .int (nI (We kd_7))), (3, .int (nI (2 + (3 * kd_7) + 1))), (0, .ref mm), (1, .int (nI kd_7)), (2, .int 1)]) hx hb dX12_frees_85 hl (by decide) rfl (fun ls hl => ?_)
                  refine lv_aload_n hx hb dX12_frees_87 rfl (lv_at hl 5 rfl) ?_
                  refine sk_get (v := .long wy2_54) (C := RX12) (T := TX12) (N := 92) hx hb hts inlX12 hown hK hP 0 rfl rfl 45 (Nat.le_of_ble_eq_true rfl) w_5_200 rfl dX12_frees_88 ?_
                  refine lv_lstore (lv' := [(6, .long wy2_54), (5, .int (nI i)), (8, .int (nI i)), (4, .int (nI (We kd_7))), (3, .int (nI (2 + (3 * kd_7) + 1))), (0, .ref mm), (1, .int (nI kd_7)), (2, .int 1)]) hx hb dX12_frees_91 hl (by decide) rfl (fun ls hl => ?_)
                  refine lv_iinc (v := nI (i + 1)) (lv' := [(8, .int (nI (i + 1))), (6, .long wy2_54), (5, .int (nI i)), (4, .int (nI (We kd_7))), (3, .int (nI (2 + (3 * kd_7) + 1))), (0, .ref mm), (1, .int (nI kd_7)), (2, .int 1)]) hx hb dX12_frees_93 hl (k := 2) rfl (ninc i 1 (by decide)) (by decide) rfl (fun ls hl => ?_)
                  refine lv_goto (tgt := 45) hx hb dX12_frees_96 (by decide) ?_
                  exact ih_lp_40 (i + 1) wy2_54 (nI i) am2_51 at_2_52 aa2_53 tk2_49 qp2_50 wy2_54 f_46 ql2_55 ws_2_56 yw2_57 yo2_58 be2_59 bf2_60 (updG BB kd_7 i) _ _ _ (by omega) (by omega) hN_48 (updG_le hBB (by omega)) (fun j hj => by unfold updG; rw [if_neg hj]; exact hBe j hj) hP hD hS (lv_sub hl [0, 1, 2, 3, 4, 5, 6, 7] rfl)
                · skip
                  refine lv_goto (tgt := 93) hx hb dX12_frees_80 (by decide) ?_
                  refine lv_iinc (v := nI (i + 1)) (lv' := [(8, .int (nI (i + 1))), (6, .long mo_), (5, .int be_), (4, .int (nI (We kd_7))), (3, .int (nI (2 + (3 * kd_7) + 1))), (0, .ref mm), (1, .int (nI kd_7)), (2, .int 1)]) hx hb dX12_frees_93 hl (k := 0) rfl (ninc i 1 (by decide)) (by decide) rfl (fun ls hl => ?_)
                  refine lv_goto (tgt := 45) hx hb dX12_frees_96 (by decide) ?_
                  exact ih_lp_40 (i + 1) mo_ be_ am2_51 at_2_52 aa2_53 tk2_49 qp2_50 wy2_54 f_46 ql2_55 ws_2_56 yw2_57 yo2_58 be2_59 bf2_60 (updG BB kd_7 i) _ _ _ (by omega) (by omega) hN_48 (updG_le hBB (by omega)) (fun j hj => by unfold updG; rw [if_neg hj]; exact hBe j hj) hP hD hS (lv_sub hl [0, 1, 2, 3, 4, 5, 6, 7] rfl)
        exact lp_40 (10 - 0 + 1) 0 0 (-1) am at_ aa tk qp wy nw ql ws_ yw yo be bf We _ _ _ (Nat.lt_succ_self _) (by omega) hnw hW9 (fun _ _ => rfl) hP hD hS (lv_sub hl [0, 1, 2, 3, 4, 5, 6, 7] rfl)
    · have c_11 : b_8 = 0 := (neq b_8 0 (by omega) (Nat.le_of_ble_eq_true rfl)).mp c_11
      refine lv_iconst (v := (-1)) hx hb dX12_frees_18 (by decide) ?_
      exact sk_iret hx hb hr rfl hlocks hK hP hD hS (⟨nw, tk, qp, am, at_, aa, wy, ql, ws_, yw, yo, be, bf, hnw, rfl⟩) (Nat.le_of_ble_eq_true rfl) (Nat.le_of_ble_eq_true rfl) dX12_frees_19
/-! the codes of sums and tests: what waits, how deep the pile stands -/
theorem sk_iastB {p : Program} {l : Launch} {e : Env} {R : Room} {s : State} {m : MethodId} {args : Array Value} {below : List Frame} {meth : Method} {c : Code} {H : Heap} {locs : List Loc} {cells slots : Nat} {Q : State → Prop} {cc : ByteArray} {pc : Nat} {ls : Array Slot} {rest : List Value} {D : va_G} {tys : List (ClassId × FieldType)} {ws : va_W} {A : Nat → Prop} {H0 : Heap} {a : Nat} (hexec : p.tables.exec = Jvm.exec) (hb : c.code = cc) (hK : skK D tys s) (hP : va_P D vwCl ws H) (hD : va_D A ws) (hS : va_S A H0 H locs) (q0 t0 : Nat) {cA : ClassId} {n B : Nat} {f : Nat → Nat} {ws' : (Nat → Nat) → va_W} (ha : ws[q0]? = some (a, .inl (cA, n, .inl (fun j => nI (f j))))) (ht : tys[t0]? = some (cA, .int)) {k v : Nat} (hk : k < n) (hn : n < 2147483648) (hf : ∀ j, f j ≤ B) (hv : v ≤ B) (hw' : ∀ f', ws.set q0 (a, .inl (cA, n, .inl (fun j => nI (f' j)))) = ws' f') (hdg : decode cc pc = .ok (.iastore, 1))
    (kk : ∀ (f' : Nat → Nat) (H1 : Heap) (locs1 : List Loc), (∀ j, f' j ≤ B) → f' = updN f k v → va_P D vwCl (ws' f') H1 → va_D A (ws' f') → va_S A H0 H1 locs1 → W p l e R s m args below meth c H1 locs1 cells slots Q (F0 m (pc + 1) ls rest)) : W p l e R s m args below meth c H locs cells slots Q (F0 m pc ls (.int (nI v) :: .int (nI k) :: .ref a :: rest)) := by
  refine va_iast hexec hb hK.1 hP hD hS q0 t0 ha ht (vin k n hk hn) hdg (fun H1 locs1 h1 h2 h3 => ?_)
  rw [updN_fun f k v (by omega)] at h1 h2
  exact kk _ H1 locs1 (updN_le hf hv) rfl ((hw' _) ▸ h1) ((hw' _) ▸ h2) h3
theorem updN_at (f : Nat → Nat) (k v : Nat) : updN f k v k = v := by unfold updN; rw [if_pos rfl]
theorem updN_ne (f : Nat → Nat) {k v j : Nat} (h : j ≠ k) : updN f k v j = f j := by unfold updN; rw [if_neg h]
/-- what the next byte is -/
def lkOk (tb : Nat → Nat) (r : Int32) (a e : Nat) : Prop := (r = -1 ∧ a = e) ∨ (a < e ∧ r = nI (tb a) ∧ ¬ tb a = 10 ∧ ¬ tb a = 32)
theorem lk_at {tb : Nat → Nat} {r : Int32} {a e w : Nat} (h : lkOk tb r a e) (hb : ∀ j, tb j ≤ 255) (hw : w < 2147483648) (c : r = nI w) : a < e ∧ tb a = w ∧ ¬ tb a = 10 ∧ ¬ tb a = 32 := by
  rcases h with ⟨h1, -⟩ | ⟨h1, h2, h3, h4⟩
  · have h5 : (nI w).toInt = (w : Int) := ivn w hw
    rw [← c, h1] at h5
    have h6 : ((-1 : Int32)).toInt = -1 := by decide
    rw [h6] at h5
    omega
  · have := hb a
    exact ⟨h1, (neq _ _ (by omega) hw).mp (h2.symm.trans c), h3, h4⟩
def stay (tb : Nat → Nat) (e a b : Nat) : Prop := a < e → ¬ tb a = 10 → ¬ tb a = 32 → b = a
theorem stay_tr {tb : Nat → Nat} {e a b c : Nat} (h1 : stay tb e a b) (h2 : stay tb e b c) : stay tb e a c := by
  intro q1 q2 q3
  have e1 := h1 q1 q2 q3
  subst e1
  exact h2 q1 q2 q3
theorem stay_rf {tb : Nat → Nat} {e a : Nat} : stay tb e a a := fun _ _ _ => rfl
theorem stay_bl {tb : Nat → Nat} {e a b : Nat} (h : tb a = 10 ∨ tb a = 32) : stay tb e a b := fun _ q2 q3 => absurd h (by omega)
/-- the pile's depth -/
def de (f : Nat → Nat) : Nat → Nat
  | 0 => 0
  | n + 1 => if 1000 ≤ f n ∨ (40 ≤ f n ∧ f n < 60) ∨ f n = 13 then de f n + 1 else if (60 ≤ f n ∧ f n < 1000) ∨ f n = 12 then de f n else de f n - 1
theorem de_p {f : Nat → Nat} {n : Nat} (h : 1000 ≤ f n ∨ (40 ≤ f n ∧ f n < 60) ∨ f n = 13) : de f (n + 1) = de f n + 1 := by rw [de, if_pos h]
theorem de_u {f : Nat → Nat} {n : Nat} (h : (60 ≤ f n ∧ f n < 1000) ∨ f n = 12) : de f (n + 1) = de f n := by rw [de, if_neg (by omega), if_pos h]
theorem de_b {f : Nat → Nat} {n : Nat} (h : f n < 40) (h2 : ¬ f n = 12) (h3 : ¬ f n = 13) : de f (n + 1) = de f n - 1 := by rw [de, if_neg (by omega), if_neg (by omega)]
theorem de_congr {f g : Nat → Nat} {n : Nat} (h : ∀ j, j < n → f j = g j) : de f n = de g n := by
  induction n with
  | zero => rfl
  | succ n ih => rw [de, de, ih (fun j hj => h j (by omega)), h n (by omega)]
def wf (f : Nat → Nat) (n : Nat) : Prop := ∀ j, j < n → ((60 ≤ f j ∧ f j < 1000) ∨ f j = 12 → 1 ≤ de f j) ∧ (f j < 40 → ¬ f j = 12 → ¬ f j = 13 → 2 ≤ de f j)
theorem wf_up {f : Nat → Nat} {n v : Nat} (h : wf f n) (h1 : (60 ≤ v ∧ v < 1000) ∨ v = 12 → 1 ≤ de f n) (h2 : v < 40 → ¬ v = 12 → ¬ v = 13 → 2 ≤ de f n) : wf (updN f n v) (n + 1) := by
  intro j hj
  have e1 : de (updN f n v) j = de f j := de_congr (fun i hi => updN_ne f (by omega))
  rw [e1]
  by_cases q : j = n
  · subst q; rw [updN_at]; exact ⟨h1, h2⟩
  · rw [updN_ne f q]; exact h j (by omega)
theorem de_upd {f : Nat → Nat} {n v : Nat} : de (updN f n v) n = de f n := de_congr (fun i hi => updN_ne f (by omega))
def wt (c : Nat) : Nat := if c = 1 ∨ c = 2 ∨ c = 3 ∨ c = 4 ∨ c = 10 ∨ c = 11 ∨ c = 23 ∨ c = 24 then 1 else 0
def wsum (f : Nat → Nat) : Nat → Nat
  | 0 => 0
  | n + 1 => wsum f n + wt (f n)
theorem wsum_congr {f g : Nat → Nat} {n : Nat} (h : ∀ j, j < n → f j = g j) : wsum f n = wsum g n := by
  induction n with
  | zero => rfl
  | succ n ih => rw [wsum, wsum, ih (fun j hj => h j (by omega)), h n (by omega)]
theorem wsum_pred {f : Nat → Nat} {n : Nat} (h : 1 ≤ n) : wsum f n = wsum f (n - 1) + wt (f (n - 1)) := by
  obtain ⟨m, rfl⟩ : ∃ m, n = m + 1 := ⟨n - 1, by omega⟩
  rw [Nat.add_sub_cancel]; rfl
theorem wt_1 {c : Nat} (h : c = 1 ∨ c = 2 ∨ c = 3 ∨ c = 4 ∨ c = 10 ∨ c = 11 ∨ c = 23 ∨ c = 24) : wt c = 1 := if_pos h
theorem wt_0 {c : Nat} (h : ¬ (c = 1 ∨ c = 2 ∨ c = 3 ∨ c = 4 ∨ c = 10 ∨ c = 11 ∨ c = 23 ∨ c = 24)) : wt c = 0 := if_neg h
def tst (c : Nat) : Prop := c = 10 ∨ c = 11 ∨ c = 12 ∨ c = 25
def sme (c : Nat) : Prop := c = 1 ∨ c = 2 ∨ c = 3 ∨ c = 4 ∨ c = 20 ∨ c = 21 ∨ c = 22 ∨ c = 23 ∨ c = 24 ∨ c = 60
def nnc (f : Nat → Nat) (n0 n : Nat) : Prop := ∀ j, n0 ≤ j → j < n → ¬ f j = 12 ∧ ¬ f j = 13
theorem nnc_up {f : Nat → Nat} {n0 n v : Nat} (h : nnc f n0 n) (hv : n0 ≤ n → ¬ v = 12 ∧ ¬ v = 13) : nnc (updN f n v) n0 (n + 1) := by
  intro j h1 h2
  by_cases q : j = n
  · subst q; rw [updN_at]; exact hv h1
  · rw [updN_ne f q]; exact h j h1 (by omega)
/-- sums under way: K more on the pile than what waits takes; below b tests wait, from b on sums -/
def SJ (K n0 : Nat) (qs : Nat → Nat) (qn : Nat) (qt : Nat → Nat) (b w : Nat) : Prop :=
  de qs qn = K + wsum qt w ∧ wf qs qn ∧ nnc qs n0 qn ∧ b ≤ w ∧ (∀ j, j < b → tst (qt j)) ∧ (∀ j, b ≤ j → j < w → sme (qt j))
theorem SJ_init {n0 : Nat} {qs qt : Nat → Nat} : SJ 0 n0 qs 0 qt 0 0 :=
  ⟨rfl, fun j hj => absurd hj (by omega), fun j _ hj => absurd hj (by omega), Nat.le_refl _, fun j hj => absurd hj (by omega), fun j _ hj => absurd hj (by omega)⟩
theorem SJ_code {K n0 qn b w v : Nat} {qs qt qs2 : Nat → Nat} (h : SJ K n0 qs qn qt b w) (hv : 1000 ≤ v ∨ (40 ≤ v ∧ v < 60) ∨ v = 13) (h0 : n0 ≤ qn → ¬ v = 13) (e : qs2 = updN qs qn v) : SJ (K + 1) n0 qs2 (qn + 1) qt b w := by
  subst e
  obtain ⟨h1, h2, h3, h4, h5, h6⟩ := h
  refine ⟨?_, wf_up h2 (fun q => absurd q (by omega)) (fun q1 q2 q3 => absurd hv (by omega)), nnc_up h3 (fun q => ⟨by omega, h0 q⟩), h4, h5, h6⟩
  rw [de_p (by rw [updN_at]; exact hv), de_upd]; omega
theorem SJ_bin {K n0 qn b w v : Nat} {qs qt qs2 : Nat → Nat} (h : SJ (K + 2) n0 qs qn qt b w) (hv : v < 12) (e : qs2 = updN qs qn v) : SJ (K + 1) n0 qs2 (qn + 1) qt b w := by
  subst e
  obtain ⟨h1, h2, h3, h4, h5, h6⟩ := h
  refine ⟨?_, wf_up h2 (fun q => absurd q (by omega)) (fun q1 q2 q3 => by omega), nnc_up h3 (fun q => ⟨by omega, by omega⟩), h4, h5, h6⟩
  rw [de_b (by rw [updN_at]; omega) (by rw [updN_at]; omega) (by rw [updN_at]; omega), de_upd]; omega
theorem SJ_drop {K n0 qn b w : Nat} {qs qt qs2 : Nat → Nat} (h : SJ (K + 1) n0 qs qn qt b w) (hw : b + 1 ≤ w) (hb : ¬ (20 ≤ qt (w - 1) ∧ qt (w - 1) ≤ 24)) (e : qs2 = updN qs qn (qt (w - 1))) : SJ (K + 1) n0 qs2 (qn + 1) qt b (w - 1) := by
  subst e
  obtain ⟨h1, h2, h3, h4, h5, h6⟩ := h
  have hs := h6 (w - 1) (by omega) (by omega)
  rw [wsum_pred (show 1 ≤ w by omega)] at h1
  generalize qt (w - 1) = v at *
  unfold sme at hs
  by_cases q : v = 60
  · rw [wt_0 (by omega)] at h1
    refine ⟨?_, wf_up h2 (fun _ => by omega) (fun q1 q2 q3 => by omega), nnc_up h3 (fun _ => ⟨by omega, by omega⟩), by omega, h5, fun j q1 q2 => h6 j q1 (by omega)⟩
    rw [de_u (by rw [updN_at]; omega), de_upd]; omega
  · rw [wt_1 (by omega)] at h1
    refine ⟨?_, wf_up h2 (fun _ => by omega) (fun q1 q2 q3 => by omega), nnc_up h3 (fun _ => ⟨by omega, by omega⟩), by omega, h5, fun j q1 q2 => h6 j q1 (by omega)⟩
    rw [de_b (by rw [updN_at]; omega) (by rw [updN_at]; omega) (by rw [updN_at]; omega), de_upd]; omega
theorem SJ_push0 {K n0 qn b w v : Nat} {qs qt qt2 : Nat → Nat} (h : SJ K n0 qs qn qt b w) (hv : v = 20 ∨ v = 21 ∨ v = 22 ∨ v = 60) (e : qt2 = updN qt w v) : SJ K n0 qs qn qt2 b (w + 1) := by
  subst e
  obtain ⟨h1, h2, h3, h4, h5, h6⟩ := h
  refine ⟨?_, h2, h3, by omega, fun j hj => by rw [updN_ne qt (by omega)]; exact h5 j hj, fun j q1 q2 => ?_⟩
  · rw [wsum, updN_at, wt_0 (by omega), wsum_congr (g := qt) (fun j hj => updN_ne qt (by omega))]; exact h1
  · by_cases q : j = w
    · subst q; rw [updN_at]; unfold sme; omega
    · rw [updN_ne qt q]; exact h6 j q1 (by omega)
theorem SJ_push1 {K n0 qn b w v : Nat} {qs qt qt2 : Nat → Nat} (h : SJ (K + 1) n0 qs qn qt b w) (hv : v = 1 ∨ v = 2 ∨ v = 3 ∨ v = 4) (e : qt2 = updN qt w v) : SJ K n0 qs qn qt2 b (w + 1) := by
  subst e
  obtain ⟨h1, h2, h3, h4, h5, h6⟩ := h
  refine ⟨?_, h2, h3, by omega, fun j hj => by rw [updN_ne qt (by omega)]; exact h5 j hj, fun j q1 q2 => ?_⟩
  · rw [wsum, updN_at, wt_1 (by omega), wsum_congr (g := qt) (fun j hj => updN_ne qt (by omega))]; omega
  · by_cases q : j = w
    · subst q; rw [updN_at]; unfold sme; omega
    · rw [updN_ne qt q]; exact h6 j q1 (by omega)
theorem SJ_pop {K n0 qn b w : Nat} {qs qt : Nat → Nat} (h : SJ K n0 qs qn qt b w) (hw : b + 1 ≤ w) (hv : qt (w - 1) = 20) : SJ K n0 qs qn qt b (w - 1) := by
  obtain ⟨h1, h2, h3, h4, h5, h6⟩ := h
  rw [wsum_pred (show 1 ≤ w by omega), hv, wt_0 (by omega)] at h1
  exact ⟨h1, h2, h3, by omega, h5, fun j q1 q2 => h6 j q1 (by omega)⟩
theorem SJ_popm {K n0 qn b w v : Nat} {qs qt qs2 : Nat → Nat} (h : SJ (K + 1) n0 qs qn qt b w) (hw : b + 1 ≤ w) (hv : qt (w - 1) = 23 ∨ qt (w - 1) = 24) (hv2 : v < 12) (e : qs2 = updN qs qn v) : SJ (K + 1) n0 qs2 (qn + 1) qt b (w - 1) := by
  subst e
  obtain ⟨h1, h2, h3, h4, h5, h6⟩ := h
  rw [wsum_pred (show 1 ≤ w by omega), wt_1 (by omega)] at h1
  refine ⟨?_, wf_up h2 (fun _ => by omega) (fun q1 q2 q3 => by omega), nnc_up h3 (fun _ => ⟨by omega, by omega⟩), by omega, h5, fun j q1 q2 => h6 j q1 (by omega)⟩
  rw [de_b (by rw [updN_at]; omega) (by rw [updN_at]; omega) (by rw [updN_at]; omega), de_upd]; omega
theorem SJ_next {K n0 qn b w v : Nat} {qs qt qt2 : Nat → Nat} (h : SJ (K + 1) n0 qs qn qt b w) (hw : b + 1 ≤ w) (hv : qt (w - 1) = 21 ∨ qt (w - 1) = 22) (hv2 : v = qt (w - 1) + 2) (e : qt2 = updN qt (w - 1) v) : SJ K n0 qs qn qt2 b w := by
  subst e
  obtain ⟨h1, h2, h3, h4, h5, h6⟩ := h
  have hw1 : 1 ≤ w := by omega
  rw [wsum_pred hw1, wt_0 (by omega)] at h1
  refine ⟨?_, h2, h3, by omega, fun j hj => by rw [updN_ne qt (by omega)]; exact h5 j hj, fun j q1 q2 => ?_⟩
  · rw [wsum_pred hw1, updN_at, wt_1 (by omega), wsum_congr (g := qt) (fun j hj => updN_ne qt (by omega))]; omega
  · by_cases q : j = w - 1
    · subst q; rw [updN_at]; unfold sme; omega
    · rw [updN_ne qt q]; exact h6 j q1 q2
/-- drops by a sign: what is on top is a sign of sums, so it stands above b -/
theorem SJ_top {K n0 qn b w : Nat} {qs qt : Nat → Nat} (h : SJ K n0 qs qn qt b w) (hw : 1 ≤ w) (hv : qt (w - 1) < 10) : b + 1 ≤ w := by
  obtain ⟨-, -, -, h4, h5, -⟩ := h
  rcases Nat.lt_or_ge b w with q | q
  · exact q
  · have := h5 (w - 1) (by omega)
    unfold tst at this
    omega
theorem SJ_le {K n0 qn b w : Nat} {qs qt : Nat → Nat} (h : SJ K n0 qs qn qt b w) : b ≤ w := h.2.2.2.1
theorem SJ_wf {K n0 qn b w : Nat} {qs qt : Nat → Nat} (h : SJ K n0 qs qn qt b w) : wf qs qn := h.2.1
/-- tests: everything that waits waits for tests -/
theorem SJ_T {K n0 qn b w : Nat} {qs qt : Nat → Nat} (h : SJ K n0 qs qn qt b w) (e : w = b) : SJ K n0 qs qn qt w w := by subst e; exact h
theorem SJ_push0T {K n0 qn w v : Nat} {qs qt qt2 : Nat → Nat} (h : SJ K n0 qs qn qt w w) (hv : v = 12 ∨ v = 25) (e : qt2 = updN qt w v) : SJ K n0 qs qn qt2 (w + 1) (w + 1) := by
  subst e
  obtain ⟨h1, h2, h3, h4, h5, h6⟩ := h
  refine ⟨?_, h2, h3, by omega, fun j hj => ?_, fun j q1 q2 => absurd q1 (by omega)⟩
  · rw [wsum, updN_at, wt_0 (by omega), wsum_congr (g := qt) (fun j hj => updN_ne qt (by omega))]; exact h1
  · by_cases q : j = w
    · subst q; rw [updN_at]; unfold tst; omega
    · rw [updN_ne qt q]; exact h5 j (by omega)
theorem SJ_push1T {K n0 qn w v : Nat} {qs qt qt2 : Nat → Nat} (h : SJ (K + 1) n0 qs qn qt w w) (hv : v = 10 ∨ v = 11) (e : qt2 = updN qt w v) : SJ K n0 qs qn qt2 (w + 1) (w + 1) := by
  subst e
  obtain ⟨h1, h2, h3, h4, h5, h6⟩ := h
  refine ⟨?_, h2, h3, by omega, fun j hj => ?_, fun j q1 q2 => absurd q1 (by omega)⟩
  · rw [wsum, updN_at, wt_1 (by omega), wsum_congr (g := qt) (fun j hj => updN_ne qt (by omega))]; omega
  · by_cases q : j = w
    · subst q; rw [updN_at]; unfold tst; omega
    · rw [updN_ne qt q]; exact h5 j (by omega)
theorem SJ_dropT {K n0 qn w : Nat} {qs qt qs2 : Nat → Nat} (h : SJ (K + 1) n0 qs qn qt w w) (hw : 1 ≤ w) (hb : ¬ qt (w - 1) = 25) (h0 : qn < n0) (e : qs2 = updN qs qn (qt (w - 1))) : SJ (K + 1) n0 qs2 (qn + 1) qt (w - 1) (w - 1) := by
  subst e
  obtain ⟨h1, h2, h3, h4, h5, h6⟩ := h
  have hs := h5 (w - 1) (by omega)
  rw [wsum_pred hw] at h1
  have h5' : ∀ j, j < w - 1 → tst (qt j) := fun j hj => h5 j (by omega)
  generalize qt (w - 1) = v at *
  unfold tst at hs
  by_cases q : v = 12
  · rw [wt_0 (by omega)] at h1
    refine ⟨?_, wf_up h2 (fun _ => by omega) (fun q1 q2 q3 => by omega), nnc_up h3 (fun q0 => absurd q0 (by omega)), Nat.le_refl _, h5', fun j q1 q2 => absurd q1 (by omega)⟩
    rw [de_u (by rw [updN_at]; omega), de_upd]; omega
  · rw [wt_1 (by omega)] at h1
    refine ⟨?_, wf_up h2 (fun _ => by omega) (fun q1 q2 q3 => by omega), nnc_up h3 (fun q0 => absurd q0 (by omega)), Nat.le_refl _, h5', fun j q1 q2 => absurd q1 (by omega)⟩
    rw [de_b (by rw [updN_at]; omega) (by rw [updN_at]; omega) (by rw [updN_at]; omega), de_upd]; omega
theorem SJ_popT {K n0 qn w : Nat} {qs qt : Nat → Nat} (h : SJ K n0 qs qn qt w w) (hw : 1 ≤ w) (hv : qt (w - 1) = 25) : SJ K n0 qs qn qt (w - 1) (w - 1) := by
  obtain ⟨h1, h2, h3, h4, h5, h6⟩ := h
  rw [wsum_pred hw, hv, wt_0 (by omega)] at h1
  exact ⟨h1, h2, h3, Nat.le_refl _, fun j hj => h5 j (by omega), fun j q1 q2 => absurd q1 (by omega)⟩
/-- the last bracket from b on -/
def lbO (qt : Nat → Nat) (b w : Nat) (r : Int32) : Prop := (r = -1 ∧ ∀ j, b ≤ j → j < w → ¬ (20 ≤ qt j ∧ qt j ≤ 24)) ∨ ∃ k, b ≤ k ∧ k < w ∧ 20 ≤ qt k ∧ qt k ≤ 24 ∧ r = nI (qt k) ∧ ∀ j, k < j → j < w → ¬ (20 ≤ qt j ∧ qt j ≤ 24)
def nbr (qt : Nat → Nat) (a w : Nat) : Prop := ∀ j, a ≤ j → j < w → ¬ (20 ≤ qt j ∧ qt j ≤ 24)
theorem nbr_0 {qt : Nat → Nat} {w : Nat} : nbr qt w w := fun j h1 h2 => absurd h1 (by omega)
theorem nbr_s {qt : Nat → Nat} {a w : Nat} (h : nbr qt a w) (h1 : ¬ (20 ≤ qt (a - 1) ∧ qt (a - 1) ≤ 24)) : nbr qt (a - 1) w := by
  intro j q1 q2
  by_cases q : j = a - 1
  · subst q; exact h1
  · exact h j (by omega) q2
theorem lb_none {qt : Nat → Nat} {a b w : Nat} (h : nbr qt a w) (hb : a ≤ b) : lbO qt b w (-1) := Or.inl ⟨rfl, fun j q1 q2 => h j (by omega) q2⟩
theorem lb_some {qt : Nat → Nat} {a b w : Nat} (h : nbr qt a w) (ha : 1 ≤ a) (hw : a ≤ w) (hb : b ≤ a - 1) (h1 : 20 ≤ qt (a - 1)) (h2 : qt (a - 1) ≤ 24) : lbO qt b w (nI (qt (a - 1))) := Or.inr ⟨a - 1, hb, by omega, h1, h2, rfl, fun j q1 q2 => h j (by omega) q2⟩
theorem lb_drop {qt : Nat → Nat} {b w w2 : Nat} {v : Nat} {r : Int32} (h : lbO qt b w r) (hv : v < 2147483648) (hr : r = nI v) (hle : w2 ≤ w) (h2 : w2 ≤ b ∨ (20 ≤ qt (w2 - 1) ∧ qt (w2 - 1) ≤ 24)) (h3 : nbr qt w2 w) : b + 1 ≤ w2 ∧ qt (w2 - 1) = v := by
  rcases h with ⟨h, -⟩ | ⟨k, k1, k2, k3, k4, k5, k6⟩
  · have h5 : (nI v).toInt = (v : Int) := ivn v hv
    rw [← hr, h] at h5
    have h6 : ((-1 : Int32)).toInt = -1 := by decide
    rw [h6] at h5
    omega
  · have e1 : qt k = v := (neq _ _ (by omega) hv).mp (k5.symm.trans hr)
    have q1 : k < w2 := by
      rcases Nat.lt_or_ge k w2 with q | q
      · exact q
      · exact absurd ⟨k3, k4⟩ (h3 k q k2)
    have q2 : w2 - 1 = k := by
      rcases Nat.lt_or_ge k (w2 - 1) with q | q
      · rcases h2 with h2 | h2
        · omega
        · exact absurd h2 (k6 (w2 - 1) q (by omega))
      · omega
    exact ⟨by omega, by rw [q2]; exact e1⟩
theorem lb_no {qt : Nat → Nat} {b w : Nat} {r : Int32} (h : lbO qt b w r) (hr : r = -1) : nbr qt b w := by
  rcases h with ⟨-, h⟩ | ⟨k, k1, k2, k3, k4, k5, k6⟩
  · exact h
  · have h5 : (nI (qt k)).toInt = (qt k : Int) := ivn _ (by omega)
    rw [← k5, hr] at h5
    have h6 : ((-1 : Int32)).toInt = -1 := by decide
    rw [h6] at h5
    omega
theorem nbr_at {qt : Nat → Nat} {a w j : Nat} (h : nbr qt a w) (h1 : a ≤ j) (h2 : j < w) : ¬ (20 ≤ qt j ∧ qt j ≤ 24) := h j h1 h2
def hasQ (qt : Nat → Nat) (w : Nat) : Prop := ∃ j, j < w ∧ qt j = 25
def noQ (qt : Nat → Nat) (w : Nat) : Prop := ∀ j, j < w → ¬ qt j = 25
theorem noQ_0 {qt : Nat → Nat} : noQ qt 0 := fun j h => absurd h (by omega)
theorem noQ_s {qt : Nat → Nat} {w : Nat} (h : noQ qt w) (h1 : ¬ qt w = 25) : noQ qt (w + 1) := by
  intro j hj
  by_cases q : j = w
  · subst q; exact h1
  · exact h j (by omega)
theorem noQ_at {qt : Nat → Nat} {w j : Nat} (h : noQ qt w) (h1 : j < w) : ¬ qt j = 25 := h j h1
theorem noQ_le {qt : Nat → Nat} {w v : Nat} (h : noQ qt w) (h1 : v ≤ w) : noQ qt v := fun j hj => h j (by omega)
theorem hasQ_1 {qt : Nat → Nat} {w : Nat} (h : hasQ qt w) : 1 ≤ w := by
  obtain ⟨j, hj, -⟩ := h; omega
theorem hasQ_s {qt : Nat → Nat} {w : Nat} (h : hasQ qt w) (h1 : ¬ qt (w - 1) = 25) : hasQ qt (w - 1) := by
  obtain ⟨j, hj, e⟩ := h
  refine ⟨j, ?_, e⟩
  rcases Nat.lt_or_ge j (w - 1) with q | q
  · exact q
  · exact absurd (show qt (w - 1) = 25 by rw [show w - 1 = j by omega]; exact e) h1
theorem hasQ_i {qt : Nat → Nat} {w j : Nat} (h : j < w) (e : qt j = 25) : hasQ qt w := ⟨j, h, e⟩
def cw (w : List Nat) : Nat → Int32 := fun j => nI (w.getD j 0)
theorem dg_X12_fail_0_0 : bqL cX12_fail 0 [(0, [42]), (1, [180, 0, 195]), (4, [153, 0, 4]), (8, [42]), (9, [27]), (10, [181, 0, 195]), (13, [42]), (14, [28]), (15, [181, 0, 198]), (18, [177]), (7, [177])] = true := by decide +kernel
theorem dX12_fail_0 : decode cX12_fail 0 = .ok (.aload_n 0, 1) := q_aload_n0 (bat_get dg_X12_fail_0_0 0 rfl rfl)
theorem dX12_fail_1 : decode cX12_fail 1 = .ok (.getfield 195, 3) := q_getfield (bat_get dg_X12_fail_0_0 1 rfl rfl) rfl
theorem dX12_fail_4 : decode cX12_fail 4 = .ok (.ifCond .eq 4, 3) := q_ifCond_eq (bat_get dg_X12_fail_0_0 2 rfl rfl) rfl
theorem dX12_fail_8 : decode cX12_fail 8 = .ok (.aload_n 0, 1) := q_aload_n0 (bat_get dg_X12_fail_0_0 3 rfl rfl)
theorem dX12_fail_9 : decode cX12_fail 9 = .ok (.iload_n 1, 1) := q_iload_n1 (bat_get dg_X12_fail_0_0 4 rfl rfl)
theorem dX12_fail_10 : decode cX12_fail 10 = .ok (.putfield 195, 3) := q_putfield (bat_get dg_X12_fail_0_0 5 rfl rfl) rfl
theorem dX12_fail_13 : decode cX12_fail 13 = .ok (.aload_n 0, 1) := q_aload_n0 (bat_get dg_X12_fail_0_0 6 rfl rfl)
theorem dX12_fail_14 : decode cX12_fail 14 = .ok (.iload_n 2, 1) := q_iload_n2 (bat_get dg_X12_fail_0_0 7 rfl rfl)
theorem dX12_fail_15 : decode cX12_fail 15 = .ok (.putfield 198, 3) := q_putfield (bat_get dg_X12_fail_0_0 8 rfl rfl) rfl
theorem dX12_fail_18 : decode cX12_fail 18 = .ok (.return_, 1) := q_return_ (bat_get dg_X12_fail_0_0 9 rfl rfl)
theorem dX12_fail_7 : decode cX12_fail 7 = .ok (.return_, 1) := q_return_ (bat_get dg_X12_fail_0_0 10 rfl rfl)
theorem w_5_160 : (Cond.fieldLink RX12 195 "SameKeeperModel" "bad" "I") ∈ wsL_law := sk_mem (ck_5 _ (List.mem_of_getElem? (i := 160) rfl)) rfl
theorem w_5_161 : (Cond.fieldLink RX12 198 "SameKeeperModel" "badPlace" "I") ∈ wsL_law := sk_mem (ck_5 _ (List.mem_of_getElem? (i := 161) rfl)) rfl
theorem w_6_232 : (Cond.code yX12_fail cX12_fail 3 none) ∈ wsL_law := sk_mem (ck_6 _ (List.mem_of_getElem? (i := 232) rfl)) rfl
theorem dg_X12_look_0_0 : bqL cX12_look 0 [(0, [42]), (1, [180, 0, 201]), (4, [42]), (5, [180, 0, 204]), (8, [162, 0, 44]), (52, [42]), (53, [180, 0, 201]), (56, [42]), (57, [180, 0, 204]), (60, [162, 0, 15]), (75, [2]), (76, [172]), (63, [42]), (64, [180, 0, 7]), (67, [42]), (68, [180, 0, 201]), (71, [46]), (72, [167, 0, 4]), (11, [42]), (12, [180, 0, 7]), (15, [42]), (16, [180, 0, 201]), (19, [46]), (20, [16, 10]), (22, [159, 0, 17]), (39, [42]), (40, [89]), (41, [180, 0, 201]), (44, [4]), (45, [96]), (46, [181, 0, 201]), (49, [167, 255, 207]), (25, [42]), (26, [180, 0, 7]), (29, [42]), (30, [180, 0, 201]), (33, [46]), (34, [16, 32]), (36, [160, 0, 16])] = true := by decide +kernel
theorem dX12_look_0 : decode cX12_look 0 = .ok (.aload_n 0, 1) := q_aload_n0 (bat_get dg_X12_look_0_0 0 rfl rfl)
theorem dX12_look_1 : decode cX12_look 1 = .ok (.getfield 201, 3) := q_getfield (bat_get dg_X12_look_0_0 1 rfl rfl) rfl
theorem dX12_look_4 : decode cX12_look 4 = .ok (.aload_n 0, 1) := q_aload_n0 (bat_get dg_X12_look_0_0 2 rfl rfl)
theorem dX12_look_5 : decode cX12_look 5 = .ok (.getfield 204, 3) := q_getfield (bat_get dg_X12_look_0_0 3 rfl rfl) rfl
theorem dX12_look_8 : decode cX12_look 8 = .ok (.if_icmp .ge 44, 3) := q_if_icmp_ge (bat_get dg_X12_look_0_0 4 rfl rfl) rfl
theorem dX12_look_52 : decode cX12_look 52 = .ok (.aload_n 0, 1) := q_aload_n0 (bat_get dg_X12_look_0_0 5 rfl rfl)
theorem dX12_look_53 : decode cX12_look 53 = .ok (.getfield 201, 3) := q_getfield (bat_get dg_X12_look_0_0 6 rfl rfl) rfl
theorem dX12_look_56 : decode cX12_look 56 = .ok (.aload_n 0, 1) := q_aload_n0 (bat_get dg_X12_look_0_0 7 rfl rfl)
theorem dX12_look_57 : decode cX12_look 57 = .ok (.getfield 204, 3) := q_getfield (bat_get dg_X12_look_0_0 8 rfl rfl) rfl
theorem dX12_look_60 : decode cX12_look 60 = .ok (.if_icmp .ge 15, 3) := q_if_icmp_ge (bat_get dg_X12_look_0_0 9 rfl rfl) rfl
theorem dX12_look_75 : decode cX12_look 75 = .ok (.iconst (-1), 1) := q_iconstm1 (bat_get dg_X12_look_0_0 10 rfl rfl)
theorem dX12_look_76 : decode cX12_look 76 = .ok (.ireturn, 1) := q_ireturn (bat_get dg_X12_look_0_0 11 rfl rfl)
theorem dX12_look_63 : decode cX12_look 63 = .ok (.aload_n 0, 1) := q_aload_n0 (bat_get dg_X12_look_0_0 12 rfl rfl)
theorem dX12_look_64 : decode cX12_look 64 = .ok (.getfield 7, 3) := q_getfield (bat_get dg_X12_look_0_0 13 rfl rfl) rfl
theorem dX12_look_67 : decode cX12_look 67 = .ok (.aload_n 0, 1) := q_aload_n0 (bat_get dg_X12_look_0_0 14 rfl rfl)
theorem dX12_look_68 : decode cX12_look 68 = .ok (.getfield 201, 3) := q_getfield (bat_get dg_X12_look_0_0 15 rfl rfl) rfl
theorem dX12_look_71 : decode cX12_look 71 = .ok (.iaload, 1) := q_iaload (bat_get dg_X12_look_0_0 16 rfl rfl)
theorem dX12_look_72 : decode cX12_look 72 = .ok (.goto 4, 3) := q_goto (bat_get dg_X12_look_0_0 17 rfl rfl) rfl
theorem dX12_look_11 : decode cX12_look 11 = .ok (.aload_n 0, 1) := q_aload_n0 (bat_get dg_X12_look_0_0 18 rfl rfl)
theorem dX12_look_12 : decode cX12_look 12 = .ok (.getfield 7, 3) := q_getfield (bat_get dg_X12_look_0_0 19 rfl rfl) rfl
theorem dX12_look_15 : decode cX12_look 15 = .ok (.aload_n 0, 1) := q_aload_n0 (bat_get dg_X12_look_0_0 20 rfl rfl)
theorem dX12_look_16 : decode cX12_look 16 = .ok (.getfield 201, 3) := q_getfield (bat_get dg_X12_look_0_0 21 rfl rfl) rfl
theorem dX12_look_19 : decode cX12_look 19 = .ok (.iaload, 1) := q_iaload (bat_get dg_X12_look_0_0 22 rfl rfl)
theorem dX12_look_20 : decode cX12_look 20 = .ok (.bipush 10, 2) := q_bipush (bat_get dg_X12_look_0_0 23 rfl rfl) rfl
theorem dX12_look_22 : decode cX12_look 22 = .ok (.if_icmp .eq 17, 3) := q_if_icmp_eq (bat_get dg_X12_look_0_0 24 rfl rfl) rfl
theorem dX12_look_39 : decode cX12_look 39 = .ok (.aload_n 0, 1) := q_aload_n0 (bat_get dg_X12_look_0_0 25 rfl rfl)
theorem dX12_look_40 : decode cX12_look 40 = .ok (.dup, 1) := q_dup (bat_get dg_X12_look_0_0 26 rfl rfl)
theorem dX12_look_41 : decode cX12_look 41 = .ok (.getfield 201, 3) := q_getfield (bat_get dg_X12_look_0_0 27 rfl rfl) rfl
theorem dX12_look_44 : decode cX12_look 44 = .ok (.iconst 1, 1) := q_iconst1 (bat_get dg_X12_look_0_0 28 rfl rfl)
theorem dX12_look_45 : decode cX12_look 45 = .ok (.iadd, 1) := q_iadd (bat_get dg_X12_look_0_0 29 rfl rfl)
theorem dX12_look_46 : decode cX12_look 46 = .ok (.putfield 201, 3) := q_putfield (bat_get dg_X12_look_0_0 30 rfl rfl) rfl
theorem dX12_look_49 : decode cX12_look 49 = .ok (.goto (-49), 3) := q_goto (bat_get dg_X12_look_0_0 31 rfl rfl) rfl
theorem dX12_look_25 : decode cX12_look 25 = .ok (.aload_n 0, 1) := q_aload_n0 (bat_get dg_X12_look_0_0 32 rfl rfl)
theorem dX12_look_26 : decode cX12_look 26 = .ok (.getfield 7, 3) := q_getfield (bat_get dg_X12_look_0_0 33 rfl rfl) rfl
theorem dX12_look_29 : decode cX12_look 29 = .ok (.aload_n 0, 1) := q_aload_n0 (bat_get dg_X12_look_0_0 34 rfl rfl)
theorem dX12_look_30 : decode cX12_look 30 = .ok (.getfield 201, 3) := q_getfield (bat_get dg_X12_look_0_0 35 rfl rfl) rfl
theorem dX12_look_33 : decode cX12_look 33 = .ok (.iaload, 1) := q_iaload (bat_get dg_X12_look_0_0 36 rfl rfl)
theorem dX12_look_34 : decode cX12_look 34 = .ok (.bipush 32, 2) := q_bipush (bat_get dg_X12_look_0_0 37 rfl rfl) rfl
theorem dX12_look_36 : decode cX12_look 36 = .ok (.if_icmp .ne 16, 3) := q_if_icmp_ne (bat_get dg_X12_look_0_0 38 rfl rfl) rfl
theorem w_5_157 : (Cond.fieldLink RX12 201 "SameKeeperModel" "at" "I") ∈ wsL_law := sk_mem (ck_5 _ (List.mem_of_getElem? (i := 157) rfl)) rfl
theorem w_5_158 : (Cond.fieldLink RX12 204 "SameKeeperModel" "end" "I") ∈ wsL_law := sk_mem (ck_5 _ (List.mem_of_getElem? (i := 158) rfl)) rfl
theorem w_6_225 : (Cond.code yX12_look cX12_look 1 (some .int)) ∈ wsL_law := sk_mem (ck_6 _ (List.mem_of_getElem? (i := 225) rfl)) rfl
theorem dg_X12_isHere_0_0 : bqL cX12_isHere 0 [(0, [42]), (1, [180, 0, 195]), (4, [154, 0, 24]), (28, [3]), (29, [172]), (7, [42]), (8, [182, 0, 207]), (11, [184, 0, 211]), (14, [153, 0, 14]), (17, [42]), (18, [180, 0, 201]), (21, [42]), (22, [180, 0, 215]), (25, [160, 0, 5]), (30, [42]), (31, [180, 0, 201]), (34, [61]), (35, [28]), (36, [42]), (37, [180, 0, 204]), (40, [162, 0, 21]), (61, [28]), (62, [42]), (63, [180, 0, 201]), (66, [100]), (67, [43]), (68, [190]), (69, [159, 0, 5]), (74, [3]), (75, [62]), (76, [29]), (77, [43]), (78, [190]), (79, [162, 0, 28]), (107, [4]), (108, [172]), (82, [42]), (83, [180, 0, 7]), (86, [42]), (87, [180, 0, 201])] = true := by decide +kernel
theorem dX12_isHere_0 : decode cX12_isHere 0 = .ok (.aload_n 0, 1) := q_aload_n0 (bat_get dg_X12_isHere_0_0 0 rfl rfl)
theorem dX12_isHere_1 : decode cX12_isHere 1 = .ok (.getfield 195, 3) := q_getfield (bat_get dg_X12_isHere_0_0 1 rfl rfl) rfl
theorem dX12_isHere_4 : decode cX12_isHere 4 = .ok (.ifCond .ne 24, 3) := q_ifCond_ne (bat_get dg_X12_isHere_0_0 2 rfl rfl) rfl
theorem dX12_isHere_28 : decode cX12_isHere 28 = .ok (.iconst 0, 1) := q_iconst0 (bat_get dg_X12_isHere_0_0 3 rfl rfl)
theorem dX12_isHere_29 : decode cX12_isHere 29 = .ok (.ireturn, 1) := q_ireturn (bat_get dg_X12_isHere_0_0 4 rfl rfl)
theorem dX12_isHere_7 : decode cX12_isHere 7 = .ok (.aload_n 0, 1) := q_aload_n0 (bat_get dg_X12_isHere_0_0 5 rfl rfl)
theorem dX12_isHere_8 : decode cX12_isHere 8 = .ok (.invokevirtual 207, 3) := q_invokevirtual (bat_get dg_X12_isHere_0_0 6 rfl rfl) rfl
theorem dX12_isHere_11 : decode cX12_isHere 11 = .ok (.invokestatic 211, 3) := q_invokestatic (bat_get dg_X12_isHere_0_0 7 rfl rfl) rfl
theorem dX12_isHere_14 : decode cX12_isHere 14 = .ok (.ifCond .eq 14, 3) := q_ifCond_eq (bat_get dg_X12_isHere_0_0 8 rfl rfl) rfl
theorem dX12_isHere_17 : decode cX12_isHere 17 = .ok (.aload_n 0, 1) := q_aload_n0 (bat_get dg_X12_isHere_0_0 9 rfl rfl)
theorem dX12_isHere_18 : decode cX12_isHere 18 = .ok (.getfield 201, 3) := q_getfield (bat_get dg_X12_isHere_0_0 10 rfl rfl) rfl
theorem dX12_isHere_21 : decode cX12_isHere 21 = .ok (.aload_n 0, 1) := q_aload_n0 (bat_get dg_X12_isHere_0_0 11 rfl rfl)
theorem dX12_isHere_22 : decode cX12_isHere 22 = .ok (.getfield 215, 3) := q_getfield (bat_get dg_X12_isHere_0_0 12 rfl rfl) rfl
theorem dX12_isHere_25 : decode cX12_isHere 25 = .ok (.if_icmp .ne 5, 3) := q_if_icmp_ne (bat_get dg_X12_isHere_0_0 13 rfl rfl) rfl
theorem dX12_isHere_30 : decode cX12_isHere 30 = .ok (.aload_n 0, 1) := q_aload_n0 (bat_get dg_X12_isHere_0_0 14 rfl rfl)
theorem dX12_isHere_31 : decode cX12_isHere 31 = .ok (.getfield 201, 3) := q_getfield (bat_get dg_X12_isHere_0_0 15 rfl rfl) rfl
theorem dX12_isHere_34 : decode cX12_isHere 34 = .ok (.istore_n 2, 1) := q_istore_n2 (bat_get dg_X12_isHere_0_0 16 rfl rfl)
theorem dX12_isHere_35 : decode cX12_isHere 35 = .ok (.iload_n 2, 1) := q_iload_n2 (bat_get dg_X12_isHere_0_0 17 rfl rfl)
theorem dX12_isHere_36 : decode cX12_isHere 36 = .ok (.aload_n 0, 1) := q_aload_n0 (bat_get dg_X12_isHere_0_0 18 rfl rfl)
theorem dX12_isHere_37 : decode cX12_isHere 37 = .ok (.getfield 204, 3) := q_getfield (bat_get dg_X12_isHere_0_0 19 rfl rfl) rfl
theorem dX12_isHere_40 : decode cX12_isHere 40 = .ok (.if_icmp .ge 21, 3) := q_if_icmp_ge (bat_get dg_X12_isHere_0_0 20 rfl rfl) rfl
theorem dX12_isHere_61 : decode cX12_isHere 61 = .ok (.iload_n 2, 1) := q_iload_n2 (bat_get dg_X12_isHere_0_0 21 rfl rfl)
theorem dX12_isHere_62 : decode cX12_isHere 62 = .ok (.aload_n 0, 1) := q_aload_n0 (bat_get dg_X12_isHere_0_0 22 rfl rfl)
theorem dX12_isHere_63 : decode cX12_isHere 63 = .ok (.getfield 201, 3) := q_getfield (bat_get dg_X12_isHere_0_0 23 rfl rfl) rfl
theorem dX12_isHere_66 : decode cX12_isHere 66 = .ok (.isub, 1) := q_isub (bat_get dg_X12_isHere_0_0 24 rfl rfl)
theorem dX12_isHere_67 : decode cX12_isHere 67 = .ok (.aload_n 1, 1) := q_aload_n1 (bat_get dg_X12_isHere_0_0 25 rfl rfl)
theorem dX12_isHere_68 : decode cX12_isHere 68 = .ok (.arraylength, 1) := q_arraylength (bat_get dg_X12_isHere_0_0 26 rfl rfl)
theorem dX12_isHere_69 : decode cX12_isHere 69 = .ok (.if_icmp .eq 5, 3) := q_if_icmp_eq (bat_get dg_X12_isHere_0_0 27 rfl rfl) rfl
theorem dX12_isHere_74 : decode cX12_isHere 74 = .ok (.iconst 0, 1) := q_iconst0 (bat_get dg_X12_isHere_0_0 28 rfl rfl)
theorem dX12_isHere_75 : decode cX12_isHere 75 = .ok (.istore_n 3, 1) := q_istore_n3 (bat_get dg_X12_isHere_0_0 29 rfl rfl)
theorem dX12_isHere_76 : decode cX12_isHere 76 = .ok (.iload_n 3, 1) := q_iload_n3 (bat_get dg_X12_isHere_0_0 30 rfl rfl)
theorem dX12_isHere_77 : decode cX12_isHere 77 = .ok (.aload_n 1, 1) := q_aload_n1 (bat_get dg_X12_isHere_0_0 31 rfl rfl)
theorem dX12_isHere_78 : decode cX12_isHere 78 = .ok (.arraylength, 1) := q_arraylength (bat_get dg_X12_isHere_0_0 32 rfl rfl)
theorem dX12_isHere_79 : decode cX12_isHere 79 = .ok (.if_icmp .ge 28, 3) := q_if_icmp_ge (bat_get dg_X12_isHere_0_0 33 rfl rfl) rfl
theorem dX12_isHere_107 : decode cX12_isHere 107 = .ok (.iconst 1, 1) := q_iconst1 (bat_get dg_X12_isHere_0_0 34 rfl rfl)
theorem dX12_isHere_108 : decode cX12_isHere 108 = .ok (.ireturn, 1) := q_ireturn (bat_get dg_X12_isHere_0_0 35 rfl rfl)
theorem dX12_isHere_82 : decode cX12_isHere 82 = .ok (.aload_n 0, 1) := q_aload_n0 (bat_get dg_X12_isHere_0_0 36 rfl rfl)
theorem dX12_isHere_83 : decode cX12_isHere 83 = .ok (.getfield 7, 3) := q_getfield (bat_get dg_X12_isHere_0_0 37 rfl rfl) rfl
theorem dX12_isHere_86 : decode cX12_isHere 86 = .ok (.aload_n 0, 1) := q_aload_n0 (bat_get dg_X12_isHere_0_0 38 rfl rfl)
theorem dX12_isHere_87 : decode cX12_isHere 87 = .ok (.getfield 201, 3) := q_getfield (bat_get dg_X12_isHere_0_0 39 rfl rfl) rfl
theorem dg_X12_isHere_43_90 : bqL cX12_isHere 43 [(47, [29]), (48, [96]), (49, [46]), (50, [43]), (51, [29]), (52, [52]), (53, [159, 0, 5]), (58, [132, 3, 1]), (61, [167, 255, 228]), (56, [3]), (57, [172]), (29, [3]), (30, [172]), (0, [42]), (1, [180, 0, 7]), (4, [28]), (5, [46]), (6, [184, 0, 211]), (9, [153, 0, 9]), (12, [132, 2, 1]), (15, [167, 255, 233])] = true := by decide +kernel
theorem dX12_isHere_90 : decode cX12_isHere 90 = .ok (.iload_n 3, 1) := q_iload_n3 (bat_get dg_X12_isHere_43_90 0 rfl rfl)
theorem dX12_isHere_91 : decode cX12_isHere 91 = .ok (.iadd, 1) := q_iadd (bat_get dg_X12_isHere_43_90 1 rfl rfl)
theorem dX12_isHere_92 : decode cX12_isHere 92 = .ok (.iaload, 1) := q_iaload (bat_get dg_X12_isHere_43_90 2 rfl rfl)
theorem dX12_isHere_93 : decode cX12_isHere 93 = .ok (.aload_n 1, 1) := q_aload_n1 (bat_get dg_X12_isHere_43_90 3 rfl rfl)
theorem dX12_isHere_94 : decode cX12_isHere 94 = .ok (.iload_n 3, 1) := q_iload_n3 (bat_get dg_X12_isHere_43_90 4 rfl rfl)
theorem dX12_isHere_95 : decode cX12_isHere 95 = .ok (.caload, 1) := q_caload (bat_get dg_X12_isHere_43_90 5 rfl rfl)
theorem dX12_isHere_96 : decode cX12_isHere 96 = .ok (.if_icmp .eq 5, 3) := q_if_icmp_eq (bat_get dg_X12_isHere_43_90 6 rfl rfl) rfl
theorem dX12_isHere_101 : decode cX12_isHere 101 = .ok (.iinc 3 1, 3) := q_iinc (bat_get dg_X12_isHere_43_90 7 rfl rfl) rfl
theorem dX12_isHere_104 : decode cX12_isHere 104 = .ok (.goto (-28), 3) := q_goto (bat_get dg_X12_isHere_43_90 8 rfl rfl) rfl
theorem dX12_isHere_99 : decode cX12_isHere 99 = .ok (.iconst 0, 1) := q_iconst0 (bat_get dg_X12_isHere_43_90 9 rfl rfl)
theorem dX12_isHere_100 : decode cX12_isHere 100 = .ok (.ireturn, 1) := q_ireturn (bat_get dg_X12_isHere_43_90 10 rfl rfl)
theorem dX12_isHere_72 : decode cX12_isHere 72 = .ok (.iconst 0, 1) := q_iconst0 (bat_get dg_X12_isHere_43_90 11 rfl rfl)
theorem dX12_isHere_73 : decode cX12_isHere 73 = .ok (.ireturn, 1) := q_ireturn (bat_get dg_X12_isHere_43_90 12 rfl rfl)
theorem dX12_isHere_43 : decode cX12_isHere 43 = .ok (.aload_n 0, 1) := q_aload_n0 (bat_get dg_X12_isHere_43_90 13 rfl rfl)
theorem dX12_isHere_44 : decode cX12_isHere 44 = .ok (.getfield 7, 3) := q_getfield (bat_get dg_X12_isHere_43_90 14 rfl rfl) rfl
theorem dX12_isHere_47 : decode cX12_isHere 47 = .ok (.iload_n 2, 1) := q_iload_n2 (bat_get dg_X12_isHere_43_90 15 rfl rfl)
theorem dX12_isHere_48 : decode cX12_isHere 48 = .ok (.iaload, 1) := q_iaload (bat_get dg_X12_isHere_43_90 16 rfl rfl)
theorem dX12_isHere_49 : decode cX12_isHere 49 = .ok (.invokestatic 211, 3) := q_invokestatic (bat_get dg_X12_isHere_43_90 17 rfl rfl) rfl
theorem dX12_isHere_52 : decode cX12_isHere 52 = .ok (.ifCond .eq 9, 3) := q_ifCond_eq (bat_get dg_X12_isHere_43_90 18 rfl rfl) rfl
theorem dX12_isHere_55 : decode cX12_isHere 55 = .ok (.iinc 2 1, 3) := q_iinc (bat_get dg_X12_isHere_43_90 19 rfl rfl) rfl
theorem dX12_isHere_58 : decode cX12_isHere 58 = .ok (.goto (-23), 3) := q_goto (bat_get dg_X12_isHere_43_90 20 rfl rfl) rfl
theorem w_6_222 : (Cond.methodLink RX12 207 yX12_look) ∈ wsL_law := sk_mem (ck_6 _ (List.mem_of_getElem? (i := 222) rfl)) rfl
theorem w_6_224 : (Cond.instanceMethod yX12_look) ∈ wsL_law := sk_mem (ck_6 _ (List.mem_of_getElem? (i := 224) rfl)) rfl
theorem w_0_45 : (Cond.selects RX12 yX12_look yX12_look) ∈ wsL_law := sk_mem (ck_0 _ (List.mem_of_getElem? (i := 45) rfl)) rfl
theorem w_6_226 : (Cond.methodLink RX12 211 yX12_isLetter) ∈ wsL_law := sk_mem (ck_6 _ (List.mem_of_getElem? (i := 226) rfl)) rfl
theorem w_6_227 : (Cond.static yX12_isLetter) ∈ wsL_law := sk_mem (ck_6 _ (List.mem_of_getElem? (i := 227) rfl)) rfl
theorem w_5_159 : (Cond.fieldLink RX12 215 "SameKeeperModel" "ended" "I") ∈ wsL_law := sk_mem (ck_5 _ (List.mem_of_getElem? (i := 159) rfl)) rfl
theorem w_6_221 : (Cond.code yX12_isHere cX12_isHere 4 (some .boolean)) ∈ wsL_law := sk_mem (ck_6 _ (List.mem_of_getElem? (i := 221) rfl)) rfl
theorem hd_X12_look_0 : skD yX12_look 0 := by decide +kernel
theorem hd_X12_isLetter_1 : skD yX12_isLetter 1 := by decide +kernel
theorem dg_X12_takes_0_0 : bqL cX12_takes 0 [(0, [42]), (1, [43]), (2, [182, 0, 218]), (5, [154, 0, 5]), (10, [42]), (11, [89]), (12, [180, 0, 201]), (15, [43]), (16, [190]), (17, [96]), (18, [181, 0, 201]), (21, [42]), (22, [42]), (23, [180, 0, 201]), (26, [181, 0, 215]), (29, [4]), (30, [172]), (8, [3]), (9, [172])] = true := by decide +kernel
theorem dX12_takes_0 : decode cX12_takes 0 = .ok (.aload_n 0, 1) := q_aload_n0 (bat_get dg_X12_takes_0_0 0 rfl rfl)
theorem dX12_takes_1 : decode cX12_takes 1 = .ok (.aload_n 1, 1) := q_aload_n1 (bat_get dg_X12_takes_0_0 1 rfl rfl)
theorem dX12_takes_2 : decode cX12_takes 2 = .ok (.invokevirtual 218, 3) := q_invokevirtual (bat_get dg_X12_takes_0_0 2 rfl rfl) rfl
theorem dX12_takes_5 : decode cX12_takes 5 = .ok (.ifCond .ne 5, 3) := q_ifCond_ne (bat_get dg_X12_takes_0_0 3 rfl rfl) rfl
theorem dX12_takes_10 : decode cX12_takes 10 = .ok (.aload_n 0, 1) := q_aload_n0 (bat_get dg_X12_takes_0_0 4 rfl rfl)
theorem dX12_takes_11 : decode cX12_takes 11 = .ok (.dup, 1) := q_dup (bat_get dg_X12_takes_0_0 5 rfl rfl)
theorem dX12_takes_12 : decode cX12_takes 12 = .ok (.getfield 201, 3) := q_getfield (bat_get dg_X12_takes_0_0 6 rfl rfl) rfl
theorem dX12_takes_15 : decode cX12_takes 15 = .ok (.aload_n 1, 1) := q_aload_n1 (bat_get dg_X12_takes_0_0 7 rfl rfl)
theorem dX12_takes_16 : decode cX12_takes 16 = .ok (.arraylength, 1) := q_arraylength (bat_get dg_X12_takes_0_0 8 rfl rfl)
theorem dX12_takes_17 : decode cX12_takes 17 = .ok (.iadd, 1) := q_iadd (bat_get dg_X12_takes_0_0 9 rfl rfl)
theorem dX12_takes_18 : decode cX12_takes 18 = .ok (.putfield 201, 3) := q_putfield (bat_get dg_X12_takes_0_0 10 rfl rfl) rfl
theorem dX12_takes_21 : decode cX12_takes 21 = .ok (.aload_n 0, 1) := q_aload_n0 (bat_get dg_X12_takes_0_0 11 rfl rfl)
theorem dX12_takes_22 : decode cX12_takes 22 = .ok (.aload_n 0, 1) := q_aload_n0 (bat_get dg_X12_takes_0_0 12 rfl rfl)
theorem dX12_takes_23 : decode cX12_takes 23 = .ok (.getfield 201, 3) := q_getfield (bat_get dg_X12_takes_0_0 13 rfl rfl) rfl
theorem dX12_takes_26 : decode cX12_takes 26 = .ok (.putfield 215, 3) := q_putfield (bat_get dg_X12_takes_0_0 14 rfl rfl) rfl
theorem dX12_takes_29 : decode cX12_takes 29 = .ok (.iconst 1, 1) := q_iconst1 (bat_get dg_X12_takes_0_0 15 rfl rfl)
theorem dX12_takes_30 : decode cX12_takes 30 = .ok (.ireturn, 1) := q_ireturn (bat_get dg_X12_takes_0_0 16 rfl rfl)
theorem dX12_takes_8 : decode cX12_takes 8 = .ok (.iconst 0, 1) := q_iconst0 (bat_get dg_X12_takes_0_0 17 rfl rfl)
theorem dX12_takes_9 : decode cX12_takes 9 = .ok (.ireturn, 1) := q_ireturn (bat_get dg_X12_takes_0_0 18 rfl rfl)
theorem w_6_218 : (Cond.methodLink RX12 218 yX12_isHere) ∈ wsL_law := sk_mem (ck_6 _ (List.mem_of_getElem? (i := 218) rfl)) rfl
theorem w_6_220 : (Cond.instanceMethod yX12_isHere) ∈ wsL_law := sk_mem (ck_6 _ (List.mem_of_getElem? (i := 220) rfl)) rfl
theorem w_0_44 : (Cond.selects RX12 yX12_isHere yX12_isHere) ∈ wsL_law := sk_mem (ck_0 _ (List.mem_of_getElem? (i := 44) rfl)) rfl
theorem w_6_217 : (Cond.code yX12_takes cX12_takes 2 (some .boolean)) ∈ wsL_law := sk_mem (ck_6 _ (List.mem_of_getElem? (i := 217) rfl)) rfl
theorem hd_X12_isHere_1 : skD yX12_isHere 1 := by decide +kernel
theorem dg_X12_asks_0_0 : bqL cX12_asks 0 [(0, [42]), (1, [180, 0, 195]), (4, [154, 0, 20]), (24, [177]), (7, [42]), (8, [43]), (9, [182, 0, 222]), (12, [154, 0, 12]), (15, [42]), (16, [4]), (17, [42]), (18, [180, 0, 201]), (21, [182, 0, 225])] = true := by decide +kernel
theorem dX12_asks_0 : decode cX12_asks 0 = .ok (.aload_n 0, 1) := q_aload_n0 (bat_get dg_X12_asks_0_0 0 rfl rfl)
theorem dX12_asks_1 : decode cX12_asks 1 = .ok (.getfield 195, 3) := q_getfield (bat_get dg_X12_asks_0_0 1 rfl rfl) rfl
theorem dX12_asks_4 : decode cX12_asks 4 = .ok (.ifCond .ne 20, 3) := q_ifCond_ne (bat_get dg_X12_asks_0_0 2 rfl rfl) rfl
theorem dX12_asks_24 : decode cX12_asks 24 = .ok (.return_, 1) := q_return_ (bat_get dg_X12_asks_0_0 3 rfl rfl)
theorem dX12_asks_7 : decode cX12_asks 7 = .ok (.aload_n 0, 1) := q_aload_n0 (bat_get dg_X12_asks_0_0 4 rfl rfl)
theorem dX12_asks_8 : decode cX12_asks 8 = .ok (.aload_n 1, 1) := q_aload_n1 (bat_get dg_X12_asks_0_0 5 rfl rfl)
theorem dX12_asks_9 : decode cX12_asks 9 = .ok (.invokevirtual 222, 3) := q_invokevirtual (bat_get dg_X12_asks_0_0 6 rfl rfl) rfl
theorem dX12_asks_12 : decode cX12_asks 12 = .ok (.ifCond .ne 12, 3) := q_ifCond_ne (bat_get dg_X12_asks_0_0 7 rfl rfl) rfl
theorem dX12_asks_15 : decode cX12_asks 15 = .ok (.aload_n 0, 1) := q_aload_n0 (bat_get dg_X12_asks_0_0 8 rfl rfl)
theorem dX12_asks_16 : decode cX12_asks 16 = .ok (.iconst 1, 1) := q_iconst1 (bat_get dg_X12_asks_0_0 9 rfl rfl)
theorem dX12_asks_17 : decode cX12_asks 17 = .ok (.aload_n 0, 1) := q_aload_n0 (bat_get dg_X12_asks_0_0 10 rfl rfl)
theorem dX12_asks_18 : decode cX12_asks 18 = .ok (.getfield 201, 3) := q_getfield (bat_get dg_X12_asks_0_0 11 rfl rfl) rfl
theorem dX12_asks_21 : decode cX12_asks 21 = .ok (.invokevirtual 225, 3) := q_invokevirtual (bat_get dg_X12_asks_0_0 12 rfl rfl) rfl
theorem w_6_214 : (Cond.methodLink RX12 222 yX12_takes) ∈ wsL_law := sk_mem (ck_6 _ (List.mem_of_getElem? (i := 214) rfl)) rfl
theorem w_6_216 : (Cond.instanceMethod yX12_takes) ∈ wsL_law := sk_mem (ck_6 _ (List.mem_of_getElem? (i := 216) rfl)) rfl
theorem w_0_43 : (Cond.selects RX12 yX12_takes yX12_takes) ∈ wsL_law := sk_mem (ck_0 _ (List.mem_of_getElem? (i := 43) rfl)) rfl
theorem w_6_229 : (Cond.methodLink RX12 225 yX12_fail) ∈ wsL_law := sk_mem (ck_6 _ (List.mem_of_getElem? (i := 229) rfl)) rfl
theorem w_6_231 : (Cond.instanceMethod yX12_fail) ∈ wsL_law := sk_mem (ck_6 _ (List.mem_of_getElem? (i := 231) rfl)) rfl
theorem w_0_46 : (Cond.selects RX12 yX12_fail yX12_fail) ∈ wsL_law := sk_mem (ck_0 _ (List.mem_of_getElem? (i := 46) rfl)) rfl
theorem w_6_213 : (Cond.code yX12_asks cX12_asks 2 none) ∈ wsL_law := sk_mem (ck_6 _ (List.mem_of_getElem? (i := 213) rfl)) rfl
theorem hd_X12_takes_1 : skD yX12_takes 1 := by decide +kernel
theorem hd_X12_fail_2 : skD yX12_fail 2 := by decide +kernel
theorem dg_X12_takesSign_0_0 : bqL cX12_takesSign 0 [(0, [42]), (1, [180, 0, 195]), (4, [154, 0, 11]), (15, [3]), (16, [172]), (7, [42]), (8, [182, 0, 207]), (11, [27]), (12, [159, 0, 5]), (17, [42]), (18, [89]), (19, [180, 0, 201]), (22, [4]), (23, [96]), (24, [181, 0, 201]), (27, [4]), (28, [172])] = true := by decide +kernel
theorem dX12_takesSign_0 : decode cX12_takesSign 0 = .ok (.aload_n 0, 1) := q_aload_n0 (bat_get dg_X12_takesSign_0_0 0 rfl rfl)
theorem dX12_takesSign_1 : decode cX12_takesSign 1 = .ok (.getfield 195, 3) := q_getfield (bat_get dg_X12_takesSign_0_0 1 rfl rfl) rfl
theorem dX12_takesSign_4 : decode cX12_takesSign 4 = .ok (.ifCond .ne 11, 3) := q_ifCond_ne (bat_get dg_X12_takesSign_0_0 2 rfl rfl) rfl
theorem dX12_takesSign_15 : decode cX12_takesSign 15 = .ok (.iconst 0, 1) := q_iconst0 (bat_get dg_X12_takesSign_0_0 3 rfl rfl)
theorem dX12_takesSign_16 : decode cX12_takesSign 16 = .ok (.ireturn, 1) := q_ireturn (bat_get dg_X12_takesSign_0_0 4 rfl rfl)
theorem dX12_takesSign_7 : decode cX12_takesSign 7 = .ok (.aload_n 0, 1) := q_aload_n0 (bat_get dg_X12_takesSign_0_0 5 rfl rfl)
theorem dX12_takesSign_8 : decode cX12_takesSign 8 = .ok (.invokevirtual 207, 3) := q_invokevirtual (bat_get dg_X12_takesSign_0_0 6 rfl rfl) rfl
theorem dX12_takesSign_11 : decode cX12_takesSign 11 = .ok (.iload_n 1, 1) := q_iload_n1 (bat_get dg_X12_takesSign_0_0 7 rfl rfl)
theorem dX12_takesSign_12 : decode cX12_takesSign 12 = .ok (.if_icmp .eq 5, 3) := q_if_icmp_eq (bat_get dg_X12_takesSign_0_0 8 rfl rfl) rfl
theorem dX12_takesSign_17 : decode cX12_takesSign 17 = .ok (.aload_n 0, 1) := q_aload_n0 (bat_get dg_X12_takesSign_0_0 9 rfl rfl)
theorem dX12_takesSign_18 : decode cX12_takesSign 18 = .ok (.dup, 1) := q_dup (bat_get dg_X12_takesSign_0_0 10 rfl rfl)
theorem dX12_takesSign_19 : decode cX12_takesSign 19 = .ok (.getfield 201, 3) := q_getfield (bat_get dg_X12_takesSign_0_0 11 rfl rfl) rfl
theorem dX12_takesSign_22 : decode cX12_takesSign 22 = .ok (.iconst 1, 1) := q_iconst1 (bat_get dg_X12_takesSign_0_0 12 rfl rfl)
theorem dX12_takesSign_23 : decode cX12_takesSign 23 = .ok (.iadd, 1) := q_iadd (bat_get dg_X12_takesSign_0_0 13 rfl rfl)
theorem dX12_takesSign_24 : decode cX12_takesSign 24 = .ok (.putfield 201, 3) := q_putfield (bat_get dg_X12_takesSign_0_0 14 rfl rfl) rfl
theorem dX12_takesSign_27 : decode cX12_takesSign 27 = .ok (.iconst 1, 1) := q_iconst1 (bat_get dg_X12_takesSign_0_0 15 rfl rfl)
theorem dX12_takesSign_28 : decode cX12_takesSign 28 = .ok (.ireturn, 1) := q_ireturn (bat_get dg_X12_takesSign_0_0 16 rfl rfl)
theorem w_7_10 : (Cond.code yX12_takesSign cX12_takesSign 2 (some .boolean)) ∈ wsL_law := sk_mem (ck_7 _ (List.mem_of_getElem? (i := 10) rfl)) rfl
theorem dg_X12_asksSign_0_0 : bqL cX12_asksSign 0 [(0, [42]), (1, [180, 0, 195]), (4, [154, 0, 20]), (24, [177]), (7, [42]), (8, [27]), (9, [182, 0, 229]), (12, [154, 0, 12]), (15, [42]), (16, [4]), (17, [42]), (18, [180, 0, 201]), (21, [182, 0, 225])] = true := by decide +kernel
theorem dX12_asksSign_0 : decode cX12_asksSign 0 = .ok (.aload_n 0, 1) := q_aload_n0 (bat_get dg_X12_asksSign_0_0 0 rfl rfl)
theorem dX12_asksSign_1 : decode cX12_asksSign 1 = .ok (.getfield 195, 3) := q_getfield (bat_get dg_X12_asksSign_0_0 1 rfl rfl) rfl
theorem dX12_asksSign_4 : decode cX12_asksSign 4 = .ok (.ifCond .ne 20, 3) := q_ifCond_ne (bat_get dg_X12_asksSign_0_0 2 rfl rfl) rfl
theorem dX12_asksSign_24 : decode cX12_asksSign 24 = .ok (.return_, 1) := q_return_ (bat_get dg_X12_asksSign_0_0 3 rfl rfl)
theorem dX12_asksSign_7 : decode cX12_asksSign 7 = .ok (.aload_n 0, 1) := q_aload_n0 (bat_get dg_X12_asksSign_0_0 4 rfl rfl)
theorem dX12_asksSign_8 : decode cX12_asksSign 8 = .ok (.iload_n 1, 1) := q_iload_n1 (bat_get dg_X12_asksSign_0_0 5 rfl rfl)
theorem dX12_asksSign_9 : decode cX12_asksSign 9 = .ok (.invokevirtual 229, 3) := q_invokevirtual (bat_get dg_X12_asksSign_0_0 6 rfl rfl) rfl
theorem dX12_asksSign_12 : decode cX12_asksSign 12 = .ok (.ifCond .ne 12, 3) := q_ifCond_ne (bat_get dg_X12_asksSign_0_0 7 rfl rfl) rfl
theorem dX12_asksSign_15 : decode cX12_asksSign 15 = .ok (.aload_n 0, 1) := q_aload_n0 (bat_get dg_X12_asksSign_0_0 8 rfl rfl)
theorem dX12_asksSign_16 : decode cX12_asksSign 16 = .ok (.iconst 1, 1) := q_iconst1 (bat_get dg_X12_asksSign_0_0 9 rfl rfl)
theorem dX12_asksSign_17 : decode cX12_asksSign 17 = .ok (.aload_n 0, 1) := q_aload_n0 (bat_get dg_X12_asksSign_0_0 10 rfl rfl)
theorem dX12_asksSign_18 : decode cX12_asksSign 18 = .ok (.getfield 201, 3) := q_getfield (bat_get dg_X12_asksSign_0_0 11 rfl rfl) rfl
theorem dX12_asksSign_21 : decode cX12_asksSign 21 = .ok (.invokevirtual 225, 3) := q_invokevirtual (bat_get dg_X12_asksSign_0_0 12 rfl rfl) rfl
theorem w_7_7 : (Cond.methodLink RX12 229 yX12_takesSign) ∈ wsL_law := sk_mem (ck_7 _ (List.mem_of_getElem? (i := 7) rfl)) rfl
theorem w_7_9 : (Cond.instanceMethod yX12_takesSign) ∈ wsL_law := sk_mem (ck_7 _ (List.mem_of_getElem? (i := 9) rfl)) rfl
theorem w_0_49 : (Cond.selects RX12 yX12_takesSign yX12_takesSign) ∈ wsL_law := sk_mem (ck_0 _ (List.mem_of_getElem? (i := 49) rfl)) rfl
theorem w_7_6 : (Cond.code yX12_asksSign cX12_asksSign 2 none) ∈ wsL_law := sk_mem (ck_7 _ (List.mem_of_getElem? (i := 6) rfl)) rfl
def om_2_2 : List Bool := true :: false :: []
theorem hd_X12_takesSign_1 : skD yX12_takesSign 1 := by decide +kernel
theorem i2l_le {a b : Nat} (ha : a < 2147483648) (hb : b < 2147483648) (h : Int32.toInt64 (nI a) ≤ Int32.toInt64 (nI b)) : a ≤ b := by
  have h1 := Int64.le_iff_toInt_le.mp h
  rw [lgv a ha, lgv b hb] at h1
  omega
theorem dg_X12_number_0_0 : bqL cX12_number 0 [(0, [42]), (1, [180, 0, 195]), (4, [153, 0, 5]), (9, [42]), (10, [182, 0, 207]), (13, [184, 0, 232]), (16, [153, 0, 14]), (30, [42]), (31, [4]), (32, [42]), (33, [180, 0, 201]), (36, [182, 0, 225]), (39, [3]), (40, [172]), (19, [42]), (20, [180, 0, 201]), (23, [42]), (24, [180, 0, 215]), (27, [160, 0, 14]), (41, [42]), (42, [180, 0, 201]), (45, [62]), (46, [3]), (47, [54, 4]), (49, [42]), (50, [180, 0, 201]), (53, [42]), (54, [180, 0, 204]), (57, [162, 0, 72]), (129, [42]), (130, [42]), (131, [180, 0, 201]), (134, [181, 0, 215]), (137, [42]), (138, [29]), (139, [181, 0, 235]), (142, [21, 4]), (144, [133]), (145, [27]), (146, [133])] = true := by decide +kernel
theorem dX12_number_0 : decode cX12_number 0 = .ok (.aload_n 0, 1) := q_aload_n0 (bat_get dg_X12_number_0_0 0 rfl rfl)
theorem dX12_number_1 : decode cX12_number 1 = .ok (.getfield 195, 3) := q_getfield (bat_get dg_X12_number_0_0 1 rfl rfl) rfl
theorem dX12_number_4 : decode cX12_number 4 = .ok (.ifCond .eq 5, 3) := q_ifCond_eq (bat_get dg_X12_number_0_0 2 rfl rfl) rfl
theorem dX12_number_9 : decode cX12_number 9 = .ok (.aload_n 0, 1) := q_aload_n0 (bat_get dg_X12_number_0_0 3 rfl rfl)
theorem dX12_number_10 : decode cX12_number 10 = .ok (.invokevirtual 207, 3) := q_invokevirtual (bat_get dg_X12_number_0_0 4 rfl rfl) rfl
theorem dX12_number_13 : decode cX12_number 13 = .ok (.invokestatic 232, 3) := q_invokestatic (bat_get dg_X12_number_0_0 5 rfl rfl) rfl
theorem dX12_number_16 : decode cX12_number 16 = .ok (.ifCond .eq 14, 3) := q_ifCond_eq (bat_get dg_X12_number_0_0 6 rfl rfl) rfl
theorem dX12_number_30 : decode cX12_number 30 = .ok (.aload_n 0, 1) := q_aload_n0 (bat_get dg_X12_number_0_0 7 rfl rfl)
theorem dX12_number_31 : decode cX12_number 31 = .ok (.iconst 1, 1) := q_iconst1 (bat_get dg_X12_number_0_0 8 rfl rfl)
theorem dX12_number_32 : decode cX12_number 32 = .ok (.aload_n 0, 1) := q_aload_n0 (bat_get dg_X12_number_0_0 9 rfl rfl)
theorem dX12_number_33 : decode cX12_number 33 = .ok (.getfield 201, 3) := q_getfield (bat_get dg_X12_number_0_0 10 rfl rfl) rfl
theorem dX12_number_36 : decode cX12_number 36 = .ok (.invokevirtual 225, 3) := q_invokevirtual (bat_get dg_X12_number_0_0 11 rfl rfl) rfl
theorem dX12_number_39 : decode cX12_number 39 = .ok (.iconst 0, 1) := q_iconst0 (bat_get dg_X12_number_0_0 12 rfl rfl)
theorem dX12_number_40 : decode cX12_number 40 = .ok (.ireturn, 1) := q_ireturn (bat_get dg_X12_number_0_0 13 rfl rfl)
theorem dX12_number_19 : decode cX12_number 19 = .ok (.aload_n 0, 1) := q_aload_n0 (bat_get dg_X12_number_0_0 14 rfl rfl)
theorem dX12_number_20 : decode cX12_number 20 = .ok (.getfield 201, 3) := q_getfield (bat_get dg_X12_number_0_0 15 rfl rfl) rfl
theorem dX12_number_23 : decode cX12_number 23 = .ok (.aload_n 0, 1) := q_aload_n0 (bat_get dg_X12_number_0_0 16 rfl rfl)
theorem dX12_number_24 : decode cX12_number 24 = .ok (.getfield 215, 3) := q_getfield (bat_get dg_X12_number_0_0 17 rfl rfl) rfl
theorem dX12_number_27 : decode cX12_number 27 = .ok (.if_icmp .ne 14, 3) := q_if_icmp_ne (bat_get dg_X12_number_0_0 18 rfl rfl) rfl
theorem dX12_number_41 : decode cX12_number 41 = .ok (.aload_n 0, 1) := q_aload_n0 (bat_get dg_X12_number_0_0 19 rfl rfl)
theorem dX12_number_42 : decode cX12_number 42 = .ok (.getfield 201, 3) := q_getfield (bat_get dg_X12_number_0_0 20 rfl rfl) rfl
theorem dX12_number_45 : decode cX12_number 45 = .ok (.istore_n 3, 1) := q_istore_n3 (bat_get dg_X12_number_0_0 21 rfl rfl)
theorem dX12_number_46 : decode cX12_number 46 = .ok (.iconst 0, 1) := q_iconst0 (bat_get dg_X12_number_0_0 22 rfl rfl)
theorem dX12_number_47 : decode cX12_number 47 = .ok (.istore 4, 2) := q_istore (bat_get dg_X12_number_0_0 23 rfl rfl)
theorem dX12_number_49 : decode cX12_number 49 = .ok (.aload_n 0, 1) := q_aload_n0 (bat_get dg_X12_number_0_0 24 rfl rfl)
theorem dX12_number_50 : decode cX12_number 50 = .ok (.getfield 201, 3) := q_getfield (bat_get dg_X12_number_0_0 25 rfl rfl) rfl
theorem dX12_number_53 : decode cX12_number 53 = .ok (.aload_n 0, 1) := q_aload_n0 (bat_get dg_X12_number_0_0 26 rfl rfl)
theorem dX12_number_54 : decode cX12_number 54 = .ok (.getfield 204, 3) := q_getfield (bat_get dg_X12_number_0_0 27 rfl rfl) rfl
theorem dX12_number_57 : decode cX12_number 57 = .ok (.if_icmp .ge 72, 3) := q_if_icmp_ge (bat_get dg_X12_number_0_0 28 rfl rfl) rfl
theorem dX12_number_129 : decode cX12_number 129 = .ok (.aload_n 0, 1) := q_aload_n0 (bat_get dg_X12_number_0_0 29 rfl rfl)
theorem dX12_number_130 : decode cX12_number 130 = .ok (.aload_n 0, 1) := q_aload_n0 (bat_get dg_X12_number_0_0 30 rfl rfl)
theorem dX12_number_131 : decode cX12_number 131 = .ok (.getfield 201, 3) := q_getfield (bat_get dg_X12_number_0_0 31 rfl rfl) rfl
theorem dX12_number_134 : decode cX12_number 134 = .ok (.putfield 215, 3) := q_putfield (bat_get dg_X12_number_0_0 32 rfl rfl) rfl
theorem dX12_number_137 : decode cX12_number 137 = .ok (.aload_n 0, 1) := q_aload_n0 (bat_get dg_X12_number_0_0 33 rfl rfl)
theorem dX12_number_138 : decode cX12_number 138 = .ok (.iload_n 3, 1) := q_iload_n3 (bat_get dg_X12_number_0_0 34 rfl rfl)
theorem dX12_number_139 : decode cX12_number 139 = .ok (.putfield 235, 3) := q_putfield (bat_get dg_X12_number_0_0 35 rfl rfl) rfl
theorem dX12_number_142 : decode cX12_number 142 = .ok (.iload 4, 2) := q_iload (bat_get dg_X12_number_0_0 36 rfl rfl)
theorem dX12_number_144 : decode cX12_number 144 = .ok (.i2l, 1) := q_i2l (bat_get dg_X12_number_0_0 37 rfl rfl)
theorem dX12_number_145 : decode cX12_number 145 = .ok (.iload_n 1, 1) := q_iload_n1 (bat_get dg_X12_number_0_0 38 rfl rfl)
theorem dX12_number_146 : decode cX12_number 146 = .ok (.i2l, 1) := q_i2l (bat_get dg_X12_number_0_0 39 rfl rfl)
theorem dg_X12_number_60_147 : bqL cX12_number 60 [(87, [28]), (88, [133]), (89, [184, 0, 238]), (92, [154, 0, 9]), (101, [21, 4]), (103, [172]), (95, [42]), (96, [5]), (97, [29]), (98, [182, 0, 225]), (0, [42]), (1, [180, 0, 7]), (4, [42]), (5, [180, 0, 201]), (8, [46]), (9, [184, 0, 232]), (12, [153, 0, 57]), (15, [42]), (16, [180, 0, 201]), (19, [29]), (20, [100]), (21, [7]), (22, [160, 0, 14]), (36, [16, 10]), (38, [21, 4]), (40, [104]), (41, [42]), (42, [180, 0, 7]), (45, [42]), (46, [180, 0, 201]), (49, [46]), (50, [96]), (51, [16, 48]), (53, [100]), (54, [54, 4]), (56, [42]), (57, [89]), (58, [180, 0, 201]), (61, [4]), (62, [96])] = true := by decide +kernel
theorem dX12_number_147 : decode cX12_number 147 = .ok (.iload_n 2, 1) := q_iload_n2 (bat_get dg_X12_number_60_147 0 rfl rfl)
theorem dX12_number_148 : decode cX12_number 148 = .ok (.i2l, 1) := q_i2l (bat_get dg_X12_number_60_147 1 rfl rfl)
theorem dX12_number_149 : decode cX12_number 149 = .ok (.invokestatic 238, 3) := q_invokestatic (bat_get dg_X12_number_60_147 2 rfl rfl) rfl
theorem dX12_number_152 : decode cX12_number 152 = .ok (.ifCond .ne 9, 3) := q_ifCond_ne (bat_get dg_X12_number_60_147 3 rfl rfl) rfl
theorem dX12_number_161 : decode cX12_number 161 = .ok (.iload 4, 2) := q_iload (bat_get dg_X12_number_60_147 4 rfl rfl)
theorem dX12_number_163 : decode cX12_number 163 = .ok (.ireturn, 1) := q_ireturn (bat_get dg_X12_number_60_147 5 rfl rfl)
theorem dX12_number_155 : decode cX12_number 155 = .ok (.aload_n 0, 1) := q_aload_n0 (bat_get dg_X12_number_60_147 6 rfl rfl)
theorem dX12_number_156 : decode cX12_number 156 = .ok (.iconst 2, 1) := q_iconst2 (bat_get dg_X12_number_60_147 7 rfl rfl)
theorem dX12_number_157 : decode cX12_number 157 = .ok (.iload_n 3, 1) := q_iload_n3 (bat_get dg_X12_number_60_147 8 rfl rfl)
theorem dX12_number_158 : decode cX12_number 158 = .ok (.invokevirtual 225, 3) := q_invokevirtual (bat_get dg_X12_number_60_147 9 rfl rfl) rfl
theorem dX12_number_60 : decode cX12_number 60 = .ok (.aload_n 0, 1) := q_aload_n0 (bat_get dg_X12_number_60_147 10 rfl rfl)
theorem dX12_number_61 : decode cX12_number 61 = .ok (.getfield 7, 3) := q_getfield (bat_get dg_X12_number_60_147 11 rfl rfl) rfl
theorem dX12_number_64 : decode cX12_number 64 = .ok (.aload_n 0, 1) := q_aload_n0 (bat_get dg_X12_number_60_147 12 rfl rfl)
theorem dX12_number_65 : decode cX12_number 65 = .ok (.getfield 201, 3) := q_getfield (bat_get dg_X12_number_60_147 13 rfl rfl) rfl
theorem dX12_number_68 : decode cX12_number 68 = .ok (.iaload, 1) := q_iaload (bat_get dg_X12_number_60_147 14 rfl rfl)
theorem dX12_number_69 : decode cX12_number 69 = .ok (.invokestatic 232, 3) := q_invokestatic (bat_get dg_X12_number_60_147 15 rfl rfl) rfl
theorem dX12_number_72 : decode cX12_number 72 = .ok (.ifCond .eq 57, 3) := q_ifCond_eq (bat_get dg_X12_number_60_147 16 rfl rfl) rfl
theorem dX12_number_75 : decode cX12_number 75 = .ok (.aload_n 0, 1) := q_aload_n0 (bat_get dg_X12_number_60_147 17 rfl rfl)
theorem dX12_number_76 : decode cX12_number 76 = .ok (.getfield 201, 3) := q_getfield (bat_get dg_X12_number_60_147 18 rfl rfl) rfl
theorem dX12_number_79 : decode cX12_number 79 = .ok (.iload_n 3, 1) := q_iload_n3 (bat_get dg_X12_number_60_147 19 rfl rfl)
theorem dX12_number_80 : decode cX12_number 80 = .ok (.isub, 1) := q_isub (bat_get dg_X12_number_60_147 20 rfl rfl)
theorem dX12_number_81 : decode cX12_number 81 = .ok (.iconst 4, 1) := q_iconst4 (bat_get dg_X12_number_60_147 21 rfl rfl)
theorem dX12_number_82 : decode cX12_number 82 = .ok (.if_icmp .ne 14, 3) := q_if_icmp_ne (bat_get dg_X12_number_60_147 22 rfl rfl) rfl
theorem dX12_number_96 : decode cX12_number 96 = .ok (.bipush 10, 2) := q_bipush (bat_get dg_X12_number_60_147 23 rfl rfl) rfl
theorem dX12_number_98 : decode cX12_number 98 = .ok (.iload 4, 2) := q_iload (bat_get dg_X12_number_60_147 24 rfl rfl)
theorem dX12_number_100 : decode cX12_number 100 = .ok (.imul, 1) := q_imul (bat_get dg_X12_number_60_147 25 rfl rfl)
theorem dX12_number_101 : decode cX12_number 101 = .ok (.aload_n 0, 1) := q_aload_n0 (bat_get dg_X12_number_60_147 26 rfl rfl)
theorem dX12_number_102 : decode cX12_number 102 = .ok (.getfield 7, 3) := q_getfield (bat_get dg_X12_number_60_147 27 rfl rfl) rfl
theorem dX12_number_105 : decode cX12_number 105 = .ok (.aload_n 0, 1) := q_aload_n0 (bat_get dg_X12_number_60_147 28 rfl rfl)
theorem dX12_number_106 : decode cX12_number 106 = .ok (.getfield 201, 3) := q_getfield (bat_get dg_X12_number_60_147 29 rfl rfl) rfl
theorem dX12_number_109 : decode cX12_number 109 = .ok (.iaload, 1) := q_iaload (bat_get dg_X12_number_60_147 30 rfl rfl)
theorem dX12_number_110 : decode cX12_number 110 = .ok (.iadd, 1) := q_iadd (bat_get dg_X12_number_60_147 31 rfl rfl)
theorem dX12_number_111 : decode cX12_number 111 = .ok (.bipush 48, 2) := q_bipush (bat_get dg_X12_number_60_147 32 rfl rfl) rfl
theorem dX12_number_113 : decode cX12_number 113 = .ok (.isub, 1) := q_isub (bat_get dg_X12_number_60_147 33 rfl rfl)
theorem dX12_number_114 : decode cX12_number 114 = .ok (.istore 4, 2) := q_istore (bat_get dg_X12_number_60_147 34 rfl rfl)
theorem dX12_number_116 : decode cX12_number 116 = .ok (.aload_n 0, 1) := q_aload_n0 (bat_get dg_X12_number_60_147 35 rfl rfl)
theorem dX12_number_117 : decode cX12_number 117 = .ok (.dup, 1) := q_dup (bat_get dg_X12_number_60_147 36 rfl rfl)
theorem dX12_number_118 : decode cX12_number 118 = .ok (.getfield 201, 3) := q_getfield (bat_get dg_X12_number_60_147 37 rfl rfl) rfl
theorem dX12_number_121 : decode cX12_number 121 = .ok (.iconst 1, 1) := q_iconst1 (bat_get dg_X12_number_60_147 38 rfl rfl)
theorem dX12_number_122 : decode cX12_number 122 = .ok (.iadd, 1) := q_iadd (bat_get dg_X12_number_60_147 39 rfl rfl)
theorem dg_X12_number_7_123 : bqL cX12_number 7 [(116, [181, 0, 201]), (119, [167, 255, 179]), (78, [42]), (79, [4]), (80, [42]), (81, [180, 0, 201]), (84, [182, 0, 225]), (87, [3]), (88, [172]), (0, [3]), (1, [172])] = true := by decide +kernel
theorem dX12_number_123 : decode cX12_number 123 = .ok (.putfield 201, 3) := q_putfield (bat_get dg_X12_number_7_123 0 rfl rfl) rfl
theorem dX12_number_126 : decode cX12_number 126 = .ok (.goto (-77), 3) := q_goto (bat_get dg_X12_number_7_123 1 rfl rfl) rfl
theorem dX12_number_85 : decode cX12_number 85 = .ok (.aload_n 0, 1) := q_aload_n0 (bat_get dg_X12_number_7_123 2 rfl rfl)
theorem dX12_number_86 : decode cX12_number 86 = .ok (.iconst 1, 1) := q_iconst1 (bat_get dg_X12_number_7_123 3 rfl rfl)
theorem dX12_number_87 : decode cX12_number 87 = .ok (.aload_n 0, 1) := q_aload_n0 (bat_get dg_X12_number_7_123 4 rfl rfl)
theorem dX12_number_88 : decode cX12_number 88 = .ok (.getfield 201, 3) := q_getfield (bat_get dg_X12_number_7_123 5 rfl rfl) rfl
theorem dX12_number_91 : decode cX12_number 91 = .ok (.invokevirtual 225, 3) := q_invokevirtual (bat_get dg_X12_number_7_123 6 rfl rfl) rfl
theorem dX12_number_94 : decode cX12_number 94 = .ok (.iconst 0, 1) := q_iconst0 (bat_get dg_X12_number_7_123 7 rfl rfl)
theorem dX12_number_95 : decode cX12_number 95 = .ok (.ireturn, 1) := q_ireturn (bat_get dg_X12_number_7_123 8 rfl rfl)
theorem dX12_number_7 : decode cX12_number 7 = .ok (.iconst 0, 1) := q_iconst0 (bat_get dg_X12_number_7_123 9 rfl rfl)
theorem dX12_number_8 : decode cX12_number 8 = .ok (.ireturn, 1) := q_ireturn (bat_get dg_X12_number_7_123 10 rfl rfl)
theorem w_6_237 : (Cond.methodLink RX12 232 yX12_isDigit) ∈ wsL_law := sk_mem (ck_6 _ (List.mem_of_getElem? (i := 237) rfl)) rfl
theorem w_6_238 : (Cond.static yX12_isDigit) ∈ wsL_law := sk_mem (ck_6 _ (List.mem_of_getElem? (i := 238) rfl)) rfl
theorem w_5_165 : (Cond.fieldLink RX12 235 "SameKeeperModel" "numberPlace" "I") ∈ wsL_law := sk_mem (ck_5 _ (List.mem_of_getElem? (i := 165) rfl)) rfl
theorem w_6_236 : (Cond.code yX12_number cX12_number 5 (some .int)) ∈ wsL_law := sk_mem (ck_6 _ (List.mem_of_getElem? (i := 236) rfl)) rfl
theorem hd_X12_isDigit_1 : skD yX12_isDigit 1 := by decide +kernel
theorem dg_X12_isAllowed_0_0 : bqL cX12_isAllowed 0 [(0, [42]), (1, [180, 0, 242]), (4, [154, 0, 16]), (20, [42]), (21, [180, 0, 242]), (24, [4]), (25, [160, 0, 17]), (42, [27]), (43, [4]), (44, [159, 0, 19]), (63, [4]), (64, [167, 0, 4]), (68, [172]), (47, [27]), (48, [5]), (49, [159, 0, 14]), (52, [27]), (53, [7]), (54, [159, 0, 9]), (57, [27]), (58, [16, 6]), (60, [164, 0, 7]), (67, [3]), (28, [27]), (29, [16, 7]), (31, [162, 0, 7]), (38, [3]), (39, [167, 0, 29]), (34, [4]), (35, [167, 0, 33]), (7, [27]), (8, [8]), (9, [162, 0, 7]), (16, [3]), (17, [167, 0, 51]), (12, [4]), (13, [167, 0, 55])] = true := by decide +kernel
theorem dX12_isAllowed_0 : decode cX12_isAllowed 0 = .ok (.aload_n 0, 1) := q_aload_n0 (bat_get dg_X12_isAllowed_0_0 0 rfl rfl)
theorem dX12_isAllowed_1 : decode cX12_isAllowed 1 = .ok (.getfield 242, 3) := q_getfield (bat_get dg_X12_isAllowed_0_0 1 rfl rfl) rfl
theorem dX12_isAllowed_4 : decode cX12_isAllowed 4 = .ok (.ifCond .ne 16, 3) := q_ifCond_ne (bat_get dg_X12_isAllowed_0_0 2 rfl rfl) rfl
theorem dX12_isAllowed_20 : decode cX12_isAllowed 20 = .ok (.aload_n 0, 1) := q_aload_n0 (bat_get dg_X12_isAllowed_0_0 3 rfl rfl)
theorem dX12_isAllowed_21 : decode cX12_isAllowed 21 = .ok (.getfield 242, 3) := q_getfield (bat_get dg_X12_isAllowed_0_0 4 rfl rfl) rfl
theorem dX12_isAllowed_24 : decode cX12_isAllowed 24 = .ok (.iconst 1, 1) := q_iconst1 (bat_get dg_X12_isAllowed_0_0 5 rfl rfl)
theorem dX12_isAllowed_25 : decode cX12_isAllowed 25 = .ok (.if_icmp .ne 17, 3) := q_if_icmp_ne (bat_get dg_X12_isAllowed_0_0 6 rfl rfl) rfl
theorem dX12_isAllowed_42 : decode cX12_isAllowed 42 = .ok (.iload_n 1, 1) := q_iload_n1 (bat_get dg_X12_isAllowed_0_0 7 rfl rfl)
theorem dX12_isAllowed_43 : decode cX12_isAllowed 43 = .ok (.iconst 1, 1) := q_iconst1 (bat_get dg_X12_isAllowed_0_0 8 rfl rfl)
theorem dX12_isAllowed_44 : decode cX12_isAllowed 44 = .ok (.if_icmp .eq 19, 3) := q_if_icmp_eq (bat_get dg_X12_isAllowed_0_0 9 rfl rfl) rfl
theorem dX12_isAllowed_63 : decode cX12_isAllowed 63 = .ok (.iconst 1, 1) := q_iconst1 (bat_get dg_X12_isAllowed_0_0 10 rfl rfl)
theorem dX12_isAllowed_64 : decode cX12_isAllowed 64 = .ok (.goto 4, 3) := q_goto (bat_get dg_X12_isAllowed_0_0 11 rfl rfl) rfl
theorem dX12_isAllowed_68 : decode cX12_isAllowed 68 = .ok (.ireturn, 1) := q_ireturn (bat_get dg_X12_isAllowed_0_0 12 rfl rfl)
theorem dX12_isAllowed_47 : decode cX12_isAllowed 47 = .ok (.iload_n 1, 1) := q_iload_n1 (bat_get dg_X12_isAllowed_0_0 13 rfl rfl)
theorem dX12_isAllowed_48 : decode cX12_isAllowed 48 = .ok (.iconst 2, 1) := q_iconst2 (bat_get dg_X12_isAllowed_0_0 14 rfl rfl)
theorem dX12_isAllowed_49 : decode cX12_isAllowed 49 = .ok (.if_icmp .eq 14, 3) := q_if_icmp_eq (bat_get dg_X12_isAllowed_0_0 15 rfl rfl) rfl
theorem dX12_isAllowed_52 : decode cX12_isAllowed 52 = .ok (.iload_n 1, 1) := q_iload_n1 (bat_get dg_X12_isAllowed_0_0 16 rfl rfl)
theorem dX12_isAllowed_53 : decode cX12_isAllowed 53 = .ok (.iconst 4, 1) := q_iconst4 (bat_get dg_X12_isAllowed_0_0 17 rfl rfl)
theorem dX12_isAllowed_54 : decode cX12_isAllowed 54 = .ok (.if_icmp .eq 9, 3) := q_if_icmp_eq (bat_get dg_X12_isAllowed_0_0 18 rfl rfl) rfl
theorem dX12_isAllowed_57 : decode cX12_isAllowed 57 = .ok (.iload_n 1, 1) := q_iload_n1 (bat_get dg_X12_isAllowed_0_0 19 rfl rfl)
theorem dX12_isAllowed_58 : decode cX12_isAllowed 58 = .ok (.bipush 6, 2) := q_bipush (bat_get dg_X12_isAllowed_0_0 20 rfl rfl) rfl
theorem dX12_isAllowed_60 : decode cX12_isAllowed 60 = .ok (.if_icmp .le 7, 3) := q_if_icmp_le (bat_get dg_X12_isAllowed_0_0 21 rfl rfl) rfl
theorem dX12_isAllowed_67 : decode cX12_isAllowed 67 = .ok (.iconst 0, 1) := q_iconst0 (bat_get dg_X12_isAllowed_0_0 22 rfl rfl)
theorem dX12_isAllowed_28 : decode cX12_isAllowed 28 = .ok (.iload_n 1, 1) := q_iload_n1 (bat_get dg_X12_isAllowed_0_0 23 rfl rfl)
theorem dX12_isAllowed_29 : decode cX12_isAllowed 29 = .ok (.bipush 7, 2) := q_bipush (bat_get dg_X12_isAllowed_0_0 24 rfl rfl) rfl
theorem dX12_isAllowed_31 : decode cX12_isAllowed 31 = .ok (.if_icmp .ge 7, 3) := q_if_icmp_ge (bat_get dg_X12_isAllowed_0_0 25 rfl rfl) rfl
theorem dX12_isAllowed_38 : decode cX12_isAllowed 38 = .ok (.iconst 0, 1) := q_iconst0 (bat_get dg_X12_isAllowed_0_0 26 rfl rfl)
theorem dX12_isAllowed_39 : decode cX12_isAllowed 39 = .ok (.goto 29, 3) := q_goto (bat_get dg_X12_isAllowed_0_0 27 rfl rfl) rfl
theorem dX12_isAllowed_34 : decode cX12_isAllowed 34 = .ok (.iconst 1, 1) := q_iconst1 (bat_get dg_X12_isAllowed_0_0 28 rfl rfl)
theorem dX12_isAllowed_35 : decode cX12_isAllowed 35 = .ok (.goto 33, 3) := q_goto (bat_get dg_X12_isAllowed_0_0 29 rfl rfl) rfl
theorem dX12_isAllowed_7 : decode cX12_isAllowed 7 = .ok (.iload_n 1, 1) := q_iload_n1 (bat_get dg_X12_isAllowed_0_0 30 rfl rfl)
theorem dX12_isAllowed_8 : decode cX12_isAllowed 8 = .ok (.iconst 5, 1) := q_iconst5 (bat_get dg_X12_isAllowed_0_0 31 rfl rfl)
theorem dX12_isAllowed_9 : decode cX12_isAllowed 9 = .ok (.if_icmp .ge 7, 3) := q_if_icmp_ge (bat_get dg_X12_isAllowed_0_0 32 rfl rfl) rfl
theorem dX12_isAllowed_16 : decode cX12_isAllowed 16 = .ok (.iconst 0, 1) := q_iconst0 (bat_get dg_X12_isAllowed_0_0 33 rfl rfl)
theorem dX12_isAllowed_17 : decode cX12_isAllowed 17 = .ok (.goto 51, 3) := q_goto (bat_get dg_X12_isAllowed_0_0 34 rfl rfl) rfl
theorem dX12_isAllowed_12 : decode cX12_isAllowed 12 = .ok (.iconst 1, 1) := q_iconst1 (bat_get dg_X12_isAllowed_0_0 35 rfl rfl)
theorem dX12_isAllowed_13 : decode cX12_isAllowed 13 = .ok (.goto 55, 3) := q_goto (bat_get dg_X12_isAllowed_0_0 36 rfl rfl) rfl
theorem w_7_46 : (Cond.code yX12_isAllowed cX12_isAllowed 2 (some .boolean)) ∈ wsL_law := sk_mem (ck_7 _ (List.mem_of_getElem? (i := 46) rfl)) rfl
theorem dg_X12_qWordHere_0_0 : bqL cX12_qWordHere 0 [(0, [42]), (1, [42]), (2, [180, 0, 150]), (5, [182, 0, 218]), (8, [153, 0, 5]), (13, [42]), (14, [42]), (15, [180, 0, 153]), (18, [182, 0, 218]), (21, [153, 0, 5]), (26, [42]), (27, [42]), (28, [180, 0, 156]), (31, [182, 0, 218]), (34, [153, 0, 5]), (39, [42]), (40, [42]), (41, [180, 0, 159]), (44, [182, 0, 218]), (47, [153, 0, 5]), (52, [42]), (53, [42]), (54, [180, 0, 162]), (57, [182, 0, 218]), (60, [153, 0, 5]), (65, [42]), (66, [42]), (67, [180, 0, 165]), (70, [182, 0, 218]), (73, [153, 0, 5]), (78, [42]), (79, [42]), (80, [180, 0, 168]), (83, [182, 0, 218]), (86, [153, 0, 6]), (92, [42]), (93, [42]), (94, [180, 0, 171]), (97, [182, 0, 218]), (100, [153, 0, 6])] = true := by decide +kernel
theorem dX12_qWordHere_0 : decode cX12_qWordHere 0 = .ok (.aload_n 0, 1) := q_aload_n0 (bat_get dg_X12_qWordHere_0_0 0 rfl rfl)
theorem dX12_qWordHere_1 : decode cX12_qWordHere 1 = .ok (.aload_n 0, 1) := q_aload_n0 (bat_get dg_X12_qWordHere_0_0 1 rfl rfl)
theorem dX12_qWordHere_2 : decode cX12_qWordHere 2 = .ok (.getfield 150, 3) := q_getfield (bat_get dg_X12_qWordHere_0_0 2 rfl rfl) rfl
theorem dX12_qWordHere_5 : decode cX12_qWordHere 5 = .ok (.invokevirtual 218, 3) := q_invokevirtual (bat_get dg_X12_qWordHere_0_0 3 rfl rfl) rfl
theorem dX12_qWordHere_8 : decode cX12_qWordHere 8 = .ok (.ifCond .eq 5, 3) := q_ifCond_eq (bat_get dg_X12_qWordHere_0_0 4 rfl rfl) rfl
theorem dX12_qWordHere_13 : decode cX12_qWordHere 13 = .ok (.aload_n 0, 1) := q_aload_n0 (bat_get dg_X12_qWordHere_0_0 5 rfl rfl)
theorem dX12_qWordHere_14 : decode cX12_qWordHere 14 = .ok (.aload_n 0, 1) := q_aload_n0 (bat_get dg_X12_qWordHere_0_0 6 rfl rfl)
theorem dX12_qWordHere_15 : decode cX12_qWordHere 15 = .ok (.getfield 153, 3) := q_getfield (bat_get dg_X12_qWordHere_0_0 7 rfl rfl) rfl
theorem dX12_qWordHere_18 : decode cX12_qWordHere 18 = .ok (.invokevirtual 218, 3) := q_invokevirtual (bat_get dg_X12_qWordHere_0_0 8 rfl rfl) rfl
theorem dX12_qWordHere_21 : decode cX12_qWordHere 21 = .ok (.ifCond .eq 5, 3) := q_ifCond_eq (bat_get dg_X12_qWordHere_0_0 9 rfl rfl) rfl
theorem dX12_qWordHere_26 : decode cX12_qWordHere 26 = .ok (.aload_n 0, 1) := q_aload_n0 (bat_get dg_X12_qWordHere_0_0 10 rfl rfl)
theorem dX12_qWordHere_27 : decode cX12_qWordHere 27 = .ok (.aload_n 0, 1) := q_aload_n0 (bat_get dg_X12_qWordHere_0_0 11 rfl rfl)
theorem dX12_qWordHere_28 : decode cX12_qWordHere 28 = .ok (.getfield 156, 3) := q_getfield (bat_get dg_X12_qWordHere_0_0 12 rfl rfl) rfl
theorem dX12_qWordHere_31 : decode cX12_qWordHere 31 = .ok (.invokevirtual 218, 3) := q_invokevirtual (bat_get dg_X12_qWordHere_0_0 13 rfl rfl) rfl
theorem dX12_qWordHere_34 : decode cX12_qWordHere 34 = .ok (.ifCond .eq 5, 3) := q_ifCond_eq (bat_get dg_X12_qWordHere_0_0 14 rfl rfl) rfl
theorem dX12_qWordHere_39 : decode cX12_qWordHere 39 = .ok (.aload_n 0, 1) := q_aload_n0 (bat_get dg_X12_qWordHere_0_0 15 rfl rfl)
theorem dX12_qWordHere_40 : decode cX12_qWordHere 40 = .ok (.aload_n 0, 1) := q_aload_n0 (bat_get dg_X12_qWordHere_0_0 16 rfl rfl)
theorem dX12_qWordHere_41 : decode cX12_qWordHere 41 = .ok (.getfield 159, 3) := q_getfield (bat_get dg_X12_qWordHere_0_0 17 rfl rfl) rfl
theorem dX12_qWordHere_44 : decode cX12_qWordHere 44 = .ok (.invokevirtual 218, 3) := q_invokevirtual (bat_get dg_X12_qWordHere_0_0 18 rfl rfl) rfl
theorem dX12_qWordHere_47 : decode cX12_qWordHere 47 = .ok (.ifCond .eq 5, 3) := q_ifCond_eq (bat_get dg_X12_qWordHere_0_0 19 rfl rfl) rfl
theorem dX12_qWordHere_52 : decode cX12_qWordHere 52 = .ok (.aload_n 0, 1) := q_aload_n0 (bat_get dg_X12_qWordHere_0_0 20 rfl rfl)
theorem dX12_qWordHere_53 : decode cX12_qWordHere 53 = .ok (.aload_n 0, 1) := q_aload_n0 (bat_get dg_X12_qWordHere_0_0 21 rfl rfl)
theorem dX12_qWordHere_54 : decode cX12_qWordHere 54 = .ok (.getfield 162, 3) := q_getfield (bat_get dg_X12_qWordHere_0_0 22 rfl rfl) rfl
theorem dX12_qWordHere_57 : decode cX12_qWordHere 57 = .ok (.invokevirtual 218, 3) := q_invokevirtual (bat_get dg_X12_qWordHere_0_0 23 rfl rfl) rfl
theorem dX12_qWordHere_60 : decode cX12_qWordHere 60 = .ok (.ifCond .eq 5, 3) := q_ifCond_eq (bat_get dg_X12_qWordHere_0_0 24 rfl rfl) rfl
theorem dX12_qWordHere_65 : decode cX12_qWordHere 65 = .ok (.aload_n 0, 1) := q_aload_n0 (bat_get dg_X12_qWordHere_0_0 25 rfl rfl)
theorem dX12_qWordHere_66 : decode cX12_qWordHere 66 = .ok (.aload_n 0, 1) := q_aload_n0 (bat_get dg_X12_qWordHere_0_0 26 rfl rfl)
theorem dX12_qWordHere_67 : decode cX12_qWordHere 67 = .ok (.getfield 165, 3) := q_getfield (bat_get dg_X12_qWordHere_0_0 27 rfl rfl) rfl
theorem dX12_qWordHere_70 : decode cX12_qWordHere 70 = .ok (.invokevirtual 218, 3) := q_invokevirtual (bat_get dg_X12_qWordHere_0_0 28 rfl rfl) rfl
theorem dX12_qWordHere_73 : decode cX12_qWordHere 73 = .ok (.ifCond .eq 5, 3) := q_ifCond_eq (bat_get dg_X12_qWordHere_0_0 29 rfl rfl) rfl
theorem dX12_qWordHere_78 : decode cX12_qWordHere 78 = .ok (.aload_n 0, 1) := q_aload_n0 (bat_get dg_X12_qWordHere_0_0 30 rfl rfl)
theorem dX12_qWordHere_79 : decode cX12_qWordHere 79 = .ok (.aload_n 0, 1) := q_aload_n0 (bat_get dg_X12_qWordHere_0_0 31 rfl rfl)
theorem dX12_qWordHere_80 : decode cX12_qWordHere 80 = .ok (.getfield 168, 3) := q_getfield (bat_get dg_X12_qWordHere_0_0 32 rfl rfl) rfl
theorem dX12_qWordHere_83 : decode cX12_qWordHere 83 = .ok (.invokevirtual 218, 3) := q_invokevirtual (bat_get dg_X12_qWordHere_0_0 33 rfl rfl) rfl
theorem dX12_qWordHere_86 : decode cX12_qWordHere 86 = .ok (.ifCond .eq 6, 3) := q_ifCond_eq (bat_get dg_X12_qWordHere_0_0 34 rfl rfl) rfl
theorem dX12_qWordHere_92 : decode cX12_qWordHere 92 = .ok (.aload_n 0, 1) := q_aload_n0 (bat_get dg_X12_qWordHere_0_0 35 rfl rfl)
theorem dX12_qWordHere_93 : decode cX12_qWordHere 93 = .ok (.aload_n 0, 1) := q_aload_n0 (bat_get dg_X12_qWordHere_0_0 36 rfl rfl)
theorem dX12_qWordHere_94 : decode cX12_qWordHere 94 = .ok (.getfield 171, 3) := q_getfield (bat_get dg_X12_qWordHere_0_0 37 rfl rfl) rfl
theorem dX12_qWordHere_97 : decode cX12_qWordHere 97 = .ok (.invokevirtual 218, 3) := q_invokevirtual (bat_get dg_X12_qWordHere_0_0 38 rfl rfl) rfl
theorem dX12_qWordHere_100 : decode cX12_qWordHere 100 = .ok (.ifCond .eq 6, 3) := q_ifCond_eq (bat_get dg_X12_qWordHere_0_0 39 rfl rfl) rfl
theorem dg_X12_qWordHere_11_106 : bqL cX12_qWordHere 11 [(95, [42]), (96, [42]), (97, [180, 0, 174]), (100, [182, 0, 218]), (103, [153, 0, 6]), (109, [42]), (110, [42]), (111, [180, 0, 114]), (114, [182, 0, 218]), (117, [153, 0, 6]), (123, [42]), (124, [42]), (125, [180, 0, 177]), (128, [182, 0, 218]), (131, [153, 0, 6]), (137, [2]), (138, [172]), (134, [16, 10]), (136, [172]), (120, [16, 9]), (122, [172]), (106, [16, 8]), (108, [172]), (92, [16, 7]), (94, [172]), (78, [16, 6]), (80, [172]), (65, [8]), (66, [172]), (52, [7]), (53, [172]), (39, [6]), (40, [172]), (26, [5]), (27, [172]), (13, [4]), (14, [172]), (0, [3]), (1, [172])] = true := by decide +kernel
theorem dX12_qWordHere_106 : decode cX12_qWordHere 106 = .ok (.aload_n 0, 1) := q_aload_n0 (bat_get dg_X12_qWordHere_11_106 0 rfl rfl)
theorem dX12_qWordHere_107 : decode cX12_qWordHere 107 = .ok (.aload_n 0, 1) := q_aload_n0 (bat_get dg_X12_qWordHere_11_106 1 rfl rfl)
theorem dX12_qWordHere_108 : decode cX12_qWordHere 108 = .ok (.getfield 174, 3) := q_getfield (bat_get dg_X12_qWordHere_11_106 2 rfl rfl) rfl
theorem dX12_qWordHere_111 : decode cX12_qWordHere 111 = .ok (.invokevirtual 218, 3) := q_invokevirtual (bat_get dg_X12_qWordHere_11_106 3 rfl rfl) rfl
theorem dX12_qWordHere_114 : decode cX12_qWordHere 114 = .ok (.ifCond .eq 6, 3) := q_ifCond_eq (bat_get dg_X12_qWordHere_11_106 4 rfl rfl) rfl
theorem dX12_qWordHere_120 : decode cX12_qWordHere 120 = .ok (.aload_n 0, 1) := q_aload_n0 (bat_get dg_X12_qWordHere_11_106 5 rfl rfl)
theorem dX12_qWordHere_121 : decode cX12_qWordHere 121 = .ok (.aload_n 0, 1) := q_aload_n0 (bat_get dg_X12_qWordHere_11_106 6 rfl rfl)
theorem dX12_qWordHere_122 : decode cX12_qWordHere 122 = .ok (.getfield 114, 3) := q_getfield (bat_get dg_X12_qWordHere_11_106 7 rfl rfl) rfl
theorem dX12_qWordHere_125 : decode cX12_qWordHere 125 = .ok (.invokevirtual 218, 3) := q_invokevirtual (bat_get dg_X12_qWordHere_11_106 8 rfl rfl) rfl
theorem dX12_qWordHere_128 : decode cX12_qWordHere 128 = .ok (.ifCond .eq 6, 3) := q_ifCond_eq (bat_get dg_X12_qWordHere_11_106 9 rfl rfl) rfl
theorem dX12_qWordHere_134 : decode cX12_qWordHere 134 = .ok (.aload_n 0, 1) := q_aload_n0 (bat_get dg_X12_qWordHere_11_106 10 rfl rfl)
theorem dX12_qWordHere_135 : decode cX12_qWordHere 135 = .ok (.aload_n 0, 1) := q_aload_n0 (bat_get dg_X12_qWordHere_11_106 11 rfl rfl)
theorem dX12_qWordHere_136 : decode cX12_qWordHere 136 = .ok (.getfield 177, 3) := q_getfield (bat_get dg_X12_qWordHere_11_106 12 rfl rfl) rfl
theorem dX12_qWordHere_139 : decode cX12_qWordHere 139 = .ok (.invokevirtual 218, 3) := q_invokevirtual (bat_get dg_X12_qWordHere_11_106 13 rfl rfl) rfl
theorem dX12_qWordHere_142 : decode cX12_qWordHere 142 = .ok (.ifCond .eq 6, 3) := q_ifCond_eq (bat_get dg_X12_qWordHere_11_106 14 rfl rfl) rfl
theorem dX12_qWordHere_148 : decode cX12_qWordHere 148 = .ok (.iconst (-1), 1) := q_iconstm1 (bat_get dg_X12_qWordHere_11_106 15 rfl rfl)
theorem dX12_qWordHere_149 : decode cX12_qWordHere 149 = .ok (.ireturn, 1) := q_ireturn (bat_get dg_X12_qWordHere_11_106 16 rfl rfl)
theorem dX12_qWordHere_145 : decode cX12_qWordHere 145 = .ok (.bipush 10, 2) := q_bipush (bat_get dg_X12_qWordHere_11_106 17 rfl rfl) rfl
theorem dX12_qWordHere_147 : decode cX12_qWordHere 147 = .ok (.ireturn, 1) := q_ireturn (bat_get dg_X12_qWordHere_11_106 18 rfl rfl)
theorem dX12_qWordHere_131 : decode cX12_qWordHere 131 = .ok (.bipush 9, 2) := q_bipush (bat_get dg_X12_qWordHere_11_106 19 rfl rfl) rfl
theorem dX12_qWordHere_133 : decode cX12_qWordHere 133 = .ok (.ireturn, 1) := q_ireturn (bat_get dg_X12_qWordHere_11_106 20 rfl rfl)
theorem dX12_qWordHere_117 : decode cX12_qWordHere 117 = .ok (.bipush 8, 2) := q_bipush (bat_get dg_X12_qWordHere_11_106 21 rfl rfl) rfl
theorem dX12_qWordHere_119 : decode cX12_qWordHere 119 = .ok (.ireturn, 1) := q_ireturn (bat_get dg_X12_qWordHere_11_106 22 rfl rfl)
theorem dX12_qWordHere_103 : decode cX12_qWordHere 103 = .ok (.bipush 7, 2) := q_bipush (bat_get dg_X12_qWordHere_11_106 23 rfl rfl) rfl
theorem dX12_qWordHere_105 : decode cX12_qWordHere 105 = .ok (.ireturn, 1) := q_ireturn (bat_get dg_X12_qWordHere_11_106 24 rfl rfl)
theorem dX12_qWordHere_89 : decode cX12_qWordHere 89 = .ok (.bipush 6, 2) := q_bipush (bat_get dg_X12_qWordHere_11_106 25 rfl rfl) rfl
theorem dX12_qWordHere_91 : decode cX12_qWordHere 91 = .ok (.ireturn, 1) := q_ireturn (bat_get dg_X12_qWordHere_11_106 26 rfl rfl)
theorem dX12_qWordHere_76 : decode cX12_qWordHere 76 = .ok (.iconst 5, 1) := q_iconst5 (bat_get dg_X12_qWordHere_11_106 27 rfl rfl)
theorem dX12_qWordHere_77 : decode cX12_qWordHere 77 = .ok (.ireturn, 1) := q_ireturn (bat_get dg_X12_qWordHere_11_106 28 rfl rfl)
theorem dX12_qWordHere_63 : decode cX12_qWordHere 63 = .ok (.iconst 4, 1) := q_iconst4 (bat_get dg_X12_qWordHere_11_106 29 rfl rfl)
theorem dX12_qWordHere_64 : decode cX12_qWordHere 64 = .ok (.ireturn, 1) := q_ireturn (bat_get dg_X12_qWordHere_11_106 30 rfl rfl)
theorem dX12_qWordHere_50 : decode cX12_qWordHere 50 = .ok (.iconst 3, 1) := q_iconst3 (bat_get dg_X12_qWordHere_11_106 31 rfl rfl)
theorem dX12_qWordHere_51 : decode cX12_qWordHere 51 = .ok (.ireturn, 1) := q_ireturn (bat_get dg_X12_qWordHere_11_106 32 rfl rfl)
theorem dX12_qWordHere_37 : decode cX12_qWordHere 37 = .ok (.iconst 2, 1) := q_iconst2 (bat_get dg_X12_qWordHere_11_106 33 rfl rfl)
theorem dX12_qWordHere_38 : decode cX12_qWordHere 38 = .ok (.ireturn, 1) := q_ireturn (bat_get dg_X12_qWordHere_11_106 34 rfl rfl)
theorem dX12_qWordHere_24 : decode cX12_qWordHere 24 = .ok (.iconst 1, 1) := q_iconst1 (bat_get dg_X12_qWordHere_11_106 35 rfl rfl)
theorem dX12_qWordHere_25 : decode cX12_qWordHere 25 = .ok (.ireturn, 1) := q_ireturn (bat_get dg_X12_qWordHere_11_106 36 rfl rfl)
theorem dX12_qWordHere_11 : decode cX12_qWordHere 11 = .ok (.iconst 0, 1) := q_iconst0 (bat_get dg_X12_qWordHere_11_106 37 rfl rfl)
theorem dX12_qWordHere_12 : decode cX12_qWordHere 12 = .ok (.ireturn, 1) := q_ireturn (bat_get dg_X12_qWordHere_11_106 38 rfl rfl)
theorem w_5_225 : (Cond.fieldLink RX12 150 "SameKeeperModel" "moodAsked" "[C") ∈ wsL_law := sk_mem (ck_5 _ (List.mem_of_getElem? (i := 225) rfl)) rfl
theorem w_5_226 : (Cond.fieldLink RX12 153 "SameKeeperModel" "bargeAsked" "[C") ∈ wsL_law := sk_mem (ck_5 _ (List.mem_of_getElem? (i := 226) rfl)) rfl
theorem w_5_227 : (Cond.fieldLink RX12 156 "SameKeeperModel" "wetAsked" "[C") ∈ wsL_law := sk_mem (ck_5 _ (List.mem_of_getElem? (i := 227) rfl)) rfl
theorem w_5_228 : (Cond.fieldLink RX12 159 "SameKeeperModel" "dayAsked" "[C") ∈ wsL_law := sk_mem (ck_5 _ (List.mem_of_getElem? (i := 228) rfl)) rfl
theorem w_5_229 : (Cond.fieldLink RX12 162 "SameKeeperModel" "weekAsked" "[C") ∈ wsL_law := sk_mem (ck_5 _ (List.mem_of_getElem? (i := 229) rfl)) rfl
theorem w_5_230 : (Cond.fieldLink RX12 165 "SameKeeperModel" "toldAsked" "[C") ∈ wsL_law := sk_mem (ck_5 _ (List.mem_of_getElem? (i := 230) rfl)) rfl
theorem w_5_231 : (Cond.fieldLink RX12 168 "SameKeeperModel" "aloneAsked" "[C") ∈ wsL_law := sk_mem (ck_5 _ (List.mem_of_getElem? (i := 231) rfl)) rfl
theorem w_5_232 : (Cond.fieldLink RX12 171 "SameKeeperModel" "numberAsked" "[C") ∈ wsL_law := sk_mem (ck_5 _ (List.mem_of_getElem? (i := 232) rfl)) rfl
theorem w_5_233 : (Cond.fieldLink RX12 174 "SameKeeperModel" "muteAsked" "[C") ∈ wsL_law := sk_mem (ck_5 _ (List.mem_of_getElem? (i := 233) rfl)) rfl
theorem w_5_213 : (Cond.fieldLink RX12 114 "SameKeeperModel" "firstAsked" "[C") ∈ wsL_law := sk_mem (ck_5 _ (List.mem_of_getElem? (i := 213) rfl)) rfl
theorem w_5_234 : (Cond.fieldLink RX12 177 "SameKeeperModel" "weeksAsked" "[C") ∈ wsL_law := sk_mem (ck_5 _ (List.mem_of_getElem? (i := 234) rfl)) rfl
theorem w_7_42 : (Cond.code yX12_qWordHere cX12_qWordHere 1 (some .int)) ∈ wsL_law := sk_mem (ck_7 _ (List.mem_of_getElem? (i := 42) rfl)) rfl
def om_13_1a00 : List Bool := true :: true :: false :: true :: false :: false :: false :: false :: false :: false :: false :: false :: false :: []
def om_13_1900 : List Bool := true :: true :: false :: false :: true :: false :: false :: false :: false :: false :: false :: false :: false :: []
def om_13_1880 : List Bool := true :: true :: false :: false :: false :: true :: false :: false :: false :: false :: false :: false :: false :: []
def om_13_1840 : List Bool := true :: true :: false :: false :: false :: false :: true :: false :: false :: false :: false :: false :: false :: []
def om_13_1820 : List Bool := true :: true :: false :: false :: false :: false :: false :: true :: false :: false :: false :: false :: false :: []
def om_13_1810 : List Bool := true :: true :: false :: false :: false :: false :: false :: false :: true :: false :: false :: false :: false :: []
def om_13_1808 : List Bool := true :: true :: false :: false :: false :: false :: false :: false :: false :: true :: false :: false :: false :: []
def om_13_1804 : List Bool := true :: true :: false :: false :: false :: false :: false :: false :: false :: false :: true :: false :: false :: []
def om_13_1802 : List Bool := true :: true :: false :: false :: false :: false :: false :: false :: false :: false :: false :: true :: false :: []
def om_13_1801 : List Bool := true :: true :: false :: false :: false :: false :: false :: false :: false :: false :: false :: false :: true :: []
theorem dg_X12_qWordOf_0_0 : bqL cX12_qWordOf 0 [(0, [42]), (1, [182, 1, 251]), (4, [62]), (5, [29]), (6, [27]), (7, [161, 0, 20]), (27, [2]), (28, [172]), (10, [29]), (11, [28]), (12, [162, 0, 15]), (15, [42]), (16, [29]), (17, [182, 1, 254]), (20, [153, 0, 7]), (23, [29]), (24, [167, 0, 4])] = true := by decide +kernel
theorem dX12_qWordOf_0 : decode cX12_qWordOf 0 = .ok (.aload_n 0, 1) := q_aload_n0 (bat_get dg_X12_qWordOf_0_0 0 rfl rfl)
theorem dX12_qWordOf_1 : decode cX12_qWordOf 1 = .ok (.invokevirtual 507, 3) := q_invokevirtual (bat_get dg_X12_qWordOf_0_0 1 rfl rfl) rfl
theorem dX12_qWordOf_4 : decode cX12_qWordOf 4 = .ok (.istore_n 3, 1) := q_istore_n3 (bat_get dg_X12_qWordOf_0_0 2 rfl rfl)
theorem dX12_qWordOf_5 : decode cX12_qWordOf 5 = .ok (.iload_n 3, 1) := q_iload_n3 (bat_get dg_X12_qWordOf_0_0 3 rfl rfl)
theorem dX12_qWordOf_6 : decode cX12_qWordOf 6 = .ok (.iload_n 1, 1) := q_iload_n1 (bat_get dg_X12_qWordOf_0_0 4 rfl rfl)
theorem dX12_qWordOf_7 : decode cX12_qWordOf 7 = .ok (.if_icmp .lt 20, 3) := q_if_icmp_lt (bat_get dg_X12_qWordOf_0_0 5 rfl rfl) rfl
theorem dX12_qWordOf_27 : decode cX12_qWordOf 27 = .ok (.iconst (-1), 1) := q_iconstm1 (bat_get dg_X12_qWordOf_0_0 6 rfl rfl)
theorem dX12_qWordOf_28 : decode cX12_qWordOf 28 = .ok (.ireturn, 1) := q_ireturn (bat_get dg_X12_qWordOf_0_0 7 rfl rfl)
theorem dX12_qWordOf_10 : decode cX12_qWordOf 10 = .ok (.iload_n 3, 1) := q_iload_n3 (bat_get dg_X12_qWordOf_0_0 8 rfl rfl)
theorem dX12_qWordOf_11 : decode cX12_qWordOf 11 = .ok (.iload_n 2, 1) := q_iload_n2 (bat_get dg_X12_qWordOf_0_0 9 rfl rfl)
theorem dX12_qWordOf_12 : decode cX12_qWordOf 12 = .ok (.if_icmp .ge 15, 3) := q_if_icmp_ge (bat_get dg_X12_qWordOf_0_0 10 rfl rfl) rfl
theorem dX12_qWordOf_15 : decode cX12_qWordOf 15 = .ok (.aload_n 0, 1) := q_aload_n0 (bat_get dg_X12_qWordOf_0_0 11 rfl rfl)
theorem dX12_qWordOf_16 : decode cX12_qWordOf 16 = .ok (.iload_n 3, 1) := q_iload_n3 (bat_get dg_X12_qWordOf_0_0 12 rfl rfl)
theorem dX12_qWordOf_17 : decode cX12_qWordOf 17 = .ok (.invokevirtual 510, 3) := q_invokevirtual (bat_get dg_X12_qWordOf_0_0 13 rfl rfl) rfl
theorem dX12_qWordOf_20 : decode cX12_qWordOf 20 = .ok (.ifCond .eq 7, 3) := q_ifCond_eq (bat_get dg_X12_qWordOf_0_0 14 rfl rfl) rfl
theorem dX12_qWordOf_23 : decode cX12_qWordOf 23 = .ok (.iload_n 3, 1) := q_iload_n3 (bat_get dg_X12_qWordOf_0_0 15 rfl rfl)
theorem dX12_qWordOf_24 : decode cX12_qWordOf 24 = .ok (.goto 4, 3) := q_goto (bat_get dg_X12_qWordOf_0_0 16 rfl rfl) rfl
theorem w_7_39 : (Cond.methodLink RX12 507 yX12_qWordHere) ∈ wsL_law := sk_mem (ck_7 _ (List.mem_of_getElem? (i := 39) rfl)) rfl
theorem w_7_41 : (Cond.instanceMethod yX12_qWordHere) ∈ wsL_law := sk_mem (ck_7 _ (List.mem_of_getElem? (i := 41) rfl)) rfl
theorem w_0_57 : (Cond.selects RX12 yX12_qWordHere yX12_qWordHere) ∈ wsL_law := sk_mem (ck_0 _ (List.mem_of_getElem? (i := 57) rfl)) rfl
theorem w_7_43 : (Cond.methodLink RX12 510 yX12_isAllowed) ∈ wsL_law := sk_mem (ck_7 _ (List.mem_of_getElem? (i := 43) rfl)) rfl
theorem w_7_45 : (Cond.instanceMethod yX12_isAllowed) ∈ wsL_law := sk_mem (ck_7 _ (List.mem_of_getElem? (i := 45) rfl)) rfl
theorem w_0_58 : (Cond.selects RX12 yX12_isAllowed yX12_isAllowed) ∈ wsL_law := sk_mem (ck_0 _ (List.mem_of_getElem? (i := 58) rfl)) rfl
theorem w_7_38 : (Cond.code yX12_qWordOf cX12_qWordOf 4 (some .int)) ∈ wsL_law := sk_mem (ck_7 _ (List.mem_of_getElem? (i := 38) rfl)) rfl
theorem hd_X12_qWordHere_0 : skD yX12_qWordHere 0 := by decide +kernel
theorem hd_X12_isAllowed_1 : skD yX12_isAllowed 1 := by decide +kernel
theorem dX12_qAsksWord_1 : decode cX12_qAsksWord 1 = .ok (.tableswitch 165 0 9 #[55, 66, 77, 88, 99, 110, 121, 132, 143, 154], 55) := by decide +kernel
theorem dg_X12_qAsksWord_0_0 : bqL cX12_qAsksWord 0 [(0, [27]), (56, [42]), (57, [42]), (58, [180, 0, 150]), (61, [182, 0, 245]), (64, [167, 0, 110]), (174, [177]), (67, [42]), (68, [42]), (69, [180, 0, 153]), (72, [182, 0, 245]), (75, [167, 0, 99]), (78, [42]), (79, [42]), (80, [180, 0, 156]), (83, [182, 0, 245]), (86, [167, 0, 88]), (89, [42]), (90, [42]), (91, [180, 0, 159]), (94, [182, 0, 245]), (97, [167, 0, 77]), (100, [42]), (101, [42]), (102, [180, 0, 162]), (105, [182, 0, 245]), (108, [167, 0, 66]), (111, [42]), (112, [42]), (113, [180, 0, 165]), (116, [182, 0, 245]), (119, [167, 0, 55]), (122, [42]), (123, [42]), (124, [180, 0, 168]), (127, [182, 0, 245]), (130, [167, 0, 44]), (133, [42]), (134, [42]), (135, [180, 0, 171])] = true := by decide +kernel
theorem dX12_qAsksWord_0 : decode cX12_qAsksWord 0 = .ok (.iload_n 1, 1) := q_iload_n1 (bat_get dg_X12_qAsksWord_0_0 0 rfl rfl)
theorem dX12_qAsksWord_56 : decode cX12_qAsksWord 56 = .ok (.aload_n 0, 1) := q_aload_n0 (bat_get dg_X12_qAsksWord_0_0 1 rfl rfl)
theorem dX12_qAsksWord_57 : decode cX12_qAsksWord 57 = .ok (.aload_n 0, 1) := q_aload_n0 (bat_get dg_X12_qAsksWord_0_0 2 rfl rfl)
theorem dX12_qAsksWord_58 : decode cX12_qAsksWord 58 = .ok (.getfield 150, 3) := q_getfield (bat_get dg_X12_qAsksWord_0_0 3 rfl rfl) rfl
theorem dX12_qAsksWord_61 : decode cX12_qAsksWord 61 = .ok (.invokevirtual 245, 3) := q_invokevirtual (bat_get dg_X12_qAsksWord_0_0 4 rfl rfl) rfl
theorem dX12_qAsksWord_64 : decode cX12_qAsksWord 64 = .ok (.goto 110, 3) := q_goto (bat_get dg_X12_qAsksWord_0_0 5 rfl rfl) rfl
theorem dX12_qAsksWord_174 : decode cX12_qAsksWord 174 = .ok (.return_, 1) := q_return_ (bat_get dg_X12_qAsksWord_0_0 6 rfl rfl)
theorem dX12_qAsksWord_67 : decode cX12_qAsksWord 67 = .ok (.aload_n 0, 1) := q_aload_n0 (bat_get dg_X12_qAsksWord_0_0 7 rfl rfl)
theorem dX12_qAsksWord_68 : decode cX12_qAsksWord 68 = .ok (.aload_n 0, 1) := q_aload_n0 (bat_get dg_X12_qAsksWord_0_0 8 rfl rfl)
theorem dX12_qAsksWord_69 : decode cX12_qAsksWord 69 = .ok (.getfield 153, 3) := q_getfield (bat_get dg_X12_qAsksWord_0_0 9 rfl rfl) rfl
theorem dX12_qAsksWord_72 : decode cX12_qAsksWord 72 = .ok (.invokevirtual 245, 3) := q_invokevirtual (bat_get dg_X12_qAsksWord_0_0 10 rfl rfl) rfl
theorem dX12_qAsksWord_75 : decode cX12_qAsksWord 75 = .ok (.goto 99, 3) := q_goto (bat_get dg_X12_qAsksWord_0_0 11 rfl rfl) rfl
theorem dX12_qAsksWord_78 : decode cX12_qAsksWord 78 = .ok (.aload_n 0, 1) := q_aload_n0 (bat_get dg_X12_qAsksWord_0_0 12 rfl rfl)
theorem dX12_qAsksWord_79 : decode cX12_qAsksWord 79 = .ok (.aload_n 0, 1) := q_aload_n0 (bat_get dg_X12_qAsksWord_0_0 13 rfl rfl)
theorem dX12_qAsksWord_80 : decode cX12_qAsksWord 80 = .ok (.getfield 156, 3) := q_getfield (bat_get dg_X12_qAsksWord_0_0 14 rfl rfl) rfl
theorem dX12_qAsksWord_83 : decode cX12_qAsksWord 83 = .ok (.invokevirtual 245, 3) := q_invokevirtual (bat_get dg_X12_qAsksWord_0_0 15 rfl rfl) rfl
theorem dX12_qAsksWord_86 : decode cX12_qAsksWord 86 = .ok (.goto 88, 3) := q_goto (bat_get dg_X12_qAsksWord_0_0 16 rfl rfl) rfl
theorem dX12_qAsksWord_89 : decode cX12_qAsksWord 89 = .ok (.aload_n 0, 1) := q_aload_n0 (bat_get dg_X12_qAsksWord_0_0 17 rfl rfl)
theorem dX12_qAsksWord_90 : decode cX12_qAsksWord 90 = .ok (.aload_n 0, 1) := q_aload_n0 (bat_get dg_X12_qAsksWord_0_0 18 rfl rfl)
theorem dX12_qAsksWord_91 : decode cX12_qAsksWord 91 = .ok (.getfield 159, 3) := q_getfield (bat_get dg_X12_qAsksWord_0_0 19 rfl rfl) rfl
theorem dX12_qAsksWord_94 : decode cX12_qAsksWord 94 = .ok (.invokevirtual 245, 3) := q_invokevirtual (bat_get dg_X12_qAsksWord_0_0 20 rfl rfl) rfl
theorem dX12_qAsksWord_97 : decode cX12_qAsksWord 97 = .ok (.goto 77, 3) := q_goto (bat_get dg_X12_qAsksWord_0_0 21 rfl rfl) rfl
theorem dX12_qAsksWord_100 : decode cX12_qAsksWord 100 = .ok (.aload_n 0, 1) := q_aload_n0 (bat_get dg_X12_qAsksWord_0_0 22 rfl rfl)
theorem dX12_qAsksWord_101 : decode cX12_qAsksWord 101 = .ok (.aload_n 0, 1) := q_aload_n0 (bat_get dg_X12_qAsksWord_0_0 23 rfl rfl)
theorem dX12_qAsksWord_102 : decode cX12_qAsksWord 102 = .ok (.getfield 162, 3) := q_getfield (bat_get dg_X12_qAsksWord_0_0 24 rfl rfl) rfl
theorem dX12_qAsksWord_105 : decode cX12_qAsksWord 105 = .ok (.invokevirtual 245, 3) := q_invokevirtual (bat_get dg_X12_qAsksWord_0_0 25 rfl rfl) rfl
theorem dX12_qAsksWord_108 : decode cX12_qAsksWord 108 = .ok (.goto 66, 3) := q_goto (bat_get dg_X12_qAsksWord_0_0 26 rfl rfl) rfl
theorem dX12_qAsksWord_111 : decode cX12_qAsksWord 111 = .ok (.aload_n 0, 1) := q_aload_n0 (bat_get dg_X12_qAsksWord_0_0 27 rfl rfl)
theorem dX12_qAsksWord_112 : decode cX12_qAsksWord 112 = .ok (.aload_n 0, 1) := q_aload_n0 (bat_get dg_X12_qAsksWord_0_0 28 rfl rfl)
theorem dX12_qAsksWord_113 : decode cX12_qAsksWord 113 = .ok (.getfield 165, 3) := q_getfield (bat_get dg_X12_qAsksWord_0_0 29 rfl rfl) rfl
theorem dX12_qAsksWord_116 : decode cX12_qAsksWord 116 = .ok (.invokevirtual 245, 3) := q_invokevirtual (bat_get dg_X12_qAsksWord_0_0 30 rfl rfl) rfl
theorem dX12_qAsksWord_119 : decode cX12_qAsksWord 119 = .ok (.goto 55, 3) := q_goto (bat_get dg_X12_qAsksWord_0_0 31 rfl rfl) rfl
theorem dX12_qAsksWord_122 : decode cX12_qAsksWord 122 = .ok (.aload_n 0, 1) := q_aload_n0 (bat_get dg_X12_qAsksWord_0_0 32 rfl rfl)
theorem dX12_qAsksWord_123 : decode cX12_qAsksWord 123 = .ok (.aload_n 0, 1) := q_aload_n0 (bat_get dg_X12_qAsksWord_0_0 33 rfl rfl)
theorem dX12_qAsksWord_124 : decode cX12_qAsksWord 124 = .ok (.getfield 168, 3) := q_getfield (bat_get dg_X12_qAsksWord_0_0 34 rfl rfl) rfl
theorem dX12_qAsksWord_127 : decode cX12_qAsksWord 127 = .ok (.invokevirtual 245, 3) := q_invokevirtual (bat_get dg_X12_qAsksWord_0_0 35 rfl rfl) rfl
theorem dX12_qAsksWord_130 : decode cX12_qAsksWord 130 = .ok (.goto 44, 3) := q_goto (bat_get dg_X12_qAsksWord_0_0 36 rfl rfl) rfl
theorem dX12_qAsksWord_133 : decode cX12_qAsksWord 133 = .ok (.aload_n 0, 1) := q_aload_n0 (bat_get dg_X12_qAsksWord_0_0 37 rfl rfl)
theorem dX12_qAsksWord_134 : decode cX12_qAsksWord 134 = .ok (.aload_n 0, 1) := q_aload_n0 (bat_get dg_X12_qAsksWord_0_0 38 rfl rfl)
theorem dX12_qAsksWord_135 : decode cX12_qAsksWord 135 = .ok (.getfield 171, 3) := q_getfield (bat_get dg_X12_qAsksWord_0_0 39 rfl rfl) rfl
theorem dg_X12_qAsksWord_138_138 : bqL cX12_qAsksWord 138 [(0, [182, 0, 245]), (3, [167, 0, 33]), (6, [42]), (7, [42]), (8, [180, 0, 174]), (11, [182, 0, 245]), (14, [167, 0, 22]), (17, [42]), (18, [42]), (19, [180, 0, 114]), (22, [182, 0, 245]), (25, [167, 0, 11]), (28, [42]), (29, [42]), (30, [180, 0, 177]), (33, [182, 0, 245])] = true := by decide +kernel
theorem dX12_qAsksWord_138 : decode cX12_qAsksWord 138 = .ok (.invokevirtual 245, 3) := q_invokevirtual (bat_get dg_X12_qAsksWord_138_138 0 rfl rfl) rfl
theorem dX12_qAsksWord_141 : decode cX12_qAsksWord 141 = .ok (.goto 33, 3) := q_goto (bat_get dg_X12_qAsksWord_138_138 1 rfl rfl) rfl
theorem dX12_qAsksWord_144 : decode cX12_qAsksWord 144 = .ok (.aload_n 0, 1) := q_aload_n0 (bat_get dg_X12_qAsksWord_138_138 2 rfl rfl)
theorem dX12_qAsksWord_145 : decode cX12_qAsksWord 145 = .ok (.aload_n 0, 1) := q_aload_n0 (bat_get dg_X12_qAsksWord_138_138 3 rfl rfl)
theorem dX12_qAsksWord_146 : decode cX12_qAsksWord 146 = .ok (.getfield 174, 3) := q_getfield (bat_get dg_X12_qAsksWord_138_138 4 rfl rfl) rfl
theorem dX12_qAsksWord_149 : decode cX12_qAsksWord 149 = .ok (.invokevirtual 245, 3) := q_invokevirtual (bat_get dg_X12_qAsksWord_138_138 5 rfl rfl) rfl
theorem dX12_qAsksWord_152 : decode cX12_qAsksWord 152 = .ok (.goto 22, 3) := q_goto (bat_get dg_X12_qAsksWord_138_138 6 rfl rfl) rfl
theorem dX12_qAsksWord_155 : decode cX12_qAsksWord 155 = .ok (.aload_n 0, 1) := q_aload_n0 (bat_get dg_X12_qAsksWord_138_138 7 rfl rfl)
theorem dX12_qAsksWord_156 : decode cX12_qAsksWord 156 = .ok (.aload_n 0, 1) := q_aload_n0 (bat_get dg_X12_qAsksWord_138_138 8 rfl rfl)
theorem dX12_qAsksWord_157 : decode cX12_qAsksWord 157 = .ok (.getfield 114, 3) := q_getfield (bat_get dg_X12_qAsksWord_138_138 9 rfl rfl) rfl
theorem dX12_qAsksWord_160 : decode cX12_qAsksWord 160 = .ok (.invokevirtual 245, 3) := q_invokevirtual (bat_get dg_X12_qAsksWord_138_138 10 rfl rfl) rfl
theorem dX12_qAsksWord_163 : decode cX12_qAsksWord 163 = .ok (.goto 11, 3) := q_goto (bat_get dg_X12_qAsksWord_138_138 11 rfl rfl) rfl
theorem dX12_qAsksWord_166 : decode cX12_qAsksWord 166 = .ok (.aload_n 0, 1) := q_aload_n0 (bat_get dg_X12_qAsksWord_138_138 12 rfl rfl)
theorem dX12_qAsksWord_167 : decode cX12_qAsksWord 167 = .ok (.aload_n 0, 1) := q_aload_n0 (bat_get dg_X12_qAsksWord_138_138 13 rfl rfl)
theorem dX12_qAsksWord_168 : decode cX12_qAsksWord 168 = .ok (.getfield 177, 3) := q_getfield (bat_get dg_X12_qAsksWord_138_138 14 rfl rfl) rfl
theorem dX12_qAsksWord_171 : decode cX12_qAsksWord 171 = .ok (.invokevirtual 245, 3) := q_invokevirtual (bat_get dg_X12_qAsksWord_138_138 15 rfl rfl) rfl
theorem w_6_210 : (Cond.methodLink RX12 245 yX12_asks) ∈ wsL_law := sk_mem (ck_6 _ (List.mem_of_getElem? (i := 210) rfl)) rfl
theorem w_6_212 : (Cond.instanceMethod yX12_asks) ∈ wsL_law := sk_mem (ck_6 _ (List.mem_of_getElem? (i := 212) rfl)) rfl
theorem w_0_42 : (Cond.selects RX12 yX12_asks yX12_asks) ∈ wsL_law := sk_mem (ck_0 _ (List.mem_of_getElem? (i := 42) rfl)) rfl
theorem w_7_54 : (Cond.code yX12_qAsksWord cX12_qAsksWord 2 none) ∈ wsL_law := sk_mem (ck_7 _ (List.mem_of_getElem? (i := 54) rfl)) rfl
theorem hd_X12_asks_1 : skD yX12_asks 1 := by decide +kernel
theorem dg_X12_qCode_0_0 : bqL cX12_qCode 0 [(0, [42]), (1, [180, 0, 180]), (4, [42]), (5, [180, 1, 1]), (8, [27]), (9, [79]), (10, [42]), (11, [89]), (12, [180, 1, 1]), (15, [4]), (16, [96]), (17, [181, 1, 1]), (20, [177])] = true := by decide +kernel
theorem dX12_qCode_0 : decode cX12_qCode 0 = .ok (.aload_n 0, 1) := q_aload_n0 (bat_get dg_X12_qCode_0_0 0 rfl rfl)
theorem dX12_qCode_1 : decode cX12_qCode 1 = .ok (.getfield 180, 3) := q_getfield (bat_get dg_X12_qCode_0_0 1 rfl rfl) rfl
theorem dX12_qCode_4 : decode cX12_qCode 4 = .ok (.aload_n 0, 1) := q_aload_n0 (bat_get dg_X12_qCode_0_0 2 rfl rfl)
theorem dX12_qCode_5 : decode cX12_qCode 5 = .ok (.getfield 257, 3) := q_getfield (bat_get dg_X12_qCode_0_0 3 rfl rfl) rfl
theorem dX12_qCode_8 : decode cX12_qCode 8 = .ok (.iload_n 1, 1) := q_iload_n1 (bat_get dg_X12_qCode_0_0 4 rfl rfl)
theorem dX12_qCode_9 : decode cX12_qCode 9 = .ok (.iastore, 1) := q_iastore (bat_get dg_X12_qCode_0_0 5 rfl rfl)
theorem dX12_qCode_10 : decode cX12_qCode 10 = .ok (.aload_n 0, 1) := q_aload_n0 (bat_get dg_X12_qCode_0_0 6 rfl rfl)
theorem dX12_qCode_11 : decode cX12_qCode 11 = .ok (.dup, 1) := q_dup (bat_get dg_X12_qCode_0_0 7 rfl rfl)
theorem dX12_qCode_12 : decode cX12_qCode 12 = .ok (.getfield 257, 3) := q_getfield (bat_get dg_X12_qCode_0_0 8 rfl rfl) rfl
theorem dX12_qCode_15 : decode cX12_qCode 15 = .ok (.iconst 1, 1) := q_iconst1 (bat_get dg_X12_qCode_0_0 9 rfl rfl)
theorem dX12_qCode_16 : decode cX12_qCode 16 = .ok (.iadd, 1) := q_iadd (bat_get dg_X12_qCode_0_0 10 rfl rfl)
theorem dX12_qCode_17 : decode cX12_qCode 17 = .ok (.putfield 257, 3) := q_putfield (bat_get dg_X12_qCode_0_0 11 rfl rfl) rfl
theorem dX12_qCode_20 : decode cX12_qCode 20 = .ok (.return_, 1) := q_return_ (bat_get dg_X12_qCode_0_0 12 rfl rfl)
theorem w_5_235 : (Cond.fieldLink RX12 180 "SameKeeperModel" "qCodes" "[I") ∈ wsL_law := sk_mem (ck_5 _ (List.mem_of_getElem? (i := 235) rfl)) rfl
theorem w_5_236 : (Cond.fieldLink RX12 257 "SameKeeperModel" "qCoded" "I") ∈ wsL_law := sk_mem (ck_5 _ (List.mem_of_getElem? (i := 236) rfl)) rfl
theorem w_7_58 : (Cond.code yX12_qCode cX12_qCode 2 none) ∈ wsL_law := sk_mem (ck_7 _ (List.mem_of_getElem? (i := 58) rfl)) rfl
theorem dg_X12_qOpens_0_0 : bqL cX12_qOpens 0 [(0, [42]), (1, [180, 0, 195]), (4, [153, 0, 4]), (8, [42]), (9, [180, 1, 7]), (12, [16, 6]), (14, [160, 0, 10]), (24, [42]), (25, [89]), (26, [180, 1, 7]), (29, [4]), (30, [96]), (31, [181, 1, 7]), (34, [42]), (35, [180, 0, 183]), (38, [42]), (39, [180, 1, 4]), (42, [27]), (43, [79]), (44, [42]), (45, [89]), (46, [180, 1, 4]), (49, [4]), (50, [96]), (51, [181, 1, 4]), (54, [177]), (17, [42]), (18, [7]), (19, [28]), (20, [182, 0, 225]), (23, [177]), (7, [177])] = true := by decide +kernel
theorem dX12_qOpens_0 : decode cX12_qOpens 0 = .ok (.aload_n 0, 1) := q_aload_n0 (bat_get dg_X12_qOpens_0_0 0 rfl rfl)
theorem dX12_qOpens_1 : decode cX12_qOpens 1 = .ok (.getfield 195, 3) := q_getfield (bat_get dg_X12_qOpens_0_0 1 rfl rfl) rfl
theorem dX12_qOpens_4 : decode cX12_qOpens 4 = .ok (.ifCond .eq 4, 3) := q_ifCond_eq (bat_get dg_X12_qOpens_0_0 2 rfl rfl) rfl
theorem dX12_qOpens_8 : decode cX12_qOpens 8 = .ok (.aload_n 0, 1) := q_aload_n0 (bat_get dg_X12_qOpens_0_0 3 rfl rfl)
theorem dX12_qOpens_9 : decode cX12_qOpens 9 = .ok (.getfield 263, 3) := q_getfield (bat_get dg_X12_qOpens_0_0 4 rfl rfl) rfl
theorem dX12_qOpens_12 : decode cX12_qOpens 12 = .ok (.bipush 6, 2) := q_bipush (bat_get dg_X12_qOpens_0_0 5 rfl rfl) rfl
theorem dX12_qOpens_14 : decode cX12_qOpens 14 = .ok (.if_icmp .ne 10, 3) := q_if_icmp_ne (bat_get dg_X12_qOpens_0_0 6 rfl rfl) rfl
theorem dX12_qOpens_24 : decode cX12_qOpens 24 = .ok (.aload_n 0, 1) := q_aload_n0 (bat_get dg_X12_qOpens_0_0 7 rfl rfl)
theorem dX12_qOpens_25 : decode cX12_qOpens 25 = .ok (.dup, 1) := q_dup (bat_get dg_X12_qOpens_0_0 8 rfl rfl)
theorem dX12_qOpens_26 : decode cX12_qOpens 26 = .ok (.getfield 263, 3) := q_getfield (bat_get dg_X12_qOpens_0_0 9 rfl rfl) rfl
theorem dX12_qOpens_29 : decode cX12_qOpens 29 = .ok (.iconst 1, 1) := q_iconst1 (bat_get dg_X12_qOpens_0_0 10 rfl rfl)
theorem dX12_qOpens_30 : decode cX12_qOpens 30 = .ok (.iadd, 1) := q_iadd (bat_get dg_X12_qOpens_0_0 11 rfl rfl)
theorem dX12_qOpens_31 : decode cX12_qOpens 31 = .ok (.putfield 263, 3) := q_putfield (bat_get dg_X12_qOpens_0_0 12 rfl rfl) rfl
theorem dX12_qOpens_34 : decode cX12_qOpens 34 = .ok (.aload_n 0, 1) := q_aload_n0 (bat_get dg_X12_qOpens_0_0 13 rfl rfl)
theorem dX12_qOpens_35 : decode cX12_qOpens 35 = .ok (.getfield 183, 3) := q_getfield (bat_get dg_X12_qOpens_0_0 14 rfl rfl) rfl
theorem dX12_qOpens_38 : decode cX12_qOpens 38 = .ok (.aload_n 0, 1) := q_aload_n0 (bat_get dg_X12_qOpens_0_0 15 rfl rfl)
theorem dX12_qOpens_39 : decode cX12_qOpens 39 = .ok (.getfield 260, 3) := q_getfield (bat_get dg_X12_qOpens_0_0 16 rfl rfl) rfl
theorem dX12_qOpens_42 : decode cX12_qOpens 42 = .ok (.iload_n 1, 1) := q_iload_n1 (bat_get dg_X12_qOpens_0_0 17 rfl rfl)
theorem dX12_qOpens_43 : decode cX12_qOpens 43 = .ok (.iastore, 1) := q_iastore (bat_get dg_X12_qOpens_0_0 18 rfl rfl)
theorem dX12_qOpens_44 : decode cX12_qOpens 44 = .ok (.aload_n 0, 1) := q_aload_n0 (bat_get dg_X12_qOpens_0_0 19 rfl rfl)
theorem dX12_qOpens_45 : decode cX12_qOpens 45 = .ok (.dup, 1) := q_dup (bat_get dg_X12_qOpens_0_0 20 rfl rfl)
theorem dX12_qOpens_46 : decode cX12_qOpens 46 = .ok (.getfield 260, 3) := q_getfield (bat_get dg_X12_qOpens_0_0 21 rfl rfl) rfl
theorem dX12_qOpens_49 : decode cX12_qOpens 49 = .ok (.iconst 1, 1) := q_iconst1 (bat_get dg_X12_qOpens_0_0 22 rfl rfl)
theorem dX12_qOpens_50 : decode cX12_qOpens 50 = .ok (.iadd, 1) := q_iadd (bat_get dg_X12_qOpens_0_0 23 rfl rfl)
theorem dX12_qOpens_51 : decode cX12_qOpens 51 = .ok (.putfield 260, 3) := q_putfield (bat_get dg_X12_qOpens_0_0 24 rfl rfl) rfl
theorem dX12_qOpens_54 : decode cX12_qOpens 54 = .ok (.return_, 1) := q_return_ (bat_get dg_X12_qOpens_0_0 25 rfl rfl)
theorem dX12_qOpens_17 : decode cX12_qOpens 17 = .ok (.aload_n 0, 1) := q_aload_n0 (bat_get dg_X12_qOpens_0_0 26 rfl rfl)
theorem dX12_qOpens_18 : decode cX12_qOpens 18 = .ok (.iconst 4, 1) := q_iconst4 (bat_get dg_X12_qOpens_0_0 27 rfl rfl)
theorem dX12_qOpens_19 : decode cX12_qOpens 19 = .ok (.iload_n 2, 1) := q_iload_n2 (bat_get dg_X12_qOpens_0_0 28 rfl rfl)
theorem dX12_qOpens_20 : decode cX12_qOpens 20 = .ok (.invokevirtual 225, 3) := q_invokevirtual (bat_get dg_X12_qOpens_0_0 29 rfl rfl) rfl
theorem dX12_qOpens_23 : decode cX12_qOpens 23 = .ok (.return_, 1) := q_return_ (bat_get dg_X12_qOpens_0_0 30 rfl rfl)
theorem dX12_qOpens_7 : decode cX12_qOpens 7 = .ok (.return_, 1) := q_return_ (bat_get dg_X12_qOpens_0_0 31 rfl rfl)
theorem w_5_239 : (Cond.fieldLink RX12 263 "SameKeeperModel" "qOpened" "I") ∈ wsL_law := sk_mem (ck_5 _ (List.mem_of_getElem? (i := 239) rfl)) rfl
theorem w_5_237 : (Cond.fieldLink RX12 183 "SameKeeperModel" "qWait" "[I") ∈ wsL_law := sk_mem (ck_5 _ (List.mem_of_getElem? (i := 237) rfl)) rfl
theorem w_5_238 : (Cond.fieldLink RX12 260 "SameKeeperModel" "qWaits" "I") ∈ wsL_law := sk_mem (ck_5 _ (List.mem_of_getElem? (i := 238) rfl)) rfl
theorem w_7_50 : (Cond.code yX12_qOpens cX12_qOpens 3 none) ∈ wsL_law := sk_mem (ck_7 _ (List.mem_of_getElem? (i := 50) rfl)) rfl
theorem dg_X12_qIsOn_0_0 : bqL cX12_qIsOn 0 [(0, [42]), (1, [180, 1, 4]), (4, [158, 0, 22]), (26, [3]), (27, [172]), (7, [42]), (8, [180, 0, 183]), (11, [42]), (12, [180, 1, 4]), (15, [4]), (16, [100]), (17, [46]), (18, [27]), (19, [160, 0, 7]), (22, [4]), (23, [167, 0, 4])] = true := by decide +kernel
theorem dX12_qIsOn_0 : decode cX12_qIsOn 0 = .ok (.aload_n 0, 1) := q_aload_n0 (bat_get dg_X12_qIsOn_0_0 0 rfl rfl)
theorem dX12_qIsOn_1 : decode cX12_qIsOn 1 = .ok (.getfield 260, 3) := q_getfield (bat_get dg_X12_qIsOn_0_0 1 rfl rfl) rfl
theorem dX12_qIsOn_4 : decode cX12_qIsOn 4 = .ok (.ifCond .le 22, 3) := q_ifCond_le (bat_get dg_X12_qIsOn_0_0 2 rfl rfl) rfl
theorem dX12_qIsOn_26 : decode cX12_qIsOn 26 = .ok (.iconst 0, 1) := q_iconst0 (bat_get dg_X12_qIsOn_0_0 3 rfl rfl)
theorem dX12_qIsOn_27 : decode cX12_qIsOn 27 = .ok (.ireturn, 1) := q_ireturn (bat_get dg_X12_qIsOn_0_0 4 rfl rfl)
theorem dX12_qIsOn_7 : decode cX12_qIsOn 7 = .ok (.aload_n 0, 1) := q_aload_n0 (bat_get dg_X12_qIsOn_0_0 5 rfl rfl)
theorem dX12_qIsOn_8 : decode cX12_qIsOn 8 = .ok (.getfield 183, 3) := q_getfield (bat_get dg_X12_qIsOn_0_0 6 rfl rfl) rfl
theorem dX12_qIsOn_11 : decode cX12_qIsOn 11 = .ok (.aload_n 0, 1) := q_aload_n0 (bat_get dg_X12_qIsOn_0_0 7 rfl rfl)
theorem dX12_qIsOn_12 : decode cX12_qIsOn 12 = .ok (.getfield 260, 3) := q_getfield (bat_get dg_X12_qIsOn_0_0 8 rfl rfl) rfl
theorem dX12_qIsOn_15 : decode cX12_qIsOn 15 = .ok (.iconst 1, 1) := q_iconst1 (bat_get dg_X12_qIsOn_0_0 9 rfl rfl)
theorem dX12_qIsOn_16 : decode cX12_qIsOn 16 = .ok (.isub, 1) := q_isub (bat_get dg_X12_qIsOn_0_0 10 rfl rfl)
theorem dX12_qIsOn_17 : decode cX12_qIsOn 17 = .ok (.iaload, 1) := q_iaload (bat_get dg_X12_qIsOn_0_0 11 rfl rfl)
theorem dX12_qIsOn_18 : decode cX12_qIsOn 18 = .ok (.iload_n 1, 1) := q_iload_n1 (bat_get dg_X12_qIsOn_0_0 12 rfl rfl)
theorem dX12_qIsOn_19 : decode cX12_qIsOn 19 = .ok (.if_icmp .ne 7, 3) := q_if_icmp_ne (bat_get dg_X12_qIsOn_0_0 13 rfl rfl) rfl
theorem dX12_qIsOn_22 : decode cX12_qIsOn 22 = .ok (.iconst 1, 1) := q_iconst1 (bat_get dg_X12_qIsOn_0_0 14 rfl rfl)
theorem dX12_qIsOn_23 : decode cX12_qIsOn 23 = .ok (.goto 4, 3) := q_goto (bat_get dg_X12_qIsOn_0_0 15 rfl rfl) rfl
theorem w_7_85 : (Cond.code yX12_qIsOn cX12_qIsOn 2 (some .boolean)) ∈ wsL_law := sk_mem (ck_7 _ (List.mem_of_getElem? (i := 85) rfl)) rfl
theorem dg_X12_qDrops_0_0 : bqL cX12_qDrops 0 [(0, [42]), (1, [89]), (2, [180, 1, 4]), (5, [4]), (6, [100]), (7, [181, 1, 4]), (10, [42]), (11, [42]), (12, [180, 0, 183]), (15, [42]), (16, [180, 1, 4]), (19, [46]), (20, [182, 1, 242]), (23, [177])] = true := by decide +kernel
theorem dX12_qDrops_0 : decode cX12_qDrops 0 = .ok (.aload_n 0, 1) := q_aload_n0 (bat_get dg_X12_qDrops_0_0 0 rfl rfl)
theorem dX12_qDrops_1 : decode cX12_qDrops 1 = .ok (.dup, 1) := q_dup (bat_get dg_X12_qDrops_0_0 1 rfl rfl)
theorem dX12_qDrops_2 : decode cX12_qDrops 2 = .ok (.getfield 260, 3) := q_getfield (bat_get dg_X12_qDrops_0_0 2 rfl rfl) rfl
theorem dX12_qDrops_5 : decode cX12_qDrops 5 = .ok (.iconst 1, 1) := q_iconst1 (bat_get dg_X12_qDrops_0_0 3 rfl rfl)
theorem dX12_qDrops_6 : decode cX12_qDrops 6 = .ok (.isub, 1) := q_isub (bat_get dg_X12_qDrops_0_0 4 rfl rfl)
theorem dX12_qDrops_7 : decode cX12_qDrops 7 = .ok (.putfield 260, 3) := q_putfield (bat_get dg_X12_qDrops_0_0 5 rfl rfl) rfl
theorem dX12_qDrops_10 : decode cX12_qDrops 10 = .ok (.aload_n 0, 1) := q_aload_n0 (bat_get dg_X12_qDrops_0_0 6 rfl rfl)
theorem dX12_qDrops_11 : decode cX12_qDrops 11 = .ok (.aload_n 0, 1) := q_aload_n0 (bat_get dg_X12_qDrops_0_0 7 rfl rfl)
theorem dX12_qDrops_12 : decode cX12_qDrops 12 = .ok (.getfield 183, 3) := q_getfield (bat_get dg_X12_qDrops_0_0 8 rfl rfl) rfl
theorem dX12_qDrops_15 : decode cX12_qDrops 15 = .ok (.aload_n 0, 1) := q_aload_n0 (bat_get dg_X12_qDrops_0_0 9 rfl rfl)
theorem dX12_qDrops_16 : decode cX12_qDrops 16 = .ok (.getfield 260, 3) := q_getfield (bat_get dg_X12_qDrops_0_0 10 rfl rfl) rfl
theorem dX12_qDrops_19 : decode cX12_qDrops 19 = .ok (.iaload, 1) := q_iaload (bat_get dg_X12_qDrops_0_0 11 rfl rfl)
theorem dX12_qDrops_20 : decode cX12_qDrops 20 = .ok (.invokevirtual 498, 3) := q_invokevirtual (bat_get dg_X12_qDrops_0_0 12 rfl rfl) rfl
theorem dX12_qDrops_23 : decode cX12_qDrops 23 = .ok (.return_, 1) := q_return_ (bat_get dg_X12_qDrops_0_0 13 rfl rfl)
theorem w_7_55 : (Cond.methodLink RX12 498 yX12_qCode) ∈ wsL_law := sk_mem (ck_7 _ (List.mem_of_getElem? (i := 55) rfl)) rfl
theorem w_7_57 : (Cond.instanceMethod yX12_qCode) ∈ wsL_law := sk_mem (ck_7 _ (List.mem_of_getElem? (i := 57) rfl)) rfl
theorem w_0_61 : (Cond.selects RX12 yX12_qCode yX12_qCode) ∈ wsL_law := sk_mem (ck_0 _ (List.mem_of_getElem? (i := 61) rfl)) rfl
theorem w_7_66 : (Cond.code yX12_qDrops cX12_qDrops 1 none) ∈ wsL_law := sk_mem (ck_7 _ (List.mem_of_getElem? (i := 66) rfl)) rfl
theorem hd_X12_qCode_1 : skD yX12_qCode 1 := by decide +kernel
theorem dg_X12_qIsBracket_0_0 : bqL cX12_qIsBracket 0 [(0, [26]), (1, [16, 20]), (3, [161, 0, 13]), (16, [3]), (17, [172]), (6, [26]), (7, [16, 24]), (9, [163, 0, 7]), (12, [4]), (13, [167, 0, 4])] = true := by decide +kernel
theorem dX12_qIsBracket_0 : decode cX12_qIsBracket 0 = .ok (.iload_n 0, 1) := q_iload_n0 (bat_get dg_X12_qIsBracket_0_0 0 rfl rfl)
theorem dX12_qIsBracket_1 : decode cX12_qIsBracket 1 = .ok (.bipush 20, 2) := q_bipush (bat_get dg_X12_qIsBracket_0_0 1 rfl rfl) rfl
theorem dX12_qIsBracket_3 : decode cX12_qIsBracket 3 = .ok (.if_icmp .lt 13, 3) := q_if_icmp_lt (bat_get dg_X12_qIsBracket_0_0 2 rfl rfl) rfl
theorem dX12_qIsBracket_16 : decode cX12_qIsBracket 16 = .ok (.iconst 0, 1) := q_iconst0 (bat_get dg_X12_qIsBracket_0_0 3 rfl rfl)
theorem dX12_qIsBracket_17 : decode cX12_qIsBracket 17 = .ok (.ireturn, 1) := q_ireturn (bat_get dg_X12_qIsBracket_0_0 4 rfl rfl)
theorem dX12_qIsBracket_6 : decode cX12_qIsBracket 6 = .ok (.iload_n 0, 1) := q_iload_n0 (bat_get dg_X12_qIsBracket_0_0 5 rfl rfl)
theorem dX12_qIsBracket_7 : decode cX12_qIsBracket 7 = .ok (.bipush 24, 2) := q_bipush (bat_get dg_X12_qIsBracket_0_0 6 rfl rfl) rfl
theorem dX12_qIsBracket_9 : decode cX12_qIsBracket 9 = .ok (.if_icmp .gt 7, 3) := q_if_icmp_gt (bat_get dg_X12_qIsBracket_0_0 7 rfl rfl) rfl
theorem dX12_qIsBracket_12 : decode cX12_qIsBracket 12 = .ok (.iconst 1, 1) := q_iconst1 (bat_get dg_X12_qIsBracket_0_0 8 rfl rfl)
theorem dX12_qIsBracket_13 : decode cX12_qIsBracket 13 = .ok (.goto 4, 3) := q_goto (bat_get dg_X12_qIsBracket_0_0 9 rfl rfl) rfl
theorem w_7_77 : (Cond.code yX12_qIsBracket cX12_qIsBracket 1 (some .boolean)) ∈ wsL_law := sk_mem (ck_7 _ (List.mem_of_getElem? (i := 77) rfl)) rfl
theorem dg_X12_qBracket_0_0 : bqL cX12_qBracket 0 [(0, [42]), (1, [180, 1, 4]), (4, [4]), (5, [100]), (6, [60]), (7, [27]), (8, [42]), (9, [180, 1, 10]), (12, [161, 0, 21]), (33, [27]), (34, [42]), (35, [180, 1, 10]), (38, [161, 0, 12]), (50, [2]), (51, [172]), (15, [42]), (16, [180, 0, 183]), (19, [27]), (20, [46]), (21, [184, 1, 245]), (24, [154, 0, 9]), (41, [42]), (42, [180, 0, 183]), (45, [27]), (46, [46]), (47, [167, 0, 4]), (27, [132, 1, 255]), (30, [167, 255, 233])] = true := by decide +kernel
theorem dX12_qBracket_0 : decode cX12_qBracket 0 = .ok (.aload_n 0, 1) := q_aload_n0 (bat_get dg_X12_qBracket_0_0 0 rfl rfl)
theorem dX12_qBracket_1 : decode cX12_qBracket 1 = .ok (.getfield 260, 3) := q_getfield (bat_get dg_X12_qBracket_0_0 1 rfl rfl) rfl
theorem dX12_qBracket_4 : decode cX12_qBracket 4 = .ok (.iconst 1, 1) := q_iconst1 (bat_get dg_X12_qBracket_0_0 2 rfl rfl)
theorem dX12_qBracket_5 : decode cX12_qBracket 5 = .ok (.isub, 1) := q_isub (bat_get dg_X12_qBracket_0_0 3 rfl rfl)
theorem dX12_qBracket_6 : decode cX12_qBracket 6 = .ok (.istore_n 1, 1) := q_istore_n1 (bat_get dg_X12_qBracket_0_0 4 rfl rfl)
theorem dX12_qBracket_7 : decode cX12_qBracket 7 = .ok (.iload_n 1, 1) := q_iload_n1 (bat_get dg_X12_qBracket_0_0 5 rfl rfl)
theorem dX12_qBracket_8 : decode cX12_qBracket 8 = .ok (.aload_n 0, 1) := q_aload_n0 (bat_get dg_X12_qBracket_0_0 6 rfl rfl)
theorem dX12_qBracket_9 : decode cX12_qBracket 9 = .ok (.getfield 266, 3) := q_getfield (bat_get dg_X12_qBracket_0_0 7 rfl rfl) rfl
theorem dX12_qBracket_12 : decode cX12_qBracket 12 = .ok (.if_icmp .lt 21, 3) := q_if_icmp_lt (bat_get dg_X12_qBracket_0_0 8 rfl rfl) rfl
theorem dX12_qBracket_33 : decode cX12_qBracket 33 = .ok (.iload_n 1, 1) := q_iload_n1 (bat_get dg_X12_qBracket_0_0 9 rfl rfl)
theorem dX12_qBracket_34 : decode cX12_qBracket 34 = .ok (.aload_n 0, 1) := q_aload_n0 (bat_get dg_X12_qBracket_0_0 10 rfl rfl)
theorem dX12_qBracket_35 : decode cX12_qBracket 35 = .ok (.getfield 266, 3) := q_getfield (bat_get dg_X12_qBracket_0_0 11 rfl rfl) rfl
theorem dX12_qBracket_38 : decode cX12_qBracket 38 = .ok (.if_icmp .lt 12, 3) := q_if_icmp_lt (bat_get dg_X12_qBracket_0_0 12 rfl rfl) rfl
theorem dX12_qBracket_50 : decode cX12_qBracket 50 = .ok (.iconst (-1), 1) := q_iconstm1 (bat_get dg_X12_qBracket_0_0 13 rfl rfl)
theorem dX12_qBracket_51 : decode cX12_qBracket 51 = .ok (.ireturn, 1) := q_ireturn (bat_get dg_X12_qBracket_0_0 14 rfl rfl)
theorem dX12_qBracket_15 : decode cX12_qBracket 15 = .ok (.aload_n 0, 1) := q_aload_n0 (bat_get dg_X12_qBracket_0_0 15 rfl rfl)
theorem dX12_qBracket_16 : decode cX12_qBracket 16 = .ok (.getfield 183, 3) := q_getfield (bat_get dg_X12_qBracket_0_0 16 rfl rfl) rfl
theorem dX12_qBracket_19 : decode cX12_qBracket 19 = .ok (.iload_n 1, 1) := q_iload_n1 (bat_get dg_X12_qBracket_0_0 17 rfl rfl)
theorem dX12_qBracket_20 : decode cX12_qBracket 20 = .ok (.iaload, 1) := q_iaload (bat_get dg_X12_qBracket_0_0 18 rfl rfl)
theorem dX12_qBracket_21 : decode cX12_qBracket 21 = .ok (.invokestatic 501, 3) := q_invokestatic (bat_get dg_X12_qBracket_0_0 19 rfl rfl) rfl
theorem dX12_qBracket_24 : decode cX12_qBracket 24 = .ok (.ifCond .ne 9, 3) := q_ifCond_ne (bat_get dg_X12_qBracket_0_0 20 rfl rfl) rfl
theorem dX12_qBracket_41 : decode cX12_qBracket 41 = .ok (.aload_n 0, 1) := q_aload_n0 (bat_get dg_X12_qBracket_0_0 21 rfl rfl)
theorem dX12_qBracket_42 : decode cX12_qBracket 42 = .ok (.getfield 183, 3) := q_getfield (bat_get dg_X12_qBracket_0_0 22 rfl rfl) rfl
theorem dX12_qBracket_45 : decode cX12_qBracket 45 = .ok (.iload_n 1, 1) := q_iload_n1 (bat_get dg_X12_qBracket_0_0 23 rfl rfl)
theorem dX12_qBracket_46 : decode cX12_qBracket 46 = .ok (.iaload, 1) := q_iaload (bat_get dg_X12_qBracket_0_0 24 rfl rfl)
theorem dX12_qBracket_47 : decode cX12_qBracket 47 = .ok (.goto 4, 3) := q_goto (bat_get dg_X12_qBracket_0_0 25 rfl rfl) rfl
theorem dX12_qBracket_27 : decode cX12_qBracket 27 = .ok (.iinc 1 (-1), 3) := q_iinc (bat_get dg_X12_qBracket_0_0 26 rfl rfl) rfl
theorem dX12_qBracket_30 : decode cX12_qBracket 30 = .ok (.goto (-23), 3) := q_goto (bat_get dg_X12_qBracket_0_0 27 rfl rfl) rfl
theorem w_6_0 : (Cond.fieldLink RX12 266 "SameKeeperModel" "qBase" "I") ∈ wsL_law := sk_mem (ck_6 _ (List.mem_of_getElem? (i := 0) rfl)) rfl
theorem w_7_75 : (Cond.methodLink RX12 501 yX12_qIsBracket) ∈ wsL_law := sk_mem (ck_7 _ (List.mem_of_getElem? (i := 75) rfl)) rfl
theorem w_7_76 : (Cond.static yX12_qIsBracket) ∈ wsL_law := sk_mem (ck_7 _ (List.mem_of_getElem? (i := 76) rfl)) rfl
theorem w_7_74 : (Cond.code yX12_qBracket cX12_qBracket 2 (some .int)) ∈ wsL_law := sk_mem (ck_7 _ (List.mem_of_getElem? (i := 74) rfl)) rfl
theorem hd_X12_qIsBracket_1 : skD yX12_qIsBracket 1 := by decide +kernel
theorem dg_X12_qDropsToBracket_0_0 : bqL cX12_qDropsToBracket 0 [(0, [42]), (1, [180, 1, 4]), (4, [42]), (5, [180, 1, 10]), (8, [164, 0, 27]), (35, [177]), (11, [42]), (12, [180, 0, 183]), (15, [42]), (16, [180, 1, 4]), (19, [4]), (20, [100]), (21, [46]), (22, [184, 1, 245]), (25, [154, 0, 10]), (28, [42]), (29, [182, 1, 248]), (32, [167, 255, 224])] = true := by decide +kernel
theorem dX12_qDropsToBracket_0 : decode cX12_qDropsToBracket 0 = .ok (.aload_n 0, 1) := q_aload_n0 (bat_get dg_X12_qDropsToBracket_0_0 0 rfl rfl)
theorem dX12_qDropsToBracket_1 : decode cX12_qDropsToBracket 1 = .ok (.getfield 260, 3) := q_getfield (bat_get dg_X12_qDropsToBracket_0_0 1 rfl rfl) rfl
theorem dX12_qDropsToBracket_4 : decode cX12_qDropsToBracket 4 = .ok (.aload_n 0, 1) := q_aload_n0 (bat_get dg_X12_qDropsToBracket_0_0 2 rfl rfl)
theorem dX12_qDropsToBracket_5 : decode cX12_qDropsToBracket 5 = .ok (.getfield 266, 3) := q_getfield (bat_get dg_X12_qDropsToBracket_0_0 3 rfl rfl) rfl
theorem dX12_qDropsToBracket_8 : decode cX12_qDropsToBracket 8 = .ok (.if_icmp .le 27, 3) := q_if_icmp_le (bat_get dg_X12_qDropsToBracket_0_0 4 rfl rfl) rfl
theorem dX12_qDropsToBracket_35 : decode cX12_qDropsToBracket 35 = .ok (.return_, 1) := q_return_ (bat_get dg_X12_qDropsToBracket_0_0 5 rfl rfl)
theorem dX12_qDropsToBracket_11 : decode cX12_qDropsToBracket 11 = .ok (.aload_n 0, 1) := q_aload_n0 (bat_get dg_X12_qDropsToBracket_0_0 6 rfl rfl)
theorem dX12_qDropsToBracket_12 : decode cX12_qDropsToBracket 12 = .ok (.getfield 183, 3) := q_getfield (bat_get dg_X12_qDropsToBracket_0_0 7 rfl rfl) rfl
theorem dX12_qDropsToBracket_15 : decode cX12_qDropsToBracket 15 = .ok (.aload_n 0, 1) := q_aload_n0 (bat_get dg_X12_qDropsToBracket_0_0 8 rfl rfl)
theorem dX12_qDropsToBracket_16 : decode cX12_qDropsToBracket 16 = .ok (.getfield 260, 3) := q_getfield (bat_get dg_X12_qDropsToBracket_0_0 9 rfl rfl) rfl
theorem dX12_qDropsToBracket_19 : decode cX12_qDropsToBracket 19 = .ok (.iconst 1, 1) := q_iconst1 (bat_get dg_X12_qDropsToBracket_0_0 10 rfl rfl)
theorem dX12_qDropsToBracket_20 : decode cX12_qDropsToBracket 20 = .ok (.isub, 1) := q_isub (bat_get dg_X12_qDropsToBracket_0_0 11 rfl rfl)
theorem dX12_qDropsToBracket_21 : decode cX12_qDropsToBracket 21 = .ok (.iaload, 1) := q_iaload (bat_get dg_X12_qDropsToBracket_0_0 12 rfl rfl)
theorem dX12_qDropsToBracket_22 : decode cX12_qDropsToBracket 22 = .ok (.invokestatic 501, 3) := q_invokestatic (bat_get dg_X12_qDropsToBracket_0_0 13 rfl rfl) rfl
theorem dX12_qDropsToBracket_25 : decode cX12_qDropsToBracket 25 = .ok (.ifCond .ne 10, 3) := q_ifCond_ne (bat_get dg_X12_qDropsToBracket_0_0 14 rfl rfl) rfl
theorem dX12_qDropsToBracket_28 : decode cX12_qDropsToBracket 28 = .ok (.aload_n 0, 1) := q_aload_n0 (bat_get dg_X12_qDropsToBracket_0_0 15 rfl rfl)
theorem dX12_qDropsToBracket_29 : decode cX12_qDropsToBracket 29 = .ok (.invokevirtual 504, 3) := q_invokevirtual (bat_get dg_X12_qDropsToBracket_0_0 16 rfl rfl) rfl
theorem dX12_qDropsToBracket_32 : decode cX12_qDropsToBracket 32 = .ok (.goto (-32), 3) := q_goto (bat_get dg_X12_qDropsToBracket_0_0 17 rfl rfl) rfl
theorem w_7_63 : (Cond.methodLink RX12 504 yX12_qDrops) ∈ wsL_law := sk_mem (ck_7 _ (List.mem_of_getElem? (i := 63) rfl)) rfl
theorem w_7_65 : (Cond.instanceMethod yX12_qDrops) ∈ wsL_law := sk_mem (ck_7 _ (List.mem_of_getElem? (i := 65) rfl)) rfl
theorem w_0_63 : (Cond.selects RX12 yX12_qDrops yX12_qDrops) ∈ wsL_law := sk_mem (ck_0 _ (List.mem_of_getElem? (i := 63) rfl)) rfl
theorem w_7_81 : (Cond.code yX12_qDropsToBracket cX12_qDropsToBracket 1 none) ∈ wsL_law := sk_mem (ck_7 _ (List.mem_of_getElem? (i := 81) rfl)) rfl
theorem hd_X12_qDrops_0 : skD yX12_qDrops 0 := by decide +kernel
theorem dg_X12_qEndsPart_0_0 : bqL cX12_qEndsPart 0 [(0, [42]), (1, [180, 0, 195]), (4, [154, 0, 47]), (51, [177]), (7, [42]), (8, [180, 1, 4]), (11, [42]), (12, [180, 1, 10]), (15, [164, 0, 36]), (18, [42]), (19, [180, 0, 183]), (22, [42]), (23, [180, 1, 4]), (26, [4]), (27, [100]), (28, [46]), (29, [16, 60]), (31, [161, 0, 20]), (34, [42]), (35, [89]), (36, [180, 1, 7]), (39, [4]), (40, [100]), (41, [181, 1, 7]), (44, [42]), (45, [182, 1, 248]), (48, [167, 255, 208])] = true := by decide +kernel
theorem dX12_qEndsPart_0 : decode cX12_qEndsPart 0 = .ok (.aload_n 0, 1) := q_aload_n0 (bat_get dg_X12_qEndsPart_0_0 0 rfl rfl)
theorem dX12_qEndsPart_1 : decode cX12_qEndsPart 1 = .ok (.getfield 195, 3) := q_getfield (bat_get dg_X12_qEndsPart_0_0 1 rfl rfl) rfl
theorem dX12_qEndsPart_4 : decode cX12_qEndsPart 4 = .ok (.ifCond .ne 47, 3) := q_ifCond_ne (bat_get dg_X12_qEndsPart_0_0 2 rfl rfl) rfl
theorem dX12_qEndsPart_51 : decode cX12_qEndsPart 51 = .ok (.return_, 1) := q_return_ (bat_get dg_X12_qEndsPart_0_0 3 rfl rfl)
theorem dX12_qEndsPart_7 : decode cX12_qEndsPart 7 = .ok (.aload_n 0, 1) := q_aload_n0 (bat_get dg_X12_qEndsPart_0_0 4 rfl rfl)
theorem dX12_qEndsPart_8 : decode cX12_qEndsPart 8 = .ok (.getfield 260, 3) := q_getfield (bat_get dg_X12_qEndsPart_0_0 5 rfl rfl) rfl
theorem dX12_qEndsPart_11 : decode cX12_qEndsPart 11 = .ok (.aload_n 0, 1) := q_aload_n0 (bat_get dg_X12_qEndsPart_0_0 6 rfl rfl)
theorem dX12_qEndsPart_12 : decode cX12_qEndsPart 12 = .ok (.getfield 266, 3) := q_getfield (bat_get dg_X12_qEndsPart_0_0 7 rfl rfl) rfl
theorem dX12_qEndsPart_15 : decode cX12_qEndsPart 15 = .ok (.if_icmp .le 36, 3) := q_if_icmp_le (bat_get dg_X12_qEndsPart_0_0 8 rfl rfl) rfl
theorem dX12_qEndsPart_18 : decode cX12_qEndsPart 18 = .ok (.aload_n 0, 1) := q_aload_n0 (bat_get dg_X12_qEndsPart_0_0 9 rfl rfl)
theorem dX12_qEndsPart_19 : decode cX12_qEndsPart 19 = .ok (.getfield 183, 3) := q_getfield (bat_get dg_X12_qEndsPart_0_0 10 rfl rfl) rfl
theorem dX12_qEndsPart_22 : decode cX12_qEndsPart 22 = .ok (.aload_n 0, 1) := q_aload_n0 (bat_get dg_X12_qEndsPart_0_0 11 rfl rfl)
theorem dX12_qEndsPart_23 : decode cX12_qEndsPart 23 = .ok (.getfield 260, 3) := q_getfield (bat_get dg_X12_qEndsPart_0_0 12 rfl rfl) rfl
theorem dX12_qEndsPart_26 : decode cX12_qEndsPart 26 = .ok (.iconst 1, 1) := q_iconst1 (bat_get dg_X12_qEndsPart_0_0 13 rfl rfl)
theorem dX12_qEndsPart_27 : decode cX12_qEndsPart 27 = .ok (.isub, 1) := q_isub (bat_get dg_X12_qEndsPart_0_0 14 rfl rfl)
theorem dX12_qEndsPart_28 : decode cX12_qEndsPart 28 = .ok (.iaload, 1) := q_iaload (bat_get dg_X12_qEndsPart_0_0 15 rfl rfl)
theorem dX12_qEndsPart_29 : decode cX12_qEndsPart 29 = .ok (.bipush 60, 2) := q_bipush (bat_get dg_X12_qEndsPart_0_0 16 rfl rfl) rfl
theorem dX12_qEndsPart_31 : decode cX12_qEndsPart 31 = .ok (.if_icmp .lt 20, 3) := q_if_icmp_lt (bat_get dg_X12_qEndsPart_0_0 17 rfl rfl) rfl
theorem dX12_qEndsPart_34 : decode cX12_qEndsPart 34 = .ok (.aload_n 0, 1) := q_aload_n0 (bat_get dg_X12_qEndsPart_0_0 18 rfl rfl)
theorem dX12_qEndsPart_35 : decode cX12_qEndsPart 35 = .ok (.dup, 1) := q_dup (bat_get dg_X12_qEndsPart_0_0 19 rfl rfl)
theorem dX12_qEndsPart_36 : decode cX12_qEndsPart 36 = .ok (.getfield 263, 3) := q_getfield (bat_get dg_X12_qEndsPart_0_0 20 rfl rfl) rfl
theorem dX12_qEndsPart_39 : decode cX12_qEndsPart 39 = .ok (.iconst 1, 1) := q_iconst1 (bat_get dg_X12_qEndsPart_0_0 21 rfl rfl)
theorem dX12_qEndsPart_40 : decode cX12_qEndsPart 40 = .ok (.isub, 1) := q_isub (bat_get dg_X12_qEndsPart_0_0 22 rfl rfl)
theorem dX12_qEndsPart_41 : decode cX12_qEndsPart 41 = .ok (.putfield 263, 3) := q_putfield (bat_get dg_X12_qEndsPart_0_0 23 rfl rfl) rfl
theorem dX12_qEndsPart_44 : decode cX12_qEndsPart 44 = .ok (.aload_n 0, 1) := q_aload_n0 (bat_get dg_X12_qEndsPart_0_0 24 rfl rfl)
theorem dX12_qEndsPart_45 : decode cX12_qEndsPart 45 = .ok (.invokevirtual 504, 3) := q_invokevirtual (bat_get dg_X12_qEndsPart_0_0 25 rfl rfl) rfl
theorem dX12_qEndsPart_48 : decode cX12_qEndsPart 48 = .ok (.goto (-48), 3) := q_goto (bat_get dg_X12_qEndsPart_0_0 26 rfl rfl) rfl
theorem w_7_62 : (Cond.code yX12_qEndsPart cX12_qEndsPart 1 none) ∈ wsL_law := sk_mem (ck_7 _ (List.mem_of_getElem? (i := 62) rfl)) rfl
theorem dg_X12_qPartTold_0_0 : bqL cX12_qPartTold 0 [(0, [4]), (1, [60]), (2, [27]), (3, [153, 0, 183]), (186, [42]), (187, [180, 0, 195]), (190, [153, 0, 4]), (194, [42]), (195, [3]), (196, [16, 10]), (198, [182, 2, 1]), (201, [61]), (202, [28]), (203, [2]), (204, [159, 0, 8]), (212, [42]), (213, [28]), (214, [2]), (215, [159, 0, 10]), (225, [17, 3, 232]), (228, [42]), (229, [3]), (230, [17, 39, 15]), (233, [182, 0, 249]), (236, [96]), (237, [182, 1, 242]), (240, [42]), (241, [182, 2, 10]), (244, [177]), (207, [42]), (208, [28]), (209, [182, 2, 7]), (218, [16, 40]), (220, [28]), (221, [96]), (222, [167, 0, 15]), (193, [177]), (6, [42]), (7, [180, 0, 195]), (10, [154, 0, 176])] = true := by decide +kernel
theorem dX12_qPartTold_0 : decode cX12_qPartTold 0 = .ok (.iconst 1, 1) := q_iconst1 (bat_get dg_X12_qPartTold_0_0 0 rfl rfl)
theorem dX12_qPartTold_1 : decode cX12_qPartTold 1 = .ok (.istore_n 1, 1) := q_istore_n1 (bat_get dg_X12_qPartTold_0_0 1 rfl rfl)
theorem dX12_qPartTold_2 : decode cX12_qPartTold 2 = .ok (.iload_n 1, 1) := q_iload_n1 (bat_get dg_X12_qPartTold_0_0 2 rfl rfl)
theorem dX12_qPartTold_3 : decode cX12_qPartTold 3 = .ok (.ifCond .eq 183, 3) := q_ifCond_eq (bat_get dg_X12_qPartTold_0_0 3 rfl rfl) rfl
theorem dX12_qPartTold_186 : decode cX12_qPartTold 186 = .ok (.aload_n 0, 1) := q_aload_n0 (bat_get dg_X12_qPartTold_0_0 4 rfl rfl)
theorem dX12_qPartTold_187 : decode cX12_qPartTold 187 = .ok (.getfield 195, 3) := q_getfield (bat_get dg_X12_qPartTold_0_0 5 rfl rfl) rfl
theorem dX12_qPartTold_190 : decode cX12_qPartTold 190 = .ok (.ifCond .eq 4, 3) := q_ifCond_eq (bat_get dg_X12_qPartTold_0_0 6 rfl rfl) rfl
theorem dX12_qPartTold_194 : decode cX12_qPartTold 194 = .ok (.aload_n 0, 1) := q_aload_n0 (bat_get dg_X12_qPartTold_0_0 7 rfl rfl)
theorem dX12_qPartTold_195 : decode cX12_qPartTold 195 = .ok (.iconst 0, 1) := q_iconst0 (bat_get dg_X12_qPartTold_0_0 8 rfl rfl)
theorem dX12_qPartTold_196 : decode cX12_qPartTold 196 = .ok (.bipush 10, 2) := q_bipush (bat_get dg_X12_qPartTold_0_0 9 rfl rfl) rfl
theorem dX12_qPartTold_198 : decode cX12_qPartTold 198 = .ok (.invokevirtual 513, 3) := q_invokevirtual (bat_get dg_X12_qPartTold_0_0 10 rfl rfl) rfl
theorem dX12_qPartTold_201 : decode cX12_qPartTold 201 = .ok (.istore_n 2, 1) := q_istore_n2 (bat_get dg_X12_qPartTold_0_0 11 rfl rfl)
theorem dX12_qPartTold_202 : decode cX12_qPartTold 202 = .ok (.iload_n 2, 1) := q_iload_n2 (bat_get dg_X12_qPartTold_0_0 12 rfl rfl)
theorem dX12_qPartTold_203 : decode cX12_qPartTold 203 = .ok (.iconst (-1), 1) := q_iconstm1 (bat_get dg_X12_qPartTold_0_0 13 rfl rfl)
theorem dX12_qPartTold_204 : decode cX12_qPartTold 204 = .ok (.if_icmp .eq 8, 3) := q_if_icmp_eq (bat_get dg_X12_qPartTold_0_0 14 rfl rfl) rfl
theorem dX12_qPartTold_212 : decode cX12_qPartTold 212 = .ok (.aload_n 0, 1) := q_aload_n0 (bat_get dg_X12_qPartTold_0_0 15 rfl rfl)
theorem dX12_qPartTold_213 : decode cX12_qPartTold 213 = .ok (.iload_n 2, 1) := q_iload_n2 (bat_get dg_X12_qPartTold_0_0 16 rfl rfl)
theorem dX12_qPartTold_214 : decode cX12_qPartTold 214 = .ok (.iconst (-1), 1) := q_iconstm1 (bat_get dg_X12_qPartTold_0_0 17 rfl rfl)
theorem dX12_qPartTold_215 : decode cX12_qPartTold 215 = .ok (.if_icmp .eq 10, 3) := q_if_icmp_eq (bat_get dg_X12_qPartTold_0_0 18 rfl rfl) rfl
theorem dX12_qPartTold_225 : decode cX12_qPartTold 225 = .ok (.sipush 1000, 3) := q_sipush (bat_get dg_X12_qPartTold_0_0 19 rfl rfl) rfl
theorem dX12_qPartTold_228 : decode cX12_qPartTold 228 = .ok (.aload_n 0, 1) := q_aload_n0 (bat_get dg_X12_qPartTold_0_0 20 rfl rfl)
theorem dX12_qPartTold_229 : decode cX12_qPartTold 229 = .ok (.iconst 0, 1) := q_iconst0 (bat_get dg_X12_qPartTold_0_0 21 rfl rfl)
theorem dX12_qPartTold_230 : decode cX12_qPartTold 230 = .ok (.sipush 9999, 3) := q_sipush (bat_get dg_X12_qPartTold_0_0 22 rfl rfl) rfl
theorem dX12_qPartTold_233 : decode cX12_qPartTold 233 = .ok (.invokevirtual 249, 3) := q_invokevirtual (bat_get dg_X12_qPartTold_0_0 23 rfl rfl) rfl
theorem dX12_qPartTold_236 : decode cX12_qPartTold 236 = .ok (.iadd, 1) := q_iadd (bat_get dg_X12_qPartTold_0_0 24 rfl rfl)
theorem dX12_qPartTold_237 : decode cX12_qPartTold 237 = .ok (.invokevirtual 498, 3) := q_invokevirtual (bat_get dg_X12_qPartTold_0_0 25 rfl rfl) rfl
theorem dX12_qPartTold_240 : decode cX12_qPartTold 240 = .ok (.aload_n 0, 1) := q_aload_n0 (bat_get dg_X12_qPartTold_0_0 26 rfl rfl)
theorem dX12_qPartTold_241 : decode cX12_qPartTold 241 = .ok (.invokevirtual 522, 3) := q_invokevirtual (bat_get dg_X12_qPartTold_0_0 27 rfl rfl) rfl
theorem dX12_qPartTold_244 : decode cX12_qPartTold 244 = .ok (.return_, 1) := q_return_ (bat_get dg_X12_qPartTold_0_0 28 rfl rfl)
theorem dX12_qPartTold_207 : decode cX12_qPartTold 207 = .ok (.aload_n 0, 1) := q_aload_n0 (bat_get dg_X12_qPartTold_0_0 29 rfl rfl)
theorem dX12_qPartTold_208 : decode cX12_qPartTold 208 = .ok (.iload_n 2, 1) := q_iload_n2 (bat_get dg_X12_qPartTold_0_0 30 rfl rfl)
theorem dX12_qPartTold_209 : decode cX12_qPartTold 209 = .ok (.invokevirtual 519, 3) := q_invokevirtual (bat_get dg_X12_qPartTold_0_0 31 rfl rfl) rfl
theorem dX12_qPartTold_218 : decode cX12_qPartTold 218 = .ok (.bipush 40, 2) := q_bipush (bat_get dg_X12_qPartTold_0_0 32 rfl rfl) rfl
theorem dX12_qPartTold_220 : decode cX12_qPartTold 220 = .ok (.iload_n 2, 1) := q_iload_n2 (bat_get dg_X12_qPartTold_0_0 33 rfl rfl)
theorem dX12_qPartTold_221 : decode cX12_qPartTold 221 = .ok (.iadd, 1) := q_iadd (bat_get dg_X12_qPartTold_0_0 34 rfl rfl)
theorem dX12_qPartTold_222 : decode cX12_qPartTold 222 = .ok (.goto 15, 3) := q_goto (bat_get dg_X12_qPartTold_0_0 35 rfl rfl) rfl
theorem dX12_qPartTold_193 : decode cX12_qPartTold 193 = .ok (.return_, 1) := q_return_ (bat_get dg_X12_qPartTold_0_0 36 rfl rfl)
theorem dX12_qPartTold_6 : decode cX12_qPartTold 6 = .ok (.aload_n 0, 1) := q_aload_n0 (bat_get dg_X12_qPartTold_0_0 37 rfl rfl)
theorem dX12_qPartTold_7 : decode cX12_qPartTold 7 = .ok (.getfield 195, 3) := q_getfield (bat_get dg_X12_qPartTold_0_0 38 rfl rfl) rfl
theorem dX12_qPartTold_10 : decode cX12_qPartTold 10 = .ok (.ifCond .ne 176, 3) := q_ifCond_ne (bat_get dg_X12_qPartTold_0_0 39 rfl rfl) rfl
theorem dg_X12_qPartTold_13_13 : bqL cX12_qPartTold 13 [(0, [42]), (1, [182, 0, 207]), (4, [61]), (5, [42]), (6, [16, 10]), (8, [16, 11]), (10, [182, 2, 1]), (13, [62]), (14, [28]), (15, [16, 40]), (17, [160, 0, 26]), (43, [42]), (44, [42]), (45, [180, 0, 144]), (48, [182, 0, 218]), (51, [154, 0, 14]), (65, [42]), (66, [42]), (67, [180, 0, 144]), (70, [182, 0, 222]), (73, [54, 4]), (75, [21, 4]), (77, [154, 0, 11]), (88, [42]), (89, [182, 0, 207]), (92, [16, 40]), (94, [160, 0, 10]), (104, [2]), (105, [54, 5]), (107, [21, 5]), (109, [2]), (110, [159, 0, 21]), (131, [42]), (132, [16, 40]), (134, [182, 0, 253]), (137, [167, 0, 33]), (170, [167, 255, 75]), (97, [42]), (98, [180, 0, 201]), (101, [167, 0, 4])] = true := by decide +kernel
theorem dX12_qPartTold_13 : decode cX12_qPartTold 13 = .ok (.aload_n 0, 1) := q_aload_n0 (bat_get dg_X12_qPartTold_13_13 0 rfl rfl)
theorem dX12_qPartTold_14 : decode cX12_qPartTold 14 = .ok (.invokevirtual 207, 3) := q_invokevirtual (bat_get dg_X12_qPartTold_13_13 1 rfl rfl) rfl
theorem dX12_qPartTold_17 : decode cX12_qPartTold 17 = .ok (.istore_n 2, 1) := q_istore_n2 (bat_get dg_X12_qPartTold_13_13 2 rfl rfl)
theorem dX12_qPartTold_18 : decode cX12_qPartTold 18 = .ok (.aload_n 0, 1) := q_aload_n0 (bat_get dg_X12_qPartTold_13_13 3 rfl rfl)
theorem dX12_qPartTold_19 : decode cX12_qPartTold 19 = .ok (.bipush 10, 2) := q_bipush (bat_get dg_X12_qPartTold_13_13 4 rfl rfl) rfl
theorem dX12_qPartTold_21 : decode cX12_qPartTold 21 = .ok (.bipush 11, 2) := q_bipush (bat_get dg_X12_qPartTold_13_13 5 rfl rfl) rfl
theorem dX12_qPartTold_23 : decode cX12_qPartTold 23 = .ok (.invokevirtual 513, 3) := q_invokevirtual (bat_get dg_X12_qPartTold_13_13 6 rfl rfl) rfl
theorem dX12_qPartTold_26 : decode cX12_qPartTold 26 = .ok (.istore_n 3, 1) := q_istore_n3 (bat_get dg_X12_qPartTold_13_13 7 rfl rfl)
theorem dX12_qPartTold_27 : decode cX12_qPartTold 27 = .ok (.iload_n 2, 1) := q_iload_n2 (bat_get dg_X12_qPartTold_13_13 8 rfl rfl)
theorem dX12_qPartTold_28 : decode cX12_qPartTold 28 = .ok (.bipush 40, 2) := q_bipush (bat_get dg_X12_qPartTold_13_13 9 rfl rfl) rfl
theorem dX12_qPartTold_30 : decode cX12_qPartTold 30 = .ok (.if_icmp .ne 26, 3) := q_if_icmp_ne (bat_get dg_X12_qPartTold_13_13 10 rfl rfl) rfl
theorem dX12_qPartTold_56 : decode cX12_qPartTold 56 = .ok (.aload_n 0, 1) := q_aload_n0 (bat_get dg_X12_qPartTold_13_13 11 rfl rfl)
theorem dX12_qPartTold_57 : decode cX12_qPartTold 57 = .ok (.aload_n 0, 1) := q_aload_n0 (bat_get dg_X12_qPartTold_13_13 12 rfl rfl)
theorem dX12_qPartTold_58 : decode cX12_qPartTold 58 = .ok (.getfield 144, 3) := q_getfield (bat_get dg_X12_qPartTold_13_13 13 rfl rfl) rfl
theorem dX12_qPartTold_61 : decode cX12_qPartTold 61 = .ok (.invokevirtual 218, 3) := q_invokevirtual (bat_get dg_X12_qPartTold_13_13 14 rfl rfl) rfl
theorem dX12_qPartTold_64 : decode cX12_qPartTold 64 = .ok (.ifCond .ne 14, 3) := q_ifCond_ne (bat_get dg_X12_qPartTold_13_13 15 rfl rfl) rfl
theorem dX12_qPartTold_78 : decode cX12_qPartTold 78 = .ok (.aload_n 0, 1) := q_aload_n0 (bat_get dg_X12_qPartTold_13_13 16 rfl rfl)
theorem dX12_qPartTold_79 : decode cX12_qPartTold 79 = .ok (.aload_n 0, 1) := q_aload_n0 (bat_get dg_X12_qPartTold_13_13 17 rfl rfl)
theorem dX12_qPartTold_80 : decode cX12_qPartTold 80 = .ok (.getfield 144, 3) := q_getfield (bat_get dg_X12_qPartTold_13_13 18 rfl rfl) rfl
theorem dX12_qPartTold_83 : decode cX12_qPartTold 83 = .ok (.invokevirtual 222, 3) := q_invokevirtual (bat_get dg_X12_qPartTold_13_13 19 rfl rfl) rfl
theorem dX12_qPartTold_86 : decode cX12_qPartTold 86 = .ok (.istore 4, 2) := q_istore (bat_get dg_X12_qPartTold_13_13 20 rfl rfl)
theorem dX12_qPartTold_88 : decode cX12_qPartTold 88 = .ok (.iload 4, 2) := q_iload (bat_get dg_X12_qPartTold_13_13 21 rfl rfl)
theorem dX12_qPartTold_90 : decode cX12_qPartTold 90 = .ok (.ifCond .ne 11, 3) := q_ifCond_ne (bat_get dg_X12_qPartTold_13_13 22 rfl rfl) rfl
theorem dX12_qPartTold_101 : decode cX12_qPartTold 101 = .ok (.aload_n 0, 1) := q_aload_n0 (bat_get dg_X12_qPartTold_13_13 23 rfl rfl)
theorem dX12_qPartTold_102 : decode cX12_qPartTold 102 = .ok (.invokevirtual 207, 3) := q_invokevirtual (bat_get dg_X12_qPartTold_13_13 24 rfl rfl) rfl
theorem dX12_qPartTold_105 : decode cX12_qPartTold 105 = .ok (.bipush 40, 2) := q_bipush (bat_get dg_X12_qPartTold_13_13 25 rfl rfl) rfl
theorem dX12_qPartTold_107 : decode cX12_qPartTold 107 = .ok (.if_icmp .ne 10, 3) := q_if_icmp_ne (bat_get dg_X12_qPartTold_13_13 26 rfl rfl) rfl
theorem dX12_qPartTold_117 : decode cX12_qPartTold 117 = .ok (.iconst (-1), 1) := q_iconstm1 (bat_get dg_X12_qPartTold_13_13 27 rfl rfl)
theorem dX12_qPartTold_118 : decode cX12_qPartTold 118 = .ok (.istore 5, 2) := q_istore (bat_get dg_X12_qPartTold_13_13 28 rfl rfl)
theorem dX12_qPartTold_120 : decode cX12_qPartTold 120 = .ok (.iload 5, 2) := q_iload (bat_get dg_X12_qPartTold_13_13 29 rfl rfl)
theorem dX12_qPartTold_122 : decode cX12_qPartTold 122 = .ok (.iconst (-1), 1) := q_iconstm1 (bat_get dg_X12_qPartTold_13_13 30 rfl rfl)
theorem dX12_qPartTold_123 : decode cX12_qPartTold 123 = .ok (.if_icmp .eq 21, 3) := q_if_icmp_eq (bat_get dg_X12_qPartTold_13_13 31 rfl rfl) rfl
theorem dX12_qPartTold_144 : decode cX12_qPartTold 144 = .ok (.aload_n 0, 1) := q_aload_n0 (bat_get dg_X12_qPartTold_13_13 32 rfl rfl)
theorem dX12_qPartTold_145 : decode cX12_qPartTold 145 = .ok (.bipush 40, 2) := q_bipush (bat_get dg_X12_qPartTold_13_13 33 rfl rfl) rfl
theorem dX12_qPartTold_147 : decode cX12_qPartTold 147 = .ok (.invokevirtual 253, 3) := q_invokevirtual (bat_get dg_X12_qPartTold_13_13 34 rfl rfl) rfl
theorem dX12_qPartTold_150 : decode cX12_qPartTold 150 = .ok (.goto 33, 3) := q_goto (bat_get dg_X12_qPartTold_13_13 35 rfl rfl) rfl
theorem dX12_qPartTold_183 : decode cX12_qPartTold 183 = .ok (.goto (-181), 3) := q_goto (bat_get dg_X12_qPartTold_13_13 36 rfl rfl) rfl
theorem dX12_qPartTold_110 : decode cX12_qPartTold 110 = .ok (.aload_n 0, 1) := q_aload_n0 (bat_get dg_X12_qPartTold_13_13 37 rfl rfl)
theorem dX12_qPartTold_111 : decode cX12_qPartTold 111 = .ok (.getfield 201, 3) := q_getfield (bat_get dg_X12_qPartTold_13_13 38 rfl rfl) rfl
theorem dX12_qPartTold_114 : decode cX12_qPartTold 114 = .ok (.goto 4, 3) := q_goto (bat_get dg_X12_qPartTold_13_13 39 rfl rfl) rfl
theorem dg_X12_qPartTold_33_126 : bqL cX12_qPartTold 33 [(93, [42]), (94, [21, 4]), (96, [153, 0, 8]), (104, [16, 22]), (106, [21, 5]), (108, [182, 2, 4]), (99, [16, 21]), (101, [167, 0, 5]), (60, [42]), (61, [42]), (62, [180, 0, 147]), (65, [182, 0, 245]), (34, [42]), (35, [42]), (36, [180, 0, 147]), (39, [182, 0, 218]), (42, [153, 0, 78]), (120, [29]), (121, [2]), (122, [159, 0, 26]), (148, [3]), (149, [60]), (125, [42]), (126, [16, 60]), (128, [29]), (129, [96]), (130, [16, 10]), (132, [100]), (133, [42]), (134, [180, 0, 201]), (137, [182, 2, 4]), (140, [42]), (141, [29]), (142, [182, 2, 7]), (145, [167, 0, 5]), (0, [42]), (1, [16, 20]), (3, [42]), (4, [180, 0, 201]), (7, [182, 2, 4])] = true := by decide +kernel
theorem dX12_qPartTold_126 : decode cX12_qPartTold 126 = .ok (.aload_n 0, 1) := q_aload_n0 (bat_get dg_X12_qPartTold_33_126 0 rfl rfl)
theorem dX12_qPartTold_127 : decode cX12_qPartTold 127 = .ok (.iload 4, 2) := q_iload (bat_get dg_X12_qPartTold_33_126 1 rfl rfl)
theorem dX12_qPartTold_129 : decode cX12_qPartTold 129 = .ok (.ifCond .eq 8, 3) := q_ifCond_eq (bat_get dg_X12_qPartTold_33_126 2 rfl rfl) rfl
theorem dX12_qPartTold_137 : decode cX12_qPartTold 137 = .ok (.bipush 22, 2) := q_bipush (bat_get dg_X12_qPartTold_33_126 3 rfl rfl) rfl
theorem dX12_qPartTold_139 : decode cX12_qPartTold 139 = .ok (.iload 5, 2) := q_iload (bat_get dg_X12_qPartTold_33_126 4 rfl rfl)
theorem dX12_qPartTold_141 : decode cX12_qPartTold 141 = .ok (.invokevirtual 516, 3) := q_invokevirtual (bat_get dg_X12_qPartTold_33_126 5 rfl rfl) rfl
theorem dX12_qPartTold_132 : decode cX12_qPartTold 132 = .ok (.bipush 21, 2) := q_bipush (bat_get dg_X12_qPartTold_33_126 6 rfl rfl) rfl
theorem dX12_qPartTold_134 : decode cX12_qPartTold 134 = .ok (.goto 5, 3) := q_goto (bat_get dg_X12_qPartTold_33_126 7 rfl rfl) rfl
theorem dX12_qPartTold_93 : decode cX12_qPartTold 93 = .ok (.aload_n 0, 1) := q_aload_n0 (bat_get dg_X12_qPartTold_33_126 8 rfl rfl)
theorem dX12_qPartTold_94 : decode cX12_qPartTold 94 = .ok (.aload_n 0, 1) := q_aload_n0 (bat_get dg_X12_qPartTold_33_126 9 rfl rfl)
theorem dX12_qPartTold_95 : decode cX12_qPartTold 95 = .ok (.getfield 147, 3) := q_getfield (bat_get dg_X12_qPartTold_33_126 10 rfl rfl) rfl
theorem dX12_qPartTold_98 : decode cX12_qPartTold 98 = .ok (.invokevirtual 245, 3) := q_invokevirtual (bat_get dg_X12_qPartTold_33_126 11 rfl rfl) rfl
theorem dX12_qPartTold_67 : decode cX12_qPartTold 67 = .ok (.aload_n 0, 1) := q_aload_n0 (bat_get dg_X12_qPartTold_33_126 12 rfl rfl)
theorem dX12_qPartTold_68 : decode cX12_qPartTold 68 = .ok (.aload_n 0, 1) := q_aload_n0 (bat_get dg_X12_qPartTold_33_126 13 rfl rfl)
theorem dX12_qPartTold_69 : decode cX12_qPartTold 69 = .ok (.getfield 147, 3) := q_getfield (bat_get dg_X12_qPartTold_33_126 14 rfl rfl) rfl
theorem dX12_qPartTold_72 : decode cX12_qPartTold 72 = .ok (.invokevirtual 218, 3) := q_invokevirtual (bat_get dg_X12_qPartTold_33_126 15 rfl rfl) rfl
theorem dX12_qPartTold_75 : decode cX12_qPartTold 75 = .ok (.ifCond .eq 78, 3) := q_ifCond_eq (bat_get dg_X12_qPartTold_33_126 16 rfl rfl) rfl
theorem dX12_qPartTold_153 : decode cX12_qPartTold 153 = .ok (.iload_n 3, 1) := q_iload_n3 (bat_get dg_X12_qPartTold_33_126 17 rfl rfl)
theorem dX12_qPartTold_154 : decode cX12_qPartTold 154 = .ok (.iconst (-1), 1) := q_iconstm1 (bat_get dg_X12_qPartTold_33_126 18 rfl rfl)
theorem dX12_qPartTold_155 : decode cX12_qPartTold 155 = .ok (.if_icmp .eq 26, 3) := q_if_icmp_eq (bat_get dg_X12_qPartTold_33_126 19 rfl rfl) rfl
theorem dX12_qPartTold_181 : decode cX12_qPartTold 181 = .ok (.iconst 0, 1) := q_iconst0 (bat_get dg_X12_qPartTold_33_126 20 rfl rfl)
theorem dX12_qPartTold_182 : decode cX12_qPartTold 182 = .ok (.istore_n 1, 1) := q_istore_n1 (bat_get dg_X12_qPartTold_33_126 21 rfl rfl)
theorem dX12_qPartTold_158 : decode cX12_qPartTold 158 = .ok (.aload_n 0, 1) := q_aload_n0 (bat_get dg_X12_qPartTold_33_126 22 rfl rfl)
theorem dX12_qPartTold_159 : decode cX12_qPartTold 159 = .ok (.bipush 60, 2) := q_bipush (bat_get dg_X12_qPartTold_33_126 23 rfl rfl) rfl
theorem dX12_qPartTold_161 : decode cX12_qPartTold 161 = .ok (.iload_n 3, 1) := q_iload_n3 (bat_get dg_X12_qPartTold_33_126 24 rfl rfl)
theorem dX12_qPartTold_162 : decode cX12_qPartTold 162 = .ok (.iadd, 1) := q_iadd (bat_get dg_X12_qPartTold_33_126 25 rfl rfl)
theorem dX12_qPartTold_163 : decode cX12_qPartTold 163 = .ok (.bipush 10, 2) := q_bipush (bat_get dg_X12_qPartTold_33_126 26 rfl rfl) rfl
theorem dX12_qPartTold_165 : decode cX12_qPartTold 165 = .ok (.isub, 1) := q_isub (bat_get dg_X12_qPartTold_33_126 27 rfl rfl)
theorem dX12_qPartTold_166 : decode cX12_qPartTold 166 = .ok (.aload_n 0, 1) := q_aload_n0 (bat_get dg_X12_qPartTold_33_126 28 rfl rfl)
theorem dX12_qPartTold_167 : decode cX12_qPartTold 167 = .ok (.getfield 201, 3) := q_getfield (bat_get dg_X12_qPartTold_33_126 29 rfl rfl) rfl
theorem dX12_qPartTold_170 : decode cX12_qPartTold 170 = .ok (.invokevirtual 516, 3) := q_invokevirtual (bat_get dg_X12_qPartTold_33_126 30 rfl rfl) rfl
theorem dX12_qPartTold_173 : decode cX12_qPartTold 173 = .ok (.aload_n 0, 1) := q_aload_n0 (bat_get dg_X12_qPartTold_33_126 31 rfl rfl)
theorem dX12_qPartTold_174 : decode cX12_qPartTold 174 = .ok (.iload_n 3, 1) := q_iload_n3 (bat_get dg_X12_qPartTold_33_126 32 rfl rfl)
theorem dX12_qPartTold_175 : decode cX12_qPartTold 175 = .ok (.invokevirtual 519, 3) := q_invokevirtual (bat_get dg_X12_qPartTold_33_126 33 rfl rfl) rfl
theorem dX12_qPartTold_178 : decode cX12_qPartTold 178 = .ok (.goto 5, 3) := q_goto (bat_get dg_X12_qPartTold_33_126 34 rfl rfl) rfl
theorem dX12_qPartTold_33 : decode cX12_qPartTold 33 = .ok (.aload_n 0, 1) := q_aload_n0 (bat_get dg_X12_qPartTold_33_126 35 rfl rfl)
theorem dX12_qPartTold_34 : decode cX12_qPartTold 34 = .ok (.bipush 20, 2) := q_bipush (bat_get dg_X12_qPartTold_33_126 36 rfl rfl) rfl
theorem dX12_qPartTold_36 : decode cX12_qPartTold 36 = .ok (.aload_n 0, 1) := q_aload_n0 (bat_get dg_X12_qPartTold_33_126 37 rfl rfl)
theorem dX12_qPartTold_37 : decode cX12_qPartTold 37 = .ok (.getfield 201, 3) := q_getfield (bat_get dg_X12_qPartTold_33_126 38 rfl rfl) rfl
theorem dX12_qPartTold_40 : decode cX12_qPartTold 40 = .ok (.invokevirtual 516, 3) := q_invokevirtual (bat_get dg_X12_qPartTold_33_126 39 rfl rfl) rfl
theorem dg_X12_qPartTold_43_43 : bqL cX12_qPartTold 43 [(0, [42]), (1, [89]), (2, [180, 0, 201]), (5, [4]), (6, [96]), (7, [181, 0, 201]), (10, [167, 0, 130])] = true := by decide +kernel
theorem dX12_qPartTold_43 : decode cX12_qPartTold 43 = .ok (.aload_n 0, 1) := q_aload_n0 (bat_get dg_X12_qPartTold_43_43 0 rfl rfl)
theorem dX12_qPartTold_44 : decode cX12_qPartTold 44 = .ok (.dup, 1) := q_dup (bat_get dg_X12_qPartTold_43_43 1 rfl rfl)
theorem dX12_qPartTold_45 : decode cX12_qPartTold 45 = .ok (.getfield 201, 3) := q_getfield (bat_get dg_X12_qPartTold_43_43 2 rfl rfl) rfl
theorem dX12_qPartTold_48 : decode cX12_qPartTold 48 = .ok (.iconst 1, 1) := q_iconst1 (bat_get dg_X12_qPartTold_43_43 3 rfl rfl)
theorem dX12_qPartTold_49 : decode cX12_qPartTold 49 = .ok (.iadd, 1) := q_iadd (bat_get dg_X12_qPartTold_43_43 4 rfl rfl)
theorem dX12_qPartTold_50 : decode cX12_qPartTold 50 = .ok (.putfield 201, 3) := q_putfield (bat_get dg_X12_qPartTold_43_43 5 rfl rfl) rfl
theorem dX12_qPartTold_53 : decode cX12_qPartTold 53 = .ok (.goto 130, 3) := q_goto (bat_get dg_X12_qPartTold_43_43 6 rfl rfl) rfl
theorem w_7_35 : (Cond.methodLink RX12 513 yX12_qWordOf) ∈ wsL_law := sk_mem (ck_7 _ (List.mem_of_getElem? (i := 35) rfl)) rfl
theorem w_7_37 : (Cond.instanceMethod yX12_qWordOf) ∈ wsL_law := sk_mem (ck_7 _ (List.mem_of_getElem? (i := 37) rfl)) rfl
theorem w_0_56 : (Cond.selects RX12 yX12_qWordOf yX12_qWordOf) ∈ wsL_law := sk_mem (ck_0 _ (List.mem_of_getElem? (i := 56) rfl)) rfl
theorem w_6_233 : (Cond.methodLink RX12 249 yX12_number) ∈ wsL_law := sk_mem (ck_6 _ (List.mem_of_getElem? (i := 233) rfl)) rfl
theorem w_6_235 : (Cond.instanceMethod yX12_number) ∈ wsL_law := sk_mem (ck_6 _ (List.mem_of_getElem? (i := 235) rfl)) rfl
theorem w_0_47 : (Cond.selects RX12 yX12_number yX12_number) ∈ wsL_law := sk_mem (ck_0 _ (List.mem_of_getElem? (i := 47) rfl)) rfl
theorem w_7_59 : (Cond.methodLink RX12 522 yX12_qEndsPart) ∈ wsL_law := sk_mem (ck_7 _ (List.mem_of_getElem? (i := 59) rfl)) rfl
theorem w_7_61 : (Cond.instanceMethod yX12_qEndsPart) ∈ wsL_law := sk_mem (ck_7 _ (List.mem_of_getElem? (i := 61) rfl)) rfl
theorem w_0_62 : (Cond.selects RX12 yX12_qEndsPart yX12_qEndsPart) ∈ wsL_law := sk_mem (ck_0 _ (List.mem_of_getElem? (i := 62) rfl)) rfl
theorem w_7_51 : (Cond.methodLink RX12 519 yX12_qAsksWord) ∈ wsL_law := sk_mem (ck_7 _ (List.mem_of_getElem? (i := 51) rfl)) rfl
theorem w_7_53 : (Cond.instanceMethod yX12_qAsksWord) ∈ wsL_law := sk_mem (ck_7 _ (List.mem_of_getElem? (i := 53) rfl)) rfl
theorem w_0_60 : (Cond.selects RX12 yX12_qAsksWord yX12_qAsksWord) ∈ wsL_law := sk_mem (ck_0 _ (List.mem_of_getElem? (i := 60) rfl)) rfl
theorem w_5_223 : (Cond.fieldLink RX12 144 "SameKeeperModel" "minAsked" "[C") ∈ wsL_law := sk_mem (ck_5 _ (List.mem_of_getElem? (i := 223) rfl)) rfl
theorem w_7_3 : (Cond.methodLink RX12 253 yX12_asksSign) ∈ wsL_law := sk_mem (ck_7 _ (List.mem_of_getElem? (i := 3) rfl)) rfl
theorem w_7_5 : (Cond.instanceMethod yX12_asksSign) ∈ wsL_law := sk_mem (ck_7 _ (List.mem_of_getElem? (i := 5) rfl)) rfl
theorem w_0_48 : (Cond.selects RX12 yX12_asksSign yX12_asksSign) ∈ wsL_law := sk_mem (ck_0 _ (List.mem_of_getElem? (i := 48) rfl)) rfl
theorem w_7_47 : (Cond.methodLink RX12 516 yX12_qOpens) ∈ wsL_law := sk_mem (ck_7 _ (List.mem_of_getElem? (i := 47) rfl)) rfl
theorem w_7_49 : (Cond.instanceMethod yX12_qOpens) ∈ wsL_law := sk_mem (ck_7 _ (List.mem_of_getElem? (i := 49) rfl)) rfl
theorem w_0_59 : (Cond.selects RX12 yX12_qOpens yX12_qOpens) ∈ wsL_law := sk_mem (ck_0 _ (List.mem_of_getElem? (i := 59) rfl)) rfl
theorem w_5_224 : (Cond.fieldLink RX12 147 "SameKeeperModel" "maxAsked" "[C") ∈ wsL_law := sk_mem (ck_5 _ (List.mem_of_getElem? (i := 224) rfl)) rfl
theorem w_7_34 : (Cond.code yX12_qPartTold cX12_qPartTold 6 none) ∈ wsL_law := sk_mem (ck_7 _ (List.mem_of_getElem? (i := 34) rfl)) rfl
def om_17_187ff : List Bool := true :: true :: false :: false :: false :: false :: true :: true :: true :: true :: true :: true :: true :: true :: true :: true :: true :: []
def om_17_18000 : List Bool := true :: true :: false :: false :: false :: false :: false :: false :: false :: false :: false :: false :: false :: false :: false :: false :: false :: []
def om_17_14000 : List Bool := true :: false :: true :: false :: false :: false :: false :: false :: false :: false :: false :: false :: false :: false :: false :: false :: false :: []
def om_17_16000 : List Bool := true :: false :: true :: true :: false :: false :: false :: false :: false :: false :: false :: false :: false :: false :: false :: false :: false :: []
def om_17_19000 : List Bool := true :: true :: false :: false :: true :: false :: false :: false :: false :: false :: false :: false :: false :: false :: false :: false :: false :: []
def om_17_12000 : List Bool := true :: false :: false :: true :: false :: false :: false :: false :: false :: false :: false :: false :: false :: false :: false :: false :: false :: []
def om_17_18800 : List Bool := true :: true :: false :: false :: false :: true :: false :: false :: false :: false :: false :: false :: false :: false :: false :: false :: false :: []
theorem hd_X12_qWordOf_2 : skD yX12_qWordOf 2 := by decide +kernel
theorem hd_X12_number_2 : skD yX12_number 2 := by decide +kernel
theorem hd_X12_qEndsPart_0 : skD yX12_qEndsPart 0 := by decide +kernel
theorem hd_X12_qAsksWord_1 : skD yX12_qAsksWord 1 := by decide +kernel
theorem hd_X12_asksSign_1 : skD yX12_asksSign 1 := by decide +kernel
theorem hd_X12_qOpens_2 : skD yX12_qOpens 2 := by decide +kernel
theorem dg_X12_qGoesOn_0_0 : bqL cX12_qGoesOn 0 [(0, [42]), (1, [180, 0, 195]), (4, [154, 0, 118]), (122, [42]), (140, [42]), (141, [180, 0, 7]), (144, [42]), (145, [180, 0, 201]), (148, [4]), (149, [100]), (150, [46]), (151, [16, 42]), (153, [160, 0, 7]), (160, [7]), (161, [60]), (162, [42]), (163, [6]), (164, [182, 2, 19]), (167, [154, 0, 11]), (178, [42]), (179, [182, 1, 248]), (182, [167, 255, 236]), (170, [42]), (171, [7]), (172, [182, 2, 19]), (175, [153, 0, 10]), (185, [42]), (186, [180, 0, 183]), (189, [42]), (190, [180, 1, 4]), (193, [27]), (194, [79]), (195, [42]), (196, [89]), (197, [180, 1, 4]), (200, [4]), (201, [96]), (202, [181, 1, 4]), (205, [4]), (206, [172])] = true := by decide +kernel
theorem dX12_qGoesOn_0 : decode cX12_qGoesOn 0 = .ok (.aload_n 0, 1) := q_aload_n0 (bat_get dg_X12_qGoesOn_0_0 0 rfl rfl)
theorem dX12_qGoesOn_1 : decode cX12_qGoesOn 1 = .ok (.getfield 195, 3) := q_getfield (bat_get dg_X12_qGoesOn_0_0 1 rfl rfl) rfl
theorem dX12_qGoesOn_4 : decode cX12_qGoesOn 4 = .ok (.ifCond .ne 118, 3) := q_ifCond_ne (bat_get dg_X12_qGoesOn_0_0 2 rfl rfl) rfl
theorem dX12_qGoesOn_122 : decode cX12_qGoesOn 122 = .ok (.aload_n 0, 1) := q_aload_n0 (bat_get dg_X12_qGoesOn_0_0 3 rfl rfl)
theorem dX12_qGoesOn_140 : decode cX12_qGoesOn 140 = .ok (.aload_n 0, 1) := q_aload_n0 (bat_get dg_X12_qGoesOn_0_0 4 rfl rfl)
theorem dX12_qGoesOn_141 : decode cX12_qGoesOn 141 = .ok (.getfield 7, 3) := q_getfield (bat_get dg_X12_qGoesOn_0_0 5 rfl rfl) rfl
theorem dX12_qGoesOn_144 : decode cX12_qGoesOn 144 = .ok (.aload_n 0, 1) := q_aload_n0 (bat_get dg_X12_qGoesOn_0_0 6 rfl rfl)
theorem dX12_qGoesOn_145 : decode cX12_qGoesOn 145 = .ok (.getfield 201, 3) := q_getfield (bat_get dg_X12_qGoesOn_0_0 7 rfl rfl) rfl
theorem dX12_qGoesOn_148 : decode cX12_qGoesOn 148 = .ok (.iconst 1, 1) := q_iconst1 (bat_get dg_X12_qGoesOn_0_0 8 rfl rfl)
theorem dX12_qGoesOn_149 : decode cX12_qGoesOn 149 = .ok (.isub, 1) := q_isub (bat_get dg_X12_qGoesOn_0_0 9 rfl rfl)
theorem dX12_qGoesOn_150 : decode cX12_qGoesOn 150 = .ok (.iaload, 1) := q_iaload (bat_get dg_X12_qGoesOn_0_0 10 rfl rfl)
theorem dX12_qGoesOn_151 : decode cX12_qGoesOn 151 = .ok (.bipush 42, 2) := q_bipush (bat_get dg_X12_qGoesOn_0_0 11 rfl rfl) rfl
theorem dX12_qGoesOn_153 : decode cX12_qGoesOn 153 = .ok (.if_icmp .ne 7, 3) := q_if_icmp_ne (bat_get dg_X12_qGoesOn_0_0 12 rfl rfl) rfl
theorem dX12_qGoesOn_160 : decode cX12_qGoesOn 160 = .ok (.iconst 4, 1) := q_iconst4 (bat_get dg_X12_qGoesOn_0_0 13 rfl rfl)
theorem dX12_qGoesOn_161 : decode cX12_qGoesOn 161 = .ok (.istore_n 1, 1) := q_istore_n1 (bat_get dg_X12_qGoesOn_0_0 14 rfl rfl)
theorem dX12_qGoesOn_162 : decode cX12_qGoesOn 162 = .ok (.aload_n 0, 1) := q_aload_n0 (bat_get dg_X12_qGoesOn_0_0 15 rfl rfl)
theorem dX12_qGoesOn_163 : decode cX12_qGoesOn 163 = .ok (.iconst 3, 1) := q_iconst3 (bat_get dg_X12_qGoesOn_0_0 16 rfl rfl)
theorem dX12_qGoesOn_164 : decode cX12_qGoesOn 164 = .ok (.invokevirtual 531, 3) := q_invokevirtual (bat_get dg_X12_qGoesOn_0_0 17 rfl rfl) rfl
theorem dX12_qGoesOn_167 : decode cX12_qGoesOn 167 = .ok (.ifCond .ne 11, 3) := q_ifCond_ne (bat_get dg_X12_qGoesOn_0_0 18 rfl rfl) rfl
theorem dX12_qGoesOn_178 : decode cX12_qGoesOn 178 = .ok (.aload_n 0, 1) := q_aload_n0 (bat_get dg_X12_qGoesOn_0_0 19 rfl rfl)
theorem dX12_qGoesOn_179 : decode cX12_qGoesOn 179 = .ok (.invokevirtual 504, 3) := q_invokevirtual (bat_get dg_X12_qGoesOn_0_0 20 rfl rfl) rfl
theorem dX12_qGoesOn_182 : decode cX12_qGoesOn 182 = .ok (.goto (-20), 3) := q_goto (bat_get dg_X12_qGoesOn_0_0 21 rfl rfl) rfl
theorem dX12_qGoesOn_170 : decode cX12_qGoesOn 170 = .ok (.aload_n 0, 1) := q_aload_n0 (bat_get dg_X12_qGoesOn_0_0 22 rfl rfl)
theorem dX12_qGoesOn_171 : decode cX12_qGoesOn 171 = .ok (.iconst 4, 1) := q_iconst4 (bat_get dg_X12_qGoesOn_0_0 23 rfl rfl)
theorem dX12_qGoesOn_172 : decode cX12_qGoesOn 172 = .ok (.invokevirtual 531, 3) := q_invokevirtual (bat_get dg_X12_qGoesOn_0_0 24 rfl rfl) rfl
theorem dX12_qGoesOn_175 : decode cX12_qGoesOn 175 = .ok (.ifCond .eq 10, 3) := q_ifCond_eq (bat_get dg_X12_qGoesOn_0_0 25 rfl rfl) rfl
theorem dX12_qGoesOn_185 : decode cX12_qGoesOn 185 = .ok (.aload_n 0, 1) := q_aload_n0 (bat_get dg_X12_qGoesOn_0_0 26 rfl rfl)
theorem dX12_qGoesOn_186 : decode cX12_qGoesOn 186 = .ok (.getfield 183, 3) := q_getfield (bat_get dg_X12_qGoesOn_0_0 27 rfl rfl) rfl
theorem dX12_qGoesOn_189 : decode cX12_qGoesOn 189 = .ok (.aload_n 0, 1) := q_aload_n0 (bat_get dg_X12_qGoesOn_0_0 28 rfl rfl)
theorem dX12_qGoesOn_190 : decode cX12_qGoesOn 190 = .ok (.getfield 260, 3) := q_getfield (bat_get dg_X12_qGoesOn_0_0 29 rfl rfl) rfl
theorem dX12_qGoesOn_193 : decode cX12_qGoesOn 193 = .ok (.iload_n 1, 1) := q_iload_n1 (bat_get dg_X12_qGoesOn_0_0 30 rfl rfl)
theorem dX12_qGoesOn_194 : decode cX12_qGoesOn 194 = .ok (.iastore, 1) := q_iastore (bat_get dg_X12_qGoesOn_0_0 31 rfl rfl)
theorem dX12_qGoesOn_195 : decode cX12_qGoesOn 195 = .ok (.aload_n 0, 1) := q_aload_n0 (bat_get dg_X12_qGoesOn_0_0 32 rfl rfl)
theorem dX12_qGoesOn_196 : decode cX12_qGoesOn 196 = .ok (.dup, 1) := q_dup (bat_get dg_X12_qGoesOn_0_0 33 rfl rfl)
theorem dX12_qGoesOn_197 : decode cX12_qGoesOn 197 = .ok (.getfield 260, 3) := q_getfield (bat_get dg_X12_qGoesOn_0_0 34 rfl rfl) rfl
theorem dX12_qGoesOn_200 : decode cX12_qGoesOn 200 = .ok (.iconst 1, 1) := q_iconst1 (bat_get dg_X12_qGoesOn_0_0 35 rfl rfl)
theorem dX12_qGoesOn_201 : decode cX12_qGoesOn 201 = .ok (.iadd, 1) := q_iadd (bat_get dg_X12_qGoesOn_0_0 36 rfl rfl)
theorem dX12_qGoesOn_202 : decode cX12_qGoesOn 202 = .ok (.putfield 260, 3) := q_putfield (bat_get dg_X12_qGoesOn_0_0 37 rfl rfl) rfl
theorem dX12_qGoesOn_205 : decode cX12_qGoesOn 205 = .ok (.iconst 1, 1) := q_iconst1 (bat_get dg_X12_qGoesOn_0_0 38 rfl rfl)
theorem dX12_qGoesOn_206 : decode cX12_qGoesOn 206 = .ok (.ireturn, 1) := q_ireturn (bat_get dg_X12_qGoesOn_0_0 39 rfl rfl)
theorem dg_X12_qGoesOn_156_156 : bqL cX12_qGoesOn 156 [(0, [6]), (1, [167, 0, 4]), (69, [42]), (70, [180, 0, 7]), (73, [42]), (74, [180, 0, 201]), (77, [4]), (78, [100]), (79, [46]), (80, [16, 43]), (82, [160, 0, 7]), (89, [5]), (90, [60]), (91, [42]), (92, [6]), (93, [182, 2, 19]), (96, [154, 0, 27]), (123, [42]), (124, [182, 1, 248]), (127, [167, 255, 220]), (99, [42]), (100, [7]), (101, [182, 2, 19]), (104, [154, 0, 19]), (107, [42]), (108, [4]), (109, [182, 2, 19]), (112, [154, 0, 11]), (115, [42]), (116, [5]), (117, [182, 2, 19]), (120, [153, 0, 10]), (130, [42]), (131, [180, 0, 183]), (134, [42]), (135, [180, 1, 4]), (138, [27]), (139, [79]), (140, [42]), (141, [89])] = true := by decide +kernel
theorem dX12_qGoesOn_156 : decode cX12_qGoesOn 156 = .ok (.iconst 3, 1) := q_iconst3 (bat_get dg_X12_qGoesOn_156_156 0 rfl rfl)
theorem dX12_qGoesOn_157 : decode cX12_qGoesOn 157 = .ok (.goto 4, 3) := q_goto (bat_get dg_X12_qGoesOn_156_156 1 rfl rfl) rfl
theorem dX12_qGoesOn_225 : decode cX12_qGoesOn 225 = .ok (.aload_n 0, 1) := q_aload_n0 (bat_get dg_X12_qGoesOn_156_156 2 rfl rfl)
theorem dX12_qGoesOn_226 : decode cX12_qGoesOn 226 = .ok (.getfield 7, 3) := q_getfield (bat_get dg_X12_qGoesOn_156_156 3 rfl rfl) rfl
theorem dX12_qGoesOn_229 : decode cX12_qGoesOn 229 = .ok (.aload_n 0, 1) := q_aload_n0 (bat_get dg_X12_qGoesOn_156_156 4 rfl rfl)
theorem dX12_qGoesOn_230 : decode cX12_qGoesOn 230 = .ok (.getfield 201, 3) := q_getfield (bat_get dg_X12_qGoesOn_156_156 5 rfl rfl) rfl
theorem dX12_qGoesOn_233 : decode cX12_qGoesOn 233 = .ok (.iconst 1, 1) := q_iconst1 (bat_get dg_X12_qGoesOn_156_156 6 rfl rfl)
theorem dX12_qGoesOn_234 : decode cX12_qGoesOn 234 = .ok (.isub, 1) := q_isub (bat_get dg_X12_qGoesOn_156_156 7 rfl rfl)
theorem dX12_qGoesOn_235 : decode cX12_qGoesOn 235 = .ok (.iaload, 1) := q_iaload (bat_get dg_X12_qGoesOn_156_156 8 rfl rfl)
theorem dX12_qGoesOn_236 : decode cX12_qGoesOn 236 = .ok (.bipush 43, 2) := q_bipush (bat_get dg_X12_qGoesOn_156_156 9 rfl rfl) rfl
theorem dX12_qGoesOn_238 : decode cX12_qGoesOn 238 = .ok (.if_icmp .ne 7, 3) := q_if_icmp_ne (bat_get dg_X12_qGoesOn_156_156 10 rfl rfl) rfl
theorem dX12_qGoesOn_245 : decode cX12_qGoesOn 245 = .ok (.iconst 2, 1) := q_iconst2 (bat_get dg_X12_qGoesOn_156_156 11 rfl rfl)
theorem dX12_qGoesOn_246 : decode cX12_qGoesOn 246 = .ok (.istore_n 1, 1) := q_istore_n1 (bat_get dg_X12_qGoesOn_156_156 12 rfl rfl)
theorem dX12_qGoesOn_247 : decode cX12_qGoesOn 247 = .ok (.aload_n 0, 1) := q_aload_n0 (bat_get dg_X12_qGoesOn_156_156 13 rfl rfl)
theorem dX12_qGoesOn_248 : decode cX12_qGoesOn 248 = .ok (.iconst 3, 1) := q_iconst3 (bat_get dg_X12_qGoesOn_156_156 14 rfl rfl)
theorem dX12_qGoesOn_249 : decode cX12_qGoesOn 249 = .ok (.invokevirtual 531, 3) := q_invokevirtual (bat_get dg_X12_qGoesOn_156_156 15 rfl rfl) rfl
theorem dX12_qGoesOn_252 : decode cX12_qGoesOn 252 = .ok (.ifCond .ne 27, 3) := q_ifCond_ne (bat_get dg_X12_qGoesOn_156_156 16 rfl rfl) rfl
theorem dX12_qGoesOn_279 : decode cX12_qGoesOn 279 = .ok (.aload_n 0, 1) := q_aload_n0 (bat_get dg_X12_qGoesOn_156_156 17 rfl rfl)
theorem dX12_qGoesOn_280 : decode cX12_qGoesOn 280 = .ok (.invokevirtual 504, 3) := q_invokevirtual (bat_get dg_X12_qGoesOn_156_156 18 rfl rfl) rfl
theorem dX12_qGoesOn_283 : decode cX12_qGoesOn 283 = .ok (.goto (-36), 3) := q_goto (bat_get dg_X12_qGoesOn_156_156 19 rfl rfl) rfl
theorem dX12_qGoesOn_255 : decode cX12_qGoesOn 255 = .ok (.aload_n 0, 1) := q_aload_n0 (bat_get dg_X12_qGoesOn_156_156 20 rfl rfl)
theorem dX12_qGoesOn_256 : decode cX12_qGoesOn 256 = .ok (.iconst 4, 1) := q_iconst4 (bat_get dg_X12_qGoesOn_156_156 21 rfl rfl)
theorem dX12_qGoesOn_257 : decode cX12_qGoesOn 257 = .ok (.invokevirtual 531, 3) := q_invokevirtual (bat_get dg_X12_qGoesOn_156_156 22 rfl rfl) rfl
theorem dX12_qGoesOn_260 : decode cX12_qGoesOn 260 = .ok (.ifCond .ne 19, 3) := q_ifCond_ne (bat_get dg_X12_qGoesOn_156_156 23 rfl rfl) rfl
theorem dX12_qGoesOn_263 : decode cX12_qGoesOn 263 = .ok (.aload_n 0, 1) := q_aload_n0 (bat_get dg_X12_qGoesOn_156_156 24 rfl rfl)
theorem dX12_qGoesOn_264 : decode cX12_qGoesOn 264 = .ok (.iconst 1, 1) := q_iconst1 (bat_get dg_X12_qGoesOn_156_156 25 rfl rfl)
theorem dX12_qGoesOn_265 : decode cX12_qGoesOn 265 = .ok (.invokevirtual 531, 3) := q_invokevirtual (bat_get dg_X12_qGoesOn_156_156 26 rfl rfl) rfl
theorem dX12_qGoesOn_268 : decode cX12_qGoesOn 268 = .ok (.ifCond .ne 11, 3) := q_ifCond_ne (bat_get dg_X12_qGoesOn_156_156 27 rfl rfl) rfl
theorem dX12_qGoesOn_271 : decode cX12_qGoesOn 271 = .ok (.aload_n 0, 1) := q_aload_n0 (bat_get dg_X12_qGoesOn_156_156 28 rfl rfl)
theorem dX12_qGoesOn_272 : decode cX12_qGoesOn 272 = .ok (.iconst 2, 1) := q_iconst2 (bat_get dg_X12_qGoesOn_156_156 29 rfl rfl)
theorem dX12_qGoesOn_273 : decode cX12_qGoesOn 273 = .ok (.invokevirtual 531, 3) := q_invokevirtual (bat_get dg_X12_qGoesOn_156_156 30 rfl rfl) rfl
theorem dX12_qGoesOn_276 : decode cX12_qGoesOn 276 = .ok (.ifCond .eq 10, 3) := q_ifCond_eq (bat_get dg_X12_qGoesOn_156_156 31 rfl rfl) rfl
theorem dX12_qGoesOn_286 : decode cX12_qGoesOn 286 = .ok (.aload_n 0, 1) := q_aload_n0 (bat_get dg_X12_qGoesOn_156_156 32 rfl rfl)
theorem dX12_qGoesOn_287 : decode cX12_qGoesOn 287 = .ok (.getfield 183, 3) := q_getfield (bat_get dg_X12_qGoesOn_156_156 33 rfl rfl) rfl
theorem dX12_qGoesOn_290 : decode cX12_qGoesOn 290 = .ok (.aload_n 0, 1) := q_aload_n0 (bat_get dg_X12_qGoesOn_156_156 34 rfl rfl)
theorem dX12_qGoesOn_291 : decode cX12_qGoesOn 291 = .ok (.getfield 260, 3) := q_getfield (bat_get dg_X12_qGoesOn_156_156 35 rfl rfl) rfl
theorem dX12_qGoesOn_294 : decode cX12_qGoesOn 294 = .ok (.iload_n 1, 1) := q_iload_n1 (bat_get dg_X12_qGoesOn_156_156 36 rfl rfl)
theorem dX12_qGoesOn_295 : decode cX12_qGoesOn 295 = .ok (.iastore, 1) := q_iastore (bat_get dg_X12_qGoesOn_156_156 37 rfl rfl)
theorem dX12_qGoesOn_296 : decode cX12_qGoesOn 296 = .ok (.aload_n 0, 1) := q_aload_n0 (bat_get dg_X12_qGoesOn_156_156 38 rfl rfl)
theorem dX12_qGoesOn_297 : decode cX12_qGoesOn 297 = .ok (.dup, 1) := q_dup (bat_get dg_X12_qGoesOn_156_156 39 rfl rfl)
theorem dg_X12_qGoesOn_123_298 : bqL cX12_qGoesOn 123 [(175, [180, 1, 4]), (178, [4]), (179, [96]), (180, [181, 1, 4]), (183, [4]), (184, [172]), (118, [4]), (119, [167, 0, 4]), (0, [16, 42]), (2, [182, 0, 229]), (5, [154, 0, 12]), (8, [42]), (9, [16, 47]), (11, [182, 0, 229]), (14, [153, 0, 70]), (84, [42]), (85, [16, 43]), (87, [182, 0, 229]), (90, [154, 0, 12]), (93, [42]), (94, [16, 45]), (96, [182, 0, 229]), (99, [153, 0, 86]), (185, [42]), (186, [182, 2, 13]), (189, [16, 21]), (191, [159, 0, 12]), (203, [42]), (204, [16, 44]), (206, [182, 0, 253]), (209, [42]), (210, [180, 0, 195]), (213, [153, 0, 5]), (218, [42]), (219, [182, 2, 16]), (222, [42]), (223, [180, 0, 183]), (226, [42]), (227, [180, 1, 4]), (230, [4])] = true := by decide +kernel
theorem dX12_qGoesOn_298 : decode cX12_qGoesOn 298 = .ok (.getfield 260, 3) := q_getfield (bat_get dg_X12_qGoesOn_123_298 0 rfl rfl) rfl
theorem dX12_qGoesOn_301 : decode cX12_qGoesOn 301 = .ok (.iconst 1, 1) := q_iconst1 (bat_get dg_X12_qGoesOn_123_298 1 rfl rfl)
theorem dX12_qGoesOn_302 : decode cX12_qGoesOn 302 = .ok (.iadd, 1) := q_iadd (bat_get dg_X12_qGoesOn_123_298 2 rfl rfl)
theorem dX12_qGoesOn_303 : decode cX12_qGoesOn 303 = .ok (.putfield 260, 3) := q_putfield (bat_get dg_X12_qGoesOn_123_298 3 rfl rfl) rfl
theorem dX12_qGoesOn_306 : decode cX12_qGoesOn 306 = .ok (.iconst 1, 1) := q_iconst1 (bat_get dg_X12_qGoesOn_123_298 4 rfl rfl)
theorem dX12_qGoesOn_307 : decode cX12_qGoesOn 307 = .ok (.ireturn, 1) := q_ireturn (bat_get dg_X12_qGoesOn_123_298 5 rfl rfl)
theorem dX12_qGoesOn_241 : decode cX12_qGoesOn 241 = .ok (.iconst 1, 1) := q_iconst1 (bat_get dg_X12_qGoesOn_123_298 6 rfl rfl)
theorem dX12_qGoesOn_242 : decode cX12_qGoesOn 242 = .ok (.goto 4, 3) := q_goto (bat_get dg_X12_qGoesOn_123_298 7 rfl rfl) rfl
theorem dX12_qGoesOn_123 : decode cX12_qGoesOn 123 = .ok (.bipush 42, 2) := q_bipush (bat_get dg_X12_qGoesOn_123_298 8 rfl rfl) rfl
theorem dX12_qGoesOn_125 : decode cX12_qGoesOn 125 = .ok (.invokevirtual 229, 3) := q_invokevirtual (bat_get dg_X12_qGoesOn_123_298 9 rfl rfl) rfl
theorem dX12_qGoesOn_128 : decode cX12_qGoesOn 128 = .ok (.ifCond .ne 12, 3) := q_ifCond_ne (bat_get dg_X12_qGoesOn_123_298 10 rfl rfl) rfl
theorem dX12_qGoesOn_131 : decode cX12_qGoesOn 131 = .ok (.aload_n 0, 1) := q_aload_n0 (bat_get dg_X12_qGoesOn_123_298 11 rfl rfl)
theorem dX12_qGoesOn_132 : decode cX12_qGoesOn 132 = .ok (.bipush 47, 2) := q_bipush (bat_get dg_X12_qGoesOn_123_298 12 rfl rfl) rfl
theorem dX12_qGoesOn_134 : decode cX12_qGoesOn 134 = .ok (.invokevirtual 229, 3) := q_invokevirtual (bat_get dg_X12_qGoesOn_123_298 13 rfl rfl) rfl
theorem dX12_qGoesOn_137 : decode cX12_qGoesOn 137 = .ok (.ifCond .eq 70, 3) := q_ifCond_eq (bat_get dg_X12_qGoesOn_123_298 14 rfl rfl) rfl
theorem dX12_qGoesOn_207 : decode cX12_qGoesOn 207 = .ok (.aload_n 0, 1) := q_aload_n0 (bat_get dg_X12_qGoesOn_123_298 15 rfl rfl)
theorem dX12_qGoesOn_208 : decode cX12_qGoesOn 208 = .ok (.bipush 43, 2) := q_bipush (bat_get dg_X12_qGoesOn_123_298 16 rfl rfl) rfl
theorem dX12_qGoesOn_210 : decode cX12_qGoesOn 210 = .ok (.invokevirtual 229, 3) := q_invokevirtual (bat_get dg_X12_qGoesOn_123_298 17 rfl rfl) rfl
theorem dX12_qGoesOn_213 : decode cX12_qGoesOn 213 = .ok (.ifCond .ne 12, 3) := q_ifCond_ne (bat_get dg_X12_qGoesOn_123_298 18 rfl rfl) rfl
theorem dX12_qGoesOn_216 : decode cX12_qGoesOn 216 = .ok (.aload_n 0, 1) := q_aload_n0 (bat_get dg_X12_qGoesOn_123_298 19 rfl rfl)
theorem dX12_qGoesOn_217 : decode cX12_qGoesOn 217 = .ok (.bipush 45, 2) := q_bipush (bat_get dg_X12_qGoesOn_123_298 20 rfl rfl) rfl
theorem dX12_qGoesOn_219 : decode cX12_qGoesOn 219 = .ok (.invokevirtual 229, 3) := q_invokevirtual (bat_get dg_X12_qGoesOn_123_298 21 rfl rfl) rfl
theorem dX12_qGoesOn_222 : decode cX12_qGoesOn 222 = .ok (.ifCond .eq 86, 3) := q_ifCond_eq (bat_get dg_X12_qGoesOn_123_298 22 rfl rfl) rfl
theorem dX12_qGoesOn_308 : decode cX12_qGoesOn 308 = .ok (.aload_n 0, 1) := q_aload_n0 (bat_get dg_X12_qGoesOn_123_298 23 rfl rfl)
theorem dX12_qGoesOn_309 : decode cX12_qGoesOn 309 = .ok (.invokevirtual 525, 3) := q_invokevirtual (bat_get dg_X12_qGoesOn_123_298 24 rfl rfl) rfl
theorem dX12_qGoesOn_312 : decode cX12_qGoesOn 312 = .ok (.bipush 21, 2) := q_bipush (bat_get dg_X12_qGoesOn_123_298 25 rfl rfl) rfl
theorem dX12_qGoesOn_314 : decode cX12_qGoesOn 314 = .ok (.if_icmp .eq 12, 3) := q_if_icmp_eq (bat_get dg_X12_qGoesOn_123_298 26 rfl rfl) rfl
theorem dX12_qGoesOn_326 : decode cX12_qGoesOn 326 = .ok (.aload_n 0, 1) := q_aload_n0 (bat_get dg_X12_qGoesOn_123_298 27 rfl rfl)
theorem dX12_qGoesOn_327 : decode cX12_qGoesOn 327 = .ok (.bipush 44, 2) := q_bipush (bat_get dg_X12_qGoesOn_123_298 28 rfl rfl) rfl
theorem dX12_qGoesOn_329 : decode cX12_qGoesOn 329 = .ok (.invokevirtual 253, 3) := q_invokevirtual (bat_get dg_X12_qGoesOn_123_298 29 rfl rfl) rfl
theorem dX12_qGoesOn_332 : decode cX12_qGoesOn 332 = .ok (.aload_n 0, 1) := q_aload_n0 (bat_get dg_X12_qGoesOn_123_298 30 rfl rfl)
theorem dX12_qGoesOn_333 : decode cX12_qGoesOn 333 = .ok (.getfield 195, 3) := q_getfield (bat_get dg_X12_qGoesOn_123_298 31 rfl rfl) rfl
theorem dX12_qGoesOn_336 : decode cX12_qGoesOn 336 = .ok (.ifCond .eq 5, 3) := q_ifCond_eq (bat_get dg_X12_qGoesOn_123_298 32 rfl rfl) rfl
theorem dX12_qGoesOn_341 : decode cX12_qGoesOn 341 = .ok (.aload_n 0, 1) := q_aload_n0 (bat_get dg_X12_qGoesOn_123_298 33 rfl rfl)
theorem dX12_qGoesOn_342 : decode cX12_qGoesOn 342 = .ok (.invokevirtual 528, 3) := q_invokevirtual (bat_get dg_X12_qGoesOn_123_298 34 rfl rfl) rfl
theorem dX12_qGoesOn_345 : decode cX12_qGoesOn 345 = .ok (.aload_n 0, 1) := q_aload_n0 (bat_get dg_X12_qGoesOn_123_298 35 rfl rfl)
theorem dX12_qGoesOn_346 : decode cX12_qGoesOn 346 = .ok (.getfield 183, 3) := q_getfield (bat_get dg_X12_qGoesOn_123_298 36 rfl rfl) rfl
theorem dX12_qGoesOn_349 : decode cX12_qGoesOn 349 = .ok (.aload_n 0, 1) := q_aload_n0 (bat_get dg_X12_qGoesOn_123_298 37 rfl rfl)
theorem dX12_qGoesOn_350 : decode cX12_qGoesOn 350 = .ok (.getfield 260, 3) := q_getfield (bat_get dg_X12_qGoesOn_123_298 38 rfl rfl) rfl
theorem dX12_qGoesOn_353 : decode cX12_qGoesOn 353 = .ok (.iconst 1, 1) := q_iconst1 (bat_get dg_X12_qGoesOn_123_298 39 rfl rfl)
theorem dg_X12_qGoesOn_7_354 : bqL cX12_qGoesOn 7 [(347, [100]), (348, [92]), (349, [46]), (350, [5]), (351, [96]), (352, [79]), (353, [4]), (354, [172]), (332, [3]), (333, [172]), (310, [42]), (311, [182, 2, 13]), (314, [16, 22]), (316, [160, 0, 39]), (355, [42]), (356, [182, 2, 13]), (359, [2]), (360, [159, 0, 19]), (379, [3]), (380, [172]), (363, [42]), (364, [180, 0, 195]), (367, [154, 0, 12]), (370, [42]), (371, [4]), (372, [42]), (373, [180, 0, 201]), (376, [182, 0, 225]), (0, [42]), (1, [182, 0, 207]), (4, [16, 41]), (6, [160, 0, 109]), (9, [42]), (10, [182, 2, 13]), (13, [16, 20]), (15, [159, 0, 21]), (36, [42]), (37, [89]), (38, [180, 0, 201]), (41, [4])] = true := by decide +kernel
theorem dX12_qGoesOn_354 : decode cX12_qGoesOn 354 = .ok (.isub, 1) := q_isub (bat_get dg_X12_qGoesOn_7_354 0 rfl rfl)
theorem dX12_qGoesOn_355 : decode cX12_qGoesOn 355 = .ok (.dup2, 1) := q_dup2 (bat_get dg_X12_qGoesOn_7_354 1 rfl rfl)
theorem dX12_qGoesOn_356 : decode cX12_qGoesOn 356 = .ok (.iaload, 1) := q_iaload (bat_get dg_X12_qGoesOn_7_354 2 rfl rfl)
theorem dX12_qGoesOn_357 : decode cX12_qGoesOn 357 = .ok (.iconst 2, 1) := q_iconst2 (bat_get dg_X12_qGoesOn_7_354 3 rfl rfl)
theorem dX12_qGoesOn_358 : decode cX12_qGoesOn 358 = .ok (.iadd, 1) := q_iadd (bat_get dg_X12_qGoesOn_7_354 4 rfl rfl)
theorem dX12_qGoesOn_359 : decode cX12_qGoesOn 359 = .ok (.iastore, 1) := q_iastore (bat_get dg_X12_qGoesOn_7_354 5 rfl rfl)
theorem dX12_qGoesOn_360 : decode cX12_qGoesOn 360 = .ok (.iconst 1, 1) := q_iconst1 (bat_get dg_X12_qGoesOn_7_354 6 rfl rfl)
theorem dX12_qGoesOn_361 : decode cX12_qGoesOn 361 = .ok (.ireturn, 1) := q_ireturn (bat_get dg_X12_qGoesOn_7_354 7 rfl rfl)
theorem dX12_qGoesOn_339 : decode cX12_qGoesOn 339 = .ok (.iconst 0, 1) := q_iconst0 (bat_get dg_X12_qGoesOn_7_354 8 rfl rfl)
theorem dX12_qGoesOn_340 : decode cX12_qGoesOn 340 = .ok (.ireturn, 1) := q_ireturn (bat_get dg_X12_qGoesOn_7_354 9 rfl rfl)
theorem dX12_qGoesOn_317 : decode cX12_qGoesOn 317 = .ok (.aload_n 0, 1) := q_aload_n0 (bat_get dg_X12_qGoesOn_7_354 10 rfl rfl)
theorem dX12_qGoesOn_318 : decode cX12_qGoesOn 318 = .ok (.invokevirtual 525, 3) := q_invokevirtual (bat_get dg_X12_qGoesOn_7_354 11 rfl rfl) rfl
theorem dX12_qGoesOn_321 : decode cX12_qGoesOn 321 = .ok (.bipush 22, 2) := q_bipush (bat_get dg_X12_qGoesOn_7_354 12 rfl rfl) rfl
theorem dX12_qGoesOn_323 : decode cX12_qGoesOn 323 = .ok (.if_icmp .ne 39, 3) := q_if_icmp_ne (bat_get dg_X12_qGoesOn_7_354 13 rfl rfl) rfl
theorem dX12_qGoesOn_362 : decode cX12_qGoesOn 362 = .ok (.aload_n 0, 1) := q_aload_n0 (bat_get dg_X12_qGoesOn_7_354 14 rfl rfl)
theorem dX12_qGoesOn_363 : decode cX12_qGoesOn 363 = .ok (.invokevirtual 525, 3) := q_invokevirtual (bat_get dg_X12_qGoesOn_7_354 15 rfl rfl) rfl
theorem dX12_qGoesOn_366 : decode cX12_qGoesOn 366 = .ok (.iconst (-1), 1) := q_iconstm1 (bat_get dg_X12_qGoesOn_7_354 16 rfl rfl)
theorem dX12_qGoesOn_367 : decode cX12_qGoesOn 367 = .ok (.if_icmp .eq 19, 3) := q_if_icmp_eq (bat_get dg_X12_qGoesOn_7_354 17 rfl rfl) rfl
theorem dX12_qGoesOn_386 : decode cX12_qGoesOn 386 = .ok (.iconst 0, 1) := q_iconst0 (bat_get dg_X12_qGoesOn_7_354 18 rfl rfl)
theorem dX12_qGoesOn_387 : decode cX12_qGoesOn 387 = .ok (.ireturn, 1) := q_ireturn (bat_get dg_X12_qGoesOn_7_354 19 rfl rfl)
theorem dX12_qGoesOn_370 : decode cX12_qGoesOn 370 = .ok (.aload_n 0, 1) := q_aload_n0 (bat_get dg_X12_qGoesOn_7_354 20 rfl rfl)
theorem dX12_qGoesOn_371 : decode cX12_qGoesOn 371 = .ok (.getfield 195, 3) := q_getfield (bat_get dg_X12_qGoesOn_7_354 21 rfl rfl) rfl
theorem dX12_qGoesOn_374 : decode cX12_qGoesOn 374 = .ok (.ifCond .ne 12, 3) := q_ifCond_ne (bat_get dg_X12_qGoesOn_7_354 22 rfl rfl) rfl
theorem dX12_qGoesOn_377 : decode cX12_qGoesOn 377 = .ok (.aload_n 0, 1) := q_aload_n0 (bat_get dg_X12_qGoesOn_7_354 23 rfl rfl)
theorem dX12_qGoesOn_378 : decode cX12_qGoesOn 378 = .ok (.iconst 1, 1) := q_iconst1 (bat_get dg_X12_qGoesOn_7_354 24 rfl rfl)
theorem dX12_qGoesOn_379 : decode cX12_qGoesOn 379 = .ok (.aload_n 0, 1) := q_aload_n0 (bat_get dg_X12_qGoesOn_7_354 25 rfl rfl)
theorem dX12_qGoesOn_380 : decode cX12_qGoesOn 380 = .ok (.getfield 201, 3) := q_getfield (bat_get dg_X12_qGoesOn_7_354 26 rfl rfl) rfl
theorem dX12_qGoesOn_383 : decode cX12_qGoesOn 383 = .ok (.invokevirtual 225, 3) := q_invokevirtual (bat_get dg_X12_qGoesOn_7_354 27 rfl rfl) rfl
theorem dX12_qGoesOn_7 : decode cX12_qGoesOn 7 = .ok (.aload_n 0, 1) := q_aload_n0 (bat_get dg_X12_qGoesOn_7_354 28 rfl rfl)
theorem dX12_qGoesOn_8 : decode cX12_qGoesOn 8 = .ok (.invokevirtual 207, 3) := q_invokevirtual (bat_get dg_X12_qGoesOn_7_354 29 rfl rfl) rfl
theorem dX12_qGoesOn_11 : decode cX12_qGoesOn 11 = .ok (.bipush 41, 2) := q_bipush (bat_get dg_X12_qGoesOn_7_354 30 rfl rfl) rfl
theorem dX12_qGoesOn_13 : decode cX12_qGoesOn 13 = .ok (.if_icmp .ne 109, 3) := q_if_icmp_ne (bat_get dg_X12_qGoesOn_7_354 31 rfl rfl) rfl
theorem dX12_qGoesOn_16 : decode cX12_qGoesOn 16 = .ok (.aload_n 0, 1) := q_aload_n0 (bat_get dg_X12_qGoesOn_7_354 32 rfl rfl)
theorem dX12_qGoesOn_17 : decode cX12_qGoesOn 17 = .ok (.invokevirtual 525, 3) := q_invokevirtual (bat_get dg_X12_qGoesOn_7_354 33 rfl rfl) rfl
theorem dX12_qGoesOn_20 : decode cX12_qGoesOn 20 = .ok (.bipush 20, 2) := q_bipush (bat_get dg_X12_qGoesOn_7_354 34 rfl rfl) rfl
theorem dX12_qGoesOn_22 : decode cX12_qGoesOn 22 = .ok (.if_icmp .eq 21, 3) := q_if_icmp_eq (bat_get dg_X12_qGoesOn_7_354 35 rfl rfl) rfl
theorem dX12_qGoesOn_43 : decode cX12_qGoesOn 43 = .ok (.aload_n 0, 1) := q_aload_n0 (bat_get dg_X12_qGoesOn_7_354 36 rfl rfl)
theorem dX12_qGoesOn_44 : decode cX12_qGoesOn 44 = .ok (.dup, 1) := q_dup (bat_get dg_X12_qGoesOn_7_354 37 rfl rfl)
theorem dX12_qGoesOn_45 : decode cX12_qGoesOn 45 = .ok (.getfield 201, 3) := q_getfield (bat_get dg_X12_qGoesOn_7_354 38 rfl rfl) rfl
theorem dX12_qGoesOn_48 : decode cX12_qGoesOn 48 = .ok (.iconst 1, 1) := q_iconst1 (bat_get dg_X12_qGoesOn_7_354 39 rfl rfl)
theorem dg_X12_qGoesOn_25_49 : bqL cX12_qGoesOn 25 [(24, [96]), (25, [181, 0, 201]), (28, [42]), (29, [182, 2, 16]), (32, [42]), (33, [89]), (34, [180, 1, 4]), (37, [4]), (38, [100]), (39, [181, 1, 4]), (42, [42]), (43, [89]), (44, [180, 1, 7]), (47, [4]), (48, [100]), (49, [181, 1, 7]), (52, [42]), (53, [180, 0, 183]), (56, [42]), (57, [180, 1, 4]), (60, [46]), (61, [16, 20]), (63, [159, 0, 27]), (90, [42]), (91, [182, 2, 10]), (94, [167, 255, 137]), (0, [42]), (1, [182, 2, 13]), (4, [16, 23]), (6, [159, 0, 12]), (66, [42]), (67, [42]), (68, [180, 0, 183]), (71, [42]), (72, [180, 1, 4]), (75, [46]), (76, [16, 23]), (78, [160, 0, 7]), (81, [8]), (82, [167, 0, 5])] = true := by decide +kernel
theorem dX12_qGoesOn_49 : decode cX12_qGoesOn 49 = .ok (.iadd, 1) := q_iadd (bat_get dg_X12_qGoesOn_25_49 0 rfl rfl)
theorem dX12_qGoesOn_50 : decode cX12_qGoesOn 50 = .ok (.putfield 201, 3) := q_putfield (bat_get dg_X12_qGoesOn_25_49 1 rfl rfl) rfl
theorem dX12_qGoesOn_53 : decode cX12_qGoesOn 53 = .ok (.aload_n 0, 1) := q_aload_n0 (bat_get dg_X12_qGoesOn_25_49 2 rfl rfl)
theorem dX12_qGoesOn_54 : decode cX12_qGoesOn 54 = .ok (.invokevirtual 528, 3) := q_invokevirtual (bat_get dg_X12_qGoesOn_25_49 3 rfl rfl) rfl
theorem dX12_qGoesOn_57 : decode cX12_qGoesOn 57 = .ok (.aload_n 0, 1) := q_aload_n0 (bat_get dg_X12_qGoesOn_25_49 4 rfl rfl)
theorem dX12_qGoesOn_58 : decode cX12_qGoesOn 58 = .ok (.dup, 1) := q_dup (bat_get dg_X12_qGoesOn_25_49 5 rfl rfl)
theorem dX12_qGoesOn_59 : decode cX12_qGoesOn 59 = .ok (.getfield 260, 3) := q_getfield (bat_get dg_X12_qGoesOn_25_49 6 rfl rfl) rfl
theorem dX12_qGoesOn_62 : decode cX12_qGoesOn 62 = .ok (.iconst 1, 1) := q_iconst1 (bat_get dg_X12_qGoesOn_25_49 7 rfl rfl)
theorem dX12_qGoesOn_63 : decode cX12_qGoesOn 63 = .ok (.isub, 1) := q_isub (bat_get dg_X12_qGoesOn_25_49 8 rfl rfl)
theorem dX12_qGoesOn_64 : decode cX12_qGoesOn 64 = .ok (.putfield 260, 3) := q_putfield (bat_get dg_X12_qGoesOn_25_49 9 rfl rfl) rfl
theorem dX12_qGoesOn_67 : decode cX12_qGoesOn 67 = .ok (.aload_n 0, 1) := q_aload_n0 (bat_get dg_X12_qGoesOn_25_49 10 rfl rfl)
theorem dX12_qGoesOn_68 : decode cX12_qGoesOn 68 = .ok (.dup, 1) := q_dup (bat_get dg_X12_qGoesOn_25_49 11 rfl rfl)
theorem dX12_qGoesOn_69 : decode cX12_qGoesOn 69 = .ok (.getfield 263, 3) := q_getfield (bat_get dg_X12_qGoesOn_25_49 12 rfl rfl) rfl
theorem dX12_qGoesOn_72 : decode cX12_qGoesOn 72 = .ok (.iconst 1, 1) := q_iconst1 (bat_get dg_X12_qGoesOn_25_49 13 rfl rfl)
theorem dX12_qGoesOn_73 : decode cX12_qGoesOn 73 = .ok (.isub, 1) := q_isub (bat_get dg_X12_qGoesOn_25_49 14 rfl rfl)
theorem dX12_qGoesOn_74 : decode cX12_qGoesOn 74 = .ok (.putfield 263, 3) := q_putfield (bat_get dg_X12_qGoesOn_25_49 15 rfl rfl) rfl
theorem dX12_qGoesOn_77 : decode cX12_qGoesOn 77 = .ok (.aload_n 0, 1) := q_aload_n0 (bat_get dg_X12_qGoesOn_25_49 16 rfl rfl)
theorem dX12_qGoesOn_78 : decode cX12_qGoesOn 78 = .ok (.getfield 183, 3) := q_getfield (bat_get dg_X12_qGoesOn_25_49 17 rfl rfl) rfl
theorem dX12_qGoesOn_81 : decode cX12_qGoesOn 81 = .ok (.aload_n 0, 1) := q_aload_n0 (bat_get dg_X12_qGoesOn_25_49 18 rfl rfl)
theorem dX12_qGoesOn_82 : decode cX12_qGoesOn 82 = .ok (.getfield 260, 3) := q_getfield (bat_get dg_X12_qGoesOn_25_49 19 rfl rfl) rfl
theorem dX12_qGoesOn_85 : decode cX12_qGoesOn 85 = .ok (.iaload, 1) := q_iaload (bat_get dg_X12_qGoesOn_25_49 20 rfl rfl)
theorem dX12_qGoesOn_86 : decode cX12_qGoesOn 86 = .ok (.bipush 20, 2) := q_bipush (bat_get dg_X12_qGoesOn_25_49 21 rfl rfl) rfl
theorem dX12_qGoesOn_88 : decode cX12_qGoesOn 88 = .ok (.if_icmp .eq 27, 3) := q_if_icmp_eq (bat_get dg_X12_qGoesOn_25_49 22 rfl rfl) rfl
theorem dX12_qGoesOn_115 : decode cX12_qGoesOn 115 = .ok (.aload_n 0, 1) := q_aload_n0 (bat_get dg_X12_qGoesOn_25_49 23 rfl rfl)
theorem dX12_qGoesOn_116 : decode cX12_qGoesOn 116 = .ok (.invokevirtual 522, 3) := q_invokevirtual (bat_get dg_X12_qGoesOn_25_49 24 rfl rfl) rfl
theorem dX12_qGoesOn_119 : decode cX12_qGoesOn 119 = .ok (.goto (-119), 3) := q_goto (bat_get dg_X12_qGoesOn_25_49 25 rfl rfl) rfl
theorem dX12_qGoesOn_25 : decode cX12_qGoesOn 25 = .ok (.aload_n 0, 1) := q_aload_n0 (bat_get dg_X12_qGoesOn_25_49 26 rfl rfl)
theorem dX12_qGoesOn_26 : decode cX12_qGoesOn 26 = .ok (.invokevirtual 525, 3) := q_invokevirtual (bat_get dg_X12_qGoesOn_25_49 27 rfl rfl) rfl
theorem dX12_qGoesOn_29 : decode cX12_qGoesOn 29 = .ok (.bipush 23, 2) := q_bipush (bat_get dg_X12_qGoesOn_25_49 28 rfl rfl) rfl
theorem dX12_qGoesOn_31 : decode cX12_qGoesOn 31 = .ok (.if_icmp .eq 12, 3) := q_if_icmp_eq (bat_get dg_X12_qGoesOn_25_49 29 rfl rfl) rfl
theorem dX12_qGoesOn_91 : decode cX12_qGoesOn 91 = .ok (.aload_n 0, 1) := q_aload_n0 (bat_get dg_X12_qGoesOn_25_49 30 rfl rfl)
theorem dX12_qGoesOn_92 : decode cX12_qGoesOn 92 = .ok (.aload_n 0, 1) := q_aload_n0 (bat_get dg_X12_qGoesOn_25_49 31 rfl rfl)
theorem dX12_qGoesOn_93 : decode cX12_qGoesOn 93 = .ok (.getfield 183, 3) := q_getfield (bat_get dg_X12_qGoesOn_25_49 32 rfl rfl) rfl
theorem dX12_qGoesOn_96 : decode cX12_qGoesOn 96 = .ok (.aload_n 0, 1) := q_aload_n0 (bat_get dg_X12_qGoesOn_25_49 33 rfl rfl)
theorem dX12_qGoesOn_97 : decode cX12_qGoesOn 97 = .ok (.getfield 260, 3) := q_getfield (bat_get dg_X12_qGoesOn_25_49 34 rfl rfl) rfl
theorem dX12_qGoesOn_100 : decode cX12_qGoesOn 100 = .ok (.iaload, 1) := q_iaload (bat_get dg_X12_qGoesOn_25_49 35 rfl rfl)
theorem dX12_qGoesOn_101 : decode cX12_qGoesOn 101 = .ok (.bipush 23, 2) := q_bipush (bat_get dg_X12_qGoesOn_25_49 36 rfl rfl) rfl
theorem dX12_qGoesOn_103 : decode cX12_qGoesOn 103 = .ok (.if_icmp .ne 7, 3) := q_if_icmp_ne (bat_get dg_X12_qGoesOn_25_49 37 rfl rfl) rfl
theorem dX12_qGoesOn_106 : decode cX12_qGoesOn 106 = .ok (.iconst 5, 1) := q_iconst5 (bat_get dg_X12_qGoesOn_25_49 38 rfl rfl)
theorem dX12_qGoesOn_107 : decode cX12_qGoesOn 107 = .ok (.goto 5, 3) := q_goto (bat_get dg_X12_qGoesOn_25_49 39 rfl rfl) rfl
theorem dg_X12_qGoesOn_34_112 : bqL cX12_qGoesOn 34 [(78, [182, 1, 242]), (0, [42]), (1, [182, 2, 13]), (4, [16, 24]), (6, [160, 0, 82]), (76, [16, 6])] = true := by decide +kernel
theorem dX12_qGoesOn_112 : decode cX12_qGoesOn 112 = .ok (.invokevirtual 498, 3) := q_invokevirtual (bat_get dg_X12_qGoesOn_34_112 0 rfl rfl) rfl
theorem dX12_qGoesOn_34 : decode cX12_qGoesOn 34 = .ok (.aload_n 0, 1) := q_aload_n0 (bat_get dg_X12_qGoesOn_34_112 1 rfl rfl)
theorem dX12_qGoesOn_35 : decode cX12_qGoesOn 35 = .ok (.invokevirtual 525, 3) := q_invokevirtual (bat_get dg_X12_qGoesOn_34_112 2 rfl rfl) rfl
theorem dX12_qGoesOn_38 : decode cX12_qGoesOn 38 = .ok (.bipush 24, 2) := q_bipush (bat_get dg_X12_qGoesOn_34_112 3 rfl rfl) rfl
theorem dX12_qGoesOn_40 : decode cX12_qGoesOn 40 = .ok (.if_icmp .ne 82, 3) := q_if_icmp_ne (bat_get dg_X12_qGoesOn_34_112 4 rfl rfl) rfl
theorem dX12_qGoesOn_110 : decode cX12_qGoesOn 110 = .ok (.bipush 6, 2) := q_bipush (bat_get dg_X12_qGoesOn_34_112 5 rfl rfl) rfl
theorem w_7_82 : (Cond.methodLink RX12 531 yX12_qIsOn) ∈ wsL_law := sk_mem (ck_7 _ (List.mem_of_getElem? (i := 82) rfl)) rfl
theorem w_7_84 : (Cond.instanceMethod yX12_qIsOn) ∈ wsL_law := sk_mem (ck_7 _ (List.mem_of_getElem? (i := 84) rfl)) rfl
theorem w_0_67 : (Cond.selects RX12 yX12_qIsOn yX12_qIsOn) ∈ wsL_law := sk_mem (ck_0 _ (List.mem_of_getElem? (i := 67) rfl)) rfl
theorem w_7_71 : (Cond.methodLink RX12 525 yX12_qBracket) ∈ wsL_law := sk_mem (ck_7 _ (List.mem_of_getElem? (i := 71) rfl)) rfl
theorem w_7_73 : (Cond.instanceMethod yX12_qBracket) ∈ wsL_law := sk_mem (ck_7 _ (List.mem_of_getElem? (i := 73) rfl)) rfl
theorem w_0_65 : (Cond.selects RX12 yX12_qBracket yX12_qBracket) ∈ wsL_law := sk_mem (ck_0 _ (List.mem_of_getElem? (i := 65) rfl)) rfl
theorem w_7_78 : (Cond.methodLink RX12 528 yX12_qDropsToBracket) ∈ wsL_law := sk_mem (ck_7 _ (List.mem_of_getElem? (i := 78) rfl)) rfl
theorem w_7_80 : (Cond.instanceMethod yX12_qDropsToBracket) ∈ wsL_law := sk_mem (ck_7 _ (List.mem_of_getElem? (i := 80) rfl)) rfl
theorem w_0_66 : (Cond.selects RX12 yX12_qDropsToBracket yX12_qDropsToBracket) ∈ wsL_law := sk_mem (ck_0 _ (List.mem_of_getElem? (i := 66) rfl)) rfl
theorem w_7_70 : (Cond.code yX12_qGoesOn cX12_qGoesOn 2 (some .boolean)) ∈ wsL_law := sk_mem (ck_7 _ (List.mem_of_getElem? (i := 70) rfl)) rfl
def om_4_b : List Bool := true :: false :: true :: true :: []
def om_4_a : List Bool := true :: false :: true :: false :: []
theorem hd_X12_qIsOn_1 : skD yX12_qIsOn 1 := by decide +kernel
theorem hd_X12_qBracket_0 : skD yX12_qBracket 0 := by decide +kernel
theorem hd_X12_qDropsToBracket_0 : skD yX12_qDropsToBracket 0 := by decide +kernel
theorem dg_X12_qSums_0_0 : bqL cX12_qSums 0 [(0, [42]), (1, [180, 1, 10]), (4, [60]), (5, [42]), (6, [42]), (7, [180, 1, 4]), (10, [181, 1, 10]), (13, [4]), (14, [61]), (15, [28]), (16, [153, 0, 37]), (53, [42]), (54, [180, 0, 195]), (57, [154, 0, 21]), (78, [42]), (79, [27]), (80, [181, 1, 10]), (83, [177]), (60, [42]), (61, [180, 1, 4]), (64, [42]), (65, [180, 1, 10]), (68, [164, 0, 10]), (71, [42]), (72, [182, 1, 248]), (75, [167, 255, 234]), (19, [42]), (20, [180, 0, 195]), (23, [154, 0, 30]), (26, [42]), (27, [182, 2, 22]), (30, [42]), (31, [180, 0, 195]), (34, [154, 0, 14]), (48, [3]), (49, [61]), (50, [167, 255, 221]), (37, [42]), (38, [182, 2, 25]), (41, [153, 0, 7])] = true := by decide +kernel
theorem dX12_qSums_0 : decode cX12_qSums 0 = .ok (.aload_n 0, 1) := q_aload_n0 (bat_get dg_X12_qSums_0_0 0 rfl rfl)
theorem dX12_qSums_1 : decode cX12_qSums 1 = .ok (.getfield 266, 3) := q_getfield (bat_get dg_X12_qSums_0_0 1 rfl rfl) rfl
theorem dX12_qSums_4 : decode cX12_qSums 4 = .ok (.istore_n 1, 1) := q_istore_n1 (bat_get dg_X12_qSums_0_0 2 rfl rfl)
theorem dX12_qSums_5 : decode cX12_qSums 5 = .ok (.aload_n 0, 1) := q_aload_n0 (bat_get dg_X12_qSums_0_0 3 rfl rfl)
theorem dX12_qSums_6 : decode cX12_qSums 6 = .ok (.aload_n 0, 1) := q_aload_n0 (bat_get dg_X12_qSums_0_0 4 rfl rfl)
theorem dX12_qSums_7 : decode cX12_qSums 7 = .ok (.getfield 260, 3) := q_getfield (bat_get dg_X12_qSums_0_0 5 rfl rfl) rfl
theorem dX12_qSums_10 : decode cX12_qSums 10 = .ok (.putfield 266, 3) := q_putfield (bat_get dg_X12_qSums_0_0 6 rfl rfl) rfl
theorem dX12_qSums_13 : decode cX12_qSums 13 = .ok (.iconst 1, 1) := q_iconst1 (bat_get dg_X12_qSums_0_0 7 rfl rfl)
theorem dX12_qSums_14 : decode cX12_qSums 14 = .ok (.istore_n 2, 1) := q_istore_n2 (bat_get dg_X12_qSums_0_0 8 rfl rfl)
theorem dX12_qSums_15 : decode cX12_qSums 15 = .ok (.iload_n 2, 1) := q_iload_n2 (bat_get dg_X12_qSums_0_0 9 rfl rfl)
theorem dX12_qSums_16 : decode cX12_qSums 16 = .ok (.ifCond .eq 37, 3) := q_ifCond_eq (bat_get dg_X12_qSums_0_0 10 rfl rfl) rfl
theorem dX12_qSums_53 : decode cX12_qSums 53 = .ok (.aload_n 0, 1) := q_aload_n0 (bat_get dg_X12_qSums_0_0 11 rfl rfl)
theorem dX12_qSums_54 : decode cX12_qSums 54 = .ok (.getfield 195, 3) := q_getfield (bat_get dg_X12_qSums_0_0 12 rfl rfl) rfl
theorem dX12_qSums_57 : decode cX12_qSums 57 = .ok (.ifCond .ne 21, 3) := q_ifCond_ne (bat_get dg_X12_qSums_0_0 13 rfl rfl) rfl
theorem dX12_qSums_78 : decode cX12_qSums 78 = .ok (.aload_n 0, 1) := q_aload_n0 (bat_get dg_X12_qSums_0_0 14 rfl rfl)
theorem dX12_qSums_79 : decode cX12_qSums 79 = .ok (.iload_n 1, 1) := q_iload_n1 (bat_get dg_X12_qSums_0_0 15 rfl rfl)
theorem dX12_qSums_80 : decode cX12_qSums 80 = .ok (.putfield 266, 3) := q_putfield (bat_get dg_X12_qSums_0_0 16 rfl rfl) rfl
theorem dX12_qSums_83 : decode cX12_qSums 83 = .ok (.return_, 1) := q_return_ (bat_get dg_X12_qSums_0_0 17 rfl rfl)
theorem dX12_qSums_60 : decode cX12_qSums 60 = .ok (.aload_n 0, 1) := q_aload_n0 (bat_get dg_X12_qSums_0_0 18 rfl rfl)
theorem dX12_qSums_61 : decode cX12_qSums 61 = .ok (.getfield 260, 3) := q_getfield (bat_get dg_X12_qSums_0_0 19 rfl rfl) rfl
theorem dX12_qSums_64 : decode cX12_qSums 64 = .ok (.aload_n 0, 1) := q_aload_n0 (bat_get dg_X12_qSums_0_0 20 rfl rfl)
theorem dX12_qSums_65 : decode cX12_qSums 65 = .ok (.getfield 266, 3) := q_getfield (bat_get dg_X12_qSums_0_0 21 rfl rfl) rfl
theorem dX12_qSums_68 : decode cX12_qSums 68 = .ok (.if_icmp .le 10, 3) := q_if_icmp_le (bat_get dg_X12_qSums_0_0 22 rfl rfl) rfl
theorem dX12_qSums_71 : decode cX12_qSums 71 = .ok (.aload_n 0, 1) := q_aload_n0 (bat_get dg_X12_qSums_0_0 23 rfl rfl)
theorem dX12_qSums_72 : decode cX12_qSums 72 = .ok (.invokevirtual 504, 3) := q_invokevirtual (bat_get dg_X12_qSums_0_0 24 rfl rfl) rfl
theorem dX12_qSums_75 : decode cX12_qSums 75 = .ok (.goto (-22), 3) := q_goto (bat_get dg_X12_qSums_0_0 25 rfl rfl) rfl
theorem dX12_qSums_19 : decode cX12_qSums 19 = .ok (.aload_n 0, 1) := q_aload_n0 (bat_get dg_X12_qSums_0_0 26 rfl rfl)
theorem dX12_qSums_20 : decode cX12_qSums 20 = .ok (.getfield 195, 3) := q_getfield (bat_get dg_X12_qSums_0_0 27 rfl rfl) rfl
theorem dX12_qSums_23 : decode cX12_qSums 23 = .ok (.ifCond .ne 30, 3) := q_ifCond_ne (bat_get dg_X12_qSums_0_0 28 rfl rfl) rfl
theorem dX12_qSums_26 : decode cX12_qSums 26 = .ok (.aload_n 0, 1) := q_aload_n0 (bat_get dg_X12_qSums_0_0 29 rfl rfl)
theorem dX12_qSums_27 : decode cX12_qSums 27 = .ok (.invokevirtual 534, 3) := q_invokevirtual (bat_get dg_X12_qSums_0_0 30 rfl rfl) rfl
theorem dX12_qSums_30 : decode cX12_qSums 30 = .ok (.aload_n 0, 1) := q_aload_n0 (bat_get dg_X12_qSums_0_0 31 rfl rfl)
theorem dX12_qSums_31 : decode cX12_qSums 31 = .ok (.getfield 195, 3) := q_getfield (bat_get dg_X12_qSums_0_0 32 rfl rfl) rfl
theorem dX12_qSums_34 : decode cX12_qSums 34 = .ok (.ifCond .ne 14, 3) := q_ifCond_ne (bat_get dg_X12_qSums_0_0 33 rfl rfl) rfl
theorem dX12_qSums_48 : decode cX12_qSums 48 = .ok (.iconst 0, 1) := q_iconst0 (bat_get dg_X12_qSums_0_0 34 rfl rfl)
theorem dX12_qSums_49 : decode cX12_qSums 49 = .ok (.istore_n 2, 1) := q_istore_n2 (bat_get dg_X12_qSums_0_0 35 rfl rfl)
theorem dX12_qSums_50 : decode cX12_qSums 50 = .ok (.goto (-35), 3) := q_goto (bat_get dg_X12_qSums_0_0 36 rfl rfl) rfl
theorem dX12_qSums_37 : decode cX12_qSums 37 = .ok (.aload_n 0, 1) := q_aload_n0 (bat_get dg_X12_qSums_0_0 37 rfl rfl)
theorem dX12_qSums_38 : decode cX12_qSums 38 = .ok (.invokevirtual 537, 3) := q_invokevirtual (bat_get dg_X12_qSums_0_0 38 rfl rfl) rfl
theorem dX12_qSums_41 : decode cX12_qSums 41 = .ok (.ifCond .eq 7, 3) := q_ifCond_eq (bat_get dg_X12_qSums_0_0 39 rfl rfl) rfl
theorem dg_X12_qSums_44_44 : bqL cX12_qSums 44 [(0, [4]), (1, [167, 0, 4])] = true := by decide +kernel
theorem dX12_qSums_44 : decode cX12_qSums 44 = .ok (.iconst 1, 1) := q_iconst1 (bat_get dg_X12_qSums_44_44 0 rfl rfl)
theorem dX12_qSums_45 : decode cX12_qSums 45 = .ok (.goto 4, 3) := q_goto (bat_get dg_X12_qSums_44_44 1 rfl rfl) rfl
theorem w_7_31 : (Cond.methodLink RX12 534 yX12_qPartTold) ∈ wsL_law := sk_mem (ck_7 _ (List.mem_of_getElem? (i := 31) rfl)) rfl
theorem w_7_33 : (Cond.instanceMethod yX12_qPartTold) ∈ wsL_law := sk_mem (ck_7 _ (List.mem_of_getElem? (i := 33) rfl)) rfl
theorem w_0_55 : (Cond.selects RX12 yX12_qPartTold yX12_qPartTold) ∈ wsL_law := sk_mem (ck_0 _ (List.mem_of_getElem? (i := 55) rfl)) rfl
theorem w_7_67 : (Cond.methodLink RX12 537 yX12_qGoesOn) ∈ wsL_law := sk_mem (ck_7 _ (List.mem_of_getElem? (i := 67) rfl)) rfl
theorem w_7_69 : (Cond.instanceMethod yX12_qGoesOn) ∈ wsL_law := sk_mem (ck_7 _ (List.mem_of_getElem? (i := 69) rfl)) rfl
theorem w_0_64 : (Cond.selects RX12 yX12_qGoesOn yX12_qGoesOn) ∈ wsL_law := sk_mem (ck_0 _ (List.mem_of_getElem? (i := 64) rfl)) rfl
theorem w_7_30 : (Cond.code yX12_qSums cX12_qSums 3 none) ∈ wsL_law := sk_mem (ck_7 _ (List.mem_of_getElem? (i := 30) rfl)) rfl
def om_17_1e000 : List Bool := true :: true :: true :: true :: false :: false :: false :: false :: false :: false :: false :: false :: false :: false :: false :: false :: false :: []
theorem hd_X12_qPartTold_0 : skD yX12_qPartTold 0 := by decide +kernel
theorem hd_X12_qGoesOn_0 : skD yX12_qGoesOn 0 := by decide +kernel
