theorem dg_X12_on_0_0 : bqL cX12_on 0 [(0, [42]), (1, [180, 0, 192]), (4, [60]), (5, [42]), (6, [3]), (7, [181, 0, 192]), (10, [42]), (11, [27]), (12, [182, 2, 93]), (15, [154, 0, 15]), (30, [42]), (31, [180, 0, 63]), (34, [3]), (35, [17, 1, 0]), (38, [42]), (39, [180, 0, 7]), (42, [3]), (43, [46]), (44, [104]), (45, [42]), (46, [180, 0, 7]), (49, [4]), (50, [46]), (51, [96]), (52, [79]), (53, [42]), (54, [180, 0, 63]), (57, [4]), (58, [42]), (59, [180, 0, 7]), (62, [5]), (63, [46]), (64, [79]), (65, [3]), (66, [61]), (67, [28]), (68, [6]), (69, [42]), (70, [182, 1, 59]), (73, [104])] = true := by decide +kernel
theorem dX12_on_0 : decode cX12_on 0 = .ok (.aload_n 0, 1) := q_aload_n0 (bat_get dg_X12_on_0_0 0 rfl rfl)
theorem dX12_on_1 : decode cX12_on 1 = .ok (.getfield 192, 3) := q_getfield (bat_get dg_X12_on_0_0 1 rfl rfl) rfl
theorem dX12_on_4 : decode cX12_on 4 = .ok (.istore_n 1, 1) := q_istore_n1 (bat_get dg_X12_on_0_0 2 rfl rfl)
theorem dX12_on_5 : decode cX12_on 5 = .ok (.aload_n 0, 1) := q_aload_n0 (bat_get dg_X12_on_0_0 3 rfl rfl)
theorem dX12_on_6 : decode cX12_on 6 = .ok (.iconst 0, 1) := q_iconst0 (bat_get dg_X12_on_0_0 4 rfl rfl)
theorem dX12_on_7 : decode cX12_on 7 = .ok (.putfield 192, 3) := q_putfield (bat_get dg_X12_on_0_0 5 rfl rfl) rfl
theorem dX12_on_10 : decode cX12_on 10 = .ok (.aload_n 0, 1) := q_aload_n0 (bat_get dg_X12_on_0_0 6 rfl rfl)
theorem dX12_on_11 : decode cX12_on 11 = .ok (.iload_n 1, 1) := q_iload_n1 (bat_get dg_X12_on_0_0 7 rfl rfl)
theorem dX12_on_12 : decode cX12_on 12 = .ok (.invokevirtual 605, 3) := q_invokevirtual (bat_get dg_X12_on_0_0 8 rfl rfl) rfl
theorem dX12_on_15 : decode cX12_on 15 = .ok (.ifCond .ne 15, 3) := q_ifCond_ne (bat_get dg_X12_on_0_0 9 rfl rfl) rfl
theorem dX12_on_30 : decode cX12_on 30 = .ok (.aload_n 0, 1) := q_aload_n0 (bat_get dg_X12_on_0_0 10 rfl rfl)
theorem dX12_on_31 : decode cX12_on 31 = .ok (.getfield 63, 3) := q_getfield (bat_get dg_X12_on_0_0 11 rfl rfl) rfl
theorem dX12_on_34 : decode cX12_on 34 = .ok (.iconst 0, 1) := q_iconst0 (bat_get dg_X12_on_0_0 12 rfl rfl)
theorem dX12_on_35 : decode cX12_on 35 = .ok (.sipush 256, 3) := q_sipush (bat_get dg_X12_on_0_0 13 rfl rfl) rfl
theorem dX12_on_38 : decode cX12_on 38 = .ok (.aload_n 0, 1) := q_aload_n0 (bat_get dg_X12_on_0_0 14 rfl rfl)
theorem dX12_on_39 : decode cX12_on 39 = .ok (.getfield 7, 3) := q_getfield (bat_get dg_X12_on_0_0 15 rfl rfl) rfl
theorem dX12_on_42 : decode cX12_on 42 = .ok (.iconst 0, 1) := q_iconst0 (bat_get dg_X12_on_0_0 16 rfl rfl)
theorem dX12_on_43 : decode cX12_on 43 = .ok (.iaload, 1) := q_iaload (bat_get dg_X12_on_0_0 17 rfl rfl)
theorem dX12_on_44 : decode cX12_on 44 = .ok (.imul, 1) := q_imul (bat_get dg_X12_on_0_0 18 rfl rfl)
theorem dX12_on_45 : decode cX12_on 45 = .ok (.aload_n 0, 1) := q_aload_n0 (bat_get dg_X12_on_0_0 19 rfl rfl)
theorem dX12_on_46 : decode cX12_on 46 = .ok (.getfield 7, 3) := q_getfield (bat_get dg_X12_on_0_0 20 rfl rfl) rfl
theorem dX12_on_49 : decode cX12_on 49 = .ok (.iconst 1, 1) := q_iconst1 (bat_get dg_X12_on_0_0 21 rfl rfl)
theorem dX12_on_50 : decode cX12_on 50 = .ok (.iaload, 1) := q_iaload (bat_get dg_X12_on_0_0 22 rfl rfl)
theorem dX12_on_51 : decode cX12_on 51 = .ok (.iadd, 1) := q_iadd (bat_get dg_X12_on_0_0 23 rfl rfl)
theorem dX12_on_52 : decode cX12_on 52 = .ok (.iastore, 1) := q_iastore (bat_get dg_X12_on_0_0 24 rfl rfl)
theorem dX12_on_53 : decode cX12_on 53 = .ok (.aload_n 0, 1) := q_aload_n0 (bat_get dg_X12_on_0_0 25 rfl rfl)
theorem dX12_on_54 : decode cX12_on 54 = .ok (.getfield 63, 3) := q_getfield (bat_get dg_X12_on_0_0 26 rfl rfl) rfl
theorem dX12_on_57 : decode cX12_on 57 = .ok (.iconst 1, 1) := q_iconst1 (bat_get dg_X12_on_0_0 27 rfl rfl)
theorem dX12_on_58 : decode cX12_on 58 = .ok (.aload_n 0, 1) := q_aload_n0 (bat_get dg_X12_on_0_0 28 rfl rfl)
theorem dX12_on_59 : decode cX12_on 59 = .ok (.getfield 7, 3) := q_getfield (bat_get dg_X12_on_0_0 29 rfl rfl) rfl
theorem dX12_on_62 : decode cX12_on 62 = .ok (.iconst 2, 1) := q_iconst2 (bat_get dg_X12_on_0_0 30 rfl rfl)
theorem dX12_on_63 : decode cX12_on 63 = .ok (.iaload, 1) := q_iaload (bat_get dg_X12_on_0_0 31 rfl rfl)
theorem dX12_on_64 : decode cX12_on 64 = .ok (.iastore, 1) := q_iastore (bat_get dg_X12_on_0_0 32 rfl rfl)
theorem dX12_on_65 : decode cX12_on 65 = .ok (.iconst 0, 1) := q_iconst0 (bat_get dg_X12_on_0_0 33 rfl rfl)
theorem dX12_on_66 : decode cX12_on 66 = .ok (.istore_n 2, 1) := q_istore_n2 (bat_get dg_X12_on_0_0 34 rfl rfl)
theorem dX12_on_67 : decode cX12_on 67 = .ok (.iload_n 2, 1) := q_iload_n2 (bat_get dg_X12_on_0_0 35 rfl rfl)
theorem dX12_on_68 : decode cX12_on 68 = .ok (.iconst 3, 1) := q_iconst3 (bat_get dg_X12_on_0_0 36 rfl rfl)
theorem dX12_on_69 : decode cX12_on 69 = .ok (.aload_n 0, 1) := q_aload_n0 (bat_get dg_X12_on_0_0 37 rfl rfl)
theorem dX12_on_70 : decode cX12_on 70 = .ok (.invokevirtual 315, 3) := q_invokevirtual (bat_get dg_X12_on_0_0 38 rfl rfl) rfl
theorem dX12_on_73 : decode cX12_on 73 = .ok (.imul, 1) := q_imul (bat_get dg_X12_on_0_0 39 rfl rfl)
theorem dg_X12_on_18_74 : bqL cX12_on 18 [(56, [162, 0, 25]), (81, [42]), (82, [180, 0, 63]), (85, [16, 29]), (87, [3]), (88, [79]), (89, [42]), (90, [3]), (91, [181, 1, 53]), (94, [4]), (95, [172]), (59, [42]), (60, [180, 0, 63]), (63, [5]), (64, [28]), (65, [96]), (66, [42]), (67, [180, 0, 7]), (70, [6]), (71, [28]), (72, [96]), (73, [46]), (74, [79]), (75, [132, 2, 1]), (78, [167, 255, 227]), (0, [42]), (1, [180, 0, 17]), (4, [8]), (5, [92]), (6, [46]), (7, [4]), (8, [96]), (9, [79]), (10, [3]), (11, [172])] = true := by decide +kernel
theorem dX12_on_74 : decode cX12_on 74 = .ok (.if_icmp .ge 25, 3) := q_if_icmp_ge (bat_get dg_X12_on_18_74 0 rfl rfl) rfl
theorem dX12_on_99 : decode cX12_on 99 = .ok (.aload_n 0, 1) := q_aload_n0 (bat_get dg_X12_on_18_74 1 rfl rfl)
theorem dX12_on_100 : decode cX12_on 100 = .ok (.getfield 63, 3) := q_getfield (bat_get dg_X12_on_18_74 2 rfl rfl) rfl
theorem dX12_on_103 : decode cX12_on 103 = .ok (.bipush 29, 2) := q_bipush (bat_get dg_X12_on_18_74 3 rfl rfl) rfl
theorem dX12_on_105 : decode cX12_on 105 = .ok (.iconst 0, 1) := q_iconst0 (bat_get dg_X12_on_18_74 4 rfl rfl)
theorem dX12_on_106 : decode cX12_on 106 = .ok (.iastore, 1) := q_iastore (bat_get dg_X12_on_18_74 5 rfl rfl)
theorem dX12_on_107 : decode cX12_on 107 = .ok (.aload_n 0, 1) := q_aload_n0 (bat_get dg_X12_on_18_74 6 rfl rfl)
theorem dX12_on_108 : decode cX12_on 108 = .ok (.iconst 0, 1) := q_iconst0 (bat_get dg_X12_on_18_74 7 rfl rfl)
theorem dX12_on_109 : decode cX12_on 109 = .ok (.putfield 309, 3) := q_putfield (bat_get dg_X12_on_18_74 8 rfl rfl) rfl
theorem dX12_on_112 : decode cX12_on 112 = .ok (.iconst 1, 1) := q_iconst1 (bat_get dg_X12_on_18_74 9 rfl rfl)
theorem dX12_on_113 : decode cX12_on 113 = .ok (.ireturn, 1) := q_ireturn (bat_get dg_X12_on_18_74 10 rfl rfl)
theorem dX12_on_77 : decode cX12_on 77 = .ok (.aload_n 0, 1) := q_aload_n0 (bat_get dg_X12_on_18_74 11 rfl rfl)
theorem dX12_on_78 : decode cX12_on 78 = .ok (.getfield 63, 3) := q_getfield (bat_get dg_X12_on_18_74 12 rfl rfl) rfl
theorem dX12_on_81 : decode cX12_on 81 = .ok (.iconst 2, 1) := q_iconst2 (bat_get dg_X12_on_18_74 13 rfl rfl)
theorem dX12_on_82 : decode cX12_on 82 = .ok (.iload_n 2, 1) := q_iload_n2 (bat_get dg_X12_on_18_74 14 rfl rfl)
theorem dX12_on_83 : decode cX12_on 83 = .ok (.iadd, 1) := q_iadd (bat_get dg_X12_on_18_74 15 rfl rfl)
theorem dX12_on_84 : decode cX12_on 84 = .ok (.aload_n 0, 1) := q_aload_n0 (bat_get dg_X12_on_18_74 16 rfl rfl)
theorem dX12_on_85 : decode cX12_on 85 = .ok (.getfield 7, 3) := q_getfield (bat_get dg_X12_on_18_74 17 rfl rfl) rfl
theorem dX12_on_88 : decode cX12_on 88 = .ok (.iconst 3, 1) := q_iconst3 (bat_get dg_X12_on_18_74 18 rfl rfl)
theorem dX12_on_89 : decode cX12_on 89 = .ok (.iload_n 2, 1) := q_iload_n2 (bat_get dg_X12_on_18_74 19 rfl rfl)
theorem dX12_on_90 : decode cX12_on 90 = .ok (.iadd, 1) := q_iadd (bat_get dg_X12_on_18_74 20 rfl rfl)
theorem dX12_on_91 : decode cX12_on 91 = .ok (.iaload, 1) := q_iaload (bat_get dg_X12_on_18_74 21 rfl rfl)
theorem dX12_on_92 : decode cX12_on 92 = .ok (.iastore, 1) := q_iastore (bat_get dg_X12_on_18_74 22 rfl rfl)
theorem dX12_on_93 : decode cX12_on 93 = .ok (.iinc 2 1, 3) := q_iinc (bat_get dg_X12_on_18_74 23 rfl rfl) rfl
theorem dX12_on_96 : decode cX12_on 96 = .ok (.goto (-29), 3) := q_goto (bat_get dg_X12_on_18_74 24 rfl rfl) rfl
theorem dX12_on_18 : decode cX12_on 18 = .ok (.aload_n 0, 1) := q_aload_n0 (bat_get dg_X12_on_18_74 25 rfl rfl)
theorem dX12_on_19 : decode cX12_on 19 = .ok (.getfield 17, 3) := q_getfield (bat_get dg_X12_on_18_74 26 rfl rfl) rfl
theorem dX12_on_22 : decode cX12_on 22 = .ok (.iconst 5, 1) := q_iconst5 (bat_get dg_X12_on_18_74 27 rfl rfl)
theorem dX12_on_23 : decode cX12_on 23 = .ok (.dup2, 1) := q_dup2 (bat_get dg_X12_on_18_74 28 rfl rfl)
theorem dX12_on_24 : decode cX12_on 24 = .ok (.iaload, 1) := q_iaload (bat_get dg_X12_on_18_74 29 rfl rfl)
theorem dX12_on_25 : decode cX12_on 25 = .ok (.iconst 1, 1) := q_iconst1 (bat_get dg_X12_on_18_74 30 rfl rfl)
theorem dX12_on_26 : decode cX12_on 26 = .ok (.iadd, 1) := q_iadd (bat_get dg_X12_on_18_74 31 rfl rfl)
theorem dX12_on_27 : decode cX12_on 27 = .ok (.iastore, 1) := q_iastore (bat_get dg_X12_on_18_74 32 rfl rfl)
theorem dX12_on_28 : decode cX12_on 28 = .ok (.iconst 0, 1) := q_iconst0 (bat_get dg_X12_on_18_74 33 rfl rfl)
theorem dX12_on_29 : decode cX12_on 29 = .ok (.ireturn, 1) := q_ireturn (bat_get dg_X12_on_18_74 34 rfl rfl)
theorem w_8_222 : (Cond.methodLink RX12 605 yX12_isImage) ∈ wsL_law := sk_mem (ck_8 _ (List.mem_of_getElem? (i := 222) rfl)) rfl
theorem w_8_224 : (Cond.instanceMethod yX12_isImage) ∈ wsL_law := sk_mem (ck_8 _ (List.mem_of_getElem? (i := 224) rfl)) rfl
theorem w_0_120 : (Cond.selects RX12 yX12_isImage yX12_isImage) ∈ wsL_law := sk_mem (ck_0 _ (List.mem_of_getElem? (i := 120) rfl)) rfl
theorem w_8_221 : (Cond.code yX12_on cX12_on 3 (some .boolean)) ∈ wsL_law := sk_mem (ck_8 _ (List.mem_of_getElem? (i := 221) rfl)) rfl
def om_6_34 : List Bool := true :: true :: false :: true :: false :: false :: []
theorem hd_X12_isImage_1 : skD yX12_isImage 1 := by decide +kernel
set_option maxHeartbeats 4000000 in
set_option maxRecDepth 100000 in
theorem c_nm_on (l : Launch) (D : va_G) (cI cJ cC cZ cS : ClassId) (mm : Nat) (g : Nat → Nat) (ta : Nat) (pa : Nat) (pe : Nat) (pd : Int32) (pb : Nat) (pp : Int32) (pf : Int32) (pg : Int32) (pn : Int32) (rt : Int32) (rn : Int32) (cd : Nat) (sn : Int32) (il : Nat) (tk : Int32) (am : Int32) (at_ : Int32) (aa : Int32) (wt : Int32) (wy : Int64) (rm : Nat) (ud : Nat) (nu : Nat) (sd : Int64) (qn : Nat) (qw : Nat) (qo : Int32) (qb : Nat) (qp : Nat) (qa : Int64) (qi : Nat) (oc : Nat) (l0 : Nat) (l1 : Nat) (dm : Nat) (l3 : Nat) (nw : Nat → Int32) (tb : Nat → Nat) (kp : Nat → Int32) (rf : Nat → Int32) (wn : Nat) (mN : Nat) (Ba : Nat → Nat) (We : Nat → Nat) (U : Nat → Bool) (ke : Nat) (lg : KLg) (su : Nat → KN) (hil : il ≤ 1) (hild : il = 1 → 1 ≤ dm) (hilb : 1 ≤ dm → il = 1) (hdm : dm ≤ 9) (hta : ta ≤ 1600) (hnu : nu < 20) (hud : ud ≤ 20) (hUd : ∀ j, U j = true → j < dm) (hnw : nwX wn mN Ba We U ke lg nw) (htb : ∀ j, tb j ≤ 255) (hkp : kpX ud nu su lg kp) : skM l yX12_on cX12_on 3 (some .boolean) 2 45 0 0 D (skT cI cJ cC cZ cS) [.ref mm] [(mm, .inr (12, mo g (nI ta) (nI pa) (nI pe) pd (nI pb) pp pf pg pn rt rn (nI cd) sn (nI il) tk am at_ aa 0 0 (-1) wt wy 0 (nI rm) (nI ud) (nI nu) sd (nI qn) (nI qw) qo (nI qb) (nI qp) qa (nI qi) (nI oc))), (g 20, .inl (cI, 4, .inl (l4 (nI l0) (nI l1) (nI dm) (nI l3)))), (g 31, .inl (cI, 120, .inl nw)), (g 0, .inl (cI, 1600, .inl (fun j => nI (tb j)))), (g 54, .inl (cI, 2400, .inl kp)), (g 9, .inl (cI, 6, .inl rf))] (skI D (skT cI cJ cC cZ cS) (fun (r : Int32) (u : va_W) => ∃ (wn2 : Nat), ∃ (mo2 : Nat), ∃ (Ba2 : Nat → Nat), ∃ (We2 : Nat → Nat), ∃ (U2 : Nat → Bool), ∃ (ke2 : Nat), ∃ (b : Nat), ∃ (nw2 : Nat → Int32), ∃ (kp2 : Nat → Int32), ∃ (ud2 : Nat), ∃ (rf2 : Nat → Int32), nwX wn2 mo2 Ba2 We2 U2 ke2 lg nw2 ∧ kpX ud2 nu su lg kp2 ∧ ud2 ≤ 20 ∧ onR dm tb ta (wn, mN, Ba, We, U, ke) ud rf (nI b) (wn2, mo2, Ba2, We2, U2, ke2) ud2 rf2 ∧ r = nI b ∧ u = [(mm, .inr (12, mo g 0 (nI pa) (nI pe) pd (nI pb) pp pf pg pn rt rn (nI cd) sn (nI il) tk am at_ aa 0 0 (-1) wt wy 0 (nI rm) (nI ud2) (nI nu) sd (nI qn) (nI qw) qo (nI qb) (nI qp) qa (nI qi) (nI oc))), (g 20, .inl (cI, 4, .inl (l4 (nI l0) (nI l1) (nI dm) (nI l3)))), (g 31, .inl (cI, 120, .inl nw2)), (g 0, .inl (cI, 1600, .inl (fun j => nI (tb j)))), (g 54, .inl (cI, 2400, .inl kp2)), (g 9, .inl (cI, 6, .inl rf2))])) := by
  refine skM_of pf_X12_on (Nat.le_of_ble_eq_true rfl) ?_
  intro p e s m below meth c A ls E hP hD hl
  refine skE_el E (fun hx hb hr hml hlocks hin hown hts hK hA => ?_)
  have hown : s.vm.findClass RX12 = some m.cls := hown
  have hS : va_S A s.heap s.heap [] := va_S.rf
  have hl : lv_has ls 3 [(0, .ref mm)] := hl
  refine lv_aload_n hx hb dX12_on_0 rfl (lv_at hl 0 rfl) ?_
  refine sk_get (v := .int (nI ta)) (C := RX12) (T := TX12) (N := 92) hx hb hts inlX12 hown hK hP 0 rfl rfl 1 (by decide) w_5_156 rfl dX12_on_1 ?_
  refine lv_istore_n (lv' := [(1, .int (nI ta)), (0, .ref mm)]) hx hb dX12_on_4 rfl hl (by decide) rfl (fun ls hl => ?_)
  refine lv_aload_n hx hb dX12_on_5 rfl (lv_at hl 1 rfl) ?_
  refine lv_iconst (v := 0) hx hb dX12_on_6 (by decide) ?_
  refine sk_put (ws' := [(mm, .inr (12, mo g 0 (nI pa) (nI pe) pd (nI pb) pp pf pg pn rt rn (nI cd) sn (nI il) tk am at_ aa 0 0 (-1) wt wy 0 (nI rm) (nI ud) (nI nu) sd (nI qn) (nI qw) qo (nI qb) (nI qp) qa (nI qi) (nI oc))), (g 20, .inl (cI, 4, .inl (l4 (nI l0) (nI l1) (nI dm) (nI l3)))), (g 31, .inl (cI, 120, .inl nw)), (g 0, .inl (cI, 1600, .inl (fun j => nI (tb j)))), (g 54, .inl (cI, 2400, .inl kp)), (g 9, .inl (cI, 6, .inl rf))]) (C := RX12) (T := TX12) (N := 92) (v := .int 0) hx hb hts inlX12 tyX12 tyX12_ok nmX12 hown hK hP hD hS 0 rfl rfl 1 (by decide) w_5_156 rfl rfl rfl (Nat.le_of_ble_eq_true rfl) rfl dX12_on_7 (fun H locs hP hD hS => ?_)
  refine lv_aload_n hx hb dX12_on_10 rfl (lv_at hl 1 rfl) ?_
  refine lv_iload_n hx hb dX12_on_11 rfl (lv_at hl 0 rfl) ?_
  refine sk_Vi (q0 := 0) (n := 1) (rest := []) (wr := fmR om_6_34 _) ⟨hx, hb, hml, hown, hts⟩ hl.1 (c_m_isImage l D cI cJ cC cZ cS mm g 0 pa pe pd pb pp pf pg pn rt rn cd sn il tk am at_ aa wt wy rm ud nu sd qn qw qo qb qp qa qi oc ta l0 l1 dm l3 tb (by omega) (by omega) (by omega) (by omega) htb) w_8_222 w_8_224 w_0_120 w_1_14 w_8_225 hd_X12_isImage_1 ⟨⟨(Nat.le_of_ble_eq_true rfl), (Nat.le_of_ble_eq_true rfl)⟩, (Nat.le_of_ble_eq_true rfl), (Nat.le_of_ble_eq_true rfl)⟩ hK hP hD hS hA (fmT om_6_34 0) (fmF om_6_34 0) (fm_C1 rfl rfl) (fm_R rfl rfl) (fm_nT om_6_34 0) (fm_nF om_6_34 0) (fm_di om_6_34 0) rfl rfl rfl rfl (Nat.le_of_ble_eq_true rfl) dX12_on_12 (fun r_2 u H locs hw hP hD hS => ?_)
  refine exE hw (fun b_1 hw1 => anE hw1 (fun hb1_3 hw2 => anE hw2 (fun himg_4 hw3 => anE hw3 (fun er_6 eu_5 => ?_))))
  clear hw hw1 hw2 hw3
  subst er_6
  refine o_mgE (ws' := [(mm, .inr (12, mo g 0 (nI pa) (nI pe) pd (nI pb) pp pf pg pn rt rn (nI cd) sn (nI il) tk am at_ aa 0 0 (-1) wt wy 0 (nI rm) (nI ud) (nI nu) sd (nI qn) (nI qw) qo (nI qb) (nI qp) qa (nI qi) (nI oc))), (g 20, .inl (cI, 4, .inl (l4 (nI l0) (nI l1) (nI dm) (nI l3)))), (g 31, .inl (cI, 120, .inl nw)), (g 0, .inl (cI, 1600, .inl (fun j => nI (tb j)))), (g 54, .inl (cI, 2400, .inl kp)), (g 9, .inl (cI, 6, .inl rf))]) eu_5 hP hD rfl (fun hP hD => ?_)
  refine lv_if_ne (tgt := 30) hx hb dX12_on_15 (by decide) (fun c_7 => ?_) (fun c_7 => ?_)
  · have c_7 : ¬ (b_1 = 0) := fun h => c_7 ((neq b_1 0 (by omega) (by omega)).mpr h)
    have hcc := rr_1 himg_4 (by omega)
    refine lv_aload_n hx hb dX12_on_30 rfl (lv_at hl 1 rfl) ?_
    refine sk_get (v := .ref (g 31)) (C := RX12) (T := TX12) (N := 92) hx hb hts inlX12 hown hK hP 0 rfl rfl 31 (by decide) w_5_186 rfl dX12_on_31 ?_
    refine lv_iconst (v := 0) hx hb dX12_on_34 (by decide) ?_
    refine lv_sipush (v := 256) hx hb dX12_on_35 (by decide) ?_
    refine lv_aload_n hx hb dX12_on_38 rfl (lv_at hl 1 rfl) ?_
    refine sk_get (v := .ref (g 0)) (C := RX12) (T := TX12) (N := 92) hx hb hts inlX12 hown hK hP 0 rfl rfl 0 (by decide) w_5_155 rfl dX12_on_39 ?_
    refine lv_iconst (v := 0) hx hb dX12_on_42 (by decide) ?_
    refine va_iald hx hb hK.1 hP 3 0 rfl rfl (by unfold vp_in; decide) dX12_on_43 ?_
    refine sk_top (nI (tb 0)) (nrd tb 0 (by omega)) ?_
    have hb_8 := htb 0
    refine lv_imul hx hb dX12_on_44 ?_
    refine sk_top (nI (256 * (tb 0))) (nmul 256 (tb 0)) ?_
    refine lv_aload_n hx hb dX12_on_45 rfl (lv_at hl 1 rfl) ?_
    refine sk_get (v := .ref (g 0)) (C := RX12) (T := TX12) (N := 92) hx hb hts inlX12 hown hK hP 0 rfl rfl 0 (by decide) w_5_155 rfl dX12_on_46 ?_
    refine lv_iconst (v := 1) hx hb dX12_on_49 (by decide) ?_
    refine va_iald hx hb hK.1 hP 3 0 rfl rfl (by unfold vp_in; decide) dX12_on_50 ?_
    refine sk_top (nI (tb 1)) (nrd tb 1 (by omega)) ?_
    have hb_9 := htb 1
    refine lv_iadd hx hb dX12_on_51 ?_
    refine sk_top (nI (256 * (tb 0) + (tb 1))) (nI_add (256 * (tb 0)) (tb 1)) ?_
    refine sk_iastE (k := 0) (x := (nI (256 * (tb 0) + (tb 1)))) (ws' := fun f_10 => [(mm, .inr (12, mo g 0 (nI pa) (nI pe) pd (nI pb) pp pf pg pn rt rn (nI cd) sn (nI il) tk am at_ aa 0 0 (-1) wt wy 0 (nI rm) (nI ud) (nI nu) sd (nI qn) (nI qw) qo (nI qb) (nI qp) qa (nI qi) (nI oc))), (g 20, .inl (cI, 4, .inl (l4 (nI l0) (nI l1) (nI dm) (nI l3)))), (g 31, .inl (cI, 120, .inl f_10)), (g 0, .inl (cI, 1600, .inl (fun j => nI (tb j)))), (g 54, .inl (cI, 2400, .inl kp)), (g 9, .inl (cI, 6, .inl rf))]) hx hb hK hP hD hS 2 0 rfl rfl (by omega) (by omega) (fun _ => rfl) dX12_on_52 (fun f_10 H locs ef_11 hP hD hS => ?_)
    have hq0 := nwX_up0 hnw ef_11
    refine lv_aload_n hx hb dX12_on_53 rfl (lv_at hl 1 rfl) ?_
    refine sk_get (v := .ref (g 31)) (C := RX12) (T := TX12) (N := 92) hx hb hts inlX12 hown hK hP 0 rfl rfl 31 (by decide) w_5_186 rfl dX12_on_54 ?_
    refine lv_iconst (v := 1) hx hb dX12_on_57 (by decide) ?_
    refine lv_aload_n hx hb dX12_on_58 rfl (lv_at hl 1 rfl) ?_
    refine sk_get (v := .ref (g 0)) (C := RX12) (T := TX12) (N := 92) hx hb hts inlX12 hown hK hP 0 rfl rfl 0 (by decide) w_5_155 rfl dX12_on_59 ?_
    refine lv_iconst (v := 2) hx hb dX12_on_62 (by decide) ?_
    refine va_iald hx hb hK.1 hP 3 0 rfl rfl (by unfold vp_in; decide) dX12_on_63 ?_
    refine sk_top (nI (tb 2)) (nrd tb 2 (by omega)) ?_
    have hb_12 := htb 2
    refine sk_iastE (k := 1) (x := (nI (tb 2))) (ws' := fun f_13 => [(mm, .inr (12, mo g 0 (nI pa) (nI pe) pd (nI pb) pp pf pg pn rt rn (nI cd) sn (nI il) tk am at_ aa 0 0 (-1) wt wy 0 (nI rm) (nI ud) (nI nu) sd (nI qn) (nI qw) qo (nI qb) (nI qp) qa (nI qi) (nI oc))), (g 20, .inl (cI, 4, .inl (l4 (nI l0) (nI l1) (nI dm) (nI l3)))), (g 31, .inl (cI, 120, .inl f_13)), (g 0, .inl (cI, 1600, .inl (fun j => nI (tb j)))), (g 54, .inl (cI, 2400, .inl kp)), (g 9, .inl (cI, 6, .inl rf))]) hx hb hK hP hD hS 2 0 rfl rfl (by omega) (by omega) (fun _ => rfl) dX12_on_64 (fun f_13 H locs ef_14 hP hD hS => ?_)
    have hq1 := nwX_up1 hq0 ef_14 (by have h9 := (hcc.2.2.2.2 2 (by omega) (by omega)).1; omega)
    refine lv_iconst (v := 0) hx hb dX12_on_65 (by decide) ?_
    refine lv_istore_n (lv' := [(2, .int 0), (1, .int (nI ta)), (0, .ref mm)]) hx hb dX12_on_66 rfl hl (by decide) rfl (fun ls hl => ?_)
    have lp_15 : ∀ (n_16 : Nat) (i : Nat) (zn : Nat → Int32) (H : Heap) (locs : List Loc) (ls : Array Slot), 3 * dm - i < n_16 → (i ≤ 3 * dm) → (oiR tb i f_13 zn) → va_P D vwCl [(mm, .inr (12, mo g 0 (nI pa) (nI pe) pd (nI pb) pp pf pg pn rt rn (nI cd) sn (nI il) tk am at_ aa 0 0 (-1) wt wy 0 (nI rm) (nI ud) (nI nu) sd (nI qn) (nI qw) qo (nI qb) (nI qp) qa (nI qi) (nI oc))), (g 20, .inl (cI, 4, .inl (l4 (nI l0) (nI l1) (nI dm) (nI l3)))), (g 31, .inl (cI, 120, .inl zn)), (g 0, .inl (cI, 1600, .inl (fun j => nI (tb j)))), (g 54, .inl (cI, 2400, .inl kp)), (g 9, .inl (cI, 6, .inl rf))] H → va_D A [(mm, .inr (12, mo g 0 (nI pa) (nI pe) pd (nI pb) pp pf pg pn rt rn (nI cd) sn (nI il) tk am at_ aa 0 0 (-1) wt wy 0 (nI rm) (nI ud) (nI nu) sd (nI qn) (nI qw) qo (nI qb) (nI qp) qa (nI qi) (nI oc))), (g 20, .inl (cI, 4, .inl (l4 (nI l0) (nI l1) (nI dm) (nI l3)))), (g 31, .inl (cI, 120, .inl zn)), (g 0, .inl (cI, 1600, .inl (fun j => nI (tb j)))), (g 54, .inl (cI, 2400, .inl kp)), (g 9, .inl (cI, 6, .inl rf))] → va_S A s.heap H locs → lv_has ls 3 [(2, .int (nI i)), (1, .int (nI ta)), (0, .ref mm)] → W p l e { frames := 2, cells := 0, slots := 0, locals := 45 } s m ([.ref mm] : List Value).toArray below meth c H locs 0 0 (MQ below (skI D (skT cI cJ cC cZ cS) (fun (r : Int32) (u : va_W) => ∃ (wn2 : Nat), ∃ (mo2 : Nat), ∃ (Ba2 : Nat → Nat), ∃ (We2 : Nat → Nat), ∃ (U2 : Nat → Bool), ∃ (ke2 : Nat), ∃ (b : Nat), ∃ (nw2 : Nat → Int32), ∃ (kp2 : Nat → Int32), ∃ (ud2 : Nat), ∃ (rf2 : Nat → Int32), nwX wn2 mo2 Ba2 We2 U2 ke2 lg nw2 ∧ kpX ud2 nu su lg kp2 ∧ ud2 ≤ 20 ∧ onR dm tb ta (wn, mN, Ba, We, U, ke) ud rf (nI b) (wn2, mo2, Ba2, We2, U2, ke2) ud2 rf2 ∧ r = nI b ∧ u = [(mm, .inr (12, mo g 0 (nI pa) (nI pe) pd (nI pb) pp pf pg pn rt rn (nI cd) sn (nI il) tk am at_ aa 0 0 (-1) wt wy 0 (nI rm) (nI ud2) (nI nu) sd (nI qn) (nI qw) qo (nI qb) (nI qp) qa (nI qi) (nI oc))), (g 20, .inl (cI, 4, .inl (l4 (nI l0) (nI l1) (nI dm) (nI l3)))), (g 31, .inl (cI, 120, .inl nw2)), (g 0, .inl (cI, 1600, .inl (fun j => nI (tb j)))), (g 54, .inl (cI, 2400, .inl kp2)), (g 9, .inl (cI, 6, .inl rf2))]) A) ([.ref mm] : List Value).toArray s 0 0 A) (F0 m 67 ls []) := by
      intro n_16
      induction n_16 with
      | zero => intro i zn H locs ls hm; exact absurd hm (Nat.not_lt_zero _)
      | succ n_16 ih_lp_15 =>
        intro i zn H locs ls hm hi hoi hP hD hS hl
        refine lv_iload_n hx hb dX12_on_67 rfl (lv_at hl 0 rfl) ?_
        refine lv_iconst (v := 3) hx hb dX12_on_68 (by decide) ?_
        refine lv_aload_n hx hb dX12_on_69 rfl (lv_at hl 2 rfl) ?_
        refine sk_Vi (q0 := 0) (n := 0) (rest := [.int 3, .int (nI i)]) (wr := fmR om_6_30 _) ⟨hx, hb, hml, hown, hts⟩ hl.1 (c_m_dayMany l D cI cJ cC cZ cS mm g 0 pa pe pd pb pp pf pg pn rt rn cd sn il tk am at_ aa 0 0 (-1) wt wy 0 rm ud nu sd qn qw qo qb qp qa qi oc l0 l1 dm l3) w_7_98 w_7_100 w_0_69 w_1_14 w_7_101 hd_X12_dayMany_0 ⟨⟨(Nat.le_of_ble_eq_true rfl), (Nat.le_of_ble_eq_true rfl)⟩, (Nat.le_of_ble_eq_true rfl), (Nat.le_of_ble_eq_true rfl)⟩ hK hP hD hS hA (fmT om_6_30 0) (fmF om_6_30 0) (fm_C1 rfl rfl) (fm_R rfl rfl) (fm_nT om_6_30 0) (fm_nF om_6_30 0) (fm_di om_6_30 0) rfl rfl rfl rfl (Nat.le_of_ble_eq_true rfl) dX12_on_70 (fun r_17 u H locs hw hP hD hS => ?_)
        refine anE hw (fun er_19 eu_18 => ?_)
        clear hw
        subst er_19
        refine o_mgE (ws' := [(mm, .inr (12, mo g 0 (nI pa) (nI pe) pd (nI pb) pp pf pg pn rt rn (nI cd) sn (nI il) tk am at_ aa 0 0 (-1) wt wy 0 (nI rm) (nI ud) (nI nu) sd (nI qn) (nI qw) qo (nI qb) (nI qp) qa (nI qi) (nI oc))), (g 20, .inl (cI, 4, .inl (l4 (nI l0) (nI l1) (nI dm) (nI l3)))), (g 31, .inl (cI, 120, .inl zn)), (g 0, .inl (cI, 1600, .inl (fun j => nI (tb j)))), (g 54, .inl (cI, 2400, .inl kp)), (g 9, .inl (cI, 6, .inl rf))]) eu_18 hP hD rfl (fun hP hD => ?_)
        refine lv_imul hx hb dX12_on_73 ?_
        refine sk_top (nI (3 * dm)) (nmul 3 dm) ?_
        refine lv_icmp_ge (tgt := 99) hx hb dX12_on_74 (by decide) (fun c_20 => ?_) (fun c_20 => ?_)
        · have c_20 : 3 * dm ≤ i := (nle (3 * dm) i (by omega) (by omega)).mp c_20
          refine lv_aload_n hx hb dX12_on_99 rfl (lv_at hl 2 rfl) ?_
          refine sk_get (v := .ref (g 31)) (C := RX12) (T := TX12) (N := 92) hx hb hts inlX12 hown hK hP 0 rfl rfl 31 (by decide) w_5_186 rfl dX12_on_100 ?_
          refine lv_bipush (v := 29) hx hb dX12_on_103 (by decide) ?_
          refine lv_iconst (v := 0) hx hb dX12_on_105 (by decide) ?_
          refine sk_iastE (k := 29) (x := 0) (ws' := fun f_21 => [(mm, .inr (12, mo g 0 (nI pa) (nI pe) pd (nI pb) pp pf pg pn rt rn (nI cd) sn (nI il) tk am at_ aa 0 0 (-1) wt wy 0 (nI rm) (nI ud) (nI nu) sd (nI qn) (nI qw) qo (nI qb) (nI qp) qa (nI qi) (nI oc))), (g 20, .inl (cI, 4, .inl (l4 (nI l0) (nI l1) (nI dm) (nI l3)))), (g 31, .inl (cI, 120, .inl f_21)), (g 0, .inl (cI, 1600, .inl (fun j => nI (tb j)))), (g 54, .inl (cI, 2400, .inl kp)), (g 9, .inl (cI, 6, .inl rf))]) hx hb hK hP hD hS 2 0 rfl rfl (by omega) (by omega) (fun _ => rfl) dX12_on_106 (fun f_21 H locs ef_22 hP hD hS => ?_)
          have hnN : nwX (256 * tb 0 + tb 1) (tb 2) (onB tb Ba 3 dm) (onB tb We 4 dm) (onU tb dm) 0 lg f_21 := oiR_X hq1 (show oiR tb (3 * dm) f_13 zn by rw [show 3 * dm = i by omega]; exact hoi) ef_22 (by omega) hcc.2 hUd
          refine lv_aload_n hx hb dX12_on_107 rfl (lv_at hl 2 rfl) ?_
          refine lv_iconst (v := 0) hx hb dX12_on_108 (by decide) ?_
          refine sk_put (ws' := [(mm, .inr (12, mo g 0 (nI pa) (nI pe) pd (nI pb) pp pf pg pn rt rn (nI cd) sn (nI il) tk am at_ aa 0 0 (-1) wt wy 0 (nI rm) 0 (nI nu) sd (nI qn) (nI qw) qo (nI qb) (nI qp) qa (nI qi) (nI oc))), (g 20, .inl (cI, 4, .inl (l4 (nI l0) (nI l1) (nI dm) (nI l3)))), (g 31, .inl (cI, 120, .inl f_21)), (g 0, .inl (cI, 1600, .inl (fun j => nI (tb j)))), (g 54, .inl (cI, 2400, .inl kp)), (g 9, .inl (cI, 6, .inl rf))]) (C := RX12) (T := TX12) (N := 92) (v := .int 0) hx hb hts inlX12 tyX12 tyX12_ok nmX12 hown hK hP hD hS 0 rfl rfl 55 (by decide) w_5_210 rfl rfl rfl (Nat.le_of_ble_eq_true rfl) rfl dX12_on_109 (fun H locs hP hD hS => ?_)
          refine lv_iconst (v := 1) hx hb dX12_on_112 (by decide) ?_
          exact sk_iret hx hb hr rfl hlocks hK hP hD hS (⟨(256 * tb 0 + tb 1), (tb 2), (onB tb Ba 3 dm), (onB tb We 4 dm), (onU tb dm), 0, 1, f_21, kp, 0, rf, hnN, (kpX_0 nu su lg _), by omega, (by rw [show 256 * tb 0 + tb 1 = tb 0 * 256 + tb 1 by omega]; exact on_y (n := (wn, mN, Ba, We, U, ke)) ⟨by omega, hcc.2⟩ rfl), rfl, rfl⟩) (Nat.le_of_ble_eq_true rfl) (Nat.le_of_ble_eq_true rfl) dX12_on_113
        · have c_20 : ¬ (3 * dm ≤ i) := fun h => c_20 ((nle (3 * dm) i (by omega) (by omega)).mpr h)
          refine lv_aload_n hx hb dX12_on_77 rfl (lv_at hl 2 rfl) ?_
          refine sk_get (v := .ref (g 31)) (C := RX12) (T := TX12) (N := 92) hx hb hts inlX12 hown hK hP 0 rfl rfl 31 (by decide) w_5_186 rfl dX12_on_78 ?_
          refine lv_iconst (v := 2) hx hb dX12_on_81 (by decide) ?_
          refine lv_iload_n hx hb dX12_on_82 rfl (lv_at hl 0 rfl) ?_
          refine lv_iadd hx hb dX12_on_83 ?_
          refine sk_top (nI (2 + i)) (nI_add 2 i) ?_
          refine lv_aload_n hx hb dX12_on_84 rfl (lv_at hl 2 rfl) ?_
          refine sk_get (v := .ref (g 0)) (C := RX12) (T := TX12) (N := 92) hx hb hts inlX12 hown hK hP 0 rfl rfl 0 (by decide) w_5_155 rfl dX12_on_85 ?_
          refine lv_iconst (v := 3) hx hb dX12_on_88 (by decide) ?_
          refine lv_iload_n hx hb dX12_on_89 rfl (lv_at hl 0 rfl) ?_
          refine lv_iadd hx hb dX12_on_90 ?_
          refine sk_top (nI (3 + i)) (nI_add 3 i) ?_
          refine va_iald hx hb hK.1 hP 3 0 rfl rfl (vin (3 + i) 1600 (by omega) (by omega)) dX12_on_91 ?_
          refine sk_top (nI (tb (3 + i))) (nrd tb (3 + i) (by omega)) ?_
          have hb_23 := htb (3 + i)
          refine sk_iastE (k := (2 + i)) (x := (nI (tb (3 + i)))) (ws' := fun f_24 => [(mm, .inr (12, mo g 0 (nI pa) (nI pe) pd (nI pb) pp pf pg pn rt rn (nI cd) sn (nI il) tk am at_ aa 0 0 (-1) wt wy 0 (nI rm) (nI ud) (nI nu) sd (nI qn) (nI qw) qo (nI qb) (nI qp) qa (nI qi) (nI oc))), (g 20, .inl (cI, 4, .inl (l4 (nI l0) (nI l1) (nI dm) (nI l3)))), (g 31, .inl (cI, 120, .inl f_24)), (g 0, .inl (cI, 1600, .inl (fun j => nI (tb j)))), (g 54, .inl (cI, 2400, .inl kp)), (g 9, .inl (cI, 6, .inl rf))]) hx hb hK hP hD hS 2 0 rfl rfl (by omega) (by omega) (fun _ => rfl) dX12_on_92 (fun f_24 H locs ef_25 hP hD hS => ?_)
          refine lv_iinc (v := nI (i + 1)) (lv' := [(2, .int (nI (i + 1))), (1, .int (nI ta)), (0, .ref mm)]) hx hb dX12_on_93 hl (k := 0) rfl (ninc i 1 (by decide)) (by decide) rfl (fun ls hl => ?_)
          refine lv_goto (tgt := 67) hx hb dX12_on_96 (by decide) ?_
          exact ih_lp_15 (i + 1) f_24 _ _ _ (by omega) (by omega) (oiR_s hoi ef_25 rfl) hP hD hS (lv_sub hl [0, 1, 2] rfl)
    exact lp_15 (3 * dm - 0 + 1) 0 f_13 _ _ _ (Nat.lt_succ_self _) (by omega) (oiR_0 _ _) hP hD hS (lv_sub hl [0, 1, 2] rfl)
  · have c_7 : b_1 = 0 := (neq b_1 0 (by omega) (by omega)).mp c_7
    refine lv_aload_n hx hb dX12_on_18 rfl (lv_at hl 1 rfl) ?_
    refine sk_get (v := .ref (g 9)) (C := RX12) (T := TX12) (N := 92) hx hb hts inlX12 hown hK hP 0 rfl rfl 9 (by decide) w_5_164 rfl dX12_on_19 ?_
    refine lv_iconst (v := 5) hx hb dX12_on_22 (by decide) ?_
    refine lv_dup2_11 hx hb dX12_on_23 rfl rfl ?_
    refine va_iald hx hb hK.1 hP 5 0 rfl rfl (by unfold vp_in; decide) dX12_on_24 ?_
    refine sk_top (rf 5) (rfl) ?_
    refine lv_iconst (v := 1) hx hb dX12_on_25 (by decide) ?_
    refine lv_iadd hx hb dX12_on_26 ?_
    refine sk_iastE (k := 5) (ws' := fun f_26 => [(mm, .inr (12, mo g 0 (nI pa) (nI pe) pd (nI pb) pp pf pg pn rt rn (nI cd) sn (nI il) tk am at_ aa 0 0 (-1) wt wy 0 (nI rm) (nI ud) (nI nu) sd (nI qn) (nI qw) qo (nI qb) (nI qp) qa (nI qi) (nI oc))), (g 20, .inl (cI, 4, .inl (l4 (nI l0) (nI l1) (nI dm) (nI l3)))), (g 31, .inl (cI, 120, .inl nw)), (g 0, .inl (cI, 1600, .inl (fun j => nI (tb j)))), (g 54, .inl (cI, 2400, .inl kp)), (g 9, .inl (cI, 6, .inl f_26))]) hx hb hK hP hD hS 5 0 rfl rfl (by omega) (by omega) (fun _ => rfl) dX12_on_27 (fun f_26 H locs ef_27 hP hD hS => ?_)
    refine lv_iconst (v := 0) hx hb dX12_on_28 (by decide) ?_
    exact sk_iret hx hb hr rfl hlocks hK hP hD hS (⟨wn, mN, Ba, We, U, ke, 0, nw, kp, ud, f_26, hnw, hkp, by omega, (on_n (fun hq => rr_0 himg_4 (by omega) ⟨Nat.le_of_eq (hilb hq.1).symm, hq.2⟩) ef_27), rfl, rfl⟩) (Nat.le_of_ble_eq_true rfl) (Nat.le_of_ble_eq_true rfl) dX12_on_29
