theorem dg_X12_frees_0_0 : bqL cX12_frees 0 [(0, [42]), (1, [27]), (2, [182, 1, 157]), (5, [153, 0, 13]), (18, [2]), (19, [172]), (8, [28]), (9, [133]), (10, [9]), (11, [10]), (12, [184, 0, 238]), (15, [154, 0, 5]), (20, [5]), (21, [6]), (22, [27]), (23, [104]), (24, [96]), (25, [28]), (26, [96]), (27, [62]), (28, [42]), (29, [180, 0, 63]), (32, [29]), (33, [46]), (34, [54, 4]), (36, [2]), (37, [54, 5]), (39, [9]), (40, [55, 6]), (42, [3]), (43, [54, 8]), (45, [21, 8]), (47, [16, 10]), (49, [162, 0, 50]), (99, [42]), (100, [180, 0, 63]), (103, [29]), (104, [21, 4]), (106, [79]), (107, [21, 5])] = true := by decide +kernel
theorem dX12_frees_0 : decode cX12_frees 0 = .ok (.aload_n 0, 1) := q_aload_n0 (bat_get dg_X12_frees_0_0 0 rfl rfl)
theorem dX12_frees_1 : decode cX12_frees 1 = .ok (.iload_n 1, 1) := q_iload_n1 (bat_get dg_X12_frees_0_0 1 rfl rfl)
theorem dX12_frees_2 : decode cX12_frees 2 = .ok (.invokevirtual 413, 3) := q_invokevirtual (bat_get dg_X12_frees_0_0 2 rfl rfl) rfl
theorem dX12_frees_5 : decode cX12_frees 5 = .ok (.ifCond .eq 13, 3) := q_ifCond_eq (bat_get dg_X12_frees_0_0 3 rfl rfl) rfl
theorem dX12_frees_18 : decode cX12_frees 18 = .ok (.iconst (-1), 1) := q_iconstm1 (bat_get dg_X12_frees_0_0 4 rfl rfl)
theorem dX12_frees_19 : decode cX12_frees 19 = .ok (.ireturn, 1) := q_ireturn (bat_get dg_X12_frees_0_0 5 rfl rfl)
theorem dX12_frees_8 : decode cX12_frees 8 = .ok (.iload_n 2, 1) := q_iload_n2 (bat_get dg_X12_frees_0_0 6 rfl rfl)
theorem dX12_frees_9 : decode cX12_frees 9 = .ok (.i2l, 1) := q_i2l (bat_get dg_X12_frees_0_0 7 rfl rfl)
theorem dX12_frees_10 : decode cX12_frees 10 = .ok (.lconst 0, 1) := q_lconst0 (bat_get dg_X12_frees_0_0 8 rfl rfl)
theorem dX12_frees_11 : decode cX12_frees 11 = .ok (.lconst 1, 1) := q_lconst1 (bat_get dg_X12_frees_0_0 9 rfl rfl)
theorem dX12_frees_12 : decode cX12_frees 12 = .ok (.invokestatic 238, 3) := q_invokestatic (bat_get dg_X12_frees_0_0 10 rfl rfl) rfl
theorem dX12_frees_15 : decode cX12_frees 15 = .ok (.ifCond .ne 5, 3) := q_ifCond_ne (bat_get dg_X12_frees_0_0 11 rfl rfl) rfl
theorem dX12_frees_20 : decode cX12_frees 20 = .ok (.iconst 2, 1) := q_iconst2 (bat_get dg_X12_frees_0_0 12 rfl rfl)
theorem dX12_frees_21 : decode cX12_frees 21 = .ok (.iconst 3, 1) := q_iconst3 (bat_get dg_X12_frees_0_0 13 rfl rfl)
theorem dX12_frees_22 : decode cX12_frees 22 = .ok (.iload_n 1, 1) := q_iload_n1 (bat_get dg_X12_frees_0_0 14 rfl rfl)
theorem dX12_frees_23 : decode cX12_frees 23 = .ok (.imul, 1) := q_imul (bat_get dg_X12_frees_0_0 15 rfl rfl)
theorem dX12_frees_24 : decode cX12_frees 24 = .ok (.iadd, 1) := q_iadd (bat_get dg_X12_frees_0_0 16 rfl rfl)
theorem dX12_frees_25 : decode cX12_frees 25 = .ok (.iload_n 2, 1) := q_iload_n2 (bat_get dg_X12_frees_0_0 17 rfl rfl)
theorem dX12_frees_26 : decode cX12_frees 26 = .ok (.iadd, 1) := q_iadd (bat_get dg_X12_frees_0_0 18 rfl rfl)
theorem dX12_frees_27 : decode cX12_frees 27 = .ok (.istore_n 3, 1) := q_istore_n3 (bat_get dg_X12_frees_0_0 19 rfl rfl)
theorem dX12_frees_28 : decode cX12_frees 28 = .ok (.aload_n 0, 1) := q_aload_n0 (bat_get dg_X12_frees_0_0 20 rfl rfl)
theorem dX12_frees_29 : decode cX12_frees 29 = .ok (.getfield 63, 3) := q_getfield (bat_get dg_X12_frees_0_0 21 rfl rfl) rfl
theorem dX12_frees_32 : decode cX12_frees 32 = .ok (.iload_n 3, 1) := q_iload_n3 (bat_get dg_X12_frees_0_0 22 rfl rfl)
theorem dX12_frees_33 : decode cX12_frees 33 = .ok (.iaload, 1) := q_iaload (bat_get dg_X12_frees_0_0 23 rfl rfl)
theorem dX12_frees_34 : decode cX12_frees 34 = .ok (.istore 4, 2) := q_istore (bat_get dg_X12_frees_0_0 24 rfl rfl)
theorem dX12_frees_36 : decode cX12_frees 36 = .ok (.iconst (-1), 1) := q_iconstm1 (bat_get dg_X12_frees_0_0 25 rfl rfl)
theorem dX12_frees_37 : decode cX12_frees 37 = .ok (.istore 5, 2) := q_istore (bat_get dg_X12_frees_0_0 26 rfl rfl)
theorem dX12_frees_39 : decode cX12_frees 39 = .ok (.lconst 0, 1) := q_lconst0 (bat_get dg_X12_frees_0_0 27 rfl rfl)
theorem dX12_frees_40 : decode cX12_frees 40 = .ok (.lstore 6, 2) := q_lstore (bat_get dg_X12_frees_0_0 28 rfl rfl)
theorem dX12_frees_42 : decode cX12_frees 42 = .ok (.iconst 0, 1) := q_iconst0 (bat_get dg_X12_frees_0_0 29 rfl rfl)
theorem dX12_frees_43 : decode cX12_frees 43 = .ok (.istore 8, 2) := q_istore (bat_get dg_X12_frees_0_0 30 rfl rfl)
theorem dX12_frees_45 : decode cX12_frees 45 = .ok (.iload 8, 2) := q_iload (bat_get dg_X12_frees_0_0 31 rfl rfl)
theorem dX12_frees_47 : decode cX12_frees 47 = .ok (.bipush 10, 2) := q_bipush (bat_get dg_X12_frees_0_0 32 rfl rfl) rfl
theorem dX12_frees_49 : decode cX12_frees 49 = .ok (.if_icmp .ge 50, 3) := q_if_icmp_ge (bat_get dg_X12_frees_0_0 33 rfl rfl) rfl
theorem dX12_frees_99 : decode cX12_frees 99 = .ok (.aload_n 0, 1) := q_aload_n0 (bat_get dg_X12_frees_0_0 34 rfl rfl)
theorem dX12_frees_100 : decode cX12_frees 100 = .ok (.getfield 63, 3) := q_getfield (bat_get dg_X12_frees_0_0 35 rfl rfl) rfl
theorem dX12_frees_103 : decode cX12_frees 103 = .ok (.iload_n 3, 1) := q_iload_n3 (bat_get dg_X12_frees_0_0 36 rfl rfl)
theorem dX12_frees_104 : decode cX12_frees 104 = .ok (.iload 4, 2) := q_iload (bat_get dg_X12_frees_0_0 37 rfl rfl)
theorem dX12_frees_106 : decode cX12_frees 106 = .ok (.iastore, 1) := q_iastore (bat_get dg_X12_frees_0_0 38 rfl rfl)
theorem dX12_frees_107 : decode cX12_frees 107 = .ok (.iload 5, 2) := q_iload (bat_get dg_X12_frees_0_0 39 rfl rfl)
theorem dg_X12_frees_52_109 : bqL cX12_frees 52 [(57, [172]), (0, [42]), (1, [180, 0, 63]), (4, [29]), (5, [21, 8]), (7, [79]), (8, [42]), (9, [182, 1, 144]), (12, [21, 5]), (14, [2]), (15, [159, 0, 16]), (31, [21, 8]), (33, [54, 5]), (35, [42]), (36, [180, 1, 126]), (39, [55, 6]), (41, [132, 8, 1]), (44, [167, 255, 205]), (18, [42]), (19, [180, 1, 126]), (22, [22, 6]), (24, [148]), (25, [157, 0, 6]), (28, [167, 0, 13])] = true := by decide +kernel
theorem dX12_frees_109 : decode cX12_frees 109 = .ok (.ireturn, 1) := q_ireturn (bat_get dg_X12_frees_52_109 0 rfl rfl)
theorem dX12_frees_52 : decode cX12_frees 52 = .ok (.aload_n 0, 1) := q_aload_n0 (bat_get dg_X12_frees_52_109 1 rfl rfl)
theorem dX12_frees_53 : decode cX12_frees 53 = .ok (.getfield 63, 3) := q_getfield (bat_get dg_X12_frees_52_109 2 rfl rfl) rfl
theorem dX12_frees_56 : decode cX12_frees 56 = .ok (.iload_n 3, 1) := q_iload_n3 (bat_get dg_X12_frees_52_109 3 rfl rfl)
theorem dX12_frees_57 : decode cX12_frees 57 = .ok (.iload 8, 2) := q_iload (bat_get dg_X12_frees_52_109 4 rfl rfl)
theorem dX12_frees_59 : decode cX12_frees 59 = .ok (.iastore, 1) := q_iastore (bat_get dg_X12_frees_52_109 5 rfl rfl)
theorem dX12_frees_60 : decode cX12_frees 60 = .ok (.aload_n 0, 1) := q_aload_n0 (bat_get dg_X12_frees_52_109 6 rfl rfl)
theorem dX12_frees_61 : decode cX12_frees 61 = .ok (.invokevirtual 400, 3) := q_invokevirtual (bat_get dg_X12_frees_52_109 7 rfl rfl) rfl
theorem dX12_frees_64 : decode cX12_frees 64 = .ok (.iload 5, 2) := q_iload (bat_get dg_X12_frees_52_109 8 rfl rfl)
theorem dX12_frees_66 : decode cX12_frees 66 = .ok (.iconst (-1), 1) := q_iconstm1 (bat_get dg_X12_frees_52_109 9 rfl rfl)
theorem dX12_frees_67 : decode cX12_frees 67 = .ok (.if_icmp .eq 16, 3) := q_if_icmp_eq (bat_get dg_X12_frees_52_109 10 rfl rfl) rfl
theorem dX12_frees_83 : decode cX12_frees 83 = .ok (.iload 8, 2) := q_iload (bat_get dg_X12_frees_52_109 11 rfl rfl)
theorem dX12_frees_85 : decode cX12_frees 85 = .ok (.istore 5, 2) := q_istore (bat_get dg_X12_frees_52_109 12 rfl rfl)
theorem dX12_frees_87 : decode cX12_frees 87 = .ok (.aload_n 0, 1) := q_aload_n0 (bat_get dg_X12_frees_52_109 13 rfl rfl)
theorem dX12_frees_88 : decode cX12_frees 88 = .ok (.getfield 382, 3) := q_getfield (bat_get dg_X12_frees_52_109 14 rfl rfl) rfl
theorem dX12_frees_91 : decode cX12_frees 91 = .ok (.lstore 6, 2) := q_lstore (bat_get dg_X12_frees_52_109 15 rfl rfl)
theorem dX12_frees_93 : decode cX12_frees 93 = .ok (.iinc 8 1, 3) := q_iinc (bat_get dg_X12_frees_52_109 16 rfl rfl) rfl
theorem dX12_frees_96 : decode cX12_frees 96 = .ok (.goto (-51), 3) := q_goto (bat_get dg_X12_frees_52_109 17 rfl rfl) rfl
theorem dX12_frees_70 : decode cX12_frees 70 = .ok (.aload_n 0, 1) := q_aload_n0 (bat_get dg_X12_frees_52_109 18 rfl rfl)
theorem dX12_frees_71 : decode cX12_frees 71 = .ok (.getfield 382, 3) := q_getfield (bat_get dg_X12_frees_52_109 19 rfl rfl) rfl
theorem dX12_frees_74 : decode cX12_frees 74 = .ok (.lload 6, 2) := q_lload (bat_get dg_X12_frees_52_109 20 rfl rfl)
theorem dX12_frees_76 : decode cX12_frees 76 = .ok (.lcmp, 1) := q_lcmp (bat_get dg_X12_frees_52_109 21 rfl rfl)
theorem dX12_frees_77 : decode cX12_frees 77 = .ok (.ifCond .gt 6, 3) := q_ifCond_gt (bat_get dg_X12_frees_52_109 22 rfl rfl) rfl
theorem dX12_frees_80 : decode cX12_frees 80 = .ok (.goto 13, 3) := q_goto (bat_get dg_X12_frees_52_109 23 rfl rfl) rfl
theorem w_8_36 : (Cond.code yX12_frees cX12_frees 9 (some .int)) ∈ wsL_law := sk_mem (ck_8 _ (List.mem_of_getElem? (i := 36) rfl)) rfl
set_option maxHeartbeats 4000000 in
set_option maxRecDepth 100000 in
theorem c_nm_frees (l : Launch) (D : va_G) (cI cJ cC cZ cS : ClassId) (mm : Nat) (g : Nat → Nat) (ta : Nat) (pa : Nat) (pe : Nat) (pd : Int32) (pb : Nat) (pp : Int32) (pf : Int32) (pg : Int32) (pn : Int32) (rt : Int32) (rn : Int32) (cd : Nat) (sn : Int32) (il : Nat) (tk : Int32) (am : Int32) (at_ : Int32) (aa : Int32) (wt : Int32) (wy : Int64) (rm : Nat) (ud : Nat) (nu : Nat) (sd : Int64) (qn : Nat) (qw : Nat) (qo : Int32) (qb : Nat) (qp : Nat) (qa : Int64) (qi : Nat) (oc : Nat) (d : Int32) (w : Int32) (u0 : Int32) (u1 : Int32) (u2 : Int32) (u3 : Int32) (u4 : Int32) (u5 : Int32) (v0 : Int32) (v1 : Int32) (v2 : Int32) (v3 : Int32) (v4 : Int32) (v5 : Int32) (cs : Nat → Nat) (nw : Nat → Int32) (pt : Nat → Nat) (ql : Nat → Int64) (l0 : Nat) (l1 : Nat) (dm : Nat) (l3 : Nat) (ws_ : Nat → Int32) (yw : Nat → Int32) (yo : Nat → Int32) (be : Nat → Int64) (bf : Nat → Int64) (wn : Nat) (mN : Nat) (Ba : Nat → Nat) (We : Nat → Nat) (U : Nat → Bool) (ke : Nat) (lg : KLg) (L : LkS) (hil : il ≤ 1) (hild : il = 1 → 1 ≤ dm) (hilb : 1 ≤ dm → il = 1) (hdm : dm ≤ 9) (hLk : kcLk L) (hkl : (lK L).length ≤ 1600) (hmw0 : mwO L 0 u3 v3 cs) (hmw1 : mwO L 1 u4 v4 cs) (hB9 : ∀ j, Ba j ≤ 9) (hW9 : ∀ j, We j ≤ 9) (hwk : wn ≤ 999) (hcs : ∀ j, cs j ≤ 20000) (hnw : nwX wn mN Ba We U ke lg nw) (hpt : ∀ j, pt j ≤ 9) : skM l yX12_frees cX12_frees 9 (some .int) 6 142 0 0 D (skT cI cJ cC cZ cS) [.ref mm, .int d, .int w] [(mm, .inr (12, mo g (nI ta) (nI pa) (nI pe) pd (nI pb) pp pf pg pn rt rn (nI cd) sn (nI il) tk am at_ aa 0 0 (-1) wt wy 0 (nI rm) (nI ud) (nI nu) sd (nI qn) (nI qw) qo (nI qb) (nI qp) qa (nI qi) (nI oc))), (g 24, .inl (cI, 6, .inl (l6 u0 u1 u2 u3 u4 u5))), (g 25, .inl (cI, 6, .inl (l6 v0 v1 v2 v3 v4 v5))), (g 26, .inl (cI, 3200, .inl (fun j => nI (cs j)))), (g 31, .inl (cI, 120, .inl nw)), (g 46, .inl (cI, 9, .inl (fun j => nI (pt j)))), (g 86, .inl (cJ, 1700, .inr (.inl ql))), (g 20, .inl (cI, 4, .inl (l4 (nI l0) (nI l1) (nI dm) (nI l3)))), (g 38, .inl (cI, 90, .inl ws_)), (g 36, .inl (cZ, 900, .inl yw)), (g 37, .inl (cZ, 900, .inl yo)), (g 43, .inl (cJ, 90, .inr (.inl be))), (g 44, .inl (cJ, 90, .inr (.inl bf)))] (skI D (skT cI cJ cC cZ cS) (fun (r : Int32) (u : va_W) => ∃ (nw2 : Nat → Int32), ∃ (tk2 : Int32), ∃ (qp2 : Nat), ∃ (am2 : Int32), ∃ (at_2 : Int32), ∃ (aa2 : Int32), ∃ (wy2 : Int64), ∃ (ql2 : Nat → Int64), ∃ (ws_2 : Nat → Int32), ∃ (yw2 : Nat → Int32), ∃ (yo2 : Nat → Int32), ∃ (be2 : Nat → Int64), ∃ (bf2 : Nat → Int64), nwX wn mN Ba We U ke lg nw2 ∧ u = [(mm, .inr (12, mo g (nI ta) (nI pa) (nI pe) pd (nI pb) pp pf pg pn rt rn (nI cd) sn (nI il) tk2 am2 at_2 aa2 0 0 (-1) wt wy2 0 (nI rm) (nI ud) (nI nu) sd (nI qn) (nI qw) qo (nI qb) (nI qp2) qa (nI qi) (nI oc))), (g 24, .inl (cI, 6, .inl (l6 u0 u1 u2 u3 u4 u5))), (g 25, .inl (cI, 6, .inl (l6 v0 v1 v2 v3 v4 v5))), (g 26, .inl (cI, 3200, .inl (fun j => nI (cs j)))), (g 31, .inl (cI, 120, .inl nw2)), (g 46, .inl (cI, 9, .inl (fun j => nI (pt j)))), (g 86, .inl (cJ, 1700, .inr (.inl ql2))), (g 20, .inl (cI, 4, .inl (l4 (nI l0) (nI l1) (nI dm) (nI l3)))), (g 38, .inl (cI, 90, .inl ws_2)), (g 36, .inl (cZ, 900, .inl yw2)), (g 37, .inl (cZ, 900, .inl yo2)), (g 43, .inl (cJ, 90, .inr (.inl be2))), (g 44, .inl (cJ, 90, .inr (.inl bf2)))])) := by
  refine skM_of pf_X12_frees (Nat.le_of_ble_eq_true rfl) ?_
  intro p e s m below meth c A ls E hP hD hl
  refine skE_el E (fun hx hb hr hml hlocks hin hown hts hK hA => ?_)
  have hown : s.vm.findClass RX12 = some m.cls := hown
  have hS : va_S A s.heap s.heap [] := va_S.rf
  have hl : lv_has ls 9 [(0, .ref mm), (1, .int d), (2, .int w)] := hl
  refine lv_aload_n hx hb dX12_frees_0 rfl (lv_at hl 0 rfl) ?_
  refine lv_iload_n hx hb dX12_frees_1 rfl (lv_at hl 1 rfl) ?_
  refine sk_Vi (q0 := 0) (n := 1) (rest := []) (wr := fmR om_13_1020 _) ⟨hx, hb, hml, hown, hts⟩ hl.1 (c_nm_isDay l D cI cJ cC cZ cS mm g ta pa pe pd pb pp pf pg pn rt rn cd sn il tk am at_ aa wt wy rm ud nu sd qn qw qo qb qp qa qi oc d l0 l1 dm l3 (by omega)) w_7_117 w_7_119 w_0_72 w_1_14 w_7_120 hd_X12_isDay_1 ⟨⟨(Nat.le_of_ble_eq_true rfl), (Nat.le_of_ble_eq_true rfl)⟩, (Nat.le_of_ble_eq_true rfl), (Nat.le_of_ble_eq_true rfl)⟩ hK hP hD hS hA (fmT om_13_1020 0) (fmF om_13_1020 0) (fm_C1 rfl rfl) (fm_R rfl rfl) (fm_nT om_13_1020 0) (fm_nF om_13_1020 0) (fm_di om_13_1020 0) rfl rfl rfl rfl (Nat.le_of_ble_eq_true rfl) dX12_frees_2 (fun r_2 u H locs hw hP hD hS => ?_)
  refine exE hw (fun b_1 hw1 => anE hw1 (fun hb1_3 hw2 => anE hw2 (fun er_5 eu_4 => ?_)))
  clear hw hw1 hw2
  subst er_5
  refine o_mgE (ws' := [(mm, .inr (12, mo g (nI ta) (nI pa) (nI pe) pd (nI pb) pp pf pg pn rt rn (nI cd) sn (nI il) tk am at_ aa 0 0 (-1) wt wy 0 (nI rm) (nI ud) (nI nu) sd (nI qn) (nI qw) qo (nI qb) (nI qp) qa (nI qi) (nI oc))), (g 24, .inl (cI, 6, .inl (l6 u0 u1 u2 u3 u4 u5))), (g 25, .inl (cI, 6, .inl (l6 v0 v1 v2 v3 v4 v5))), (g 26, .inl (cI, 3200, .inl (fun j => nI (cs j)))), (g 31, .inl (cI, 120, .inl nw)), (g 46, .inl (cI, 9, .inl (fun j => nI (pt j)))), (g 86, .inl (cJ, 1700, .inr (.inl ql))), (g 20, .inl (cI, 4, .inl (l4 (nI l0) (nI l1) (nI dm) (nI l3)))), (g 38, .inl (cI, 90, .inl ws_)), (g 36, .inl (cZ, 900, .inl yw)), (g 37, .inl (cZ, 900, .inl yo)), (g 43, .inl (cJ, 90, .inr (.inl be))), (g 44, .inl (cJ, 90, .inr (.inl bf)))]) eu_4 hP hD rfl (fun hP hD => ?_)
  refine lv_if_eq (tgt := 18) hx hb dX12_frees_5 (by decide) (fun c_6 => ?_) (fun c_6 => ?_)
  · have c_6 : b_1 = 0 := (neq b_1 0 (by omega) (by omega)).mp c_6
    refine lv_iconst (v := (-1)) hx hb dX12_frees_18 (by decide) ?_
    exact sk_iret hx hb hr rfl hlocks hK hP hD hS (⟨nw, tk, qp, am, at_, aa, wy, ql, ws_, yw, yo, be, bf, hnw, rfl⟩) (Nat.le_of_ble_eq_true rfl) (Nat.le_of_ble_eq_true rfl) dX12_frees_19
  · have c_6 : ¬ (b_1 = 0) := fun h => c_6 ((neq b_1 0 (by omega) (by omega)).mpr h)
    obtain ⟨kd_7, hkd_7, rfl⟩ := rr_1 hb1_3 (by omega)
    refine lv_iload_n hx hb dX12_frees_8 rfl (lv_at hl 2 rfl) ?_
    refine lv_i2l hx hb dX12_frees_9 rfl ?_
    refine lv_lconst (v := 0) hx hb dX12_frees_10 (by decide) ?_
    refine lv_lconst (v := 1) hx hb dX12_frees_11 (by decide) ?_
    refine sk_Si (n := 3) (rest := []) (wr := [(mm, .inr (12, mo g (nI ta) (nI pa) (nI pe) pd (nI pb) pp pf pg pn rt rn (nI cd) sn (nI il) tk am at_ aa 0 0 (-1) wt wy 0 (nI rm) (nI ud) (nI nu) sd (nI qn) (nI qw) qo (nI qb) (nI qp) qa (nI qi) (nI oc))), (g 24, .inl (cI, 6, .inl (l6 u0 u1 u2 u3 u4 u5))), (g 25, .inl (cI, 6, .inl (l6 v0 v1 v2 v3 v4 v5))), (g 26, .inl (cI, 3200, .inl (fun j => nI (cs j)))), (g 31, .inl (cI, 120, .inl nw)), (g 46, .inl (cI, 9, .inl (fun j => nI (pt j)))), (g 86, .inl (cJ, 1700, .inr (.inl ql))), (g 20, .inl (cI, 4, .inl (l4 (nI l0) (nI l1) (nI dm) (nI l3)))), (g 38, .inl (cI, 90, .inl ws_)), (g 36, .inl (cZ, 900, .inl yw)), (g 37, .inl (cZ, 900, .inl yo)), (g 43, .inl (cJ, 90, .inr (.inl be))), (g 44, .inl (cJ, 90, .inr (.inl bf)))]) ⟨hx, hb, hml, hown, hts⟩ hl.1 (c_nm_isIn l D cI cJ cC cZ cS (Int32.toInt64 w) 0 1) w_7_0 w_7_1 w_1_14 w_7_2 hd_X12_isIn_3 ⟨⟨(Nat.le_of_ble_eq_true rfl), (Nat.le_of_ble_eq_true rfl)⟩, (Nat.le_of_ble_eq_true rfl), (Nat.le_of_ble_eq_true rfl)⟩ hK hP hD hS hA [] [0, 1, 2, 3, 4, 5, 6, 7, 8, 9, 10, 11, 12] rfl rfl (by decide +kernel) (by decide +kernel) (by decide +kernel) rfl rfl (Nat.le_of_ble_eq_true rfl) dX12_frees_12 (fun r_9 u H locs hw hP hD hS => ?_)
    obtain ⟨b_8, hb1_10, rfl, rfl⟩ := hw
    refine o_re (ws' := [(mm, .inr (12, mo g (nI ta) (nI pa) (nI pe) pd (nI pb) pp pf pg pn rt rn (nI cd) sn (nI il) tk am at_ aa 0 0 (-1) wt wy 0 (nI rm) (nI ud) (nI nu) sd (nI qn) (nI qw) qo (nI qb) (nI qp) qa (nI qi) (nI oc))), (g 24, .inl (cI, 6, .inl (l6 u0 u1 u2 u3 u4 u5))), (g 25, .inl (cI, 6, .inl (l6 v0 v1 v2 v3 v4 v5))), (g 26, .inl (cI, 3200, .inl (fun j => nI (cs j)))), (g 31, .inl (cI, 120, .inl nw)), (g 46, .inl (cI, 9, .inl (fun j => nI (pt j)))), (g 86, .inl (cJ, 1700, .inr (.inl ql))), (g 20, .inl (cI, 4, .inl (l4 (nI l0) (nI l1) (nI dm) (nI l3)))), (g 38, .inl (cI, 90, .inl ws_)), (g 36, .inl (cZ, 900, .inl yw)), (g 37, .inl (cZ, 900, .inl yo)), (g 43, .inl (cJ, 90, .inr (.inl be))), (g 44, .inl (cJ, 90, .inr (.inl bf)))]) hP hD rfl (fun hP hD => ?_)
    refine lv_if_ne (tgt := 20) hx hb dX12_frees_15 (by decide) (fun c_11 => ?_) (fun c_11 => ?_)
    · have c_11 : ¬ (b_8 = 0) := fun h => c_11 ((neq b_8 0 (by omega) (by omega)).mpr h)
      obtain ⟨kd_12, hkd_12, rfl⟩ := (kin0 (n := 2) (by decide) (by omega)).mp (rr_1 hb1_10 (by omega))
      refine lv_iconst (v := 2) hx hb dX12_frees_20 (by decide) ?_
      refine lv_iconst (v := 3) hx hb dX12_frees_21 (by decide) ?_
      refine lv_iload_n hx hb dX12_frees_22 rfl (lv_at hl 1 rfl) ?_
      refine lv_imul hx hb dX12_frees_23 ?_
      refine sk_top (nI (3 * kd_7)) (nmul 3 kd_7) ?_
      refine lv_iadd hx hb dX12_frees_24 ?_
      refine sk_top (nI (2 + (3 * kd_7))) (nI_add 2 (3 * kd_7)) ?_
      refine lv_iload_n hx hb dX12_frees_25 rfl (lv_at hl 2 rfl) ?_
      refine lv_iadd hx hb dX12_frees_26 ?_
      refine sk_top (nI (2 + (3 * kd_7) + kd_12)) (nI_add (2 + (3 * kd_7)) kd_12) ?_
      refine lv_istore_n (lv' := [(3, .int (nI (2 + (3 * kd_7) + kd_12))), (0, .ref mm), (1, .int (nI kd_7)), (2, .int (nI kd_12))]) hx hb dX12_frees_27 rfl hl (by decide) rfl (fun ls hl => ?_)
      rcases (show kd_12 = 0 ∨ kd_12 = 1 by omega) with rfl | rfl
      · skip
        refine lv_aload_n hx hb dX12_frees_28 rfl (lv_at hl 1 rfl) ?_
        refine sk_get (v := .ref (g 31)) (C := RX12) (T := TX12) (N := 92) hx hb hts inlX12 hown hK hP 0 rfl rfl 31 (by decide) w_5_186 rfl dX12_frees_29 ?_
        refine lv_iload_n hx hb dX12_frees_32 rfl (lv_at hl 0 rfl) ?_
        refine va_iald hx hb hK.1 hP 4 0 rfl rfl (vin (2 + (3 * kd_7) + 0) 120 (by omega) (by omega)) dX12_frees_33 ?_
        refine sk_top (nI (Ba kd_7)) (by rw [nI_clamp (by omega)]; exact nwX_b hnw (by omega)) ?_
        refine lv_istore (lv' := [(4, .int (nI (Ba kd_7))), (3, .int (nI (2 + (3 * kd_7) + 0))), (0, .ref mm), (1, .int (nI kd_7)), (2, .int 0)]) hx hb dX12_frees_34 hl (by decide) rfl (fun ls hl => ?_)
        refine lv_iconst (v := (-1)) hx hb dX12_frees_36 (by decide) ?_
        refine lv_istore (lv' := [(5, .int (-1)), (4, .int (nI (Ba kd_7))), (3, .int (nI (2 + (3 * kd_7) + 0))), (0, .ref mm), (1, .int (nI kd_7)), (2, .int 0)]) hx hb dX12_frees_37 hl (by decide) rfl (fun ls hl => ?_)
        refine lv_lconst (v := 0) hx hb dX12_frees_39 (by decide) ?_
        refine lv_lstore (lv' := [(6, .long 0), (5, .int (-1)), (4, .int (nI (Ba kd_7))), (3, .int (nI (2 + (3 * kd_7) + 0))), (0, .ref mm), (1, .int (nI kd_7)), (2, .int 0)]) hx hb dX12_frees_40 hl (by decide) rfl (fun ls hl => ?_)
        refine lv_iconst (v := 0) hx hb dX12_frees_42 (by decide) ?_
        refine lv_istore (lv' := [(8, .int 0), (6, .long 0), (5, .int (-1)), (4, .int (nI (Ba kd_7))), (3, .int (nI (2 + (3 * kd_7) + 0))), (0, .ref mm), (1, .int (nI kd_7)), (2, .int 0)]) hx hb dX12_frees_43 hl (by decide) rfl (fun ls hl => ?_)
        have lp_13 : ∀ (n_14 : Nat) (i : Nat) (mo_ : Int64) (be_ : Int32) (zaml : Int32) (zat_l : Int32) (zaal : Int32) (ztkl : Int32) (zqpl : Nat) (zwyl : Int64) (zn : Nat → Int32) (y86l : Nat → Int64) (y38l : Nat → Int32) (y36l : Nat → Int32) (y37l : Nat → Int32) (y43l : Nat → Int64) (y44l : Nat → Int64) (BB : Nat → Nat) (H : Heap) (locs : List Loc) (ls : Array Slot), 10 - i < n_14 → (i ≤ 10) → (nwX wn mN BB We U ke lg zn) → (∀ j, BB j ≤ 9) → (∀ j, ¬ j = kd_7 → BB j = Ba j) → va_P D vwCl [(mm, .inr (12, mo g (nI ta) (nI pa) (nI pe) pd (nI pb) pp pf pg pn rt rn (nI cd) sn (nI il) ztkl zaml zat_l zaal 0 0 (-1) wt zwyl 0 (nI rm) (nI ud) (nI nu) sd (nI qn) (nI qw) qo (nI qb) (nI zqpl) qa (nI qi) (nI oc))), (g 24, .inl (cI, 6, .inl (l6 u0 u1 u2 u3 u4 u5))), (g 25, .inl (cI, 6, .inl (l6 v0 v1 v2 v3 v4 v5))), (g 26, .inl (cI, 3200, .inl (fun j => nI (cs j)))), (g 31, .inl (cI, 120, .inl zn)), (g 46, .inl (cI, 9, .inl (fun j => nI (pt j)))), (g 86, .inl (cJ, 1700, .inr (.inl y86l))), (g 20, .inl (cI, 4, .inl (l4 (nI l0) (nI l1) (nI dm) (nI l3)))), (g 38, .inl (cI, 90, .inl y38l)), (g 36, .inl (cZ, 900, .inl y36l)), (g 37, .inl (cZ, 900, .inl y37l)), (g 43, .inl (cJ, 90, .inr (.inl y43l))), (g 44, .inl (cJ, 90, .inr (.inl y44l)))] H → va_D A [(mm, .inr (12, mo g (nI ta) (nI pa) (nI pe) pd (nI pb) pp pf pg pn rt rn (nI cd) sn (nI il) ztkl zaml zat_l zaal 0 0 (-1) wt zwyl 0 (nI rm) (nI ud) (nI nu) sd (nI qn) (nI qw) qo (nI qb) (nI zqpl) qa (nI qi) (nI oc))), (g 24, .inl (cI, 6, .inl (l6 u0 u1 u2 u3 u4 u5))), (g 25, .inl (cI, 6, .inl (l6 v0 v1 v2 v3 v4 v5))), (g 26, .inl (cI, 3200, .inl (fun j => nI (cs j)))), (g 31, .inl (cI, 120, .inl zn)), (g 46, .inl (cI, 9, .inl (fun j => nI (pt j)))), (g 86, .inl (cJ, 1700, .inr (.inl y86l))), (g 20, .inl (cI, 4, .inl (l4 (nI l0) (nI l1) (nI dm) (nI l3)))), (g 38, .inl (cI, 90, .inl y38l)), (g 36, .inl (cZ, 900, .inl y36l)), (g 37, .inl (cZ, 900, .inl y37l)), (g 43, .inl (cJ, 90, .inr (.inl y43l))), (g 44, .inl (cJ, 90, .inr (.inl y44l)))] → va_S A s.heap H locs → lv_has ls 9 [(8, .int (nI i)), (6, .long mo_), (5, .int be_), (4, .int (nI (Ba kd_7))), (3, .int (nI (2 + (3 * kd_7) + 0))), (0, .ref mm), (1, .int (nI kd_7)), (2, .int 0)] → W p l e { frames := 6, cells := 0, slots := 0, locals := 142 } s m ([.ref mm, .int (nI kd_7), .int (nI 0)] : List Value).toArray below meth c H locs 0 0 (MQ below (skI D (skT cI cJ cC cZ cS) (fun (r : Int32) (u : va_W) => ∃ (nw2 : Nat → Int32), ∃ (tk2 : Int32), ∃ (qp2 : Nat), ∃ (am2 : Int32), ∃ (at_2 : Int32), ∃ (aa2 : Int32), ∃ (wy2 : Int64), ∃ (ql2 : Nat → Int64), ∃ (ws_2 : Nat → Int32), ∃ (yw2 : Nat → Int32), ∃ (yo2 : Nat → Int32), ∃ (be2 : Nat → Int64), ∃ (bf2 : Nat → Int64), nwX wn mN Ba We U ke lg nw2 ∧ u = [(mm, .inr (12, mo g (nI ta) (nI pa) (nI pe) pd (nI pb) pp pf pg pn rt rn (nI cd) sn (nI il) tk2 am2 at_2 aa2 0 0 (-1) wt wy2 0 (nI rm) (nI ud) (nI nu) sd (nI qn) (nI qw) qo (nI qb) (nI qp2) qa (nI qi) (nI oc))), (g 24, .inl (cI, 6, .inl (l6 u0 u1 u2 u3 u4 u5))), (g 25, .inl (cI, 6, .inl (l6 v0 v1 v2 v3 v4 v5))), (g 26, .inl (cI, 3200, .inl (fun j => nI (cs j)))), (g 31, .inl (cI, 120, .inl nw2)), (g 46, .inl (cI, 9, .inl (fun j => nI (pt j)))), (g 86, .inl (cJ, 1700, .inr (.inl ql2))), (g 20, .inl (cI, 4, .inl (l4 (nI l0) (nI l1) (nI dm) (nI l3)))), (g 38, .inl (cI, 90, .inl ws_2)), (g 36, .inl (cZ, 900, .inl yw2)), (g 37, .inl (cZ, 900, .inl yo2)), (g 43, .inl (cJ, 90, .inr (.inl be2))), (g 44, .inl (cJ, 90, .inr (.inl bf2)))]) A) ([.ref mm, .int (nI kd_7), .int (nI 0)] : List Value).toArray s 0 0 A) (F0 m 45 ls []) := by
          intro n_14
          induction n_14 with
          | zero => intro i mo_ be_ zaml zat_l zaal ztkl zqpl zwyl zn y86l y38l y36l y37l y43l y44l BB H locs ls hm; exact absurd hm (Nat.not_lt_zero _)
          | succ n_14 ih_lp_13 =>
            intro i mo_ be_ zaml zat_l zaal ztkl zqpl zwyl zn y86l y38l y36l y37l y43l y44l BB H locs ls hm hi hzn hBB hBe hP hD hS hl
            refine lv_iload hx hb dX12_frees_45 (lv_at hl 0 rfl) ?_
            refine lv_bipush (v := 10) hx hb dX12_frees_47 (by decide) ?_
            refine lv_icmp_ge (tgt := 99) hx hb dX12_frees_49 (by decide) (fun c_15 => ?_) (fun c_15 => ?_)
            · have c_15 : 10 ≤ i := (nle 10 i (by omega) (by omega)).mp c_15
              refine lv_aload_n hx hb dX12_frees_99 rfl (lv_at hl 5 rfl) ?_
              refine sk_get (v := .ref (g 31)) (C := RX12) (T := TX12) (N := 92) hx hb hts inlX12 hown hK hP 0 rfl rfl 31 (by decide) w_5_186 rfl dX12_frees_100 ?_
              refine lv_iload_n hx hb dX12_frees_103 rfl (lv_at hl 4 rfl) ?_
              refine lv_iload hx hb dX12_frees_104 (lv_at hl 3 rfl) ?_
              refine sk_iastE (k := (2 + (3 * kd_7) + 0)) (x := (nI (Ba kd_7))) (ws' := fun f_16 => [(mm, .inr (12, mo g (nI ta) (nI pa) (nI pe) pd (nI pb) pp pf pg pn rt rn (nI cd) sn (nI il) ztkl zaml zat_l zaal 0 0 (-1) wt zwyl 0 (nI rm) (nI ud) (nI nu) sd (nI qn) (nI qw) qo (nI qb) (nI zqpl) qa (nI qi) (nI oc))), (g 24, .inl (cI, 6, .inl (l6 u0 u1 u2 u3 u4 u5))), (g 25, .inl (cI, 6, .inl (l6 v0 v1 v2 v3 v4 v5))), (g 26, .inl (cI, 3200, .inl (fun j => nI (cs j)))), (g 31, .inl (cI, 120, .inl f_16)), (g 46, .inl (cI, 9, .inl (fun j => nI (pt j)))), (g 86, .inl (cJ, 1700, .inr (.inl y86l))), (g 20, .inl (cI, 4, .inl (l4 (nI l0) (nI l1) (nI dm) (nI l3)))), (g 38, .inl (cI, 90, .inl y38l)), (g 36, .inl (cZ, 900, .inl y36l)), (g 37, .inl (cZ, 900, .inl y37l)), (g 43, .inl (cJ, 90, .inr (.inl y43l))), (g 44, .inl (cJ, 90, .inr (.inl y44l)))]) hx hb hK hP hD hS 4 0 rfl rfl (by omega) (by omega) (fun _ => rfl) dX12_frees_106 (fun f_16 H locs ef_17 hP hD hS => ?_)
              have hN_18 : nwX wn mN Ba We U ke lg f_16 := (by have h9 := nwX_upb hzn ef_17 (by omega); rw [upd_back hBe] at h9; exact h9)
              refine lv_iload hx hb dX12_frees_107 (lv_at hl 2 rfl) ?_
              exact sk_iret hx hb hr rfl hlocks hK hP hD hS (⟨f_16, ztkl, zqpl, zaml, zat_l, zaal, zwyl, y86l, y38l, y36l, y37l, y43l, y44l, hN_18, rfl⟩) (Nat.le_of_ble_eq_true rfl) (Nat.le_of_ble_eq_true rfl) dX12_frees_109
            · have c_15 : ¬ (10 ≤ i) := fun h => c_15 ((nle 10 i (by omega) (by omega)).mpr h)
              refine lv_aload_n hx hb dX12_frees_52 rfl (lv_at hl 5 rfl) ?_
              refine sk_get (v := .ref (g 31)) (C := RX12) (T := TX12) (N := 92) hx hb hts inlX12 hown hK hP 0 rfl rfl 31 (by decide) w_5_186 rfl dX12_frees_53 ?_
              refine lv_iload_n hx hb dX12_frees_56 rfl (lv_at hl 4 rfl) ?_
              refine lv_iload hx hb dX12_frees_57 (lv_at hl 0 rfl) ?_
              refine sk_iastE (k := (2 + (3 * kd_7) + 0)) (x := (nI i)) (ws' := fun f_19 => [(mm, .inr (12, mo g (nI ta) (nI pa) (nI pe) pd (nI pb) pp pf pg pn rt rn (nI cd) sn (nI il) ztkl zaml zat_l zaal 0 0 (-1) wt zwyl 0 (nI rm) (nI ud) (nI nu) sd (nI qn) (nI qw) qo (nI qb) (nI zqpl) qa (nI qi) (nI oc))), (g 24, .inl (cI, 6, .inl (l6 u0 u1 u2 u3 u4 u5))), (g 25, .inl (cI, 6, .inl (l6 v0 v1 v2 v3 v4 v5))), (g 26, .inl (cI, 3200, .inl (fun j => nI (cs j)))), (g 31, .inl (cI, 120, .inl f_19)), (g 46, .inl (cI, 9, .inl (fun j => nI (pt j)))), (g 86, .inl (cJ, 1700, .inr (.inl y86l))), (g 20, .inl (cI, 4, .inl (l4 (nI l0) (nI l1) (nI dm) (nI l3)))), (g 38, .inl (cI, 90, .inl y38l)), (g 36, .inl (cZ, 900, .inl y36l)), (g 37, .inl (cZ, 900, .inl y37l)), (g 43, .inl (cJ, 90, .inr (.inl y43l))), (g 44, .inl (cJ, 90, .inr (.inl y44l)))]) hx hb hK hP hD hS 4 0 rfl rfl (by omega) (by omega) (fun _ => rfl) dX12_frees_59 (fun f_19 H locs ef_20 hP hD hS => ?_)
              have hN_21 : nwX wn mN (updG BB kd_7 i) We U ke lg f_19 := nwX_upb hzn ef_20 (by omega)
              refine lv_aload_n hx hb dX12_frees_60 rfl (lv_at hl 5 rfl) ?_
              refine sk_Vv (q0 := 0) (n := 0) (rest := []) (wr := fmR om_13_1fff _) ⟨hx, hb, hml, hown, hts⟩ hl.1 (c_nm_laysAll l D cI cJ cC cZ cS mm g ta pa pe pd pb pp pf pg pn rt rn cd sn il ztkl zaml zat_l zaal wt zwyl 0 rm ud nu sd qn qw qo qb zqpl qa qi oc u0 u1 u2 u3 u4 u5 v0 v1 v2 v3 v4 v5 cs f_19 pt y86l l0 l1 dm l3 y38l y36l y37l y43l y44l wn mN (updG BB kd_7 i) We U ke lg L (by omega) (by omega) hLk hkl hmw0 hmw1 (updG_le hBB (by omega)) hW9 hwk hcs hN_21 hpt) w_7_189 w_7_191 w_0_82 w_1_14 w_7_192 hd_X12_laysAll_0 ⟨⟨(Nat.le_of_ble_eq_true rfl), (Nat.le_of_ble_eq_true rfl)⟩, (Nat.le_of_ble_eq_true rfl), (Nat.le_of_ble_eq_true rfl)⟩ hK hP hD hS hA (fmT om_13_1fff 0) (fmF om_13_1fff 0) (fm_C1 rfl rfl) (fm_R rfl rfl) (fm_nT om_13_1fff 0) (fm_nF om_13_1fff 0) (fm_di om_13_1fff 0) rfl rfl rfl rfl (Nat.le_of_ble_eq_true rfl) dX12_frees_61 (fun u H locs hw hP hD hS => ?_)
              refine exE hw (fun tk2_22 hw1 => exE hw1 (fun qp2_23 hw2 => exE hw2 (fun am2_24 hw3 => exE hw3 (fun at_2_25 hw4 => exE hw4 (fun aa2_26 hw5 => exE hw5 (fun wy2_27 hw6 => exE hw6 (fun ql2_28 hw7 => exE hw7 (fun ws_2_29 hw8 => exE hw8 (fun yw2_30 hw9 => exE hw9 (fun yo2_31 hw10 => exE hw10 (fun be2_32 hw11 => exE hw11 (fun bf2_33 hw12 => anE hw12 (fun hbe_34 hw13 => anE hw13 (fun hcf_35 hw14 => anE hw14 (fun hwy_36 eu_37 => ?_)))))))))))))))
              clear hw hw1 hw2 hw3 hw4 hw5 hw6 hw7 hw8 hw9 hw10 hw11 hw12 hw13 hw14
              refine o_mgE (ws' := [(mm, .inr (12, mo g (nI ta) (nI pa) (nI pe) pd (nI pb) pp pf pg pn rt rn (nI cd) sn (nI il) tk2_22 am2_24 at_2_25 aa2_26 0 0 (-1) wt wy2_27 0 (nI rm) (nI ud) (nI nu) sd (nI qn) (nI qw) qo (nI qb) (nI qp2_23) qa (nI qi) (nI oc))), (g 24, .inl (cI, 6, .inl (l6 u0 u1 u2 u3 u4 u5))), (g 25, .inl (cI, 6, .inl (l6 v0 v1 v2 v3 v4 v5))), (g 26, .inl (cI, 3200, .inl (fun j => nI (cs j)))), (g 31, .inl (cI, 120, .inl f_19)), (g 46, .inl (cI, 9, .inl (fun j => nI (pt j)))), (g 86, .inl (cJ, 1700, .inr (.inl ql2_28))), (g 20, .inl (cI, 4, .inl (l4 (nI l0) (nI l1) (nI dm) (nI l3)))), (g 38, .inl (cI, 90, .inl ws_2_29)), (g 36, .inl (cZ, 900, .inl yw2_30)), (g 37, .inl (cZ, 900, .inl yo2_31)), (g 43, .inl (cJ, 90, .inr (.inl be2_32))), (g 44, .inl (cJ, 90, .inr (.inl bf2_33)))]) eu_37 hP hD rfl (fun hP hD => ?_)
              refine lv_iload hx hb dX12_frees_64 (lv_at hl 2 rfl) ?_
              refine lv_iconst (v := (-1)) hx hb dX12_frees_66 (by decide) ?_
              refine lv_icmp_eq (tgt := 83) hx hb dX12_frees_67 (by decide) (fun c_38 => ?_) (fun c_38 => ?_)
              · skip
                refine lv_iload hx hb dX12_frees_83 (lv_at hl 0 rfl) ?_
                refine lv_istore (lv' := [(5, .int (nI i)), (8, .int (nI i)), (6, .long mo_), (4, .int (nI (Ba kd_7))), (3, .int (nI (2 + (3 * kd_7) + 0))), (0, .ref mm), (1, .int (nI kd_7)), (2, .int 0)]) hx hb dX12_frees_85 hl (by decide) rfl (fun ls hl => ?_)
                refine lv_aload_n hx hb dX12_frees_87 rfl (lv_at hl 5 rfl) ?_
                refine sk_get (v := .long wy2_27) (C := RX12) (T := TX12) (N := 92) hx hb hts inlX12 hown hK hP 0 rfl rfl 45 (by decide) w_5_200 rfl dX12_frees_88 ?_
                refine lv_lstore (lv' := [(6, .long wy2_27), (5, .int (nI i)), (8, .int (nI i)), (4, .int (nI (Ba kd_7))), (3, .int (nI (2 + (3 * kd_7) + 0))), (0, .ref mm), (1, .int (nI kd_7)), (2, .int 0)]) hx hb dX12_frees_91 hl (by decide) rfl (fun ls hl => ?_)
                refine lv_iinc (v := nI (i + 1)) (lv' := [(8, .int (nI (i + 1))), (6, .long wy2_27), (5, .int (nI i)), (4, .int (nI (Ba kd_7))), (3, .int (nI (2 + (3 * kd_7) + 0))), (0, .ref mm), (1, .int (nI kd_7)), (2, .int 0)]) hx hb dX12_frees_93 hl (k := 2) rfl (ninc i 1 (by decide)) (by decide) rfl (fun ls hl => ?_)
                refine lv_goto (tgt := 45) hx hb dX12_frees_96 (by decide) ?_
                exact ih_lp_13 (i + 1) wy2_27 (nI i) am2_24 at_2_25 aa2_26 tk2_22 qp2_23 wy2_27 f_19 ql2_28 ws_2_29 yw2_30 yo2_31 be2_32 bf2_33 (updG BB kd_7 i) _ _ _ (by omega) (by omega) hN_21 (updG_le hBB (by omega)) (fun j hj => by unfold updG; rw [if_neg hj]; exact hBe j hj) hP hD hS (lv_sub hl [0, 1, 2, 3, 4, 5, 6, 7] rfl)
              · skip
                refine lv_aload_n hx hb dX12_frees_70 rfl (lv_at hl 5 rfl) ?_
                refine sk_get (v := .long wy2_27) (C := RX12) (T := TX12) (N := 92) hx hb hts inlX12 hown hK hP 0 rfl rfl 45 (by decide) w_5_200 rfl dX12_frees_71 ?_
                refine lv_lload hx hb dX12_frees_74 (lv_at hl 1 rfl) ?_
                refine W.lcmp hx hb dX12_frees_76 ?_
                refine lv_if_gt (tgt := 83) hx hb dX12_frees_77 (by decide) (fun c_39 => ?_) (fun c_39 => ?_)
                · skip
                  refine lv_iload hx hb dX12_frees_83 (lv_at hl 0 rfl) ?_
                  refine lv_istore (lv' := [(5, .int (nI i)), (8, .int (nI i)), (6, .long mo_), (4, .int (nI (Ba kd_7))), (3, .int (nI (2 + (3 * kd_7) + 0))), (0, .ref mm), (1, .int (nI kd_7)), (2, .int 0)]) hx hb dX12_frees_85 hl (by decide) rfl (fun ls hl => ?_)
                  refine lv_aload_n hx hb dX12_frees_87 rfl (lv_at hl 5 rfl) ?_
                  refine sk_get (v := .long wy2_27) (C := RX12) (T := TX12) (N := 92) hx hb hts inlX12 hown hK hP 0 rfl rfl 45 (by decide) w_5_200 rfl dX12_frees_88 ?_
                  refine lv_lstore (lv' := [(6, .long wy2_27), (5, .int (nI i)), (8, .int (nI i)), (4, .int (nI (Ba kd_7))), (3, .int (nI (2 + (3 * kd_7) + 0))), (0, .ref mm), (1, .int (nI kd_7)), (2, .int 0)]) hx hb dX12_frees_91 hl (by decide) rfl (fun ls hl => ?_)
                  refine lv_iinc (v := nI (i + 1)) (lv' := [(8, .int (nI (i + 1))), (6, .long wy2_27), (5, .int (nI i)), (4, .int (nI (Ba kd_7))), (3, .int (nI (2 + (3 * kd_7) + 0))), (0, .ref mm), (1, .int (nI kd_7)), (2, .int 0)]) hx hb dX12_frees_93 hl (k := 2) rfl (ninc i 1 (by decide)) (by decide) rfl (fun ls hl => ?_)
                  refine lv_goto (tgt := 45) hx hb dX12_frees_96 (by decide) ?_
                  exact ih_lp_13 (i + 1) wy2_27 (nI i) am2_24 at_2_25 aa2_26 tk2_22 qp2_23 wy2_27 f_19 ql2_28 ws_2_29 yw2_30 yo2_31 be2_32 bf2_33 (updG BB kd_7 i) _ _ _ (by omega) (by omega) hN_21 (updG_le hBB (by omega)) (fun j hj => by unfold updG; rw [if_neg hj]; exact hBe j hj) hP hD hS (lv_sub hl [0, 1, 2, 3, 4, 5, 6, 7] rfl)
                · skip
                  refine lv_goto (tgt := 93) hx hb dX12_frees_80 (by decide) ?_
                  refine lv_iinc (v := nI (i + 1)) (lv' := [(8, .int (nI (i + 1))), (6, .long mo_), (5, .int be_), (4, .int (nI (Ba kd_7))), (3, .int (nI (2 + (3 * kd_7) + 0))), (0, .ref mm), (1, .int (nI kd_7)), (2, .int 0)]) hx hb dX12_frees_93 hl (k := 0) rfl (ninc i 1 (by decide)) (by decide) rfl (fun ls hl => ?_)
                  refine lv_goto (tgt := 45) hx hb dX12_frees_96 (by decide) ?_
                  exact ih_lp_13 (i + 1) mo_ be_ am2_24 at_2_25 aa2_26 tk2_22 qp2_23 wy2_27 f_19 ql2_28 ws_2_29 yw2_30 yo2_31 be2_32 bf2_33 (updG BB kd_7 i) _ _ _ (by omega) (by omega) hN_21 (updG_le hBB (by omega)) (fun j hj => by unfold updG; rw [if_neg hj]; exact hBe j hj) hP hD hS (lv_sub hl [0, 1, 2, 3, 4, 5, 6, 7] rfl)
        exact lp_13 (10 - 0 + 1) 0 0 (-1) am at_ aa tk qp wy nw ql ws_ yw yo be bf Ba _ _ _ (Nat.lt_succ_self _) (by omega) hnw hB9 (fun _ _ => rfl) hP hD hS (lv_sub hl [0, 1, 2, 3, 4, 5, 6, 7] rfl)
      · skip
        refine lv_aload_n hx hb dX12_frees_28 rfl (lv_at hl 1 rfl) ?_
        refine sk_get (v := .ref (g 31)) (C := RX12) (T := TX12) (N := 92) hx hb hts inlX12 hown hK hP 0 rfl rfl 31 (by decide) w_5_186 rfl dX12_frees_29 ?_
        refine lv_iload_n hx hb dX12_frees_32 rfl (lv_at hl 0 rfl) ?_
        refine va_iald hx hb hK.1 hP 4 0 rfl rfl (vin (2 + (3 * kd_7) + 1) 120 (by omega) (by omega)) dX12_frees_33 ?_
        refine sk_top (nI (We kd_7)) (by rw [nI_clamp (by omega)]; exact nwX_w hnw (by omega)) ?_
        refine lv_istore (lv' := [(4, .int (nI (We kd_7))), (3, .int (nI (2 + (3 * kd_7) + 1))), (0, .ref mm), (1, .int (nI kd_7)), (2, .int 1)]) hx hb dX12_frees_34 hl (by decide) rfl (fun ls hl => ?_)
        refine lv_iconst (v := (-1)) hx hb dX12_frees_36 (by decide) ?_
        refine lv_istore (lv' := [(5, .int (-1)), (4, .int (nI (We kd_7))), (3, .int (nI (2 + (3 * kd_7) + 1))), (0, .ref mm), (1, .int (nI kd_7)), (2, .int 1)]) hx hb dX12_frees_37 hl (by decide) rfl (fun ls hl => ?_)
        refine lv_lconst (v := 0) hx hb dX12_frees_39 (by decide) ?_
        refine lv_lstore (lv' := [(6, .long 0), (5, .int (-1)), (4, .int (nI (We kd_7))), (3, .int (nI (2 + (3 * kd_7) + 1))), (0, .ref mm), (1, .int (nI kd_7)), (2, .int 1)]) hx hb dX12_frees_40 hl (by decide) rfl (fun ls hl => ?_)
        refine lv_iconst (v := 0) hx hb dX12_frees_42 (by decide) ?_
        refine lv_istore (lv' := [(8, .int 0), (6, .long 0), (5, .int (-1)), (4, .int (nI (We kd_7))), (3, .int (nI (2 + (3 * kd_7) + 1))), (0, .ref mm), (1, .int (nI kd_7)), (2, .int 1)]) hx hb dX12_frees_43 hl (by decide) rfl (fun ls hl => ?_)
        have lp_40 : ∀ (n_41 : Nat) (i : Nat) (mo_ : Int64) (be_ : Int32) (zaml : Int32) (zat_l : Int32) (zaal : Int32) (ztkl : Int32) (zqpl : Nat) (zwyl : Int64) (zn : Nat → Int32) (y86l : Nat → Int64) (y38l : Nat → Int32) (y36l : Nat → Int32) (y37l : Nat → Int32) (y43l : Nat → Int64) (y44l : Nat → Int64) (BB : Nat → Nat) (H : Heap) (locs : List Loc) (ls : Array Slot), 10 - i < n_41 → (i ≤ 10) → (nwX wn mN Ba BB U ke lg zn) → (∀ j, BB j ≤ 9) → (∀ j, ¬ j = kd_7 → BB j = We j) → va_P D vwCl [(mm, .inr (12, mo g (nI ta) (nI pa) (nI pe) pd (nI pb) pp pf pg pn rt rn (nI cd) sn (nI il) ztkl zaml zat_l zaal 0 0 (-1) wt zwyl 0 (nI rm) (nI ud) (nI nu) sd (nI qn) (nI qw) qo (nI qb) (nI zqpl) qa (nI qi) (nI oc))), (g 24, .inl (cI, 6, .inl (l6 u0 u1 u2 u3 u4 u5))), (g 25, .inl (cI, 6, .inl (l6 v0 v1 v2 v3 v4 v5))), (g 26, .inl (cI, 3200, .inl (fun j => nI (cs j)))), (g 31, .inl (cI, 120, .inl zn)), (g 46, .inl (cI, 9, .inl (fun j => nI (pt j)))), (g 86, .inl (cJ, 1700, .inr (.inl y86l))), (g 20, .inl (cI, 4, .inl (l4 (nI l0) (nI l1) (nI dm) (nI l3)))), (g 38, .inl (cI, 90, .inl y38l)), (g 36, .inl (cZ, 900, .inl y36l)), (g 37, .inl (cZ, 900, .inl y37l)), (g 43, .inl (cJ, 90, .inr (.inl y43l))), (g 44, .inl (cJ, 90, .inr (.inl y44l)))] H → va_D A [(mm, .inr (12, mo g (nI ta) (nI pa) (nI pe) pd (nI pb) pp pf pg pn rt rn (nI cd) sn (nI il) ztkl zaml zat_l zaal 0 0 (-1) wt zwyl 0 (nI rm) (nI ud) (nI nu) sd (nI qn) (nI qw) qo (nI qb) (nI zqpl) qa (nI qi) (nI oc))), (g 24, .inl (cI, 6, .inl (l6 u0 u1 u2 u3 u4 u5))), (g 25, .inl (cI, 6, .inl (l6 v0 v1 v2 v3 v4 v5))), (g 26, .inl (cI, 3200, .inl (fun j => nI (cs j)))), (g 31, .inl (cI, 120, .inl zn)), (g 46, .inl (cI, 9, .inl (fun j => nI (pt j)))), (g 86, .inl (cJ, 1700, .inr (.inl y86l))), (g 20, .inl (cI, 4, .inl (l4 (nI l0) (nI l1) (nI dm) (nI l3)))), (g 38, .inl (cI, 90, .inl y38l)), (g 36, .inl (cZ, 900, .inl y36l)), (g 37, .inl (cZ, 900, .inl y37l)), (g 43, .inl (cJ, 90, .inr (.inl y43l))), (g 44, .inl (cJ, 90, .inr (.inl y44l)))] → va_S A s.heap H locs → lv_has ls 9 [(8, .int (nI i)), (6, .long mo_), (5, .int be_), (4, .int (nI (We kd_7))), (3, .int (nI (2 + (3 * kd_7) + 1))), (0, .ref mm), (1, .int (nI kd_7)), (2, .int 1)] → W p l e { frames := 6, cells := 0, slots := 0, locals := 142 } s m ([.ref mm, .int (nI kd_7), .int (nI 1)] : List Value).toArray below meth c H locs 0 0 (MQ below (skI D (skT cI cJ cC cZ cS) (fun (r : Int32) (u : va_W) => ∃ (nw2 : Nat → Int32), ∃ (tk2 : Int32), ∃ (qp2 : Nat), ∃ (am2 : Int32), ∃ (at_2 : Int32), ∃ (aa2 : Int32), ∃ (wy2 : Int64), ∃ (ql2 : Nat → Int64), ∃ (ws_2 : Nat → Int32), ∃ (yw2 : Nat → Int32), ∃ (yo2 : Nat → Int32), ∃ (be2 : Nat → Int64), ∃ (bf2 : Nat → Int64), nwX wn mN Ba We U ke lg nw2 ∧ u = [(mm, .inr (12, mo g (nI ta) (nI pa) (nI pe) pd (nI pb) pp pf pg pn rt rn (nI cd) sn (nI il) tk2 am2 at_2 aa2 0 0 (-1) wt wy2 0 (nI rm) (nI ud) (nI nu) sd (nI qn) (nI qw) qo (nI qb) (nI qp2) qa (nI qi) (nI oc))), (g 24, .inl (cI, 6, .inl (l6 u0 u1 u2 u3 u4 u5))), (g 25, .inl (cI, 6, .inl (l6 v0 v1 v2 v3 v4 v5))), (g 26, .inl (cI, 3200, .inl (fun j => nI (cs j)))), (g 31, .inl (cI, 120, .inl nw2)), (g 46, .inl (cI, 9, .inl (fun j => nI (pt j)))), (g 86, .inl (cJ, 1700, .inr (.inl ql2))), (g 20, .inl (cI, 4, .inl (l4 (nI l0) (nI l1) (nI dm) (nI l3)))), (g 38, .inl (cI, 90, .inl ws_2)), (g 36, .inl (cZ, 900, .inl yw2)), (g 37, .inl (cZ, 900, .inl yo2)), (g 43, .inl (cJ, 90, .inr (.inl be2))), (g 44, .inl (cJ, 90, .inr (.inl bf2)))]) A) ([.ref mm, .int (nI kd_7), .int (nI 1)] : List Value).toArray s 0 0 A) (F0 m 45 ls []) := by
          intro n_41
          induction n_41 with
          | zero => intro i mo_ be_ zaml zat_l zaal ztkl zqpl zwyl zn y86l y38l y36l y37l y43l y44l BB H locs ls hm; exact absurd hm (Nat.not_lt_zero _)
          | succ n_41 ih_lp_40 =>
            intro i mo_ be_ zaml zat_l zaal ztkl zqpl zwyl zn y86l y38l y36l y37l y43l y44l BB H locs ls hm hi hzn hBB hBe hP hD hS hl
            refine lv_iload hx hb dX12_frees_45 (lv_at hl 0 rfl) ?_
            refine lv_bipush (v := 10) hx hb dX12_frees_47 (by decide) ?_
            refine lv_icmp_ge (tgt := 99) hx hb dX12_frees_49 (by decide) (fun c_42 => ?_) (fun c_42 => ?_)
            · have c_42 : 10 ≤ i := (nle 10 i (by omega) (by omega)).mp c_42
              refine lv_aload_n hx hb dX12_frees_99 rfl (lv_at hl 5 rfl) ?_
              refine sk_get (v := .ref (g 31)) (C := RX12) (T := TX12) (N := 92) hx hb hts inlX12 hown hK hP 0 rfl rfl 31 (by decide) w_5_186 rfl dX12_frees_100 ?_
              refine lv_iload_n hx hb dX12_frees_103 rfl (lv_at hl 4 rfl) ?_
              refine lv_iload hx hb dX12_frees_104 (lv_at hl 3 rfl) ?_
              refine sk_iastE (k := (2 + (3 * kd_7) + 1)) (x := (nI (We kd_7))) (ws' := fun f_43 => [(mm, .inr (12, mo g (nI ta) (nI pa) (nI pe) pd (nI pb) pp pf pg pn rt rn (nI cd) sn (nI il) ztkl zaml zat_l zaal 0 0 (-1) wt zwyl 0 (nI rm) (nI ud) (nI nu) sd (nI qn) (nI qw) qo (nI qb) (nI zqpl) qa (nI qi) (nI oc))), (g 24, .inl (cI, 6, .inl (l6 u0 u1 u2 u3 u4 u5))), (g 25, .inl (cI, 6, .inl (l6 v0 v1 v2 v3 v4 v5))), (g 26, .inl (cI, 3200, .inl (fun j => nI (cs j)))), (g 31, .inl (cI, 120, .inl f_43)), (g 46, .inl (cI, 9, .inl (fun j => nI (pt j)))), (g 86, .inl (cJ, 1700, .inr (.inl y86l))), (g 20, .inl (cI, 4, .inl (l4 (nI l0) (nI l1) (nI dm) (nI l3)))), (g 38, .inl (cI, 90, .inl y38l)), (g 36, .inl (cZ, 900, .inl y36l)), (g 37, .inl (cZ, 900, .inl y37l)), (g 43, .inl (cJ, 90, .inr (.inl y43l))), (g 44, .inl (cJ, 90, .inr (.inl y44l)))]) hx hb hK hP hD hS 4 0 rfl rfl (by omega) (by omega) (fun _ => rfl) dX12_frees_106 (fun f_43 H locs ef_44 hP hD hS => ?_)
              have hN_45 : nwX wn mN Ba We U ke lg f_43 := (by have h9 := nwX_upw hzn ef_44 (by omega); rw [upd_back hBe] at h9; exact h9)
              refine lv_iload hx hb dX12_frees_107 (lv_at hl 2 rfl) ?_
              exact sk_iret hx hb hr rfl hlocks hK hP hD hS (⟨f_43, ztkl, zqpl, zaml, zat_l, zaal, zwyl, y86l, y38l, y36l, y37l, y43l, y44l, hN_45, rfl⟩) (Nat.le_of_ble_eq_true rfl) (Nat.le_of_ble_eq_true rfl) dX12_frees_109
            · have c_42 : ¬ (10 ≤ i) := fun h => c_42 ((nle 10 i (by omega) (by omega)).mpr h)
              refine lv_aload_n hx hb dX12_frees_52 rfl (lv_at hl 5 rfl) ?_
              refine sk_get (v := .ref (g 31)) (C := RX12) (T := TX12) (N := 92) hx hb hts inlX12 hown hK hP 0 rfl rfl 31 (by decide) w_5_186 rfl dX12_frees_53 ?_
              refine lv_iload_n hx hb dX12_frees_56 rfl (lv_at hl 4 rfl) ?_
              refine lv_iload hx hb dX12_frees_57 (lv_at hl 0 rfl) ?_
              refine sk_iastE (k := (2 + (3 * kd_7) + 1)) (x := (nI i)) (ws' := fun f_46 => [(mm, .inr (12, mo g (nI ta) (nI pa) (nI pe) pd (nI pb) pp pf pg pn rt rn (nI cd) sn (nI il) ztkl zaml zat_l zaal 0 0 (-1) wt zwyl 0 (nI rm) (nI ud) (nI nu) sd (nI qn) (nI qw) qo (nI qb) (nI zqpl) qa (nI qi) (nI oc))), (g 24, .inl (cI, 6, .inl (l6 u0 u1 u2 u3 u4 u5))), (g 25, .inl (cI, 6, .inl (l6 v0 v1 v2 v3 v4 v5))), (g 26, .inl (cI, 3200, .inl (fun j => nI (cs j)))), (g 31, .inl (cI, 120, .inl f_46)), (g 46, .inl (cI, 9, .inl (fun j => nI (pt j)))), (g 86, .inl (cJ, 1700, .inr (.inl y86l))), (g 20, .inl (cI, 4, .inl (l4 (nI l0) (nI l1) (nI dm) (nI l3)))), (g 38, .inl (cI, 90, .inl y38l)), (g 36, .inl (cZ, 900, .inl y36l)), (g 37, .inl (cZ, 900, .inl y37l)), (g 43, .inl (cJ, 90, .inr (.inl y43l))), (g 44, .inl (cJ, 90, .inr (.inl y44l)))]) hx hb hK hP hD hS 4 0 rfl rfl (by omega) (by omega) (fun _ => rfl) dX12_frees_59 (fun f_46 H locs ef_47 hP hD hS => ?_)
              have hN_48 : nwX wn mN Ba (updG BB kd_7 i) U ke lg f_46 := nwX_upw hzn ef_47 (by omega)
              refine lv_aload_n hx hb dX12_frees_60 rfl (lv_at hl 5 rfl) ?_
              refine sk_Vv (q0 := 0) (n := 0) (rest := []) (wr := fmR om_13_1fff _) ⟨hx, hb, hml, hown, hts⟩ hl.1 (c_nm_laysAll l D cI cJ cC cZ cS mm g ta pa pe pd pb pp pf pg pn rt rn cd sn il ztkl zaml zat_l zaal wt zwyl 0 rm ud nu sd qn qw qo qb zqpl qa qi oc u0 u1 u2 u3 u4 u5 v0 v1 v2 v3 v4 v5 cs f_46 pt y86l l0 l1 dm l3 y38l y36l y37l y43l y44l wn mN Ba (updG BB kd_7 i) U ke lg L (by omega) (by omega) hLk hkl hmw0 hmw1 hB9 (updG_le hBB (by omega)) hwk hcs hN_48 hpt) w_7_189 w_7_191 w_0_82 w_1_14 w_7_192 hd_X12_laysAll_0 ⟨⟨(Nat.le_of_ble_eq_true rfl), (Nat.le_of_ble_eq_true rfl)⟩, (Nat.le_of_ble_eq_true rfl), (Nat.le_of_ble_eq_true rfl)⟩ hK hP hD hS hA (fmT om_13_1fff 0) (fmF om_13_1fff 0) (fm_C1 rfl rfl) (fm_R rfl rfl) (fm_nT om_13_1fff 0) (fm_nF om_13_1fff 0) (fm_di om_13_1fff 0) rfl rfl rfl rfl (Nat.le_of_ble_eq_true rfl) dX12_frees_61 (fun u H locs hw hP hD hS => ?_)
              refine exE hw (fun tk2_49 hw1 => exE hw1 (fun qp2_50 hw2 => exE hw2 (fun am2_51 hw3 => exE hw3 (fun at_2_52 hw4 => exE hw4 (fun aa2_53 hw5 => exE hw5 (fun wy2_54 hw6 => exE hw6 (fun ql2_55 hw7 => exE hw7 (fun ws_2_56 hw8 => exE hw8 (fun yw2_57 hw9 => exE hw9 (fun yo2_58 hw10 => exE hw10 (fun be2_59 hw11 => exE hw11 (fun bf2_60 hw12 => anE hw12 (fun hbe_61 hw13 => anE hw13 (fun hcf_62 hw14 => anE hw14 (fun hwy_63 eu_64 => ?_)))))))))))))))
              clear hw hw1 hw2 hw3 hw4 hw5 hw6 hw7 hw8 hw9 hw10 hw11 hw12 hw13 hw14
              refine o_mgE (ws' := [(mm, .inr (12, mo g (nI ta) (nI pa) (nI pe) pd (nI pb) pp pf pg pn rt rn (nI cd) sn (nI il) tk2_49 am2_51 at_2_52 aa2_53 0 0 (-1) wt wy2_54 0 (nI rm) (nI ud) (nI nu) sd (nI qn) (nI qw) qo (nI qb) (nI qp2_50) qa (nI qi) (nI oc))), (g 24, .inl (cI, 6, .inl (l6 u0 u1 u2 u3 u4 u5))), (g 25, .inl (cI, 6, .inl (l6 v0 v1 v2 v3 v4 v5))), (g 26, .inl (cI, 3200, .inl (fun j => nI (cs j)))), (g 31, .inl (cI, 120, .inl f_46)), (g 46, .inl (cI, 9, .inl (fun j => nI (pt j)))), (g 86, .inl (cJ, 1700, .inr (.inl ql2_55))), (g 20, .inl (cI, 4, .inl (l4 (nI l0) (nI l1) (nI dm) (nI l3)))), (g 38, .inl (cI, 90, .inl ws_2_56)), (g 36, .inl (cZ, 900, .inl yw2_57)), (g 37, .inl (cZ, 900, .inl yo2_58)), (g 43, .inl (cJ, 90, .inr (.inl be2_59))), (g 44, .inl (cJ, 90, .inr (.inl bf2_60)))]) eu_64 hP hD rfl (fun hP hD => ?_)
              refine lv_iload hx hb dX12_frees_64 (lv_at hl 2 rfl) ?_
              refine lv_iconst (v := (-1)) hx hb dX12_frees_66 (by decide) ?_
              refine lv_icmp_eq (tgt := 83) hx hb dX12_frees_67 (by decide) (fun c_65 => ?_) (fun c_65 => ?_)
              · skip
                refine lv_iload hx hb dX12_frees_83 (lv_at hl 0 rfl) ?_
                refine lv_istore (lv' := [(5, .int (nI i)), (8, .int (nI i)), (6, .long mo_), (4, .int (nI (We kd_7))), (3, .int (nI (2 + (3 * kd_7) + 1))), (0, .ref mm), (1, .int (nI kd_7)), (2, .int 1)]) hx hb dX12_frees_85 hl (by decide) rfl (fun ls hl => ?_)
                refine lv_aload_n hx hb dX12_frees_87 rfl (lv_at hl 5 rfl) ?_
                refine sk_get (v := .long wy2_54) (C := RX12) (T := TX12) (N := 92) hx hb hts inlX12 hown hK hP 0 rfl rfl 45 (by decide) w_5_200 rfl dX12_frees_88 ?_
                refine lv_lstore (lv' := [(6, .long wy2_54), (5, .int (nI i)), (8, .int (nI i)), (4, .int (nI (We kd_7))), (3, .int (nI (2 + (3 * kd_7) + 1))), (0, .ref mm), (1, .int (nI kd_7)), (2, .int 1)]) hx hb dX12_frees_91 hl (by decide) rfl (fun ls hl => ?_)
                refine lv_iinc (v := nI (i + 1)) (lv' := [(8, .int (nI (i + 1))), (6, .long wy2_54), (5, .int (nI i)), (4, .int (nI (We kd_7))), (3, .int (nI (2 + (3 * kd_7) + 1))), (0, .ref mm), (1, .int (nI kd_7)), (2, .int 1)]) hx hb dX12_frees_93 hl (k := 2) rfl (ninc i 1 (by decide)) (by decide) rfl (fun ls hl => ?_)
                refine lv_goto (tgt := 45) hx hb dX12_frees_96 (by decide) ?_
                exact ih_lp_40 (i + 1) wy2_54 (nI i) am2_51 at_2_52 aa2_53 tk2_49 qp2_50 wy2_54 f_46 ql2_55 ws_2_56 yw2_57 yo2_58 be2_59 bf2_60 (updG BB kd_7 i) _ _ _ (by omega) (by omega) hN_48 (updG_le hBB (by omega)) (fun j hj => by unfold updG; rw [if_neg hj]; exact hBe j hj) hP hD hS (lv_sub hl [0, 1, 2, 3, 4, 5, 6, 7] rfl)
              · skip
                refine lv_aload_n hx hb dX12_frees_70 rfl (lv_at hl 5 rfl) ?_
                refine sk_get (v := .long wy2_54) (C := RX12) (T := TX12) (N := 92) hx hb hts inlX12 hown hK hP 0 rfl rfl 45 (by decide) w_5_200 rfl dX12_frees_71 ?_
                refine lv_lload hx hb dX12_frees_74 (lv_at hl 1 rfl) ?_
                refine W.lcmp hx hb dX12_frees_76 ?_
                refine lv_if_gt (tgt := 83) hx hb dX12_frees_77 (by decide) (fun c_66 => ?_) (fun c_66 => ?_)
                · skip
                  refine lv_iload hx hb dX12_frees_83 (lv_at hl 0 rfl) ?_
                  refine lv_istore (lv' := [(5, .int (nI i)), (8, .int (nI i)), (6, .long mo_), (4, .int (nI (We kd_7))), (3, .int (nI (2 + (3 * kd_7) + 1))), (0, .ref mm), (1, .int (nI kd_7)), (2, .int 1)]) hx hb dX12_frees_85 hl (by decide) rfl (fun ls hl => ?_)
                  refine lv_aload_n hx hb dX12_frees_87 rfl (lv_at hl 5 rfl) ?_
                  refine sk_get (v := .long wy2_54) (C := RX12) (T := TX12) (N := 92) hx hb hts inlX12 hown hK hP 0 rfl rfl 45 (by decide) w_5_200 rfl dX12_frees_88 ?_
                  refine lv_lstore (lv' := [(6, .long wy2_54), (5, .int (nI i)), (8, .int (nI i)), (4, .int (nI (We kd_7))), (3, .int (nI (2 + (3 * kd_7) + 1))), (0, .ref mm), (1, .int (nI kd_7)), (2, .int 1)]) hx hb dX12_frees_91 hl (by decide) rfl (fun ls hl => ?_)
                  refine lv_iinc (v := nI (i + 1)) (lv' := [(8, .int (nI (i + 1))), (6, .long wy2_54), (5, .int (nI i)), (4, .int (nI (We kd_7))), (3, .int (nI (2 + (3 * kd_7) + 1))), (0, .ref mm), (1, .int (nI kd_7)), (2, .int 1)]) hx hb dX12_frees_93 hl (k := 2) rfl (ninc i 1 (by decide)) (by decide) rfl (fun ls hl => ?_)
                  refine lv_goto (tgt := 45) hx hb dX12_frees_96 (by decide) ?_
                  exact ih_lp_40 (i + 1) wy2_54 (nI i) am2_51 at_2_52 aa2_53 tk2_49 qp2_50 wy2_54 f_46 ql2_55 ws_2_56 yw2_57 yo2_58 be2_59 bf2_60 (updG BB kd_7 i) _ _ _ (by omega) (by omega) hN_48 (updG_le hBB (by omega)) (fun j hj => by unfold updG; rw [if_neg hj]; exact hBe j hj) hP hD hS (lv_sub hl [0, 1, 2, 3, 4, 5, 6, 7] rfl)
                · skip
                  refine lv_goto (tgt := 93) hx hb dX12_frees_80 (by decide) ?_
                  refine lv_iinc (v := nI (i + 1)) (lv' := [(8, .int (nI (i + 1))), (6, .long mo_), (5, .int be_), (4, .int (nI (We kd_7))), (3, .int (nI (2 + (3 * kd_7) + 1))), (0, .ref mm), (1, .int (nI kd_7)), (2, .int 1)]) hx hb dX12_frees_93 hl (k := 0) rfl (ninc i 1 (by decide)) (by decide) rfl (fun ls hl => ?_)
                  refine lv_goto (tgt := 45) hx hb dX12_frees_96 (by decide) ?_
                  exact ih_lp_40 (i + 1) mo_ be_ am2_51 at_2_52 aa2_53 tk2_49 qp2_50 wy2_54 f_46 ql2_55 ws_2_56 yw2_57 yo2_58 be2_59 bf2_60 (updG BB kd_7 i) _ _ _ (by omega) (by omega) hN_48 (updG_le hBB (by omega)) (fun j hj => by unfold updG; rw [if_neg hj]; exact hBe j hj) hP hD hS (lv_sub hl [0, 1, 2, 3, 4, 5, 6, 7] rfl)
        exact lp_40 (10 - 0 + 1) 0 0 (-1) am at_ aa tk qp wy nw ql ws_ yw yo be bf We _ _ _ (Nat.lt_succ_self _) (by omega) hnw hW9 (fun _ _ => rfl) hP hD hS (lv_sub hl [0, 1, 2, 3, 4, 5, 6, 7] rfl)
    · have c_11 : b_8 = 0 := (neq b_8 0 (by omega) (by omega)).mp c_11
      refine lv_iconst (v := (-1)) hx hb dX12_frees_18 (by decide) ?_
      exact sk_iret hx hb hr rfl hlocks hK hP hD hS (⟨nw, tk, qp, am, at_, aa, wy, ql, ws_, yw, yo, be, bf, hnw, rfl⟩) (Nat.le_of_ble_eq_true rfl) (Nat.le_of_ble_eq_true rfl) dX12_frees_19

