theorem dX12_tells_50 : decode cX12_tells 50 = .ok (.lconst 0, 1) := q_lconst0 (bat_get dg_X12_tells_50_50 0 rfl rfl)
theorem dX12_tells_51 : decode cX12_tells 51 = .ok (.lstore 6, 2) := q_lstore (bat_get dg_X12_tells_50_50 1 rfl rfl)
theorem dX12_tells_53 : decode cX12_tells 53 = .ok (.iconst 0, 1) := q_iconst0 (bat_get dg_X12_tells_50_50 2 rfl rfl)
theorem dX12_tells_54 : decode cX12_tells 54 = .ok (.istore 8, 2) := q_istore (bat_get dg_X12_tells_50_50 3 rfl rfl)
theorem dX12_tells_56 : decode cX12_tells 56 = .ok (.iload 8, 2) := q_iload (bat_get dg_X12_tells_50_50 4 rfl rfl)
theorem dX12_tells_58 : decode cX12_tells 58 = .ok (.bipush 10, 2) := q_bipush (bat_get dg_X12_tells_50_50 5 rfl rfl) rfl
theorem dX12_tells_60 : decode cX12_tells 60 = .ok (.if_icmp .ge 50, 3) := q_if_icmp_ge (bat_get dg_X12_tells_50_50 6 rfl rfl) rfl
theorem dX12_tells_110 : decode cX12_tells 110 = .ok (.iload_n 2, 1) := q_iload_n2 (bat_get dg_X12_tells_50_50 7 rfl rfl)
theorem dX12_tells_111 : decode cX12_tells 111 = .ok (.iconst (-1), 1) := q_iconstm1 (bat_get dg_X12_tells_50_50 8 rfl rfl)
theorem dX12_tells_112 : decode cX12_tells 112 = .ok (.if_icmp .eq 13, 3) := q_if_icmp_eq (bat_get dg_X12_tells_50_50 9 rfl rfl) rfl
theorem dX12_tells_125 : decode cX12_tells 125 = .ok (.iload 5, 2) := q_iload (bat_get dg_X12_tells_50_50 10 rfl rfl)
theorem dX12_tells_127 : decode cX12_tells 127 = .ok (.istore_n 2, 1) := q_istore_n2 (bat_get dg_X12_tells_50_50 11 rfl rfl)
theorem dX12_tells_128 : decode cX12_tells 128 = .ok (.lload 6, 2) := q_lload (bat_get dg_X12_tells_50_50 12 rfl rfl)
theorem dX12_tells_130 : decode cX12_tells 130 = .ok (.lstore_n 3, 1) := q_lstore_n3 (bat_get dg_X12_tells_50_50 13 rfl rfl)
theorem dX12_tells_131 : decode cX12_tells 131 = .ok (.iinc 5 1, 3) := q_iinc (bat_get dg_X12_tells_50_50 14 rfl rfl) rfl
theorem dX12_tells_134 : decode cX12_tells 134 = .ok (.goto (-102), 3) := q_goto (bat_get dg_X12_tells_50_50 15 rfl rfl) rfl
theorem dX12_tells_115 : decode cX12_tells 115 = .ok (.lload 6, 2) := q_lload (bat_get dg_X12_tells_50_50 16 rfl rfl)
theorem dX12_tells_117 : decode cX12_tells 117 = .ok (.lload_n 3, 1) := q_lload_n3 (bat_get dg_X12_tells_50_50 17 rfl rfl)
theorem dX12_tells_118 : decode cX12_tells 118 = .ok (.lcmp, 1) := q_lcmp (bat_get dg_X12_tells_50_50 18 rfl rfl)
theorem dX12_tells_119 : decode cX12_tells 119 = .ok (.ifCond .lt 6, 3) := q_ifCond_lt (bat_get dg_X12_tells_50_50 19 rfl rfl) rfl
theorem dX12_tells_122 : decode cX12_tells 122 = .ok (.goto 9, 3) := q_goto (bat_get dg_X12_tells_50_50 20 rfl rfl) rfl
theorem dX12_tells_63 : decode cX12_tells 63 = .ok (.aload_n 0, 1) := q_aload_n0 (bat_get dg_X12_tells_50_50 21 rfl rfl)
theorem dX12_tells_64 : decode cX12_tells 64 = .ok (.getfield 86, 3) := q_getfield (bat_get dg_X12_tells_50_50 22 rfl rfl) rfl
theorem dX12_tells_67 : decode cX12_tells 67 = .ok (.bipush 10, 2) := q_bipush (bat_get dg_X12_tells_50_50 23 rfl rfl) rfl
theorem dX12_tells_69 : decode cX12_tells 69 = .ok (.iload 5, 2) := q_iload (bat_get dg_X12_tells_50_50 24 rfl rfl)
theorem dX12_tells_71 : decode cX12_tells 71 = .ok (.imul, 1) := q_imul (bat_get dg_X12_tells_50_50 25 rfl rfl)
theorem dX12_tells_72 : decode cX12_tells 72 = .ok (.iload 8, 2) := q_iload (bat_get dg_X12_tells_50_50 26 rfl rfl)
theorem dX12_tells_74 : decode cX12_tells 74 = .ok (.iadd, 1) := q_iadd (bat_get dg_X12_tells_50_50 27 rfl rfl)
theorem dX12_tells_75 : decode cX12_tells 75 = .ok (.laload, 1) := q_laload (bat_get dg_X12_tells_50_50 28 rfl rfl)
theorem dX12_tells_76 : decode cX12_tells 76 = .ok (.aload_n 0, 1) := q_aload_n0 (bat_get dg_X12_tells_50_50 29 rfl rfl)
theorem dX12_tells_77 : decode cX12_tells 77 = .ok (.getfield 82, 3) := q_getfield (bat_get dg_X12_tells_50_50 30 rfl rfl) rfl
theorem dX12_tells_80 : decode cX12_tells 80 = .ok (.bipush 10, 2) := q_bipush (bat_get dg_X12_tells_50_50 31 rfl rfl) rfl
theorem dX12_tells_82 : decode cX12_tells 82 = .ok (.iload 5, 2) := q_iload (bat_get dg_X12_tells_50_50 32 rfl rfl)
theorem dX12_tells_84 : decode cX12_tells 84 = .ok (.imul, 1) := q_imul (bat_get dg_X12_tells_50_50 33 rfl rfl)
theorem dX12_tells_85 : decode cX12_tells 85 = .ok (.iload 8, 2) := q_iload (bat_get dg_X12_tells_50_50 34 rfl rfl)
theorem dX12_tells_87 : decode cX12_tells 87 = .ok (.iadd, 1) := q_iadd (bat_get dg_X12_tells_50_50 35 rfl rfl)
theorem dX12_tells_88 : decode cX12_tells 88 = .ok (.laload, 1) := q_laload (bat_get dg_X12_tells_50_50 36 rfl rfl)
theorem dX12_tells_89 : decode cX12_tells 89 = .ok (.lmul, 1) := q_lmul (bat_get dg_X12_tells_50_50 37 rfl rfl)
theorem dX12_tells_90 : decode cX12_tells 90 = .ok (.lstore 9, 2) := q_lstore (bat_get dg_X12_tells_50_50 38 rfl rfl)
theorem dX12_tells_92 : decode cX12_tells 92 = .ok (.lload 9, 2) := q_lload (bat_get dg_X12_tells_50_50 39 rfl rfl)
theorem dg_X12_tells_94_94 : bqL cX12_tells 94 [(0, [22, 6]), (2, [148]), (3, [158, 0, 7]), (10, [132, 8, 1]), (13, [167, 255, 205]), (6, [22, 9]), (8, [55, 6])] = true := by decide +kernel
theorem dX12_tells_94 : decode cX12_tells 94 = .ok (.lload 6, 2) := q_lload (bat_get dg_X12_tells_94_94 0 rfl rfl)
theorem dX12_tells_96 : decode cX12_tells 96 = .ok (.lcmp, 1) := q_lcmp (bat_get dg_X12_tells_94_94 1 rfl rfl)
theorem dX12_tells_97 : decode cX12_tells 97 = .ok (.ifCond .le 7, 3) := q_ifCond_le (bat_get dg_X12_tells_94_94 2 rfl rfl) rfl
theorem dX12_tells_104 : decode cX12_tells 104 = .ok (.iinc 8 1, 3) := q_iinc (bat_get dg_X12_tells_94_94 3 rfl rfl) rfl
theorem dX12_tells_107 : decode cX12_tells 107 = .ok (.goto (-51), 3) := q_goto (bat_get dg_X12_tells_94_94 4 rfl rfl) rfl
theorem dX12_tells_100 : decode cX12_tells 100 = .ok (.lload 9, 2) := q_lload (bat_get dg_X12_tells_94_94 5 rfl rfl)
theorem dX12_tells_102 : decode cX12_tells 102 = .ok (.lstore 6, 2) := q_lstore (bat_get dg_X12_tells_94_94 6 rfl rfl)
theorem w_8_112 : (Cond.code yX12_tells cX12_tells 11 (some .long)) ∈ wsL_law := sk_mem (ck_8 _ (List.mem_of_getElem? (i := 112) rfl)) rfl
set_option maxHeartbeats 4000000 in
set_option maxRecDepth 100000 in
theorem c_m_tells (l : Launch) (D : va_G) (cI cJ cC cZ cS : ClassId) (mm : Nat) (g : Nat → Nat) (ta : Nat) (pa : Nat) (pe : Nat) (pd : Int32) (pb : Nat) (pp : Int32) (pf : Int32) (pg : Int32) (pn : Int32) (rt : Int32) (rn : Int32) (cd : Nat) (sn : Int32) (il : Nat) (tk : Int32) (am : Int32) (at_ : Int32) (aa : Int32) (wt : Int32) (wy : Int64) (rm : Nat) (ud : Nat) (nu : Nat) (sd : Int64) (qn : Nat) (qw : Nat) (qo : Int32) (qb : Nat) (qp : Nat) (qa : Int64) (qi : Nat) (oc : Nat) (w : Int32) (u0 : Int32) (u1 : Int32) (u2 : Int32) (u3 : Int32) (u4 : Int32) (u5 : Int32) (v0 : Int32) (v1 : Int32) (v2 : Int32) (v3 : Int32) (v4 : Int32) (v5 : Int32) (cs : Nat → Nat) (nw : Nat → Int32) (pt : Nat → Nat) (ql : Nat → Int64) (l0 : Nat) (l1 : Nat) (dm : Nat) (l3 : Nat) (ws_ : Nat → Int32) (yw : Nat → Int32) (yo : Nat → Int32) (be : Nat → Int64) (bf : Nat → Int64) (rw_ : Nat → Int32) (hil : il ≤ 1) (hild : il = 1 → 1 ≤ dm) (hdm : dm ≤ 9) (hp0 : progOk cs u3 v3) (hp1 : progOk cs u4 v4) (hp2 : progOk cs u5 v5) (hrm : rm ≤ 16) (hcs : ∀ j, cs j ≤ 20000) (hnw : nowOk nw) (hpt : ∀ j, pt j ≤ 9) : skM l yX12_tells cX12_tells 11 (some .long) 6 142 0 0 D (skT cI cJ cC cZ cS) [.ref mm, .int w] [(mm, .inr (12, mo g (nI ta) (nI pa) (nI pe) pd (nI pb) pp pf pg pn rt rn (nI cd) sn (nI il) tk am at_ aa 0 0 (-1) wt wy 0 (nI rm) (nI ud) (nI nu) sd (nI qn) (nI qw) qo (nI qb) (nI qp) qa (nI qi) (nI oc))), (g 24, .inl (cI, 6, .inl (l6 u0 u1 u2 u3 u4 u5))), (g 25, .inl (cI, 6, .inl (l6 v0 v1 v2 v3 v4 v5))), (g 26, .inl (cI, 3200, .inl (fun j => nI (cs j)))), (g 31, .inl (cI, 120, .inl nw)), (g 46, .inl (cI, 9, .inl (fun j => nI (pt j)))), (g 86, .inl (cJ, 1700, .inr (.inl ql))), (g 20, .inl (cI, 4, .inl (l4 (nI l0) (nI l1) (nI dm) (nI l3)))), (g 38, .inl (cI, 90, .inl ws_)), (g 36, .inl (cZ, 900, .inl yw)), (g 37, .inl (cZ, 900, .inl yo)), (g 43, .inl (cJ, 90, .inr (.inl be))), (g 44, .inl (cJ, 90, .inr (.inl bf))), (g 53, .inl (cI, 32, .inl rw_))] (skL D (skT cI cJ cC cZ cS) (fun (r : Int64) (u : va_W) => ∃ (tk2 : Int32), ∃ (qp2 : Nat), ∃ (am2 : Int32), ∃ (at_2 : Int32), ∃ (aa2 : Int32), ∃ (wy2 : Int64), ∃ (ql2 : Nat → Int64), ∃ (ws_2 : Nat → Int32), ∃ (yw2 : Nat → Int32), ∃ (yo2 : Nat → Int32), ∃ (be2 : Nat → Int64), ∃ (bf2 : Nat → Int64), u = [(mm, .inr (12, mo g (nI ta) (nI pa) (nI pe) pd (nI pb) pp pf pg pn rt rn (nI cd) sn (nI il) tk2 am2 at_2 aa2 0 0 (-1) wt wy2 0 (nI rm) (nI ud) (nI nu) sd (nI qn) (nI qw) qo (nI qb) (nI qp2) qa (nI qi) (nI oc))), (g 24, .inl (cI, 6, .inl (l6 u0 u1 u2 u3 u4 u5))), (g 25, .inl (cI, 6, .inl (l6 v0 v1 v2 v3 v4 v5))), (g 26, .inl (cI, 3200, .inl (fun j => nI (cs j)))), (g 31, .inl (cI, 120, .inl nw)), (g 46, .inl (cI, 9, .inl (fun j => nI (pt j)))), (g 86, .inl (cJ, 1700, .inr (.inl ql2))), (g 20, .inl (cI, 4, .inl (l4 (nI l0) (nI l1) (nI dm) (nI l3)))), (g 38, .inl (cI, 90, .inl ws_2)), (g 36, .inl (cZ, 900, .inl yw2)), (g 37, .inl (cZ, 900, .inl yo2)), (g 43, .inl (cJ, 90, .inr (.inl be2))), (g 44, .inl (cJ, 90, .inr (.inl bf2))), (g 53, .inl (cI, 32, .inl rw_))])) := by
  refine skM_of pf_X12_tells (Nat.le_of_ble_eq_true rfl) ?_
  intro p e s m below meth c A ls E hP hD hl
  refine skE_el E (fun hx hb hr hml hlocks hin hown hts hK hA => ?_)
  have hown : s.vm.findClass RX12 = some m.cls := hown
  have hS : va_S A s.heap s.heap [] := va_S.rf
  have hl : lv_has ls 11 [(0, .ref mm), (1, .int w)] := hl
  refine lv_aload_n hx hb dX12_tells_0 rfl (lv_at hl 0 rfl) ?_
  refine sk_get (v := .int (nI il)) (C := RX12) (T := TX12) (N := 92) hx hb hts inlX12 hown hK hP 0 rfl rfl 29 (by decide) w_5_184 rfl dX12_tells_1 ?_
  refine lv_if_eq (tgt := 17) hx hb dX12_tells_4 (by decide) (fun c_1 => ?_) (fun c_1 => ?_)
  · have c_1 : il = 0 := (neq il 0 (by omega) (by omega)).mp c_1
    refine lv_ldc2 (v := (-1000000000000000)) hx hb hown (hts _ w_7_184) dX12_tells_17 ?_
    exact sk_lret hx hb hr hlocks hK hP hD hS (⟨tk, qp, am, at_, aa, wy, ql, ws_, yw, yo, be, bf, rfl⟩) (Nat.le_of_ble_eq_true rfl) (Nat.le_of_ble_eq_true rfl) dX12_tells_20
  · have c_1 : ¬ (il = 0) := fun h => c_1 ((neq il 0 (by omega) (by omega)).mpr h)
    refine lv_iload_n hx hb dX12_tells_7 rfl (lv_at hl 1 rfl) ?_
    refine lv_i2l hx hb dX12_tells_8 rfl ?_
    refine lv_lconst (v := 0) hx hb dX12_tells_9 (by decide) ?_
    refine lv_lconst (v := 1) hx hb dX12_tells_10 (by decide) ?_
    refine sk_Si (n := 3) (rest := []) (wr := [(mm, .inr (12, mo g (nI ta) (nI pa) (nI pe) pd (nI pb) pp pf pg pn rt rn (nI cd) sn (nI il) tk am at_ aa 0 0 (-1) wt wy 0 (nI rm) (nI ud) (nI nu) sd (nI qn) (nI qw) qo (nI qb) (nI qp) qa (nI qi) (nI oc))), (g 24, .inl (cI, 6, .inl (l6 u0 u1 u2 u3 u4 u5))), (g 25, .inl (cI, 6, .inl (l6 v0 v1 v2 v3 v4 v5))), (g 26, .inl (cI, 3200, .inl (fun j => nI (cs j)))), (g 31, .inl (cI, 120, .inl nw)), (g 46, .inl (cI, 9, .inl (fun j => nI (pt j)))), (g 86, .inl (cJ, 1700, .inr (.inl ql))), (g 20, .inl (cI, 4, .inl (l4 (nI l0) (nI l1) (nI dm) (nI l3)))), (g 38, .inl (cI, 90, .inl ws_)), (g 36, .inl (cZ, 900, .inl yw)), (g 37, .inl (cZ, 900, .inl yo)), (g 43, .inl (cJ, 90, .inr (.inl be))), (g 44, .inl (cJ, 90, .inr (.inl bf))), (g 53, .inl (cI, 32, .inl rw_))]) ⟨hx, hb, hml, hown, hts⟩ hl.1 (c_m_isIn l D cI cJ cC cZ cS (Int32.toInt64 w) 0 1) w_7_0 w_7_1 w_1_14 w_7_2 hd_X12_isIn_3 ⟨⟨(Nat.le_of_ble_eq_true rfl), (Nat.le_of_ble_eq_true rfl)⟩, (Nat.le_of_ble_eq_true rfl), (Nat.le_of_ble_eq_true rfl)⟩ hK hP hD hS hA [] [0, 1, 2, 3, 4, 5, 6, 7, 8, 9, 10, 11, 12, 13] rfl rfl (by decide +kernel) (by decide +kernel) (by decide +kernel) rfl rfl (Nat.le_of_ble_eq_true rfl) dX12_tells_11 (fun r_3 u H locs hw hP hD hS => ?_)
    obtain ⟨b_2, hb1_4, rfl, rfl⟩ := hw
    refine o_re (ws' := [(mm, .inr (12, mo g (nI ta) (nI pa) (nI pe) pd (nI pb) pp pf pg pn rt rn (nI cd) sn (nI il) tk am at_ aa 0 0 (-1) wt wy 0 (nI rm) (nI ud) (nI nu) sd (nI qn) (nI qw) qo (nI qb) (nI qp) qa (nI qi) (nI oc))), (g 24, .inl (cI, 6, .inl (l6 u0 u1 u2 u3 u4 u5))), (g 25, .inl (cI, 6, .inl (l6 v0 v1 v2 v3 v4 v5))), (g 26, .inl (cI, 3200, .inl (fun j => nI (cs j)))), (g 31, .inl (cI, 120, .inl nw)), (g 46, .inl (cI, 9, .inl (fun j => nI (pt j)))), (g 86, .inl (cJ, 1700, .inr (.inl ql))), (g 20, .inl (cI, 4, .inl (l4 (nI l0) (nI l1) (nI dm) (nI l3)))), (g 38, .inl (cI, 90, .inl ws_)), (g 36, .inl (cZ, 900, .inl yw)), (g 37, .inl (cZ, 900, .inl yo)), (g 43, .inl (cJ, 90, .inr (.inl be))), (g 44, .inl (cJ, 90, .inr (.inl bf))), (g 53, .inl (cI, 32, .inl rw_))]) hP hD rfl (fun hP hD => ?_)
    refine lv_if_ne (tgt := 21) hx hb dX12_tells_14 (by decide) (fun c_5 => ?_) (fun c_5 => ?_)
    · have c_5 : ¬ (b_2 = 0) := fun h => c_5 ((neq b_2 0 (by omega) (by omega)).mpr h)
      obtain ⟨kd_6, hkd_6, rfl⟩ := inK 2 (hb1_4.resolve_left (by omega)).2.1 (hb1_4.resolve_left (by omega)).2.2 (by decide)
      refine lv_aload_n hx hb dX12_tells_21 rfl (lv_at hl 0 rfl) ?_
      refine sk_Vv (q0 := 0) (n := 0) (rest := []) (wr := fmR om_14_3fff _) ⟨hx, hb, hml, hown, hts⟩ hl.1 (c_m_laysHeard l D cI cJ cC cZ cS mm g ta pa pe pd pb pp pf pg pn rt rn cd sn il tk am at_ aa wt wy rm ud nu sd qn qw qo qb qp qa qi oc u0 u1 u2 u3 u4 u5 v0 v1 v2 v3 v4 v5 cs nw pt ql l0 l1 dm l3 ws_ yw yo be bf rw_ (by omega) (by omega) hp0 hp1 hp2 (by omega) hcs hnw hpt) w_8_105 w_8_107 w_0_105 w_1_14 w_8_108 hd_X12_laysHeard_0 ⟨⟨(Nat.le_of_ble_eq_true rfl), (Nat.le_of_ble_eq_true rfl)⟩, (Nat.le_of_ble_eq_true rfl), (Nat.le_of_ble_eq_true rfl)⟩ hK hP hD hS hA (fmT om_14_3fff 0) (fmF om_14_3fff 0) (fm_C1 rfl rfl) (fm_R rfl rfl) (fm_nT om_14_3fff 0) (fm_nF om_14_3fff 0) (fm_di om_14_3fff 0) rfl rfl rfl rfl (Nat.le_of_ble_eq_true rfl) dX12_tells_22 (fun u H locs hw hP hD hS => ?_)
      refine exE hw (fun tk2_7 hw1 => exE hw1 (fun qp2_8 hw2 => exE hw2 (fun am2_9 hw3 => exE hw3 (fun at_2_10 hw4 => exE hw4 (fun aa2_11 hw5 => exE hw5 (fun wy2_12 hw6 => exE hw6 (fun ql2_13 hw7 => exE hw7 (fun ws_2_14 hw8 => exE hw8 (fun yw2_15 hw9 => exE hw9 (fun yo2_16 hw10 => exE hw10 (fun be2_17 hw11 => exE hw11 (fun bf2_18 eu_19 => ?_))))))))))))
      clear hw hw1 hw2 hw3 hw4 hw5 hw6 hw7 hw8 hw9 hw10 hw11
      refine o_mgE (ws' := [(mm, .inr (12, mo g (nI ta) (nI pa) (nI pe) pd (nI pb) pp pf pg pn rt rn (nI cd) sn (nI il) tk2_7 am2_9 at_2_10 aa2_11 0 0 (-1) wt wy2_12 0 (nI rm) (nI ud) (nI nu) sd (nI qn) (nI qw) qo (nI qb) (nI qp2_8) qa (nI qi) (nI oc))), (g 24, .inl (cI, 6, .inl (l6 u0 u1 u2 u3 u4 u5))), (g 25, .inl (cI, 6, .inl (l6 v0 v1 v2 v3 v4 v5))), (g 26, .inl (cI, 3200, .inl (fun j => nI (cs j)))), (g 31, .inl (cI, 120, .inl nw)), (g 46, .inl (cI, 9, .inl (fun j => nI (pt j)))), (g 86, .inl (cJ, 1700, .inr (.inl ql2_13))), (g 20, .inl (cI, 4, .inl (l4 (nI l0) (nI l1) (nI dm) (nI l3)))), (g 38, .inl (cI, 90, .inl ws_2_14)), (g 36, .inl (cZ, 900, .inl yw2_15)), (g 37, .inl (cZ, 900, .inl yo2_16)), (g 43, .inl (cJ, 90, .inr (.inl be2_17))), (g 44, .inl (cJ, 90, .inr (.inl bf2_18))), (g 53, .inl (cI, 32, .inl rw_))]) eu_19 hP hD rfl (fun hP hD => ?_)
      refine lv_iconst (v := (-1)) hx hb dX12_tells_25 (by decide) ?_
      refine lv_istore_n (lv' := [(2, .int (-1)), (0, .ref mm), (1, .int (nI kd_6))]) hx hb dX12_tells_26 rfl hl (by decide) rfl (fun ls hl => ?_)
      refine lv_lconst (v := 0) hx hb dX12_tells_27 (by decide) ?_
      refine lv_lstore_n (lv' := [(3, .long 0), (2, .int (-1)), (0, .ref mm), (1, .int (nI kd_6))]) hx hb dX12_tells_28 rfl hl (by decide) rfl (fun ls hl => ?_)
      refine lv_iconst (v := 0) hx hb dX12_tells_29 (by decide) ?_
      refine lv_istore (lv' := [(5, .int 0), (3, .long 0), (2, .int (-1)), (0, .ref mm), (1, .int (nI kd_6))]) hx hb dX12_tells_30 hl (by decide) rfl (fun ls hl => ?_)
      have lp_20 : ∀ (n_21 : Nat) (i : Nat) (fe : Int64) (be_ : Int32) (H : Heap) (locs : List Loc) (ls : Array Slot), dm - i < n_21 → (i ≤ dm) → va_P D vwCl [(mm, .inr (12, mo g (nI ta) (nI pa) (nI pe) pd (nI pb) pp pf pg pn rt rn (nI cd) sn (nI il) tk2_7 am2_9 at_2_10 aa2_11 0 0 (-1) wt wy2_12 0 (nI rm) (nI ud) (nI nu) sd (nI qn) (nI qw) qo (nI qb) (nI qp2_8) qa (nI qi) (nI oc))), (g 24, .inl (cI, 6, .inl (l6 u0 u1 u2 u3 u4 u5))), (g 25, .inl (cI, 6, .inl (l6 v0 v1 v2 v3 v4 v5))), (g 26, .inl (cI, 3200, .inl (fun j => nI (cs j)))), (g 31, .inl (cI, 120, .inl nw)), (g 46, .inl (cI, 9, .inl (fun j => nI (pt j)))), (g 86, .inl (cJ, 1700, .inr (.inl ql2_13))), (g 20, .inl (cI, 4, .inl (l4 (nI l0) (nI l1) (nI dm) (nI l3)))), (g 38, .inl (cI, 90, .inl ws_2_14)), (g 36, .inl (cZ, 900, .inl yw2_15)), (g 37, .inl (cZ, 900, .inl yo2_16)), (g 43, .inl (cJ, 90, .inr (.inl be2_17))), (g 44, .inl (cJ, 90, .inr (.inl bf2_18))), (g 53, .inl (cI, 32, .inl rw_))] H → va_D A [(mm, .inr (12, mo g (nI ta) (nI pa) (nI pe) pd (nI pb) pp pf pg pn rt rn (nI cd) sn (nI il) tk2_7 am2_9 at_2_10 aa2_11 0 0 (-1) wt wy2_12 0 (nI rm) (nI ud) (nI nu) sd (nI qn) (nI qw) qo (nI qb) (nI qp2_8) qa (nI qi) (nI oc))), (g 24, .inl (cI, 6, .inl (l6 u0 u1 u2 u3 u4 u5))), (g 25, .inl (cI, 6, .inl (l6 v0 v1 v2 v3 v4 v5))), (g 26, .inl (cI, 3200, .inl (fun j => nI (cs j)))), (g 31, .inl (cI, 120, .inl nw)), (g 46, .inl (cI, 9, .inl (fun j => nI (pt j)))), (g 86, .inl (cJ, 1700, .inr (.inl ql2_13))), (g 20, .inl (cI, 4, .inl (l4 (nI l0) (nI l1) (nI dm) (nI l3)))), (g 38, .inl (cI, 90, .inl ws_2_14)), (g 36, .inl (cZ, 900, .inl yw2_15)), (g 37, .inl (cZ, 900, .inl yo2_16)), (g 43, .inl (cJ, 90, .inr (.inl be2_17))), (g 44, .inl (cJ, 90, .inr (.inl bf2_18))), (g 53, .inl (cI, 32, .inl rw_))] → va_S A s.heap H locs → lv_has ls 11 [(5, .int (nI i)), (3, .long fe), (2, .int be_), (0, .ref mm), (1, .int (nI kd_6))] → W p l e { frames := 6, cells := 0, slots := 0, locals := 142 } s m ([.ref mm, .int (nI kd_6)] : List Value).toArray below meth c H locs 0 0 (MQ below (skL D (skT cI cJ cC cZ cS) (fun (r : Int64) (u : va_W) => ∃ (tk2 : Int32), ∃ (qp2 : Nat), ∃ (am2 : Int32), ∃ (at_2 : Int32), ∃ (aa2 : Int32), ∃ (wy2 : Int64), ∃ (ql2 : Nat → Int64), ∃ (ws_2 : Nat → Int32), ∃ (yw2 : Nat → Int32), ∃ (yo2 : Nat → Int32), ∃ (be2 : Nat → Int64), ∃ (bf2 : Nat → Int64), u = [(mm, .inr (12, mo g (nI ta) (nI pa) (nI pe) pd (nI pb) pp pf pg pn rt rn (nI cd) sn (nI il) tk2 am2 at_2 aa2 0 0 (-1) wt wy2 0 (nI rm) (nI ud) (nI nu) sd (nI qn) (nI qw) qo (nI qb) (nI qp2) qa (nI qi) (nI oc))), (g 24, .inl (cI, 6, .inl (l6 u0 u1 u2 u3 u4 u5))), (g 25, .inl (cI, 6, .inl (l6 v0 v1 v2 v3 v4 v5))), (g 26, .inl (cI, 3200, .inl (fun j => nI (cs j)))), (g 31, .inl (cI, 120, .inl nw)), (g 46, .inl (cI, 9, .inl (fun j => nI (pt j)))), (g 86, .inl (cJ, 1700, .inr (.inl ql2))), (g 20, .inl (cI, 4, .inl (l4 (nI l0) (nI l1) (nI dm) (nI l3)))), (g 38, .inl (cI, 90, .inl ws_2)), (g 36, .inl (cZ, 900, .inl yw2)), (g 37, .inl (cZ, 900, .inl yo2)), (g 43, .inl (cJ, 90, .inr (.inl be2))), (g 44, .inl (cJ, 90, .inr (.inl bf2))), (g 53, .inl (cI, 32, .inl rw_))]) A) ([.ref mm, .int (nI kd_6)] : List Value).toArray s 0 0 A) (F0 m 32 ls []) := by
        intro n_21
        induction n_21 with
        | zero => intro i fe be_ H locs ls hm; exact absurd hm (Nat.not_lt_zero _)
        | succ n_21 ih_lp_20 =>
          intro i fe be_ H locs ls hm hi hP hD hS hl
          refine lv_iload hx hb dX12_tells_32 (lv_at hl 0 rfl) ?_
          refine lv_aload_n hx hb dX12_tells_34 rfl (lv_at hl 3 rfl) ?_
          refine sk_Vi (q0 := 0) (n := 0) (rest := [.int (nI i)]) (wr := fmR om_14_2040 _) ⟨hx, hb, hml, hown, hts⟩ hl.1 (c_m_dayMany l D cI cJ cC cZ cS mm g ta pa pe pd pb pp pf pg pn rt rn cd sn il tk2_7 am2_9 at_2_10 aa2_11 0 0 (-1) wt wy2_12 0 rm ud nu sd qn qw qo qb qp2_8 qa qi oc l0 l1 dm l3) w_7_98 w_7_100 w_0_69 w_1_14 w_7_101 hd_X12_dayMany_0 ⟨⟨(Nat.le_of_ble_eq_true rfl), (Nat.le_of_ble_eq_true rfl)⟩, (Nat.le_of_ble_eq_true rfl), (Nat.le_of_ble_eq_true rfl)⟩ hK hP hD hS hA (fmT om_14_2040 0) (fmF om_14_2040 0) (fm_C1 rfl rfl) (fm_R rfl rfl) (fm_nT om_14_2040 0) (fm_nF om_14_2040 0) (fm_di om_14_2040 0) rfl rfl rfl rfl (Nat.le_of_ble_eq_true rfl) dX12_tells_35 (fun r_22 u H locs hw hP hD hS => ?_)
          refine anE hw (fun er_24 eu_23 => ?_)
          clear hw
          subst er_24
          refine o_mgE (ws' := [(mm, .inr (12, mo g (nI ta) (nI pa) (nI pe) pd (nI pb) pp pf pg pn rt rn (nI cd) sn (nI il) tk2_7 am2_9 at_2_10 aa2_11 0 0 (-1) wt wy2_12 0 (nI rm) (nI ud) (nI nu) sd (nI qn) (nI qw) qo (nI qb) (nI qp2_8) qa (nI qi) (nI oc))), (g 24, .inl (cI, 6, .inl (l6 u0 u1 u2 u3 u4 u5))), (g 25, .inl (cI, 6, .inl (l6 v0 v1 v2 v3 v4 v5))), (g 26, .inl (cI, 3200, .inl (fun j => nI (cs j)))), (g 31, .inl (cI, 120, .inl nw)), (g 46, .inl (cI, 9, .inl (fun j => nI (pt j)))), (g 86, .inl (cJ, 1700, .inr (.inl ql2_13))), (g 20, .inl (cI, 4, .inl (l4 (nI l0) (nI l1) (nI dm) (nI l3)))), (g 38, .inl (cI, 90, .inl ws_2_14)), (g 36, .inl (cZ, 900, .inl yw2_15)), (g 37, .inl (cZ, 900, .inl yo2_16)), (g 43, .inl (cJ, 90, .inr (.inl be2_17))), (g 44, .inl (cJ, 90, .inr (.inl bf2_18))), (g 53, .inl (cI, 32, .inl rw_))]) eu_23 hP hD rfl (fun hP hD => ?_)
          refine lv_icmp_ge (tgt := 137) hx hb dX12_tells_38 (by decide) (fun c_25 => ?_) (fun c_25 => ?_)
          · have c_25 : dm ≤ i := (nle dm i (by omega) (by omega)).mp c_25
            refine lv_iload_n hx hb dX12_tells_137 rfl (lv_at hl 2 rfl) ?_
            refine lv_iconst (v := (-1)) hx hb dX12_tells_138 (by decide) ?_
            refine lv_icmp_ne (tgt := 148) hx hb dX12_tells_139 (by decide) (fun c_26 => ?_) (fun c_26 => ?_)
            · skip
              refine lv_iload_n hx hb dX12_tells_148 rfl (lv_at hl 4 rfl) ?_
              refine lv_if_ne (tgt := 157) hx hb dX12_tells_149 (by decide) (fun c_27 => ?_) (fun c_27 => ?_)
              · have c_27 : ¬ (kd_6 = 0) := fun h => c_27 ((neq kd_6 0 (by omega) (by omega)).mpr h)
                refine lv_lload_n hx hb dX12_tells_157 rfl (lv_at hl 1 rfl) ?_
                exact sk_lret hx hb hr hlocks hK hP hD hS (⟨tk2_7, qp2_8, am2_9, at_2_10, aa2_11, wy2_12, ql2_13, ws_2_14, yw2_15, yo2_16, be2_17, bf2_18, rfl⟩) (Nat.le_of_ble_eq_true rfl) (Nat.le_of_ble_eq_true rfl) dX12_tells_158
              · have c_27 : kd_6 = 0 := (neq kd_6 0 (by omega) (by omega)).mp c_27
                refine lv_iload_n hx hb dX12_tells_152 rfl (lv_at hl 2 rfl) ?_
                refine lv_i2l hx hb dX12_tells_153 rfl ?_
                refine lv_goto (tgt := 158) hx hb dX12_tells_154 (by decide) ?_
                exact sk_lret hx hb hr hlocks hK hP hD hS (⟨tk2_7, qp2_8, am2_9, at_2_10, aa2_11, wy2_12, ql2_13, ws_2_14, yw2_15, yo2_16, be2_17, bf2_18, rfl⟩) (Nat.le_of_ble_eq_true rfl) (Nat.le_of_ble_eq_true rfl) dX12_tells_158
            · skip
              refine lv_ldc2 (v := (-1000000000000000)) hx hb hown (hts _ w_7_184) dX12_tells_142 ?_
              refine lv_goto (tgt := 158) hx hb dX12_tells_145 (by decide) ?_
              exact sk_lret hx hb hr hlocks hK hP hD hS (⟨tk2_7, qp2_8, am2_9, at_2_10, aa2_11, wy2_12, ql2_13, ws_2_14, yw2_15, yo2_16, be2_17, bf2_18, rfl⟩) (Nat.le_of_ble_eq_true rfl) (Nat.le_of_ble_eq_true rfl) dX12_tells_158
          · have c_25 : ¬ (dm ≤ i) := fun h => c_25 ((nle dm i (by omega) (by omega)).mpr h)
            refine lv_aload_n hx hb dX12_tells_41 rfl (lv_at hl 3 rfl) ?_
            refine sk_get (v := .long wy2_12) (C := RX12) (T := TX12) (N := 92) hx hb hts inlX12 hown hK hP 0 rfl rfl 45 (by decide) w_5_200 rfl dX12_tells_42 ?_
            refine lv_lconst (v := 0) hx hb dX12_tells_45 (by decide) ?_
            refine W.lcmp hx hb dX12_tells_46 ?_
            refine lv_if_le (tgt := 137) hx hb dX12_tells_47 (by decide) (fun c_28 => ?_) (fun c_28 => ?_)
            · skip
              refine lv_iload_n hx hb dX12_tells_137 rfl (lv_at hl 2 rfl) ?_
              refine lv_iconst (v := (-1)) hx hb dX12_tells_138 (by decide) ?_
              refine lv_icmp_ne (tgt := 148) hx hb dX12_tells_139 (by decide) (fun c_29 => ?_) (fun c_29 => ?_)
              · skip
                refine lv_iload_n hx hb dX12_tells_148 rfl (lv_at hl 4 rfl) ?_
                refine lv_if_ne (tgt := 157) hx hb dX12_tells_149 (by decide) (fun c_30 => ?_) (fun c_30 => ?_)
                · have c_30 : ¬ (kd_6 = 0) := fun h => c_30 ((neq kd_6 0 (by omega) (by omega)).mpr h)
                  refine lv_lload_n hx hb dX12_tells_157 rfl (lv_at hl 1 rfl) ?_
                  exact sk_lret hx hb hr hlocks hK hP hD hS (⟨tk2_7, qp2_8, am2_9, at_2_10, aa2_11, wy2_12, ql2_13, ws_2_14, yw2_15, yo2_16, be2_17, bf2_18, rfl⟩) (Nat.le_of_ble_eq_true rfl) (Nat.le_of_ble_eq_true rfl) dX12_tells_158
                · have c_30 : kd_6 = 0 := (neq kd_6 0 (by omega) (by omega)).mp c_30
                  refine lv_iload_n hx hb dX12_tells_152 rfl (lv_at hl 2 rfl) ?_
                  refine lv_i2l hx hb dX12_tells_153 rfl ?_
                  refine lv_goto (tgt := 158) hx hb dX12_tells_154 (by decide) ?_
                  exact sk_lret hx hb hr hlocks hK hP hD hS (⟨tk2_7, qp2_8, am2_9, at_2_10, aa2_11, wy2_12, ql2_13, ws_2_14, yw2_15, yo2_16, be2_17, bf2_18, rfl⟩) (Nat.le_of_ble_eq_true rfl) (Nat.le_of_ble_eq_true rfl) dX12_tells_158
              · skip
                refine lv_ldc2 (v := (-1000000000000000)) hx hb hown (hts _ w_7_184) dX12_tells_142 ?_
                refine lv_goto (tgt := 158) hx hb dX12_tells_145 (by decide) ?_
                exact sk_lret hx hb hr hlocks hK hP hD hS (⟨tk2_7, qp2_8, am2_9, at_2_10, aa2_11, wy2_12, ql2_13, ws_2_14, yw2_15, yo2_16, be2_17, bf2_18, rfl⟩) (Nat.le_of_ble_eq_true rfl) (Nat.le_of_ble_eq_true rfl) dX12_tells_158
            · skip
              refine lv_lconst (v := 0) hx hb dX12_tells_50 (by decide) ?_
              refine lv_lstore (lv' := [(6, .long 0), (5, .int (nI i)), (3, .long fe), (2, .int be_), (0, .ref mm), (1, .int (nI kd_6))]) hx hb dX12_tells_51 hl (by decide) rfl (fun ls hl => ?_)
              refine lv_iconst (v := 0) hx hb dX12_tells_53 (by decide) ?_
              refine lv_istore (lv' := [(8, .int 0), (6, .long 0), (5, .int (nI i)), (3, .long fe), (2, .int be_), (0, .ref mm), (1, .int (nI kd_6))]) hx hb dX12_tells_54 hl (by decide) rfl (fun ls hl => ?_)
              have lp_31 : ∀ (n_32 : Nat) (jm : Nat) (mo_ : Int64) (H : Heap) (locs : List Loc) (ls : Array Slot), 10 - jm < n_32 → (jm ≤ 10) → va_P D vwCl [(mm, .inr (12, mo g (nI ta) (nI pa) (nI pe) pd (nI pb) pp pf pg pn rt rn (nI cd) sn (nI il) tk2_7 am2_9 at_2_10 aa2_11 0 0 (-1) wt wy2_12 0 (nI rm) (nI ud) (nI nu) sd (nI qn) (nI qw) qo (nI qb) (nI qp2_8) qa (nI qi) (nI oc))), (g 24, .inl (cI, 6, .inl (l6 u0 u1 u2 u3 u4 u5))), (g 25, .inl (cI, 6, .inl (l6 v0 v1 v2 v3 v4 v5))), (g 26, .inl (cI, 3200, .inl (fun j => nI (cs j)))), (g 31, .inl (cI, 120, .inl nw)), (g 46, .inl (cI, 9, .inl (fun j => nI (pt j)))), (g 86, .inl (cJ, 1700, .inr (.inl ql2_13))), (g 20, .inl (cI, 4, .inl (l4 (nI l0) (nI l1) (nI dm) (nI l3)))), (g 38, .inl (cI, 90, .inl ws_2_14)), (g 36, .inl (cZ, 900, .inl yw2_15)), (g 37, .inl (cZ, 900, .inl yo2_16)), (g 43, .inl (cJ, 90, .inr (.inl be2_17))), (g 44, .inl (cJ, 90, .inr (.inl bf2_18))), (g 53, .inl (cI, 32, .inl rw_))] H → va_D A [(mm, .inr (12, mo g (nI ta) (nI pa) (nI pe) pd (nI pb) pp pf pg pn rt rn (nI cd) sn (nI il) tk2_7 am2_9 at_2_10 aa2_11 0 0 (-1) wt wy2_12 0 (nI rm) (nI ud) (nI nu) sd (nI qn) (nI qw) qo (nI qb) (nI qp2_8) qa (nI qi) (nI oc))), (g 24, .inl (cI, 6, .inl (l6 u0 u1 u2 u3 u4 u5))), (g 25, .inl (cI, 6, .inl (l6 v0 v1 v2 v3 v4 v5))), (g 26, .inl (cI, 3200, .inl (fun j => nI (cs j)))), (g 31, .inl (cI, 120, .inl nw)), (g 46, .inl (cI, 9, .inl (fun j => nI (pt j)))), (g 86, .inl (cJ, 1700, .inr (.inl ql2_13))), (g 20, .inl (cI, 4, .inl (l4 (nI l0) (nI l1) (nI dm) (nI l3)))), (g 38, .inl (cI, 90, .inl ws_2_14)), (g 36, .inl (cZ, 900, .inl yw2_15)), (g 37, .inl (cZ, 900, .inl yo2_16)), (g 43, .inl (cJ, 90, .inr (.inl be2_17))), (g 44, .inl (cJ, 90, .inr (.inl bf2_18))), (g 53, .inl (cI, 32, .inl rw_))] → va_S A s.heap H locs → lv_has ls 11 [(8, .int (nI jm)), (6, .long mo_), (5, .int (nI i)), (3, .long fe), (2, .int be_), (0, .ref mm), (1, .int (nI kd_6))] → W p l e { frames := 6, cells := 0, slots := 0, locals := 142 } s m ([.ref mm, .int (nI kd_6)] : List Value).toArray below meth c H locs 0 0 (MQ below (skL D (skT cI cJ cC cZ cS) (fun (r : Int64) (u : va_W) => ∃ (tk2 : Int32), ∃ (qp2 : Nat), ∃ (am2 : Int32), ∃ (at_2 : Int32), ∃ (aa2 : Int32), ∃ (wy2 : Int64), ∃ (ql2 : Nat → Int64), ∃ (ws_2 : Nat → Int32), ∃ (yw2 : Nat → Int32), ∃ (yo2 : Nat → Int32), ∃ (be2 : Nat → Int64), ∃ (bf2 : Nat → Int64), u = [(mm, .inr (12, mo g (nI ta) (nI pa) (nI pe) pd (nI pb) pp pf pg pn rt rn (nI cd) sn (nI il) tk2 am2 at_2 aa2 0 0 (-1) wt wy2 0 (nI rm) (nI ud) (nI nu) sd (nI qn) (nI qw) qo (nI qb) (nI qp2) qa (nI qi) (nI oc))), (g 24, .inl (cI, 6, .inl (l6 u0 u1 u2 u3 u4 u5))), (g 25, .inl (cI, 6, .inl (l6 v0 v1 v2 v3 v4 v5))), (g 26, .inl (cI, 3200, .inl (fun j => nI (cs j)))), (g 31, .inl (cI, 120, .inl nw)), (g 46, .inl (cI, 9, .inl (fun j => nI (pt j)))), (g 86, .inl (cJ, 1700, .inr (.inl ql2))), (g 20, .inl (cI, 4, .inl (l4 (nI l0) (nI l1) (nI dm) (nI l3)))), (g 38, .inl (cI, 90, .inl ws_2)), (g 36, .inl (cZ, 900, .inl yw2)), (g 37, .inl (cZ, 900, .inl yo2)), (g 43, .inl (cJ, 90, .inr (.inl be2))), (g 44, .inl (cJ, 90, .inr (.inl bf2))), (g 53, .inl (cI, 32, .inl rw_))]) A) ([.ref mm, .int (nI kd_6)] : List Value).toArray s 0 0 A) (F0 m 56 ls []) := by
                intro n_32
                induction n_32 with
                | zero => intro jm mo_ H locs ls hm; exact absurd hm (Nat.not_lt_zero _)
                | succ n_32 ih_lp_31 =>
                  intro jm mo_ H locs ls hm hjm hP hD hS hl
                  refine lv_iload hx hb dX12_tells_56 (lv_at hl 0 rfl) ?_
                  refine lv_bipush (v := 10) hx hb dX12_tells_58 (by decide) ?_
                  refine lv_icmp_ge (tgt := 110) hx hb dX12_tells_60 (by decide) (fun c_33 => ?_) (fun c_33 => ?_)
                  · have c_33 : 10 ≤ jm := (nle 10 jm (by omega) (by omega)).mp c_33
                    refine lv_iload_n hx hb dX12_tells_110 rfl (lv_at hl 4 rfl) ?_
                    refine lv_iconst (v := (-1)) hx hb dX12_tells_111 (by decide) ?_
                    refine lv_icmp_eq (tgt := 125) hx hb dX12_tells_112 (by decide) (fun c_34 => ?_) (fun c_34 => ?_)
                    · skip
                      refine lv_iload hx hb dX12_tells_125 (lv_at hl 2 rfl) ?_
                      refine lv_istore_n (lv' := [(2, .int (nI i)), (8, .int (nI jm)), (6, .long mo_), (5, .int (nI i)), (3, .long fe), (0, .ref mm), (1, .int (nI kd_6))]) hx hb dX12_tells_127 rfl hl (by decide) rfl (fun ls hl => ?_)
                      refine lv_lload hx hb dX12_tells_128 (lv_at hl 2 rfl) ?_
                      refine lv_lstore_n (lv' := [(3, .long mo_), (2, .int (nI i)), (8, .int (nI jm)), (6, .long mo_), (5, .int (nI i)), (0, .ref mm), (1, .int (nI kd_6))]) hx hb dX12_tells_130 rfl hl (by decide) rfl (fun ls hl => ?_)
                      refine lv_iinc (v := nI (i + 1)) (lv' := [(5, .int (nI (i + 1))), (3, .long mo_), (2, .int (nI i)), (8, .int (nI jm)), (6, .long mo_), (0, .ref mm), (1, .int (nI kd_6))]) hx hb dX12_tells_131 hl (k := 4) rfl (ninc i 1 (by decide)) (by decide) rfl (fun ls hl => ?_)
                      refine lv_goto (tgt := 32) hx hb dX12_tells_134 (by decide) ?_
                      exact ih_lp_20 (i + 1) mo_ (nI i) _ _ _ (by omega) (by omega) hP hD hS (lv_sub hl [0, 1, 2, 5, 6] rfl)
                    · skip
                      refine lv_lload hx hb dX12_tells_115 (lv_at hl 1 rfl) ?_
                      refine lv_lload_n hx hb dX12_tells_117 rfl (lv_at hl 3 rfl) ?_
                      refine W.lcmp hx hb dX12_tells_118 ?_
                      refine lv_if_lt (tgt := 125) hx hb dX12_tells_119 (by decide) (fun c_35 => ?_) (fun c_35 => ?_)
                      · skip
                        refine lv_iload hx hb dX12_tells_125 (lv_at hl 2 rfl) ?_
                        refine lv_istore_n (lv' := [(2, .int (nI i)), (8, .int (nI jm)), (6, .long mo_), (5, .int (nI i)), (3, .long fe), (0, .ref mm), (1, .int (nI kd_6))]) hx hb dX12_tells_127 rfl hl (by decide) rfl (fun ls hl => ?_)
                        refine lv_lload hx hb dX12_tells_128 (lv_at hl 2 rfl) ?_
                        refine lv_lstore_n (lv' := [(3, .long mo_), (2, .int (nI i)), (8, .int (nI jm)), (6, .long mo_), (5, .int (nI i)), (0, .ref mm), (1, .int (nI kd_6))]) hx hb dX12_tells_130 rfl hl (by decide) rfl (fun ls hl => ?_)
                        refine lv_iinc (v := nI (i + 1)) (lv' := [(5, .int (nI (i + 1))), (3, .long mo_), (2, .int (nI i)), (8, .int (nI jm)), (6, .long mo_), (0, .ref mm), (1, .int (nI kd_6))]) hx hb dX12_tells_131 hl (k := 4) rfl (ninc i 1 (by decide)) (by decide) rfl (fun ls hl => ?_)
                        refine lv_goto (tgt := 32) hx hb dX12_tells_134 (by decide) ?_
                        exact ih_lp_20 (i + 1) mo_ (nI i) _ _ _ (by omega) (by omega) hP hD hS (lv_sub hl [0, 1, 2, 5, 6] rfl)
                      · skip
                        refine lv_goto (tgt := 131) hx hb dX12_tells_122 (by decide) ?_
                        refine lv_iinc (v := nI (i + 1)) (lv' := [(5, .int (nI (i + 1))), (8, .int (nI jm)), (6, .long mo_), (3, .long fe), (2, .int be_), (0, .ref mm), (1, .int (nI kd_6))]) hx hb dX12_tells_131 hl (k := 2) rfl (ninc i 1 (by decide)) (by decide) rfl (fun ls hl => ?_)
                        refine lv_goto (tgt := 32) hx hb dX12_tells_134 (by decide) ?_
                        exact ih_lp_20 (i + 1) fe be_ _ _ _ (by omega) (by omega) hP hD hS (lv_sub hl [0, 3, 4, 5, 6] rfl)
                  · have c_33 : ¬ (10 ≤ jm) := fun h => c_33 ((nle 10 jm (by omega) (by omega)).mpr h)
                    refine lv_aload_n hx hb dX12_tells_63 rfl (lv_at hl 5 rfl) ?_
                    refine sk_get (v := .ref (g 44)) (C := RX12) (T := TX12) (N := 92) hx hb hts inlX12 hown hK hP 0 rfl rfl 44 (by decide) w_5_199 rfl dX12_tells_64 ?_
                    refine lv_bipush (v := 10) hx hb dX12_tells_67 (by decide) ?_
                    refine lv_iload hx hb dX12_tells_69 (lv_at hl 2 rfl) ?_
                    refine lv_imul hx hb dX12_tells_71 ?_
                    refine sk_top (nI (10 * i)) (nmul 10 i) ?_
                    refine lv_iload hx hb dX12_tells_72 (lv_at hl 0 rfl) ?_
                    refine lv_iadd hx hb dX12_tells_74 ?_
                    refine sk_top (nI (10 * i + jm)) (nI_add (10 * i) jm) ?_
                    refine va_lald hx hb hK.1 hP 12 1 rfl rfl (vin (10 * i + jm) 90 (by omega) (by omega)) dX12_tells_75 ?_
                    refine lv_topl (fun v_36 ev_36 => ?_)
                    refine lv_aload_n hx hb dX12_tells_76 rfl (lv_at hl 5 rfl) ?_
                    refine sk_get (v := .ref (g 43)) (C := RX12) (T := TX12) (N := 92) hx hb hts inlX12 hown hK hP 0 rfl rfl 43 (by decide) w_5_198 rfl dX12_tells_77 ?_
                    refine lv_bipush (v := 10) hx hb dX12_tells_80 (by decide) ?_
                    refine lv_iload hx hb dX12_tells_82 (lv_at hl 2 rfl) ?_
                    refine lv_imul hx hb dX12_tells_84 ?_
                    refine sk_top (nI (10 * i)) (nmul 10 i) ?_
                    refine lv_iload hx hb dX12_tells_85 (lv_at hl 0 rfl) ?_
                    refine lv_iadd hx hb dX12_tells_87 ?_
                    refine sk_top (nI (10 * i + jm)) (nI_add (10 * i) jm) ?_
                    refine va_lald hx hb hK.1 hP 11 1 rfl rfl (vin (10 * i + jm) 90 (by omega) (by omega)) dX12_tells_88 ?_
                    refine lv_topl (fun v_37 ev_37 => ?_)
                    refine lv_lmul hx hb dX12_tells_89 ?_
                    refine lv_topl (fun v_38 ev_38 => ?_)
                    refine lv_lstore (lv' := [(9, .long v_38), (8, .int (nI jm)), (6, .long mo_), (5, .int (nI i)), (3, .long fe), (2, .int be_), (0, .ref mm), (1, .int (nI kd_6))]) hx hb dX12_tells_90 hl (by decide) rfl (fun ls hl => ?_)
                    refine lv_lload hx hb dX12_tells_92 (lv_at hl 0 rfl) ?_
                    refine lv_lload hx hb dX12_tells_94 (lv_at hl 2 rfl) ?_
                    refine W.lcmp hx hb dX12_tells_96 ?_
                    refine lv_if_le (tgt := 104) hx hb dX12_tells_97 (by decide) (fun c_39 => ?_) (fun c_39 => ?_)
                    · skip
                      refine lv_iinc (v := nI (jm + 1)) (lv' := [(8, .int (nI (jm + 1))), (9, .long v_38), (6, .long mo_), (5, .int (nI i)), (3, .long fe), (2, .int be_), (0, .ref mm), (1, .int (nI kd_6))]) hx hb dX12_tells_104 hl (k := 1) rfl (ninc jm 1 (by decide)) (by decide) rfl (fun ls hl => ?_)
                      refine lv_goto (tgt := 56) hx hb dX12_tells_107 (by decide) ?_
                      exact ih_lp_31 (jm + 1) mo_ _ _ _ (by omega) (by omega) hP hD hS (lv_sub hl [0, 2, 3, 4, 5, 6, 7] rfl)
                    · skip
                      refine lv_lload hx hb dX12_tells_100 (lv_at hl 0 rfl) ?_
                      refine lv_lstore (lv' := [(6, .long v_38), (9, .long v_38), (8, .int (nI jm)), (5, .int (nI i)), (3, .long fe), (2, .int be_), (0, .ref mm), (1, .int (nI kd_6))]) hx hb dX12_tells_102 hl (by decide) rfl (fun ls hl => ?_)
                      refine lv_iinc (v := nI (jm + 1)) (lv' := [(8, .int (nI (jm + 1))), (6, .long v_38), (9, .long v_38), (5, .int (nI i)), (3, .long fe), (2, .int be_), (0, .ref mm), (1, .int (nI kd_6))]) hx hb dX12_tells_104 hl (k := 2) rfl (ninc jm 1 (by decide)) (by decide) rfl (fun ls hl => ?_)
                      refine lv_goto (tgt := 56) hx hb dX12_tells_107 (by decide) ?_
                      exact ih_lp_31 (jm + 1) v_38 _ _ _ (by omega) (by omega) hP hD hS (lv_sub hl [0, 1, 3, 4, 5, 6, 7] rfl)
              exact lp_31 (10 - 0 + 1) 0 0 _ _ _ (Nat.lt_succ_self _) (by omega) hP hD hS (lv_sub hl [0, 1, 2, 3, 4, 5, 6] rfl)
      exact lp_20 (dm - 0 + 1) 0 0 (-1) _ _ _ (Nat.lt_succ_self _) (by omega) hP hD hS (lv_sub hl [0, 1, 2, 3, 4] rfl)
    · have c_5 : b_2 = 0 := (neq b_2 0 (by omega) (by omega)).mp c_5
      refine lv_ldc2 (v := (-1000000000000000)) hx hb hown (hts _ w_7_184) dX12_tells_17 ?_
      exact sk_lret hx hb hr hlocks hK hP hD hS (⟨tk, qp, am, at_, aa, wy, ql, ws_, yw, yo, be, bf, rfl⟩) (Nat.le_of_ble_eq_true rfl) (Nat.le_of_ble_eq_true rfl) dX12_tells_20
