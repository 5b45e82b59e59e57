theorem dX12_laysDays_96 : decode cX12_laysDays 96 = .ok (.invokevirtual 355, 3) := q_invokevirtual (bat_get dg_X12_laysDays_83_83 9 rfl rfl) rfl
theorem dX12_laysDays_99 : decode cX12_laysDays 99 = .ok (.iload 4, 2) := q_iload (bat_get dg_X12_laysDays_83_83 10 rfl rfl)
theorem dX12_laysDays_101 : decode cX12_laysDays 101 = .ok (.if_icmp .ne 7, 3) := q_if_icmp_ne (bat_get dg_X12_laysDays_83_83 11 rfl rfl) rfl
theorem dX12_laysDays_108 : decode cX12_laysDays 108 = .ok (.iconst 0, 1) := q_iconst0 (bat_get dg_X12_laysDays_83_83 12 rfl rfl)
theorem dX12_laysDays_109 : decode cX12_laysDays 109 = .ok (.bastore, 1) := q_bastore (bat_get dg_X12_laysDays_83_83 13 rfl rfl)
theorem dX12_laysDays_110 : decode cX12_laysDays 110 = .ok (.aload_n 0, 1) := q_aload_n0 (bat_get dg_X12_laysDays_83_83 14 rfl rfl)
theorem dX12_laysDays_111 : decode cX12_laysDays 111 = .ok (.getfield 73, 3) := q_getfield (bat_get dg_X12_laysDays_83_83 15 rfl rfl) rfl
theorem dX12_laysDays_114 : decode cX12_laysDays 114 = .ok (.bipush 100, 2) := q_bipush (bat_get dg_X12_laysDays_83_83 16 rfl rfl) rfl
theorem dX12_laysDays_116 : decode cX12_laysDays 116 = .ok (.iload_n 2, 1) := q_iload_n2 (bat_get dg_X12_laysDays_83_83 17 rfl rfl)
theorem dX12_laysDays_117 : decode cX12_laysDays 117 = .ok (.imul, 1) := q_imul (bat_get dg_X12_laysDays_83_83 18 rfl rfl)
theorem dX12_laysDays_118 : decode cX12_laysDays 118 = .ok (.bipush 10, 2) := q_bipush (bat_get dg_X12_laysDays_83_83 19 rfl rfl) rfl
theorem dX12_laysDays_120 : decode cX12_laysDays 120 = .ok (.iload_n 3, 1) := q_iload_n3 (bat_get dg_X12_laysDays_83_83 20 rfl rfl)
theorem dX12_laysDays_121 : decode cX12_laysDays 121 = .ok (.imul, 1) := q_imul (bat_get dg_X12_laysDays_83_83 21 rfl rfl)
theorem dX12_laysDays_122 : decode cX12_laysDays 122 = .ok (.iadd, 1) := q_iadd (bat_get dg_X12_laysDays_83_83 22 rfl rfl)
theorem dX12_laysDays_123 : decode cX12_laysDays 123 = .ok (.iload 4, 2) := q_iload (bat_get dg_X12_laysDays_83_83 23 rfl rfl)
theorem dX12_laysDays_125 : decode cX12_laysDays 125 = .ok (.iadd, 1) := q_iadd (bat_get dg_X12_laysDays_83_83 24 rfl rfl)
theorem dX12_laysDays_126 : decode cX12_laysDays 126 = .ok (.aload_n 0, 1) := q_aload_n0 (bat_get dg_X12_laysDays_83_83 25 rfl rfl)
theorem dX12_laysDays_127 : decode cX12_laysDays 127 = .ok (.iload_n 2, 1) := q_iload_n2 (bat_get dg_X12_laysDays_83_83 26 rfl rfl)
theorem dX12_laysDays_128 : decode cX12_laysDays 128 = .ok (.iload_n 3, 1) := q_iload_n3 (bat_get dg_X12_laysDays_83_83 27 rfl rfl)
theorem dX12_laysDays_129 : decode cX12_laysDays 129 = .ok (.iconst 0, 1) := q_iconst0 (bat_get dg_X12_laysDays_83_83 28 rfl rfl)
theorem dX12_laysDays_130 : decode cX12_laysDays 130 = .ok (.iconst 1, 1) := q_iconst1 (bat_get dg_X12_laysDays_83_83 29 rfl rfl)
theorem dX12_laysDays_131 : decode cX12_laysDays 131 = .ok (.invokevirtual 355, 3) := q_invokevirtual (bat_get dg_X12_laysDays_83_83 30 rfl rfl) rfl
theorem dX12_laysDays_134 : decode cX12_laysDays 134 = .ok (.iload 4, 2) := q_iload (bat_get dg_X12_laysDays_83_83 31 rfl rfl)
theorem dX12_laysDays_136 : decode cX12_laysDays 136 = .ok (.if_icmp .ne 7, 3) := q_if_icmp_ne (bat_get dg_X12_laysDays_83_83 32 rfl rfl) rfl
theorem dX12_laysDays_143 : decode cX12_laysDays 143 = .ok (.iconst 0, 1) := q_iconst0 (bat_get dg_X12_laysDays_83_83 33 rfl rfl)
theorem dX12_laysDays_144 : decode cX12_laysDays 144 = .ok (.bastore, 1) := q_bastore (bat_get dg_X12_laysDays_83_83 34 rfl rfl)
theorem dX12_laysDays_145 : decode cX12_laysDays 145 = .ok (.iinc 4 1, 3) := q_iinc (bat_get dg_X12_laysDays_83_83 35 rfl rfl) rfl
theorem dX12_laysDays_148 : decode cX12_laysDays 148 = .ok (.goto (-91), 3) := q_goto (bat_get dg_X12_laysDays_83_83 36 rfl rfl) rfl
theorem dX12_laysDays_139 : decode cX12_laysDays 139 = .ok (.iconst 1, 1) := q_iconst1 (bat_get dg_X12_laysDays_83_83 37 rfl rfl)
theorem dX12_laysDays_140 : decode cX12_laysDays 140 = .ok (.goto 4, 3) := q_goto (bat_get dg_X12_laysDays_83_83 38 rfl rfl) rfl
theorem dX12_laysDays_104 : decode cX12_laysDays 104 = .ok (.iconst 1, 1) := q_iconst1 (bat_get dg_X12_laysDays_83_83 39 rfl rfl)
theorem dg_X12_laysDays_18_105 : bqL cX12_laysDays 18 [(87, [167, 0, 4]), (0, [42]), (1, [180, 0, 76]), (4, [16, 10]), (6, [28]), (7, [104]), (8, [29]), (9, [96]), (10, [42]), (11, [28]), (12, [29]), (13, [182, 1, 96]), (16, [27]), (17, [96]), (18, [16, 10]), (20, [112]), (21, [79]), (22, [132, 3, 1]), (25, [167, 255, 225])] = true := by decide +kernel
theorem dX12_laysDays_105 : decode cX12_laysDays 105 = .ok (.goto 4, 3) := q_goto (bat_get dg_X12_laysDays_18_105 0 rfl rfl) rfl
theorem dX12_laysDays_18 : decode cX12_laysDays 18 = .ok (.aload_n 0, 1) := q_aload_n0 (bat_get dg_X12_laysDays_18_105 1 rfl rfl)
theorem dX12_laysDays_19 : decode cX12_laysDays 19 = .ok (.getfield 76, 3) := q_getfield (bat_get dg_X12_laysDays_18_105 2 rfl rfl) rfl
theorem dX12_laysDays_22 : decode cX12_laysDays 22 = .ok (.bipush 10, 2) := q_bipush (bat_get dg_X12_laysDays_18_105 3 rfl rfl) rfl
theorem dX12_laysDays_24 : decode cX12_laysDays 24 = .ok (.iload_n 2, 1) := q_iload_n2 (bat_get dg_X12_laysDays_18_105 4 rfl rfl)
theorem dX12_laysDays_25 : decode cX12_laysDays 25 = .ok (.imul, 1) := q_imul (bat_get dg_X12_laysDays_18_105 5 rfl rfl)
theorem dX12_laysDays_26 : decode cX12_laysDays 26 = .ok (.iload_n 3, 1) := q_iload_n3 (bat_get dg_X12_laysDays_18_105 6 rfl rfl)
theorem dX12_laysDays_27 : decode cX12_laysDays 27 = .ok (.iadd, 1) := q_iadd (bat_get dg_X12_laysDays_18_105 7 rfl rfl)
theorem dX12_laysDays_28 : decode cX12_laysDays 28 = .ok (.aload_n 0, 1) := q_aload_n0 (bat_get dg_X12_laysDays_18_105 8 rfl rfl)
theorem dX12_laysDays_29 : decode cX12_laysDays 29 = .ok (.iload_n 2, 1) := q_iload_n2 (bat_get dg_X12_laysDays_18_105 9 rfl rfl)
theorem dX12_laysDays_30 : decode cX12_laysDays 30 = .ok (.iload_n 3, 1) := q_iload_n3 (bat_get dg_X12_laysDays_18_105 10 rfl rfl)
theorem dX12_laysDays_31 : decode cX12_laysDays 31 = .ok (.invokevirtual 352, 3) := q_invokevirtual (bat_get dg_X12_laysDays_18_105 11 rfl rfl) rfl
theorem dX12_laysDays_34 : decode cX12_laysDays 34 = .ok (.iload_n 1, 1) := q_iload_n1 (bat_get dg_X12_laysDays_18_105 12 rfl rfl)
theorem dX12_laysDays_35 : decode cX12_laysDays 35 = .ok (.iadd, 1) := q_iadd (bat_get dg_X12_laysDays_18_105 13 rfl rfl)
theorem dX12_laysDays_36 : decode cX12_laysDays 36 = .ok (.bipush 10, 2) := q_bipush (bat_get dg_X12_laysDays_18_105 14 rfl rfl) rfl
theorem dX12_laysDays_38 : decode cX12_laysDays 38 = .ok (.irem, 1) := q_irem (bat_get dg_X12_laysDays_18_105 15 rfl rfl)
theorem dX12_laysDays_39 : decode cX12_laysDays 39 = .ok (.iastore, 1) := q_iastore (bat_get dg_X12_laysDays_18_105 16 rfl rfl)
theorem dX12_laysDays_40 : decode cX12_laysDays 40 = .ok (.iinc 3 1, 3) := q_iinc (bat_get dg_X12_laysDays_18_105 17 rfl rfl) rfl
theorem dX12_laysDays_43 : decode cX12_laysDays 43 = .ok (.goto (-31), 3) := q_goto (bat_get dg_X12_laysDays_18_105 18 rfl rfl) rfl
theorem w_5_191 : (Cond.fieldLink RX12 69 "SameKeeperModel" "withWord" "[Z") ∈ wsL_law := sk_mem (ck_5 _ (List.mem_of_getElem? (i := 191) rfl)) rfl
theorem w_5_193 : (Cond.fieldLink RX12 76 "SameKeeperModel" "words" "[I") ∈ wsL_law := sk_mem (ck_5 _ (List.mem_of_getElem? (i := 193) rfl)) rfl
theorem w_7_176 : (Cond.methodLink RX12 355 yX12_becomesBy) ∈ wsL_law := sk_mem (ck_7 _ (List.mem_of_getElem? (i := 176) rfl)) rfl
theorem w_7_178 : (Cond.instanceMethod yX12_becomesBy) ∈ wsL_law := sk_mem (ck_7 _ (List.mem_of_getElem? (i := 178) rfl)) rfl
theorem w_0_81 : (Cond.selects RX12 yX12_becomesBy yX12_becomesBy) ∈ wsL_law := sk_mem (ck_0 _ (List.mem_of_getElem? (i := 81) rfl)) rfl
theorem w_5_192 : (Cond.fieldLink RX12 73 "SameKeeperModel" "without" "[Z") ∈ wsL_law := sk_mem (ck_5 _ (List.mem_of_getElem? (i := 192) rfl)) rfl
theorem w_7_131 : (Cond.methodLink RX12 352 yX12_wordOf) ∈ wsL_law := sk_mem (ck_7 _ (List.mem_of_getElem? (i := 131) rfl)) rfl
theorem w_7_133 : (Cond.instanceMethod yX12_wordOf) ∈ wsL_law := sk_mem (ck_7 _ (List.mem_of_getElem? (i := 133) rfl)) rfl
theorem w_0_74 : (Cond.selects RX12 yX12_wordOf yX12_wordOf) ∈ wsL_law := sk_mem (ck_0 _ (List.mem_of_getElem? (i := 74) rfl)) rfl
theorem w_7_196 : (Cond.code yX12_laysDays cX12_laysDays 5 none) ∈ wsL_law := sk_mem (ck_7 _ (List.mem_of_getElem? (i := 196) rfl)) rfl
def om_11_408 : List Bool := true :: false :: false :: false :: false :: false :: false :: true :: false :: false :: false :: []
def om_11_7f0 : List Bool := true :: true :: true :: true :: true :: true :: true :: false :: false :: false :: false :: []
theorem hd_X12_becomesBy_4 : skD yX12_becomesBy 4 := by decide +kernel
theorem hd_X12_wordOf_2 : skD yX12_wordOf 2 := by decide +kernel
set_option maxHeartbeats 4000000 in
set_option maxRecDepth 100000 in
theorem c_m_laysDays (l : Launch) (D : va_G) (cI cJ cC cZ cS : ClassId) (mm : Nat) (g : Nat → Nat) (ta : Nat) (pa : Nat) (pe : Nat) (pd : Int32) (pb : Nat) (pp : Int32) (pf : Int32) (pg : Int32) (pn : Int32) (rt : Int32) (rn : Int32) (cd : Nat) (sn : Int32) (il : Nat) (tk : Int32) (am : Int32) (at_ : Int32) (aa : Int32) (mt_ : Int32) (bh : Nat) (wd : Int32) (wt : Int32) (wy : Int64) (it_ : Nat) (rm : Nat) (ud : Nat) (nu : Nat) (sd : Int64) (qn : Nat) (qw : Nat) (qo : Int32) (qb : Nat) (qp : Nat) (qa : Int64) (qi : Nat) (oc : Nat) (o : Int32) (u0 : Int32) (u1 : Int32) (u2 : Int32) (u3 : Int32) (u4 : Int32) (u5 : Int32) (v0 : Int32) (v1 : Int32) (v2 : Int32) (v3 : Int32) (v4 : Int32) (v5 : Int32) (cs : Nat → Nat) (nw : Nat → Int32) (pt : Nat → Nat) (ql : Nat → Int64) (l0 : Nat) (l1 : Nat) (dm : Nat) (l3 : Nat) (ws_ : Nat → Int32) (yw : Nat → Int32) (yo : Nat → Int32) (hdm : dm ≤ 9) (hp0 : progOk cs u3 v3) (hp1 : progOk cs u4 v4) (hp2 : progOk cs u5 v5) (hcs : ∀ j, cs j ≤ 20000) (hnw : nowOk nw) (hpt : ∀ j, pt j ≤ 9) : skM l yX12_laysDays cX12_laysDays 5 none 4 98 0 0 D (skT cI cJ cC cZ cS) [.ref mm, .int o] [(mm, .inr (12, mo g (nI ta) (nI pa) (nI pe) pd (nI pb) pp pf pg pn rt rn (nI cd) sn (nI il) tk am at_ aa mt_ (nI bh) wd wt wy (nI it_) (nI rm) (nI ud) (nI nu) sd (nI qn) (nI qw) qo (nI qb) (nI qp) qa (nI qi) (nI oc))), (g 24, .inl (cI, 6, .inl (l6 u0 u1 u2 u3 u4 u5))), (g 25, .inl (cI, 6, .inl (l6 v0 v1 v2 v3 v4 v5))), (g 26, .inl (cI, 3200, .inl (fun j => nI (cs j)))), (g 31, .inl (cI, 120, .inl nw)), (g 46, .inl (cI, 9, .inl (fun j => nI (pt j)))), (g 86, .inl (cJ, 1700, .inr (.inl ql))), (g 20, .inl (cI, 4, .inl (l4 (nI l0) (nI l1) (nI dm) (nI l3)))), (g 38, .inl (cI, 90, .inl ws_)), (g 36, .inl (cZ, 900, .inl yw)), (g 37, .inl (cZ, 900, .inl yo))] (skV D (skT cI cJ cC cZ cS) (fun (u : va_W) => ∃ (tk2 : Int32), ∃ (qp2 : Nat), ∃ (am2 : Int32), ∃ (at_2 : Int32), ∃ (aa2 : Int32), ∃ (ql2 : Nat → Int64), ∃ (ws_2 : Nat → Int32), ∃ (yw2 : Nat → Int32), ∃ (yo2 : Nat → Int32), u = [(mm, .inr (12, mo g (nI ta) (nI pa) (nI pe) pd (nI pb) pp pf pg pn rt rn (nI cd) sn (nI il) tk2 am2 at_2 aa2 mt_ (nI bh) wd wt wy (nI it_) (nI rm) (nI ud) (nI nu) sd (nI qn) (nI qw) qo (nI qb) (nI qp2) qa (nI qi) (nI oc))), (g 24, .inl (cI, 6, .inl (l6 u0 u1 u2 u3 u4 u5))), (g 25, .inl (cI, 6, .inl (l6 v0 v1 v2 v3 v4 v5))), (g 26, .inl (cI, 3200, .inl (fun j => nI (cs j)))), (g 31, .inl (cI, 120, .inl nw)), (g 46, .inl (cI, 9, .inl (fun j => nI (pt j)))), (g 86, .inl (cJ, 1700, .inr (.inl ql2))), (g 20, .inl (cI, 4, .inl (l4 (nI l0) (nI l1) (nI dm) (nI l3)))), (g 38, .inl (cI, 90, .inl ws_2)), (g 36, .inl (cZ, 900, .inl yw2)), (g 37, .inl (cZ, 900, .inl yo2))])) := by
  refine skM_of pf_X12_laysDays (Nat.le_of_ble_eq_true rfl) ?_
  intro p e s m below meth c A ls E hP hD hl
  refine skE_el E (fun hx hb hr hml hlocks hin hown hts hK hA => ?_)
  have hown : s.vm.findClass RX12 = some m.cls := hown
  have hS : va_S A s.heap s.heap [] := va_S.rf
  have hl : lv_has ls 5 [(0, .ref mm), (1, .int o)] := hl
  refine lv_iconst (v := 0) hx hb dX12_laysDays_0 (by decide) ?_
  refine lv_istore_n (lv' := [(2, .int 0), (0, .ref mm), (1, .int o)]) hx hb dX12_laysDays_1 rfl hl (by decide) rfl (fun ls hl => ?_)
  have lp_1 : ∀ (n_2 : Nat) (i : Nat) (zam : Int32) (zat_ : Int32) (zaa : Int32) (ztk : Int32) (zqp : Nat) (zl : Nat → Int64) (zs : Nat → Int32) (zw : Nat → Int32) (zo : Nat → Int32) (H : Heap) (locs : List Loc) (ls : Array Slot), dm - i < n_2 → (i ≤ dm) → va_P D vwCl [(mm, .inr (12, mo g (nI ta) (nI pa) (nI pe) pd (nI pb) pp pf pg pn rt rn (nI cd) sn (nI il) ztk zam zat_ zaa mt_ (nI bh) wd wt wy (nI it_) (nI rm) (nI ud) (nI nu) sd (nI qn) (nI qw) qo (nI qb) (nI zqp) qa (nI qi) (nI oc))), (g 24, .inl (cI, 6, .inl (l6 u0 u1 u2 u3 u4 u5))), (g 25, .inl (cI, 6, .inl (l6 v0 v1 v2 v3 v4 v5))), (g 26, .inl (cI, 3200, .inl (fun j => nI (cs j)))), (g 31, .inl (cI, 120, .inl nw)), (g 46, .inl (cI, 9, .inl (fun j => nI (pt j)))), (g 86, .inl (cJ, 1700, .inr (.inl zl))), (g 20, .inl (cI, 4, .inl (l4 (nI l0) (nI l1) (nI dm) (nI l3)))), (g 38, .inl (cI, 90, .inl zs)), (g 36, .inl (cZ, 900, .inl zw)), (g 37, .inl (cZ, 900, .inl zo))] H → va_D A [(mm, .inr (12, mo g (nI ta) (nI pa) (nI pe) pd (nI pb) pp pf pg pn rt rn (nI cd) sn (nI il) ztk zam zat_ zaa mt_ (nI bh) wd wt wy (nI it_) (nI rm) (nI ud) (nI nu) sd (nI qn) (nI qw) qo (nI qb) (nI zqp) qa (nI qi) (nI oc))), (g 24, .inl (cI, 6, .inl (l6 u0 u1 u2 u3 u4 u5))), (g 25, .inl (cI, 6, .inl (l6 v0 v1 v2 v3 v4 v5))), (g 26, .inl (cI, 3200, .inl (fun j => nI (cs j)))), (g 31, .inl (cI, 120, .inl nw)), (g 46, .inl (cI, 9, .inl (fun j => nI (pt j)))), (g 86, .inl (cJ, 1700, .inr (.inl zl))), (g 20, .inl (cI, 4, .inl (l4 (nI l0) (nI l1) (nI dm) (nI l3)))), (g 38, .inl (cI, 90, .inl zs)), (g 36, .inl (cZ, 900, .inl zw)), (g 37, .inl (cZ, 900, .inl zo))] → va_S A s.heap H locs → lv_has ls 5 [(2, .int (nI i)), (0, .ref mm), (1, .int o)] → W p l e { frames := 4, cells := 0, slots := 0, locals := 98 } s m ([.ref mm, .int o] : List Value).toArray below meth c H locs 0 0 (MQ below (skV D (skT cI cJ cC cZ cS) (fun (u : va_W) => ∃ (tk2 : Int32), ∃ (qp2 : Nat), ∃ (am2 : Int32), ∃ (at_2 : Int32), ∃ (aa2 : Int32), ∃ (ql2 : Nat → Int64), ∃ (ws_2 : Nat → Int32), ∃ (yw2 : Nat → Int32), ∃ (yo2 : Nat → Int32), u = [(mm, .inr (12, mo g (nI ta) (nI pa) (nI pe) pd (nI pb) pp pf pg pn rt rn (nI cd) sn (nI il) tk2 am2 at_2 aa2 mt_ (nI bh) wd wt wy (nI it_) (nI rm) (nI ud) (nI nu) sd (nI qn) (nI qw) qo (nI qb) (nI qp2) qa (nI qi) (nI oc))), (g 24, .inl (cI, 6, .inl (l6 u0 u1 u2 u3 u4 u5))), (g 25, .inl (cI, 6, .inl (l6 v0 v1 v2 v3 v4 v5))), (g 26, .inl (cI, 3200, .inl (fun j => nI (cs j)))), (g 31, .inl (cI, 120, .inl nw)), (g 46, .inl (cI, 9, .inl (fun j => nI (pt j)))), (g 86, .inl (cJ, 1700, .inr (.inl ql2))), (g 20, .inl (cI, 4, .inl (l4 (nI l0) (nI l1) (nI dm) (nI l3)))), (g 38, .inl (cI, 90, .inl ws_2)), (g 36, .inl (cZ, 900, .inl yw2)), (g 37, .inl (cZ, 900, .inl yo2))]) A) ([.ref mm, .int o] : List Value).toArray s 0 0 A) (F0 m 2 ls []) := by
    intro n_2
    induction n_2 with
    | zero => intro i zam zat_ zaa ztk zqp zl zs zw zo H locs ls hm; exact absurd hm (Nat.not_lt_zero _)
    | succ n_2 ih_lp_1 =>
      intro i zam zat_ zaa ztk zqp zl zs zw zo H locs ls hm hi hP hD hS hl
      refine lv_iload_n hx hb dX12_laysDays_2 rfl (lv_at hl 0 rfl) ?_
      refine lv_aload_n hx hb dX12_laysDays_3 rfl (lv_at hl 1 rfl) ?_
      refine sk_Vi (q0 := 0) (n := 0) (rest := [.int (nI i)]) (wr := fmR om_11_408 _) ⟨hx, hb, hml, hown, hts⟩ hl.1 (c_m_dayMany l D cI cJ cC cZ cS mm g ta pa pe pd pb pp pf pg pn rt rn cd sn il ztk zam zat_ zaa mt_ bh wd wt wy it_ rm ud nu sd qn qw qo qb zqp qa qi oc l0 l1 dm l3) w_7_98 w_7_100 w_0_69 w_1_14 w_7_101 hd_X12_dayMany_0 ⟨⟨(Nat.le_of_ble_eq_true rfl), (Nat.le_of_ble_eq_true rfl)⟩, (Nat.le_of_ble_eq_true rfl), (Nat.le_of_ble_eq_true rfl)⟩ hK hP hD hS hA (fmT om_11_408 0) (fmF om_11_408 0) (fm_C1 rfl rfl) (fm_R rfl rfl) (fm_nT om_11_408 0) (fm_nF om_11_408 0) (fm_di om_11_408 0) rfl rfl rfl rfl (Nat.le_of_ble_eq_true rfl) dX12_laysDays_4 (fun r_3 u H locs hw hP hD hS => ?_)
      refine anE hw (fun er_5 eu_4 => ?_)
      clear hw
      subst er_5
      refine o_mgE (ws' := [(mm, .inr (12, mo g (nI ta) (nI pa) (nI pe) pd (nI pb) pp pf pg pn rt rn (nI cd) sn (nI il) ztk zam zat_ zaa mt_ (nI bh) wd wt wy (nI it_) (nI rm) (nI ud) (nI nu) sd (nI qn) (nI qw) qo (nI qb) (nI zqp) qa (nI qi) (nI oc))), (g 24, .inl (cI, 6, .inl (l6 u0 u1 u2 u3 u4 u5))), (g 25, .inl (cI, 6, .inl (l6 v0 v1 v2 v3 v4 v5))), (g 26, .inl (cI, 3200, .inl (fun j => nI (cs j)))), (g 31, .inl (cI, 120, .inl nw)), (g 46, .inl (cI, 9, .inl (fun j => nI (pt j)))), (g 86, .inl (cJ, 1700, .inr (.inl zl))), (g 20, .inl (cI, 4, .inl (l4 (nI l0) (nI l1) (nI dm) (nI l3)))), (g 38, .inl (cI, 90, .inl zs)), (g 36, .inl (cZ, 900, .inl zw)), (g 37, .inl (cZ, 900, .inl zo))]) eu_4 hP hD rfl (fun hP hD => ?_)
      refine lv_icmp_ge (tgt := 163) hx hb dX12_laysDays_7 (by decide) (fun c_6 => ?_) (fun c_6 => ?_)
      · have c_6 : dm ≤ i := (nle dm i (by omega) (by omega)).mp c_6
        exact sk_vret hx hb hr hlocks hK hP hD hS (⟨ztk, zqp, zam, zat_, zaa, zl, zs, zw, zo, rfl⟩) (Nat.le_of_ble_eq_true rfl) (Nat.le_of_ble_eq_true rfl) dX12_laysDays_163
      · have c_6 : ¬ (dm ≤ i) := fun h => c_6 ((nle dm i (by omega) (by omega)).mpr h)
        refine lv_iconst (v := 0) hx hb dX12_laysDays_10 (by decide) ?_
        refine lv_istore_n (lv' := [(3, .int 0), (2, .int (nI i)), (0, .ref mm), (1, .int o)]) hx hb dX12_laysDays_11 rfl hl (by decide) rfl (fun ls hl => ?_)
        have lp_7 : ∀ (n_8 : Nat) (jj : Nat) (zamb : Int32) (zat_b : Int32) (zaab : Int32) (ztkb : Int32) (zqpb : Nat) (zlb : Nat → Int64) (zsb : Nat → Int32) (H : Heap) (locs : List Loc) (ls : Array Slot), 10 - jj < n_8 → (jj ≤ 10) → va_P D vwCl [(mm, .inr (12, mo g (nI ta) (nI pa) (nI pe) pd (nI pb) pp pf pg pn rt rn (nI cd) sn (nI il) ztkb zamb zat_b zaab mt_ (nI bh) wd wt wy (nI it_) (nI rm) (nI ud) (nI nu) sd (nI qn) (nI qw) qo (nI qb) (nI zqpb) qa (nI qi) (nI oc))), (g 24, .inl (cI, 6, .inl (l6 u0 u1 u2 u3 u4 u5))), (g 25, .inl (cI, 6, .inl (l6 v0 v1 v2 v3 v4 v5))), (g 26, .inl (cI, 3200, .inl (fun j => nI (cs j)))), (g 31, .inl (cI, 120, .inl nw)), (g 46, .inl (cI, 9, .inl (fun j => nI (pt j)))), (g 86, .inl (cJ, 1700, .inr (.inl zlb))), (g 20, .inl (cI, 4, .inl (l4 (nI l0) (nI l1) (nI dm) (nI l3)))), (g 38, .inl (cI, 90, .inl zsb)), (g 36, .inl (cZ, 900, .inl zw)), (g 37, .inl (cZ, 900, .inl zo))] H → va_D A [(mm, .inr (12, mo g (nI ta) (nI pa) (nI pe) pd (nI pb) pp pf pg pn rt rn (nI cd) sn (nI il) ztkb zamb zat_b zaab mt_ (nI bh) wd wt wy (nI it_) (nI rm) (nI ud) (nI nu) sd (nI qn) (nI qw) qo (nI qb) (nI zqpb) qa (nI qi) (nI oc))), (g 24, .inl (cI, 6, .inl (l6 u0 u1 u2 u3 u4 u5))), (g 25, .inl (cI, 6, .inl (l6 v0 v1 v2 v3 v4 v5))), (g 26, .inl (cI, 3200, .inl (fun j => nI (cs j)))), (g 31, .inl (cI, 120, .inl nw)), (g 46, .inl (cI, 9, .inl (fun j => nI (pt j)))), (g 86, .inl (cJ, 1700, .inr (.inl zlb))), (g 20, .inl (cI, 4, .inl (l4 (nI l0) (nI l1) (nI dm) (nI l3)))), (g 38, .inl (cI, 90, .inl zsb)), (g 36, .inl (cZ, 900, .inl zw)), (g 37, .inl (cZ, 900, .inl zo))] → va_S A s.heap H locs → lv_has ls 5 [(3, .int (nI jj)), (2, .int (nI i)), (0, .ref mm), (1, .int o)] → W p l e { frames := 4, cells := 0, slots := 0, locals := 98 } s m ([.ref mm, .int o] : List Value).toArray below meth c H locs 0 0 (MQ below (skV D (skT cI cJ cC cZ cS) (fun (u : va_W) => ∃ (tk2 : Int32), ∃ (qp2 : Nat), ∃ (am2 : Int32), ∃ (at_2 : Int32), ∃ (aa2 : Int32), ∃ (ql2 : Nat → Int64), ∃ (ws_2 : Nat → Int32), ∃ (yw2 : Nat → Int32), ∃ (yo2 : Nat → Int32), u = [(mm, .inr (12, mo g (nI ta) (nI pa) (nI pe) pd (nI pb) pp pf pg pn rt rn (nI cd) sn (nI il) tk2 am2 at_2 aa2 mt_ (nI bh) wd wt wy (nI it_) (nI rm) (nI ud) (nI nu) sd (nI qn) (nI qw) qo (nI qb) (nI qp2) qa (nI qi) (nI oc))), (g 24, .inl (cI, 6, .inl (l6 u0 u1 u2 u3 u4 u5))), (g 25, .inl (cI, 6, .inl (l6 v0 v1 v2 v3 v4 v5))), (g 26, .inl (cI, 3200, .inl (fun j => nI (cs j)))), (g 31, .inl (cI, 120, .inl nw)), (g 46, .inl (cI, 9, .inl (fun j => nI (pt j)))), (g 86, .inl (cJ, 1700, .inr (.inl ql2))), (g 20, .inl (cI, 4, .inl (l4 (nI l0) (nI l1) (nI dm) (nI l3)))), (g 38, .inl (cI, 90, .inl ws_2)), (g 36, .inl (cZ, 900, .inl yw2)), (g 37, .inl (cZ, 900, .inl yo2))]) A) ([.ref mm, .int o] : List Value).toArray s 0 0 A) (F0 m 12 ls []) := by
          intro n_8
          induction n_8 with
          | zero => intro jj zamb zat_b zaab ztkb zqpb zlb zsb H locs ls hm; exact absurd hm (Nat.not_lt_zero _)
          | succ n_8 ih_lp_7 =>
            intro jj zamb zat_b zaab ztkb zqpb zlb zsb H locs ls hm hjj hP hD hS hl
            refine lv_iload_n hx hb dX12_laysDays_12 rfl (lv_at hl 0 rfl) ?_
            refine lv_bipush (v := 10) hx hb dX12_laysDays_13 (by decide) ?_
            refine lv_icmp_ge (tgt := 46) hx hb dX12_laysDays_15 (by decide) (fun c_9 => ?_) (fun c_9 => ?_)
            · have c_9 : 10 ≤ jj := (nle 10 jj (by omega) (by omega)).mp c_9
              refine lv_iconst (v := 0) hx hb dX12_laysDays_46 (by decide) ?_
              refine lv_istore_n (lv' := [(3, .int 0), (2, .int (nI i)), (0, .ref mm), (1, .int o)]) hx hb dX12_laysDays_47 rfl hl (by decide) rfl (fun ls hl => ?_)
              have lp_10 : ∀ (n_11 : Nat) (ja : Nat) (zamc : Int32) (zat_c : Int32) (zaac : Int32) (ztkc : Int32) (zqpc : Nat) (zlc : Nat → Int64) (zwc : Nat → Int32) (zoc : Nat → Int32) (H : Heap) (locs : List Loc) (ls : Array Slot), 10 - ja < n_11 → (ja ≤ 10) → va_P D vwCl [(mm, .inr (12, mo g (nI ta) (nI pa) (nI pe) pd (nI pb) pp pf pg pn rt rn (nI cd) sn (nI il) ztkc zamc zat_c zaac mt_ (nI bh) wd wt wy (nI it_) (nI rm) (nI ud) (nI nu) sd (nI qn) (nI qw) qo (nI qb) (nI zqpc) qa (nI qi) (nI oc))), (g 24, .inl (cI, 6, .inl (l6 u0 u1 u2 u3 u4 u5))), (g 25, .inl (cI, 6, .inl (l6 v0 v1 v2 v3 v4 v5))), (g 26, .inl (cI, 3200, .inl (fun j => nI (cs j)))), (g 31, .inl (cI, 120, .inl nw)), (g 46, .inl (cI, 9, .inl (fun j => nI (pt j)))), (g 86, .inl (cJ, 1700, .inr (.inl zlc))), (g 20, .inl (cI, 4, .inl (l4 (nI l0) (nI l1) (nI dm) (nI l3)))), (g 38, .inl (cI, 90, .inl zsb)), (g 36, .inl (cZ, 900, .inl zwc)), (g 37, .inl (cZ, 900, .inl zoc))] H → va_D A [(mm, .inr (12, mo g (nI ta) (nI pa) (nI pe) pd (nI pb) pp pf pg pn rt rn (nI cd) sn (nI il) ztkc zamc zat_c zaac mt_ (nI bh) wd wt wy (nI it_) (nI rm) (nI ud) (nI nu) sd (nI qn) (nI qw) qo (nI qb) (nI zqpc) qa (nI qi) (nI oc))), (g 24, .inl (cI, 6, .inl (l6 u0 u1 u2 u3 u4 u5))), (g 25, .inl (cI, 6, .inl (l6 v0 v1 v2 v3 v4 v5))), (g 26, .inl (cI, 3200, .inl (fun j => nI (cs j)))), (g 31, .inl (cI, 120, .inl nw)), (g 46, .inl (cI, 9, .inl (fun j => nI (pt j)))), (g 86, .inl (cJ, 1700, .inr (.inl zlc))), (g 20, .inl (cI, 4, .inl (l4 (nI l0) (nI l1) (nI dm) (nI l3)))), (g 38, .inl (cI, 90, .inl zsb)), (g 36, .inl (cZ, 900, .inl zwc)), (g 37, .inl (cZ, 900, .inl zoc))] → va_S A s.heap H locs → lv_has ls 5 [(3, .int (nI ja)), (2, .int (nI i)), (0, .ref mm), (1, .int o)] → W p l e { frames := 4, cells := 0, slots := 0, locals := 98 } s m ([.ref mm, .int o] : List Value).toArray below meth c H locs 0 0 (MQ below (skV D (skT cI cJ cC cZ cS) (fun (u : va_W) => ∃ (tk2 : Int32), ∃ (qp2 : Nat), ∃ (am2 : Int32), ∃ (at_2 : Int32), ∃ (aa2 : Int32), ∃ (ql2 : Nat → Int64), ∃ (ws_2 : Nat → Int32), ∃ (yw2 : Nat → Int32), ∃ (yo2 : Nat → Int32), u = [(mm, .inr (12, mo g (nI ta) (nI pa) (nI pe) pd (nI pb) pp pf pg pn rt rn (nI cd) sn (nI il) tk2 am2 at_2 aa2 mt_ (nI bh) wd wt wy (nI it_) (nI rm) (nI ud) (nI nu) sd (nI qn) (nI qw) qo (nI qb) (nI qp2) qa (nI qi) (nI oc))), (g 24, .inl (cI, 6, .inl (l6 u0 u1 u2 u3 u4 u5))), (g 25, .inl (cI, 6, .inl (l6 v0 v1 v2 v3 v4 v5))), (g 26, .inl (cI, 3200, .inl (fun j => nI (cs j)))), (g 31, .inl (cI, 120, .inl nw)), (g 46, .inl (cI, 9, .inl (fun j => nI (pt j)))), (g 86, .inl (cJ, 1700, .inr (.inl ql2))), (g 20, .inl (cI, 4, .inl (l4 (nI l0) (nI l1) (nI dm) (nI l3)))), (g 38, .inl (cI, 90, .inl ws_2)), (g 36, .inl (cZ, 900, .inl yw2)), (g 37, .inl (cZ, 900, .inl yo2))]) A) ([.ref mm, .int o] : List Value).toArray s 0 0 A) (F0 m 48 ls []) := by
                intro n_11
                induction n_11 with
                | zero => intro ja zamc zat_c zaac ztkc zqpc zlc zwc zoc H locs ls hm; exact absurd hm (Nat.not_lt_zero _)
                | succ n_11 ih_lp_10 =>
                  intro ja zamc zat_c zaac ztkc zqpc zlc zwc zoc H locs ls hm hja hP hD hS hl
                  refine lv_iload_n hx hb dX12_laysDays_48 rfl (lv_at hl 0 rfl) ?_
                  refine lv_bipush (v := 10) hx hb dX12_laysDays_49 (by decide) ?_
                  refine lv_icmp_ge (tgt := 157) hx hb dX12_laysDays_51 (by decide) (fun c_12 => ?_) (fun c_12 => ?_)
                  · have c_12 : 10 ≤ ja := (nle 10 ja (by omega) (by omega)).mp c_12
                    refine lv_iinc (v := nI (i + 1)) (lv' := [(2, .int (nI (i + 1))), (3, .int (nI ja)), (0, .ref mm), (1, .int o)]) hx hb dX12_laysDays_157 hl (k := 1) rfl (ninc i 1 (by decide)) (by decide) rfl (fun ls hl => ?_)
                    refine lv_goto (tgt := 2) hx hb dX12_laysDays_160 (by decide) ?_
                    exact ih_lp_1 (i + 1) zamc zat_c zaac ztkc zqpc zlc zsb zwc zoc _ _ _ (by omega) (by omega) hP hD hS (lv_sub hl [0, 2, 3] rfl)
                  · have c_12 : ¬ (10 ≤ ja) := fun h => c_12 ((nle 10 ja (by omega) (by omega)).mpr h)
                    refine lv_iconst (v := 0) hx hb dX12_laysDays_54 (by decide) ?_
                    refine lv_istore (lv' := [(4, .int 0), (3, .int (nI ja)), (2, .int (nI i)), (0, .ref mm), (1, .int o)]) hx hb dX12_laysDays_55 hl (by decide) rfl (fun ls hl => ?_)
                    have lp_13 : ∀ (n_14 : Nat) (jm : Nat) (zamd : Int32) (zat_d : Int32) (zaad : Int32) (ztkd : Int32) (zqpd : Nat) (zld : Nat → Int64) (zwd : Nat → Int32) (zod : Nat → Int32) (H : Heap) (locs : List Loc) (ls : Array Slot), 10 - jm < n_14 → (jm ≤ 10) → va_P D vwCl [(mm, .inr (12, mo g (nI ta) (nI pa) (nI pe) pd (nI pb) pp pf pg pn rt rn (nI cd) sn (nI il) ztkd zamd zat_d zaad mt_ (nI bh) wd wt wy (nI it_) (nI rm) (nI ud) (nI nu) sd (nI qn) (nI qw) qo (nI qb) (nI zqpd) qa (nI qi) (nI oc))), (g 24, .inl (cI, 6, .inl (l6 u0 u1 u2 u3 u4 u5))), (g 25, .inl (cI, 6, .inl (l6 v0 v1 v2 v3 v4 v5))), (g 26, .inl (cI, 3200, .inl (fun j => nI (cs j)))), (g 31, .inl (cI, 120, .inl nw)), (g 46, .inl (cI, 9, .inl (fun j => nI (pt j)))), (g 86, .inl (cJ, 1700, .inr (.inl zld))), (g 20, .inl (cI, 4, .inl (l4 (nI l0) (nI l1) (nI dm) (nI l3)))), (g 38, .inl (cI, 90, .inl zsb)), (g 36, .inl (cZ, 900, .inl zwd)), (g 37, .inl (cZ, 900, .inl zod))] H → va_D A [(mm, .inr (12, mo g (nI ta) (nI pa) (nI pe) pd (nI pb) pp pf pg pn rt rn (nI cd) sn (nI il) ztkd zamd zat_d zaad mt_ (nI bh) wd wt wy (nI it_) (nI rm) (nI ud) (nI nu) sd (nI qn) (nI qw) qo (nI qb) (nI zqpd) qa (nI qi) (nI oc))), (g 24, .inl (cI, 6, .inl (l6 u0 u1 u2 u3 u4 u5))), (g 25, .inl (cI, 6, .inl (l6 v0 v1 v2 v3 v4 v5))), (g 26, .inl (cI, 3200, .inl (fun j => nI (cs j)))), (g 31, .inl (cI, 120, .inl nw)), (g 46, .inl (cI, 9, .inl (fun j => nI (pt j)))), (g 86, .inl (cJ, 1700, .inr (.inl zld))), (g 20, .inl (cI, 4, .inl (l4 (nI l0) (nI l1) (nI dm) (nI l3)))), (g 38, .inl (cI, 90, .inl zsb)), (g 36, .inl (cZ, 900, .inl zwd)), (g 37, .inl (cZ, 900, .inl zod))] → va_S A s.heap H locs → lv_has ls 5 [(4, .int (nI jm)), (3, .int (nI ja)), (2, .int (nI i)), (0, .ref mm), (1, .int o)] → W p l e { frames := 4, cells := 0, slots := 0, locals := 98 } s m ([.ref mm, .int o] : List Value).toArray below meth c H locs 0 0 (MQ below (skV D (skT cI cJ cC cZ cS) (fun (u : va_W) => ∃ (tk2 : Int32), ∃ (qp2 : Nat), ∃ (am2 : Int32), ∃ (at_2 : Int32), ∃ (aa2 : Int32), ∃ (ql2 : Nat → Int64), ∃ (ws_2 : Nat → Int32), ∃ (yw2 : Nat → Int32), ∃ (yo2 : Nat → Int32), u = [(mm, .inr (12, mo g (nI ta) (nI pa) (nI pe) pd (nI pb) pp pf pg pn rt rn (nI cd) sn (nI il) tk2 am2 at_2 aa2 mt_ (nI bh) wd wt wy (nI it_) (nI rm) (nI ud) (nI nu) sd (nI qn) (nI qw) qo (nI qb) (nI qp2) qa (nI qi) (nI oc))), (g 24, .inl (cI, 6, .inl (l6 u0 u1 u2 u3 u4 u5))), (g 25, .inl (cI, 6, .inl (l6 v0 v1 v2 v3 v4 v5))), (g 26, .inl (cI, 3200, .inl (fun j => nI (cs j)))), (g 31, .inl (cI, 120, .inl nw)), (g 46, .inl (cI, 9, .inl (fun j => nI (pt j)))), (g 86, .inl (cJ, 1700, .inr (.inl ql2))), (g 20, .inl (cI, 4, .inl (l4 (nI l0) (nI l1) (nI dm) (nI l3)))), (g 38, .inl (cI, 90, .inl ws_2)), (g 36, .inl (cZ, 900, .inl yw2)), (g 37, .inl (cZ, 900, .inl yo2))]) A) ([.ref mm, .int o] : List Value).toArray s 0 0 A) (F0 m 57 ls []) := by
                      intro n_14
                      induction n_14 with
                      | zero => intro jm zamd zat_d zaad ztkd zqpd zld zwd zod H locs ls hm; exact absurd hm (Nat.not_lt_zero _)
                      | succ n_14 ih_lp_13 =>
                        intro jm zamd zat_d zaad ztkd zqpd zld zwd zod H locs ls hm hjm hP hD hS hl
                        refine lv_iload hx hb dX12_laysDays_57 (lv_at hl 0 rfl) ?_
                        refine lv_bipush (v := 10) hx hb dX12_laysDays_59 (by decide) ?_
                        refine lv_icmp_ge (tgt := 151) hx hb dX12_laysDays_61 (by decide) (fun c_15 => ?_) (fun c_15 => ?_)
                        · have c_15 : 10 ≤ jm := (nle 10 jm (by omega) (by omega)).mp c_15
                          refine lv_iinc (v := nI (ja + 1)) (lv' := [(3, .int (nI (ja + 1))), (4, .int (nI jm)), (2, .int (nI i)), (0, .ref mm), (1, .int o)]) hx hb dX12_laysDays_151 hl (k := 1) rfl (ninc ja 1 (by decide)) (by decide) rfl (fun ls hl => ?_)
                          refine lv_goto (tgt := 48) hx hb dX12_laysDays_154 (by decide) ?_
                          exact ih_lp_10 (ja + 1) zamd zat_d zaad ztkd zqpd zld zwd zod _ _ _ (by omega) (by omega) hP hD hS (lv_sub hl [0, 2, 3, 4] rfl)
                        · have c_15 : ¬ (10 ≤ jm) := fun h => c_15 ((nle 10 jm (by omega) (by omega)).mpr h)
                          refine lv_aload_n hx hb dX12_laysDays_64 rfl (lv_at hl 3 rfl) ?_
                          refine sk_get (v := .ref (g 36)) (C := RX12) (T := TX12) (N := 92) hx hb hts inlX12 hown hK hP 0 rfl rfl 36 (by decide) w_5_191 rfl dX12_laysDays_65 ?_
                          refine lv_bipush (v := 100) hx hb dX12_laysDays_68 (by decide) ?_
                          refine lv_iload_n hx hb dX12_laysDays_70 rfl (lv_at hl 2 rfl) ?_
                          refine lv_imul hx hb dX12_laysDays_71 ?_
                          refine sk_top (nI (100 * i)) (nmul 100 i) ?_
                          refine lv_bipush (v := 10) hx hb dX12_laysDays_72 (by decide) ?_
                          refine lv_iload_n hx hb dX12_laysDays_74 rfl (lv_at hl 1 rfl) ?_
                          refine lv_imul hx hb dX12_laysDays_75 ?_
                          refine sk_top (nI (10 * ja)) (nmul 10 ja) ?_
                          refine lv_iadd hx hb dX12_laysDays_76 ?_
                          refine sk_top (nI (100 * i + (10 * ja))) (nI_add (100 * i) (10 * ja)) ?_
                          refine lv_iload hx hb dX12_laysDays_77 (lv_at hl 0 rfl) ?_
                          refine lv_iadd hx hb dX12_laysDays_79 ?_
                          refine sk_top (nI (100 * i + (10 * ja) + jm)) (nI_add (100 * i + (10 * ja)) jm) ?_
                          refine lv_aload_n hx hb dX12_laysDays_80 rfl (lv_at hl 3 rfl) ?_
                          refine lv_iload_n hx hb dX12_laysDays_81 rfl (lv_at hl 2 rfl) ?_
                          refine lv_iload_n hx hb dX12_laysDays_82 rfl (lv_at hl 1 rfl) ?_
                          refine lv_aload_n hx hb dX12_laysDays_83 rfl (lv_at hl 3 rfl) ?_
                          refine sk_get (v := .ref (g 38)) (C := RX12) (T := TX12) (N := 92) hx hb hts inlX12 hown hK hP 0 rfl rfl 38 (by decide) w_5_193 rfl dX12_laysDays_84 ?_
                          refine lv_bipush (v := 10) hx hb dX12_laysDays_87 (by decide) ?_
                          refine lv_iload_n hx hb dX12_laysDays_89 rfl (lv_at hl 2 rfl) ?_
                          refine lv_imul hx hb dX12_laysDays_90 ?_
                          refine sk_top (nI (10 * i)) (nmul 10 i) ?_
                          refine lv_iload hx hb dX12_laysDays_91 (lv_at hl 0 rfl) ?_
                          refine lv_iadd hx hb dX12_laysDays_93 ?_
                          refine sk_top (nI (10 * i + jm)) (nI_add (10 * i) jm) ?_
                          refine va_iald hx hb hK.1 hP 8 0 rfl rfl (vin (10 * i + jm) 90 (by omega) (by omega)) dX12_laysDays_94 ?_
                          refine lv_topi (fun v_16 ev_16 => ?_)
                          refine lv_iconst (v := 0) hx hb dX12_laysDays_95 (by decide) ?_
                          refine sk_Vi (q0 := 0) (n := 4) (rest := [.int (nI (100 * i + (10 * ja) + jm)), .ref (g 36)]) (wr := fmR om_11_7f0 _) ⟨hx, hb, hml, hown, hts⟩ hl.1 (c_m_becomesBy l D cI cJ cC cZ cS mm g ta pa pe pd pb pp pf pg pn rt rn cd sn il ztkd zamd zat_d zaad mt_ bh wd wt wy it_ rm ud nu sd qn qw qo qb zqpd qa qi oc i (nI ja) v_16 0 u0 u1 u2 u3 u4 u5 v0 v1 v2 v3 v4 v5 cs nw pt zld (by omega) (by omega) (by omega) hcs hnw hpt) w_7_176 w_7_178 w_0_81 w_1_14 w_7_179 hd_X12_becomesBy_4 ⟨⟨(Nat.le_of_ble_eq_true rfl), (Nat.le_of_ble_eq_true rfl)⟩, (Nat.le_of_ble_eq_true rfl), (Nat.le_of_ble_eq_true rfl)⟩ hK hP hD hS hA (fmT om_11_7f0 0) (fmF om_11_7f0 0) (fm_C1 rfl rfl) (fm_R rfl rfl) (fm_nT om_11_7f0 0) (fm_nF om_11_7f0 0) (fm_di om_11_7f0 0) rfl rfl rfl rfl (Nat.le_of_ble_eq_true rfl) dX12_laysDays_96 (fun r_23 u H locs hw hP hD hS => ?_)
                          refine exE hw (fun tk2_17 hw1 => exE hw1 (fun qp2_18 hw2 => exE hw2 (fun am2_19 hw3 => exE hw3 (fun at_2_20 hw4 => exE hw4 (fun aa2_21 hw5 => exE hw5 (fun ql2_22 eu_24 => ?_))))))
                          clear hw hw1 hw2 hw3 hw4 hw5
                          refine o_mgE (ws' := [(mm, .inr (12, mo g (nI ta) (nI pa) (nI pe) pd (nI pb) pp pf pg pn rt rn (nI cd) sn (nI il) tk2_17 am2_19 at_2_20 aa2_21 mt_ (nI bh) wd wt wy (nI it_) (nI rm) (nI ud) (nI nu) sd (nI qn) (nI qw) qo (nI qb) (nI qp2_18) qa (nI qi) (nI oc))), (g 24, .inl (cI, 6, .inl (l6 u0 u1 u2 u3 u4 u5))), (g 25, .inl (cI, 6, .inl (l6 v0 v1 v2 v3 v4 v5))), (g 26, .inl (cI, 3200, .inl (fun j => nI (cs j)))), (g 31, .inl (cI, 120, .inl nw)), (g 46, .inl (cI, 9, .inl (fun j => nI (pt j)))), (g 86, .inl (cJ, 1700, .inr (.inl ql2_22))), (g 20, .inl (cI, 4, .inl (l4 (nI l0) (nI l1) (nI dm) (nI l3)))), (g 38, .inl (cI, 90, .inl zsb)), (g 36, .inl (cZ, 900, .inl zwd)), (g 37, .inl (cZ, 900, .inl zod))]) eu_24 hP hD rfl (fun hP hD => ?_)
                          refine lv_iload hx hb dX12_laysDays_99 (lv_at hl 0 rfl) ?_
                          refine lv_icmp_ne (tgt := 108) hx hb dX12_laysDays_101 (by decide) (fun c_25 => ?_) (fun c_25 => ?_)
                          · skip
                            refine lv_iconst (v := 0) hx hb dX12_laysDays_108 (by decide) ?_
                            refine sk_zastO (ws' := fun f_26 => [(mm, .inr (12, mo g (nI ta) (nI pa) (nI pe) pd (nI pb) pp pf pg pn rt rn (nI cd) sn (nI il) tk2_17 am2_19 at_2_20 aa2_21 mt_ (nI bh) wd wt wy (nI it_) (nI rm) (nI ud) (nI nu) sd (nI qn) (nI qw) qo (nI qb) (nI qp2_18) qa (nI qi) (nI oc))), (g 24, .inl (cI, 6, .inl (l6 u0 u1 u2 u3 u4 u5))), (g 25, .inl (cI, 6, .inl (l6 v0 v1 v2 v3 v4 v5))), (g 26, .inl (cI, 3200, .inl (fun j => nI (cs j)))), (g 31, .inl (cI, 120, .inl nw)), (g 46, .inl (cI, 9, .inl (fun j => nI (pt j)))), (g 86, .inl (cJ, 1700, .inr (.inl ql2_22))), (g 20, .inl (cI, 4, .inl (l4 (nI l0) (nI l1) (nI dm) (nI l3)))), (g 38, .inl (cI, 90, .inl zsb)), (g 36, .inl (cZ, 900, .inl f_26)), (g 37, .inl (cZ, 900, .inl zod))]) hx hb hK hP hD hS 9 3 rfl rfl (vin (100 * i + (10 * ja) + jm) 900 (by omega) (by omega)) (fun _ => rfl) dX12_laysDays_109 (fun f_26 H locs hP hD hS => ?_)
                            refine lv_aload_n hx hb dX12_laysDays_110 rfl (lv_at hl 3 rfl) ?_
                            refine sk_get (v := .ref (g 37)) (C := RX12) (T := TX12) (N := 92) hx hb hts inlX12 hown hK hP 0 rfl rfl 37 (by decide) w_5_192 rfl dX12_laysDays_111 ?_
                            refine lv_bipush (v := 100) hx hb dX12_laysDays_114 (by decide) ?_
                            refine lv_iload_n hx hb dX12_laysDays_116 rfl (lv_at hl 2 rfl) ?_
                            refine lv_imul hx hb dX12_laysDays_117 ?_
                            refine sk_top (nI (100 * i)) (nmul 100 i) ?_
                            refine lv_bipush (v := 10) hx hb dX12_laysDays_118 (by decide) ?_
                            refine lv_iload_n hx hb dX12_laysDays_120 rfl (lv_at hl 1 rfl) ?_
                            refine lv_imul hx hb dX12_laysDays_121 ?_
                            refine sk_top (nI (10 * ja)) (nmul 10 ja) ?_
                            refine lv_iadd hx hb dX12_laysDays_122 ?_
                            refine sk_top (nI (100 * i + (10 * ja))) (nI_add (100 * i) (10 * ja)) ?_
                            refine lv_iload hx hb dX12_laysDays_123 (lv_at hl 0 rfl) ?_
                            refine lv_iadd hx hb dX12_laysDays_125 ?_
                            refine sk_top (nI (100 * i + (10 * ja) + jm)) (nI_add (100 * i + (10 * ja)) jm) ?_
                            refine lv_aload_n hx hb dX12_laysDays_126 rfl (lv_at hl 3 rfl) ?_
                            refine lv_iload_n hx hb dX12_laysDays_127 rfl (lv_at hl 2 rfl) ?_
                            refine lv_iload_n hx hb dX12_laysDays_128 rfl (lv_at hl 1 rfl) ?_
                            refine lv_iconst (v := 0) hx hb dX12_laysDays_129 (by decide) ?_
                            refine lv_iconst (v := 1) hx hb dX12_laysDays_130 (by decide) ?_
                            refine sk_Vi (q0 := 0) (n := 4) (rest := [.int (nI (100 * i + (10 * ja) + jm)), .ref (g 37)]) (wr := fmR om_11_7f0 _) ⟨hx, hb, hml, hown, hts⟩ hl.1 (c_m_becomesBy l D cI cJ cC cZ cS mm g ta pa pe pd pb pp pf pg pn rt rn cd sn il tk2_17 am2_19 at_2_20 aa2_21 mt_ bh wd wt wy it_ rm ud nu sd qn qw qo qb qp2_18 qa qi oc i (nI ja) 0 1 u0 u1 u2 u3 u4 u5 v0 v1 v2 v3 v4 v5 cs nw pt ql2_22 (by omega) (by omega) (by omega) hcs hnw hpt) w_7_176 w_7_178 w_0_81 w_1_14 w_7_179 hd_X12_becomesBy_4 ⟨⟨(Nat.le_of_ble_eq_true rfl), (Nat.le_of_ble_eq_true rfl)⟩, (Nat.le_of_ble_eq_true rfl), (Nat.le_of_ble_eq_true rfl)⟩ hK hP hD hS hA (fmT om_11_7f0 0) (fmF om_11_7f0 0) (fm_C1 rfl rfl) (fm_R rfl rfl) (fm_nT om_11_7f0 0) (fm_nF om_11_7f0 0) (fm_di om_11_7f0 0) rfl rfl rfl rfl (Nat.le_of_ble_eq_true rfl) dX12_laysDays_131 (fun r_33 u H locs hw hP hD hS => ?_)
                            refine exE hw (fun tk2_27 hw1 => exE hw1 (fun qp2_28 hw2 => exE hw2 (fun am2_29 hw3 => exE hw3 (fun at_2_30 hw4 => exE hw4 (fun aa2_31 hw5 => exE hw5 (fun ql2_32 eu_34 => ?_))))))
                            clear hw hw1 hw2 hw3 hw4 hw5
                            refine o_mgE (ws' := [(mm, .inr (12, mo g (nI ta) (nI pa) (nI pe) pd (nI pb) pp pf pg pn rt rn (nI cd) sn (nI il) tk2_27 am2_29 at_2_30 aa2_31 mt_ (nI bh) wd wt wy (nI it_) (nI rm) (nI ud) (nI nu) sd (nI qn) (nI qw) qo (nI qb) (nI qp2_28) qa (nI qi) (nI oc))), (g 24, .inl (cI, 6, .inl (l6 u0 u1 u2 u3 u4 u5))), (g 25, .inl (cI, 6, .inl (l6 v0 v1 v2 v3 v4 v5))), (g 26, .inl (cI, 3200, .inl (fun j => nI (cs j)))), (g 31, .inl (cI, 120, .inl nw)), (g 46, .inl (cI, 9, .inl (fun j => nI (pt j)))), (g 86, .inl (cJ, 1700, .inr (.inl ql2_32))), (g 20, .inl (cI, 4, .inl (l4 (nI l0) (nI l1) (nI dm) (nI l3)))), (g 38, .inl (cI, 90, .inl zsb)), (g 36, .inl (cZ, 900, .inl f_26)), (g 37, .inl (cZ, 900, .inl zod))]) eu_34 hP hD rfl (fun hP hD => ?_)
                            refine lv_iload hx hb dX12_laysDays_134 (lv_at hl 0 rfl) ?_
                            refine lv_icmp_ne (tgt := 143) hx hb dX12_laysDays_136 (by decide) (fun c_35 => ?_) (fun c_35 => ?_)
                            · skip
                              refine lv_iconst (v := 0) hx hb dX12_laysDays_143 (by decide) ?_
                              refine sk_zastO (ws' := fun f_36 => [(mm, .inr (12, mo g (nI ta) (nI pa) (nI pe) pd (nI pb) pp pf pg pn rt rn (nI cd) sn (nI il) tk2_27 am2_29 at_2_30 aa2_31 mt_ (nI bh) wd wt wy (nI it_) (nI rm) (nI ud) (nI nu) sd (nI qn) (nI qw) qo (nI qb) (nI qp2_28) qa (nI qi) (nI oc))), (g 24, .inl (cI, 6, .inl (l6 u0 u1 u2 u3 u4 u5))), (g 25, .inl (cI, 6, .inl (l6 v0 v1 v2 v3 v4 v5))), (g 26, .inl (cI, 3200, .inl (fun j => nI (cs j)))), (g 31, .inl (cI, 120, .inl nw)), (g 46, .inl (cI, 9, .inl (fun j => nI (pt j)))), (g 86, .inl (cJ, 1700, .inr (.inl ql2_32))), (g 20, .inl (cI, 4, .inl (l4 (nI l0) (nI l1) (nI dm) (nI l3)))), (g 38, .inl (cI, 90, .inl zsb)), (g 36, .inl (cZ, 900, .inl f_26)), (g 37, .inl (cZ, 900, .inl f_36))]) hx hb hK hP hD hS 10 3 rfl rfl (vin (100 * i + (10 * ja) + jm) 900 (by omega) (by omega)) (fun _ => rfl) dX12_laysDays_144 (fun f_36 H locs hP hD hS => ?_)
                              refine lv_iinc (v := nI (jm + 1)) (lv' := [(4, .int (nI (jm + 1))), (3, .int (nI ja)), (2, .int (nI i)), (0, .ref mm), (1, .int o)]) hx hb dX12_laysDays_145 hl (k := 0) rfl (ninc jm 1 (by decide)) (by decide) rfl (fun ls hl => ?_)
                              refine lv_goto (tgt := 57) hx hb dX12_laysDays_148 (by decide) ?_
                              exact ih_lp_13 (jm + 1) am2_29 at_2_30 aa2_31 tk2_27 qp2_28 ql2_32 f_26 f_36 _ _ _ (by omega) (by omega) hP hD hS (lv_sub hl [0, 1, 2, 3, 4] rfl)
                            · skip
                              refine lv_iconst (v := 1) hx hb dX12_laysDays_139 (by decide) ?_
                              refine lv_goto (tgt := 144) hx hb dX12_laysDays_140 (by decide) ?_
                              refine sk_zastO (ws' := fun f_37 => [(mm, .inr (12, mo g (nI ta) (nI pa) (nI pe) pd (nI pb) pp pf pg pn rt rn (nI cd) sn (nI il) tk2_27 am2_29 at_2_30 aa2_31 mt_ (nI bh) wd wt wy (nI it_) (nI rm) (nI ud) (nI nu) sd (nI qn) (nI qw) qo (nI qb) (nI qp2_28) qa (nI qi) (nI oc))), (g 24, .inl (cI, 6, .inl (l6 u0 u1 u2 u3 u4 u5))), (g 25, .inl (cI, 6, .inl (l6 v0 v1 v2 v3 v4 v5))), (g 26, .inl (cI, 3200, .inl (fun j => nI (cs j)))), (g 31, .inl (cI, 120, .inl nw)), (g 46, .inl (cI, 9, .inl (fun j => nI (pt j)))), (g 86, .inl (cJ, 1700, .inr (.inl ql2_32))), (g 20, .inl (cI, 4, .inl (l4 (nI l0) (nI l1) (nI dm) (nI l3)))), (g 38, .inl (cI, 90, .inl zsb)), (g 36, .inl (cZ, 900, .inl f_26)), (g 37, .inl (cZ, 900, .inl f_37))]) hx hb hK hP hD hS 10 3 rfl rfl (vin (100 * i + (10 * ja) + jm) 900 (by omega) (by omega)) (fun _ => rfl) dX12_laysDays_144 (fun f_37 H locs hP hD hS => ?_)
                              refine lv_iinc (v := nI (jm + 1)) (lv' := [(4, .int (nI (jm + 1))), (3, .int (nI ja)), (2, .int (nI i)), (0, .ref mm), (1, .int o)]) hx hb dX12_laysDays_145 hl (k := 0) rfl (ninc jm 1 (by decide)) (by decide) rfl (fun ls hl => ?_)
                              refine lv_goto (tgt := 57) hx hb dX12_laysDays_148 (by decide) ?_
                              exact ih_lp_13 (jm + 1) am2_29 at_2_30 aa2_31 tk2_27 qp2_28 ql2_32 f_26 f_37 _ _ _ (by omega) (by omega) hP hD hS (lv_sub hl [0, 1, 2, 3, 4] rfl)
                          · skip
                            refine lv_iconst (v := 1) hx hb dX12_laysDays_104 (by decide) ?_
                            refine lv_goto (tgt := 109) hx hb dX12_laysDays_105 (by decide) ?_
                            refine sk_zastO (ws' := fun f_38 => [(mm, .inr (12, mo g (nI ta) (nI pa) (nI pe) pd (nI pb) pp pf pg pn rt rn (nI cd) sn (nI il) tk2_17 am2_19 at_2_20 aa2_21 mt_ (nI bh) wd wt wy (nI it_) (nI rm) (nI ud) (nI nu) sd (nI qn) (nI qw) qo (nI qb) (nI qp2_18) qa (nI qi) (nI oc))), (g 24, .inl (cI, 6, .inl (l6 u0 u1 u2 u3 u4 u5))), (g 25, .inl (cI, 6, .inl (l6 v0 v1 v2 v3 v4 v5))), (g 26, .inl (cI, 3200, .inl (fun j => nI (cs j)))), (g 31, .inl (cI, 120, .inl nw)), (g 46, .inl (cI, 9, .inl (fun j => nI (pt j)))), (g 86, .inl (cJ, 1700, .inr (.inl ql2_22))), (g 20, .inl (cI, 4, .inl (l4 (nI l0) (nI l1) (nI dm) (nI l3)))), (g 38, .inl (cI, 90, .inl zsb)), (g 36, .inl (cZ, 900, .inl f_38)), (g 37, .inl (cZ, 900, .inl zod))]) hx hb hK hP hD hS 9 3 rfl rfl (vin (100 * i + (10 * ja) + jm) 900 (by omega) (by omega)) (fun _ => rfl) dX12_laysDays_109 (fun f_38 H locs hP hD hS => ?_)
                            refine lv_aload_n hx hb dX12_laysDays_110 rfl (lv_at hl 3 rfl) ?_
                            refine sk_get (v := .ref (g 37)) (C := RX12) (T := TX12) (N := 92) hx hb hts inlX12 hown hK hP 0 rfl rfl 37 (by decide) w_5_192 rfl dX12_laysDays_111 ?_
                            refine lv_bipush (v := 100) hx hb dX12_laysDays_114 (by decide) ?_
                            refine lv_iload_n hx hb dX12_laysDays_116 rfl (lv_at hl 2 rfl) ?_
                            refine lv_imul hx hb dX12_laysDays_117 ?_
                            refine sk_top (nI (100 * i)) (nmul 100 i) ?_
                            refine lv_bipush (v := 10) hx hb dX12_laysDays_118 (by decide) ?_
                            refine lv_iload_n hx hb dX12_laysDays_120 rfl (lv_at hl 1 rfl) ?_
                            refine lv_imul hx hb dX12_laysDays_121 ?_
                            refine sk_top (nI (10 * ja)) (nmul 10 ja) ?_
                            refine lv_iadd hx hb dX12_laysDays_122 ?_
                            refine sk_top (nI (100 * i + (10 * ja))) (nI_add (100 * i) (10 * ja)) ?_
                            refine lv_iload hx hb dX12_laysDays_123 (lv_at hl 0 rfl) ?_
                            refine lv_iadd hx hb dX12_laysDays_125 ?_
                            refine sk_top (nI (100 * i + (10 * ja) + jm)) (nI_add (100 * i + (10 * ja)) jm) ?_
                            refine lv_aload_n hx hb dX12_laysDays_126 rfl (lv_at hl 3 rfl) ?_
                            refine lv_iload_n hx hb dX12_laysDays_127 rfl (lv_at hl 2 rfl) ?_
                            refine lv_iload_n hx hb dX12_laysDays_128 rfl (lv_at hl 1 rfl) ?_
                            refine lv_iconst (v := 0) hx hb dX12_laysDays_129 (by decide) ?_
                            refine lv_iconst (v := 1) hx hb dX12_laysDays_130 (by decide) ?_
                            refine sk_Vi (q0 := 0) (n := 4) (rest := [.int (nI (100 * i + (10 * ja) + jm)), .ref (g 37)]) (wr := fmR om_11_7f0 _) ⟨hx, hb, hml, hown, hts⟩ hl.1 (c_m_becomesBy l D cI cJ cC cZ cS mm g ta pa pe pd pb pp pf pg pn rt rn cd sn il tk2_17 am2_19 at_2_20 aa2_21 mt_ bh wd wt wy it_ rm ud nu sd qn qw qo qb qp2_18 qa qi oc i (nI ja) 0 1 u0 u1 u2 u3 u4 u5 v0 v1 v2 v3 v4 v5 cs nw pt ql2_22 (by omega) (by omega) (by omega) hcs hnw hpt) w_7_176 w_7_178 w_0_81 w_1_14 w_7_179 hd_X12_becomesBy_4 ⟨⟨(Nat.le_of_ble_eq_true rfl), (Nat.le_of_ble_eq_true rfl)⟩, (Nat.le_of_ble_eq_true rfl), (Nat.le_of_ble_eq_true rfl)⟩ hK hP hD hS hA (fmT om_11_7f0 0) (fmF om_11_7f0 0) (fm_C1 rfl rfl) (fm_R rfl rfl) (fm_nT om_11_7f0 0) (fm_nF om_11_7f0 0) (fm_di om_11_7f0 0) rfl rfl rfl rfl (Nat.le_of_ble_eq_true rfl) dX12_laysDays_131 (fun r_45 u H locs hw hP hD hS => ?_)
                            refine exE hw (fun tk2_39 hw1 => exE hw1 (fun qp2_40 hw2 => exE hw2 (fun am2_41 hw3 => exE hw3 (fun at_2_42 hw4 => exE hw4 (fun aa2_43 hw5 => exE hw5 (fun ql2_44 eu_46 => ?_))))))
                            clear hw hw1 hw2 hw3 hw4 hw5
                            refine o_mgE (ws' := [(mm, .inr (12, mo g (nI ta) (nI pa) (nI pe) pd (nI pb) pp pf pg pn rt rn (nI cd) sn (nI il) tk2_39 am2_41 at_2_42 aa2_43 mt_ (nI bh) wd wt wy (nI it_) (nI rm) (nI ud) (nI nu) sd (nI qn) (nI qw) qo (nI qb) (nI qp2_40) qa (nI qi) (nI oc))), (g 24, .inl (cI, 6, .inl (l6 u0 u1 u2 u3 u4 u5))), (g 25, .inl (cI, 6, .inl (l6 v0 v1 v2 v3 v4 v5))), (g 26, .inl (cI, 3200, .inl (fun j => nI (cs j)))), (g 31, .inl (cI, 120, .inl nw)), (g 46, .inl (cI, 9, .inl (fun j => nI (pt j)))), (g 86, .inl (cJ, 1700, .inr (.inl ql2_44))), (g 20, .inl (cI, 4, .inl (l4 (nI l0) (nI l1) (nI dm) (nI l3)))), (g 38, .inl (cI, 90, .inl zsb)), (g 36, .inl (cZ, 900, .inl f_38)), (g 37, .inl (cZ, 900, .inl zod))]) eu_46 hP hD rfl (fun hP hD => ?_)
                            refine lv_iload hx hb dX12_laysDays_134 (lv_at hl 0 rfl) ?_
                            refine lv_icmp_ne (tgt := 143) hx hb dX12_laysDays_136 (by decide) (fun c_47 => ?_) (fun c_47 => ?_)
                            · skip
                              refine lv_iconst (v := 0) hx hb dX12_laysDays_143 (by decide) ?_
                              refine sk_zastO (ws' := fun f_48 => [(mm, .inr (12, mo g (nI ta) (nI pa) (nI pe) pd (nI pb) pp pf pg pn rt rn (nI cd) sn (nI il) tk2_39 am2_41 at_2_42 aa2_43 mt_ (nI bh) wd wt wy (nI it_) (nI rm) (nI ud) (nI nu) sd (nI qn) (nI qw) qo (nI qb) (nI qp2_40) qa (nI qi) (nI oc))), (g 24, .inl (cI, 6, .inl (l6 u0 u1 u2 u3 u4 u5))), (g 25, .inl (cI, 6, .inl (l6 v0 v1 v2 v3 v4 v5))), (g 26, .inl (cI, 3200, .inl (fun j => nI (cs j)))), (g 31, .inl (cI, 120, .inl nw)), (g 46, .inl (cI, 9, .inl (fun j => nI (pt j)))), (g 86, .inl (cJ, 1700, .inr (.inl ql2_44))), (g 20, .inl (cI, 4, .inl (l4 (nI l0) (nI l1) (nI dm) (nI l3)))), (g 38, .inl (cI, 90, .inl zsb)), (g 36, .inl (cZ, 900, .inl f_38)), (g 37, .inl (cZ, 900, .inl f_48))]) hx hb hK hP hD hS 10 3 rfl rfl (vin (100 * i + (10 * ja) + jm) 900 (by omega) (by omega)) (fun _ => rfl) dX12_laysDays_144 (fun f_48 H locs hP hD hS => ?_)
                              refine lv_iinc (v := nI (jm + 1)) (lv' := [(4, .int (nI (jm + 1))), (3, .int (nI ja)), (2, .int (nI i)), (0, .ref mm), (1, .int o)]) hx hb dX12_laysDays_145 hl (k := 0) rfl (ninc jm 1 (by decide)) (by decide) rfl (fun ls hl => ?_)
                              refine lv_goto (tgt := 57) hx hb dX12_laysDays_148 (by decide) ?_
                              exact ih_lp_13 (jm + 1) am2_41 at_2_42 aa2_43 tk2_39 qp2_40 ql2_44 f_38 f_48 _ _ _ (by omega) (by omega) hP hD hS (lv_sub hl [0, 1, 2, 3, 4] rfl)
                            · skip
                              refine lv_iconst (v := 1) hx hb dX12_laysDays_139 (by decide) ?_
                              refine lv_goto (tgt := 144) hx hb dX12_laysDays_140 (by decide) ?_
                              refine sk_zastO (ws' := fun f_49 => [(mm, .inr (12, mo g (nI ta) (nI pa) (nI pe) pd (nI pb) pp pf pg pn rt rn (nI cd) sn (nI il) tk2_39 am2_41 at_2_42 aa2_43 mt_ (nI bh) wd wt wy (nI it_) (nI rm) (nI ud) (nI nu) sd (nI qn) (nI qw) qo (nI qb) (nI qp2_40) qa (nI qi) (nI oc))), (g 24, .inl (cI, 6, .inl (l6 u0 u1 u2 u3 u4 u5))), (g 25, .inl (cI, 6, .inl (l6 v0 v1 v2 v3 v4 v5))), (g 26, .inl (cI, 3200, .inl (fun j => nI (cs j)))), (g 31, .inl (cI, 120, .inl nw)), (g 46, .inl (cI, 9, .inl (fun j => nI (pt j)))), (g 86, .inl (cJ, 1700, .inr (.inl ql2_44))), (g 20, .inl (cI, 4, .inl (l4 (nI l0) (nI l1) (nI dm) (nI l3)))), (g 38, .inl (cI, 90, .inl zsb)), (g 36, .inl (cZ, 900, .inl f_38)), (g 37, .inl (cZ, 900, .inl f_49))]) hx hb hK hP hD hS 10 3 rfl rfl (vin (100 * i + (10 * ja) + jm) 900 (by omega) (by omega)) (fun _ => rfl) dX12_laysDays_144 (fun f_49 H locs hP hD hS => ?_)
                              refine lv_iinc (v := nI (jm + 1)) (lv' := [(4, .int (nI (jm + 1))), (3, .int (nI ja)), (2, .int (nI i)), (0, .ref mm), (1, .int o)]) hx hb dX12_laysDays_145 hl (k := 0) rfl (ninc jm 1 (by decide)) (by decide) rfl (fun ls hl => ?_)
                              refine lv_goto (tgt := 57) hx hb dX12_laysDays_148 (by decide) ?_
                              exact ih_lp_13 (jm + 1) am2_41 at_2_42 aa2_43 tk2_39 qp2_40 ql2_44 f_38 f_49 _ _ _ (by omega) (by omega) hP hD hS (lv_sub hl [0, 1, 2, 3, 4] rfl)
                    exact lp_13 (10 - 0 + 1) 0 zamc zat_c zaac ztkc zqpc zlc zwc zoc _ _ _ (Nat.lt_succ_self _) (by omega) hP hD hS (lv_sub hl [0, 1, 2, 3, 4] rfl)
              exact lp_10 (10 - 0 + 1) 0 zamb zat_b zaab ztkb zqpb zlb zw zo _ _ _ (Nat.lt_succ_self _) (by omega) hP hD hS (lv_sub hl [0, 1, 2, 3] rfl)
            · have c_9 : ¬ (10 ≤ jj) := fun h => c_9 ((nle 10 jj (by omega) (by omega)).mpr h)
              refine lv_aload_n hx hb dX12_laysDays_18 rfl (lv_at hl 2 rfl) ?_
              refine sk_get (v := .ref (g 38)) (C := RX12) (T := TX12) (N := 92) hx hb hts inlX12 hown hK hP 0 rfl rfl 38 (by decide) w_5_193 rfl dX12_laysDays_19 ?_
              refine lv_bipush (v := 10) hx hb dX12_laysDays_22 (by decide) ?_
              refine lv_iload_n hx hb dX12_laysDays_24 rfl (lv_at hl 1 rfl) ?_
              refine lv_imul hx hb dX12_laysDays_25 ?_
              refine sk_top (nI (10 * i)) (nmul 10 i) ?_
              refine lv_iload_n hx hb dX12_laysDays_26 rfl (lv_at hl 0 rfl) ?_
              refine lv_iadd hx hb dX12_laysDays_27 ?_
              refine sk_top (nI (10 * i + jj)) (nI_add (10 * i) jj) ?_
              refine lv_aload_n hx hb dX12_laysDays_28 rfl (lv_at hl 2 rfl) ?_
              refine lv_iload_n hx hb dX12_laysDays_29 rfl (lv_at hl 1 rfl) ?_
              refine lv_iload_n hx hb dX12_laysDays_30 rfl (lv_at hl 0 rfl) ?_
              refine sk_Vi (q0 := 0) (n := 2) (rest := [.int (nI (10 * i + jj)), .ref (g 38)]) (wr := fmR om_11_7f0 _) ⟨hx, hb, hml, hown, hts⟩ hl.1 (c_m_wordOf l D cI cJ cC cZ cS mm g ta pa pe pd pb pp pf pg pn rt rn cd sn il ztkb zamb zat_b zaab mt_ bh wd wt wy it_ rm ud nu sd qn qw qo qb zqpb qa qi oc i (nI jj) u0 u1 u2 u3 u4 u5 v0 v1 v2 v3 v4 v5 cs nw pt zlb (by omega) (by omega) hcs hnw hpt) w_7_131 w_7_133 w_0_74 w_1_14 w_7_134 hd_X12_wordOf_2 ⟨⟨(Nat.le_of_ble_eq_true rfl), (Nat.le_of_ble_eq_true rfl)⟩, (Nat.le_of_ble_eq_true rfl), (Nat.le_of_ble_eq_true rfl)⟩ hK hP hD hS hA (fmT om_11_7f0 0) (fmF om_11_7f0 0) (fm_C1 rfl rfl) (fm_R rfl rfl) (fm_nT om_11_7f0 0) (fm_nF om_11_7f0 0) (fm_di om_11_7f0 0) rfl rfl rfl rfl (Nat.le_of_ble_eq_true rfl) dX12_laysDays_31 (fun r_54 u H locs hw hP hD hS => ?_)
              refine exE hw (fun tk2_50 hw1 => exE hw1 (fun qp2_51 hw2 => exE hw2 (fun am2_52 hw3 => exE hw3 (fun ql2_53 eu_55 => ?_))))
              clear hw hw1 hw2 hw3
              refine o_mgE (ws' := [(mm, .inr (12, mo g (nI ta) (nI pa) (nI pe) pd (nI pb) pp pf pg pn rt rn (nI cd) sn (nI il) tk2_50 am2_52 zat_b zaab mt_ (nI bh) wd wt wy (nI it_) (nI rm) (nI ud) (nI nu) sd (nI qn) (nI qw) qo (nI qb) (nI qp2_51) qa (nI qi) (nI oc))), (g 24, .inl (cI, 6, .inl (l6 u0 u1 u2 u3 u4 u5))), (g 25, .inl (cI, 6, .inl (l6 v0 v1 v2 v3 v4 v5))), (g 26, .inl (cI, 3200, .inl (fun j => nI (cs j)))), (g 31, .inl (cI, 120, .inl nw)), (g 46, .inl (cI, 9, .inl (fun j => nI (pt j)))), (g 86, .inl (cJ, 1700, .inr (.inl ql2_53))), (g 20, .inl (cI, 4, .inl (l4 (nI l0) (nI l1) (nI dm) (nI l3)))), (g 38, .inl (cI, 90, .inl zsb)), (g 36, .inl (cZ, 900, .inl zw)), (g 37, .inl (cZ, 900, .inl zo))]) eu_55 hP hD rfl (fun hP hD => ?_)
              refine lv_iload_n hx hb dX12_laysDays_34 rfl (lv_at hl 3 rfl) ?_
              refine lv_iadd hx hb dX12_laysDays_35 ?_
              refine lv_topi (fun v_56 ev_56 => ?_)
              refine lv_bipush (v := 10) hx hb dX12_laysDays_36 (by decide) ?_
              refine lv_irem hx hb dX12_laysDays_38 (by decide) ?_
              refine lv_topi (fun v_57 ev_57 => ?_)
              refine sk_iastO (ws' := fun f_58 => [(mm, .inr (12, mo g (nI ta) (nI pa) (nI pe) pd (nI pb) pp pf pg pn rt rn (nI cd) sn (nI il) tk2_50 am2_52 zat_b zaab mt_ (nI bh) wd wt wy (nI it_) (nI rm) (nI ud) (nI nu) sd (nI qn) (nI qw) qo (nI qb) (nI qp2_51) qa (nI qi) (nI oc))), (g 24, .inl (cI, 6, .inl (l6 u0 u1 u2 u3 u4 u5))), (g 25, .inl (cI, 6, .inl (l6 v0 v1 v2 v3 v4 v5))), (g 26, .inl (cI, 3200, .inl (fun j => nI (cs j)))), (g 31, .inl (cI, 120, .inl nw)), (g 46, .inl (cI, 9, .inl (fun j => nI (pt j)))), (g 86, .inl (cJ, 1700, .inr (.inl ql2_53))), (g 20, .inl (cI, 4, .inl (l4 (nI l0) (nI l1) (nI dm) (nI l3)))), (g 38, .inl (cI, 90, .inl f_58)), (g 36, .inl (cZ, 900, .inl zw)), (g 37, .inl (cZ, 900, .inl zo))]) hx hb hK hP hD hS 8 0 rfl rfl (vin (10 * i + jj) 90 (by omega) (by omega)) (fun _ => rfl) dX12_laysDays_39 (fun f_58 H locs hP hD hS => ?_)
              refine lv_iinc (v := nI (jj + 1)) (lv' := [(3, .int (nI (jj + 1))), (2, .int (nI i)), (0, .ref mm), (1, .int o)]) hx hb dX12_laysDays_40 hl (k := 0) rfl (ninc jj 1 (by decide)) (by decide) rfl (fun ls hl => ?_)
              refine lv_goto (tgt := 12) hx hb dX12_laysDays_43 (by decide) ?_
              exact ih_lp_7 (jj + 1) am2_52 zat_b zaab tk2_50 qp2_51 ql2_53 f_58 _ _ _ (by omega) (by omega) hP hD hS (lv_sub hl [0, 1, 2, 3] rfl)
        exact lp_7 (10 - 0 + 1) 0 zam zat_ zaa ztk zqp zl zs _ _ _ (Nat.lt_succ_self _) (by omega) hP hD hS (lv_sub hl [0, 1, 2, 3] rfl)
  exact lp_1 (dm - 0 + 1) 0 am at_ aa tk qp ql ws_ yw yo _ _ _ (Nat.lt_succ_self _) (by omega) hP hD hS (lv_sub hl [0, 1, 2] rfl)

