theorem dg_X12_qTakes_16_16 : bqL cX12_qTakes 16 [(0, [54, 5]), (74, [27]), (75, [6]), (76, [164, 0, 41]), (117, [42]), (118, [3]), (119, [181, 2, 66]), (122, [177]), (79, [42]), (80, [180, 2, 66]), (83, [154, 0, 29]), (112, [42]), (113, [32]), (114, [181, 2, 63]), (86, [27]), (87, [7]), (88, [160, 0, 15]), (103, [32]), (104, [42]), (105, [180, 2, 63]), (108, [148]), (109, [156, 0, 8]), (91, [32]), (92, [42]), (93, [180, 2, 63]), (96, [148]), (97, [158, 0, 20]), (100, [167, 0, 12]), (59, [27]), (60, [6]), (61, [160, 0, 13]), (64, [42]), (65, [89]), (66, [180, 2, 63]), (69, [32]), (70, [97]), (71, [181, 2, 63]), (39, [27]), (40, [5]), (41, [160, 0, 18])] = true := by decide +kernel
theorem dX12_qTakes_16 : decode cX12_qTakes 16 = .ok (.istore 5, 2) := q_istore (bat_get dg_X12_qTakes_16_16 0 rfl rfl)
theorem dX12_qTakes_90 : decode cX12_qTakes 90 = .ok (.iload_n 1, 1) := q_iload_n1 (bat_get dg_X12_qTakes_16_16 1 rfl rfl)
theorem dX12_qTakes_91 : decode cX12_qTakes 91 = .ok (.iconst 3, 1) := q_iconst3 (bat_get dg_X12_qTakes_16_16 2 rfl rfl)
theorem dX12_qTakes_92 : decode cX12_qTakes 92 = .ok (.if_icmp .le 41, 3) := q_if_icmp_le (bat_get dg_X12_qTakes_16_16 3 rfl rfl) rfl
theorem dX12_qTakes_133 : decode cX12_qTakes 133 = .ok (.aload_n 0, 1) := q_aload_n0 (bat_get dg_X12_qTakes_16_16 4 rfl rfl)
theorem dX12_qTakes_134 : decode cX12_qTakes 134 = .ok (.iconst 0, 1) := q_iconst0 (bat_get dg_X12_qTakes_16_16 5 rfl rfl)
theorem dX12_qTakes_135 : decode cX12_qTakes 135 = .ok (.putfield 578, 3) := q_putfield (bat_get dg_X12_qTakes_16_16 6 rfl rfl) rfl
theorem dX12_qTakes_138 : decode cX12_qTakes 138 = .ok (.return_, 1) := q_return_ (bat_get dg_X12_qTakes_16_16 7 rfl rfl)
theorem dX12_qTakes_95 : decode cX12_qTakes 95 = .ok (.aload_n 0, 1) := q_aload_n0 (bat_get dg_X12_qTakes_16_16 8 rfl rfl)
theorem dX12_qTakes_96 : decode cX12_qTakes 96 = .ok (.getfield 578, 3) := q_getfield (bat_get dg_X12_qTakes_16_16 9 rfl rfl) rfl
theorem dX12_qTakes_99 : decode cX12_qTakes 99 = .ok (.ifCond .ne 29, 3) := q_ifCond_ne (bat_get dg_X12_qTakes_16_16 10 rfl rfl) rfl
theorem dX12_qTakes_128 : decode cX12_qTakes 128 = .ok (.aload_n 0, 1) := q_aload_n0 (bat_get dg_X12_qTakes_16_16 11 rfl rfl)
theorem dX12_qTakes_129 : decode cX12_qTakes 129 = .ok (.lload_n 2, 1) := q_lload_n2 (bat_get dg_X12_qTakes_16_16 12 rfl rfl)
theorem dX12_qTakes_130 : decode cX12_qTakes 130 = .ok (.putfield 575, 3) := q_putfield (bat_get dg_X12_qTakes_16_16 13 rfl rfl) rfl
theorem dX12_qTakes_102 : decode cX12_qTakes 102 = .ok (.iload_n 1, 1) := q_iload_n1 (bat_get dg_X12_qTakes_16_16 14 rfl rfl)
theorem dX12_qTakes_103 : decode cX12_qTakes 103 = .ok (.iconst 4, 1) := q_iconst4 (bat_get dg_X12_qTakes_16_16 15 rfl rfl)
theorem dX12_qTakes_104 : decode cX12_qTakes 104 = .ok (.if_icmp .ne 15, 3) := q_if_icmp_ne (bat_get dg_X12_qTakes_16_16 16 rfl rfl) rfl
theorem dX12_qTakes_119 : decode cX12_qTakes 119 = .ok (.lload_n 2, 1) := q_lload_n2 (bat_get dg_X12_qTakes_16_16 17 rfl rfl)
theorem dX12_qTakes_120 : decode cX12_qTakes 120 = .ok (.aload_n 0, 1) := q_aload_n0 (bat_get dg_X12_qTakes_16_16 18 rfl rfl)
theorem dX12_qTakes_121 : decode cX12_qTakes 121 = .ok (.getfield 575, 3) := q_getfield (bat_get dg_X12_qTakes_16_16 19 rfl rfl) rfl
theorem dX12_qTakes_124 : decode cX12_qTakes 124 = .ok (.lcmp, 1) := q_lcmp (bat_get dg_X12_qTakes_16_16 20 rfl rfl)
theorem dX12_qTakes_125 : decode cX12_qTakes 125 = .ok (.ifCond .ge 8, 3) := q_ifCond_ge (bat_get dg_X12_qTakes_16_16 21 rfl rfl) rfl
theorem dX12_qTakes_107 : decode cX12_qTakes 107 = .ok (.lload_n 2, 1) := q_lload_n2 (bat_get dg_X12_qTakes_16_16 22 rfl rfl)
theorem dX12_qTakes_108 : decode cX12_qTakes 108 = .ok (.aload_n 0, 1) := q_aload_n0 (bat_get dg_X12_qTakes_16_16 23 rfl rfl)
theorem dX12_qTakes_109 : decode cX12_qTakes 109 = .ok (.getfield 575, 3) := q_getfield (bat_get dg_X12_qTakes_16_16 24 rfl rfl) rfl
theorem dX12_qTakes_112 : decode cX12_qTakes 112 = .ok (.lcmp, 1) := q_lcmp (bat_get dg_X12_qTakes_16_16 25 rfl rfl)
theorem dX12_qTakes_113 : decode cX12_qTakes 113 = .ok (.ifCond .le 20, 3) := q_ifCond_le (bat_get dg_X12_qTakes_16_16 26 rfl rfl) rfl
theorem dX12_qTakes_116 : decode cX12_qTakes 116 = .ok (.goto 12, 3) := q_goto (bat_get dg_X12_qTakes_16_16 27 rfl rfl) rfl
theorem dX12_qTakes_75 : decode cX12_qTakes 75 = .ok (.iload_n 1, 1) := q_iload_n1 (bat_get dg_X12_qTakes_16_16 28 rfl rfl)
theorem dX12_qTakes_76 : decode cX12_qTakes 76 = .ok (.iconst 3, 1) := q_iconst3 (bat_get dg_X12_qTakes_16_16 29 rfl rfl)
theorem dX12_qTakes_77 : decode cX12_qTakes 77 = .ok (.if_icmp .ne 13, 3) := q_if_icmp_ne (bat_get dg_X12_qTakes_16_16 30 rfl rfl) rfl
theorem dX12_qTakes_80 : decode cX12_qTakes 80 = .ok (.aload_n 0, 1) := q_aload_n0 (bat_get dg_X12_qTakes_16_16 31 rfl rfl)
theorem dX12_qTakes_81 : decode cX12_qTakes 81 = .ok (.dup, 1) := q_dup (bat_get dg_X12_qTakes_16_16 32 rfl rfl)
theorem dX12_qTakes_82 : decode cX12_qTakes 82 = .ok (.getfield 575, 3) := q_getfield (bat_get dg_X12_qTakes_16_16 33 rfl rfl) rfl
theorem dX12_qTakes_85 : decode cX12_qTakes 85 = .ok (.lload_n 2, 1) := q_lload_n2 (bat_get dg_X12_qTakes_16_16 34 rfl rfl)
theorem dX12_qTakes_86 : decode cX12_qTakes 86 = .ok (.ladd, 1) := q_ladd (bat_get dg_X12_qTakes_16_16 35 rfl rfl)
theorem dX12_qTakes_87 : decode cX12_qTakes 87 = .ok (.putfield 575, 3) := q_putfield (bat_get dg_X12_qTakes_16_16 36 rfl rfl) rfl
theorem dX12_qTakes_55 : decode cX12_qTakes 55 = .ok (.iload_n 1, 1) := q_iload_n1 (bat_get dg_X12_qTakes_16_16 37 rfl rfl)
theorem dX12_qTakes_56 : decode cX12_qTakes 56 = .ok (.iconst 2, 1) := q_iconst2 (bat_get dg_X12_qTakes_16_16 38 rfl rfl)
theorem dX12_qTakes_57 : decode cX12_qTakes 57 = .ok (.if_icmp .ne 18, 3) := q_if_icmp_ne (bat_get dg_X12_qTakes_16_16 39 rfl rfl) rfl
theorem dg_X12_qTakes_0_60 : bqL cX12_qTakes 0 [(60, [21, 5]), (62, [153, 0, 13]), (65, [42]), (66, [89]), (67, [180, 2, 63]), (70, [10]), (71, [97]), (72, [181, 2, 63]), (18, [27]), (19, [154, 0, 19]), (38, [27]), (39, [4]), (40, [160, 0, 15]), (43, [21, 5]), (45, [153, 0, 10]), (48, [42]), (49, [21, 4]), (51, [133]), (52, [181, 2, 63]), (22, [21, 5]), (24, [153, 0, 14]), (27, [42]), (28, [180, 2, 63]), (31, [20, 2, 57]), (34, [148]), (35, [153, 0, 13]), (0, [27]), (1, [6]), (2, [162, 0, 13]), (15, [3]), (5, [32]), (6, [10]), (7, [148]), (8, [154, 0, 7]), (11, [4]), (12, [167, 0, 4])] = true := by decide +kernel
theorem dX12_qTakes_60 : decode cX12_qTakes 60 = .ok (.iload 5, 2) := q_iload (bat_get dg_X12_qTakes_0_60 0 rfl rfl)
theorem dX12_qTakes_62 : decode cX12_qTakes 62 = .ok (.ifCond .eq 13, 3) := q_ifCond_eq (bat_get dg_X12_qTakes_0_60 1 rfl rfl) rfl
theorem dX12_qTakes_65 : decode cX12_qTakes 65 = .ok (.aload_n 0, 1) := q_aload_n0 (bat_get dg_X12_qTakes_0_60 2 rfl rfl)
theorem dX12_qTakes_66 : decode cX12_qTakes 66 = .ok (.dup, 1) := q_dup (bat_get dg_X12_qTakes_0_60 3 rfl rfl)
theorem dX12_qTakes_67 : decode cX12_qTakes 67 = .ok (.getfield 575, 3) := q_getfield (bat_get dg_X12_qTakes_0_60 4 rfl rfl) rfl
theorem dX12_qTakes_70 : decode cX12_qTakes 70 = .ok (.lconst 1, 1) := q_lconst1 (bat_get dg_X12_qTakes_0_60 5 rfl rfl)
theorem dX12_qTakes_71 : decode cX12_qTakes 71 = .ok (.ladd, 1) := q_ladd (bat_get dg_X12_qTakes_0_60 6 rfl rfl)
theorem dX12_qTakes_72 : decode cX12_qTakes 72 = .ok (.putfield 575, 3) := q_putfield (bat_get dg_X12_qTakes_0_60 7 rfl rfl) rfl
theorem dX12_qTakes_18 : decode cX12_qTakes 18 = .ok (.iload_n 1, 1) := q_iload_n1 (bat_get dg_X12_qTakes_0_60 8 rfl rfl)
theorem dX12_qTakes_19 : decode cX12_qTakes 19 = .ok (.ifCond .ne 19, 3) := q_ifCond_ne (bat_get dg_X12_qTakes_0_60 9 rfl rfl) rfl
theorem dX12_qTakes_38 : decode cX12_qTakes 38 = .ok (.iload_n 1, 1) := q_iload_n1 (bat_get dg_X12_qTakes_0_60 10 rfl rfl)
theorem dX12_qTakes_39 : decode cX12_qTakes 39 = .ok (.iconst 1, 1) := q_iconst1 (bat_get dg_X12_qTakes_0_60 11 rfl rfl)
theorem dX12_qTakes_40 : decode cX12_qTakes 40 = .ok (.if_icmp .ne 15, 3) := q_if_icmp_ne (bat_get dg_X12_qTakes_0_60 12 rfl rfl) rfl
theorem dX12_qTakes_43 : decode cX12_qTakes 43 = .ok (.iload 5, 2) := q_iload (bat_get dg_X12_qTakes_0_60 13 rfl rfl)
theorem dX12_qTakes_45 : decode cX12_qTakes 45 = .ok (.ifCond .eq 10, 3) := q_ifCond_eq (bat_get dg_X12_qTakes_0_60 14 rfl rfl) rfl
theorem dX12_qTakes_48 : decode cX12_qTakes 48 = .ok (.aload_n 0, 1) := q_aload_n0 (bat_get dg_X12_qTakes_0_60 15 rfl rfl)
theorem dX12_qTakes_49 : decode cX12_qTakes 49 = .ok (.iload 4, 2) := q_iload (bat_get dg_X12_qTakes_0_60 16 rfl rfl)
theorem dX12_qTakes_51 : decode cX12_qTakes 51 = .ok (.i2l, 1) := q_i2l (bat_get dg_X12_qTakes_0_60 17 rfl rfl)
theorem dX12_qTakes_52 : decode cX12_qTakes 52 = .ok (.putfield 575, 3) := q_putfield (bat_get dg_X12_qTakes_0_60 18 rfl rfl) rfl
theorem dX12_qTakes_22 : decode cX12_qTakes 22 = .ok (.iload 5, 2) := q_iload (bat_get dg_X12_qTakes_0_60 19 rfl rfl)
theorem dX12_qTakes_24 : decode cX12_qTakes 24 = .ok (.ifCond .eq 14, 3) := q_ifCond_eq (bat_get dg_X12_qTakes_0_60 20 rfl rfl) rfl
theorem dX12_qTakes_27 : decode cX12_qTakes 27 = .ok (.aload_n 0, 1) := q_aload_n0 (bat_get dg_X12_qTakes_0_60 21 rfl rfl)
theorem dX12_qTakes_28 : decode cX12_qTakes 28 = .ok (.getfield 575, 3) := q_getfield (bat_get dg_X12_qTakes_0_60 22 rfl rfl) rfl
theorem dX12_qTakes_31 : decode cX12_qTakes 31 = .ok (.ldc2_w 569, 3) := q_ldc2_w (bat_get dg_X12_qTakes_0_60 23 rfl rfl) rfl
theorem dX12_qTakes_34 : decode cX12_qTakes 34 = .ok (.lcmp, 1) := q_lcmp (bat_get dg_X12_qTakes_0_60 24 rfl rfl)
theorem dX12_qTakes_35 : decode cX12_qTakes 35 = .ok (.ifCond .eq 13, 3) := q_ifCond_eq (bat_get dg_X12_qTakes_0_60 25 rfl rfl) rfl
theorem dX12_qTakes_0 : decode cX12_qTakes 0 = .ok (.iload_n 1, 1) := q_iload_n1 (bat_get dg_X12_qTakes_0_60 26 rfl rfl)
theorem dX12_qTakes_1 : decode cX12_qTakes 1 = .ok (.iconst 3, 1) := q_iconst3 (bat_get dg_X12_qTakes_0_60 27 rfl rfl)
theorem dX12_qTakes_2 : decode cX12_qTakes 2 = .ok (.if_icmp .ge 13, 3) := q_if_icmp_ge (bat_get dg_X12_qTakes_0_60 28 rfl rfl) rfl
theorem dX12_qTakes_15 : decode cX12_qTakes 15 = .ok (.iconst 0, 1) := q_iconst0 (bat_get dg_X12_qTakes_0_60 29 rfl rfl)
theorem dX12_qTakes_5 : decode cX12_qTakes 5 = .ok (.lload_n 2, 1) := q_lload_n2 (bat_get dg_X12_qTakes_0_60 30 rfl rfl)
theorem dX12_qTakes_6 : decode cX12_qTakes 6 = .ok (.lconst 1, 1) := q_lconst1 (bat_get dg_X12_qTakes_0_60 31 rfl rfl)
theorem dX12_qTakes_7 : decode cX12_qTakes 7 = .ok (.lcmp, 1) := q_lcmp (bat_get dg_X12_qTakes_0_60 32 rfl rfl)
theorem dX12_qTakes_8 : decode cX12_qTakes 8 = .ok (.ifCond .ne 7, 3) := q_ifCond_ne (bat_get dg_X12_qTakes_0_60 33 rfl rfl) rfl
theorem dX12_qTakes_11 : decode cX12_qTakes 11 = .ok (.iconst 1, 1) := q_iconst1 (bat_get dg_X12_qTakes_0_60 34 rfl rfl)
theorem dX12_qTakes_12 : decode cX12_qTakes 12 = .ok (.goto 4, 3) := q_goto (bat_get dg_X12_qTakes_0_60 35 rfl rfl) rfl
theorem w_6_4 : (Cond.fieldLink RX12 578 "SameKeeperModel" "qIsNew" "Z") ∈ wsL_law := sk_mem (ck_6 _ (List.mem_of_getElem? (i := 4) rfl)) rfl
theorem w_6_3 : (Cond.fieldLink RX12 575 "SameKeeperModel" "qAnswer" "J") ∈ wsL_law := sk_mem (ck_6 _ (List.mem_of_getElem? (i := 3) rfl)) rfl
theorem w_8_202 : (Cond.code yX12_qTakes cX12_qTakes 6 none) ∈ wsL_law := sk_mem (ck_8 _ (List.mem_of_getElem? (i := 202) rfl)) rfl
set_option maxHeartbeats 4000000 in
set_option maxRecDepth 100000 in
theorem c_m_qTakes (l : Launch) (D : va_G) (cI cJ cC cZ cS : ClassId) (mm : Nat) (g : Nat → Nat) (ta : Nat) (pa : Nat) (pe : Nat) (pd : Int32) (pb : Nat) (pp : Int32) (pf : Int32) (pg : Int32) (pn : Int32) (rt : Int32) (rn : Int32) (cd : Nat) (sn : Int32) (il : Nat) (tk : Int32) (am : Int32) (at_ : Int32) (aa : Int32) (wt : Int32) (wy : Int64) (rm : Nat) (ud : Nat) (nu : Nat) (sd : Int64) (qn : Nat) (qw : Nat) (qo : Int32) (qb : Nat) (qp : Nat) (qa : Int64) (qi : Nat) (oc : Nat) (o : Int32) (x : Int64) (d : Nat) (hqi : qi ≤ 1) : skM l yX12_qTakes cX12_qTakes 6 none 0 0 0 0 D (skT cI cJ cC cZ cS) [.ref mm, .int o, .long x, .int (nI d)] [(mm, .inr (12, mo g (nI ta) (nI pa) (nI pe) pd (nI pb) pp pf pg pn rt rn (nI cd) sn (nI il) tk am at_ aa 0 0 (-1) wt wy 0 (nI rm) (nI ud) (nI nu) sd (nI qn) (nI qw) qo (nI qb) (nI qp) qa (nI qi) (nI oc)))] (skV D (skT cI cJ cC cZ cS) (fun (u : va_W) => ∃ (qa2 : Int64), u = [(mm, .inr (12, mo g (nI ta) (nI pa) (nI pe) pd (nI pb) pp pf pg pn rt rn (nI cd) sn (nI il) tk am at_ aa 0 0 (-1) wt wy 0 (nI rm) (nI ud) (nI nu) sd (nI qn) (nI qw) qo (nI qb) (nI qp) qa2 0 (nI oc)))])) := by
  refine skM_of pf_X12_qTakes (Nat.le_of_ble_eq_true rfl) ?_
  intro p e s m below meth c A ls E hP hD hl
  refine skE_el E (fun hx hb hr hml hlocks hin hown hts hK hA => ?_)
  have hown : s.vm.findClass RX12 = some m.cls := hown
  have hS : va_S A s.heap s.heap [] := va_S.rf
  have hl : lv_has ls 6 [(0, .ref mm), (1, .int o), (2, .long x), (4, .int (nI d))] := hl
  have jn_1 : ∀ (bq : Nat) (H : Heap) (locs : List Loc) (ls : Array Slot), (bq ≤ 1) → va_P D vwCl [(mm, .inr (12, mo g (nI ta) (nI pa) (nI pe) pd (nI pb) pp pf pg pn rt rn (nI cd) sn (nI il) tk am at_ aa 0 0 (-1) wt wy 0 (nI rm) (nI ud) (nI nu) sd (nI qn) (nI qw) qo (nI qb) (nI qp) qa (nI qi) (nI oc)))] H → va_D A [(mm, .inr (12, mo g (nI ta) (nI pa) (nI pe) pd (nI pb) pp pf pg pn rt rn (nI cd) sn (nI il) tk am at_ aa 0 0 (-1) wt wy 0 (nI rm) (nI ud) (nI nu) sd (nI qn) (nI qw) qo (nI qb) (nI qp) qa (nI qi) (nI oc)))] → va_S A s.heap H locs → lv_has ls 6 [(0, .ref mm), (1, .int o), (2, .long x), (4, .int (nI d))] → W p l e { frames := 0, cells := 0, slots := 0, locals := 0 } s m ([.ref mm, .int o, .long x, .int (nI d)] : List Value).toArray below meth c H locs 0 0 (MQ below (skV D (skT cI cJ cC cZ cS) (fun (u : va_W) => ∃ (qa2 : Int64), u = [(mm, .inr (12, mo g (nI ta) (nI pa) (nI pe) pd (nI pb) pp pf pg pn rt rn (nI cd) sn (nI il) tk am at_ aa 0 0 (-1) wt wy 0 (nI rm) (nI ud) (nI nu) sd (nI qn) (nI qw) qo (nI qb) (nI qp) qa2 0 (nI oc)))]) A) ([.ref mm, .int o, .long x, .int (nI d)] : List Value).toArray s 0 0 A) (F0 m 16 ls [.int (nI bq)]) := by
    intro bq H locs ls hbq hP hD hS hl
    refine lv_istore (lv' := [(5, .int (nI bq)), (0, .ref mm), (1, .int o), (2, .long x), (4, .int (nI d))]) hx hb dX12_qTakes_16 hl (by decide) rfl (fun ls hl => ?_)
    have jn_2 : ∀ (z90 : Int64) (H : Heap) (locs : List Loc) (ls : Array Slot), va_P D vwCl [(mm, .inr (12, mo g (nI ta) (nI pa) (nI pe) pd (nI pb) pp pf pg pn rt rn (nI cd) sn (nI il) tk am at_ aa 0 0 (-1) wt wy 0 (nI rm) (nI ud) (nI nu) sd (nI qn) (nI qw) qo (nI qb) (nI qp) z90 (nI qi) (nI oc)))] H → va_D A [(mm, .inr (12, mo g (nI ta) (nI pa) (nI pe) pd (nI pb) pp pf pg pn rt rn (nI cd) sn (nI il) tk am at_ aa 0 0 (-1) wt wy 0 (nI rm) (nI ud) (nI nu) sd (nI qn) (nI qw) qo (nI qb) (nI qp) z90 (nI qi) (nI oc)))] → va_S A s.heap H locs → lv_has ls 6 [(5, .int (nI bq)), (0, .ref mm), (1, .int o), (2, .long x), (4, .int (nI d))] → W p l e { frames := 0, cells := 0, slots := 0, locals := 0 } s m ([.ref mm, .int o, .long x, .int (nI d)] : List Value).toArray below meth c H locs 0 0 (MQ below (skV D (skT cI cJ cC cZ cS) (fun (u : va_W) => ∃ (qa2 : Int64), u = [(mm, .inr (12, mo g (nI ta) (nI pa) (nI pe) pd (nI pb) pp pf pg pn rt rn (nI cd) sn (nI il) tk am at_ aa 0 0 (-1) wt wy 0 (nI rm) (nI ud) (nI nu) sd (nI qn) (nI qw) qo (nI qb) (nI qp) qa2 0 (nI oc)))]) A) ([.ref mm, .int o, .long x, .int (nI d)] : List Value).toArray s 0 0 A) (F0 m 90 ls []) := by
      intro z90 H locs ls  hP hD hS hl
      refine lv_iload_n hx hb dX12_qTakes_90 rfl (lv_at hl 2 rfl) ?_
      refine lv_iconst (v := 3) hx hb dX12_qTakes_91 (by decide) ?_
      refine lv_icmp_le (tgt := 133) hx hb dX12_qTakes_92 (by decide) (fun c_3 => ?_) (fun c_3 => ?_)
      · skip
        refine lv_aload_n hx hb dX12_qTakes_133 rfl (lv_at hl 1 rfl) ?_
        refine lv_iconst (v := 0) hx hb dX12_qTakes_134 (by decide) ?_
        refine sk_put (ws' := [(mm, .inr (12, mo g (nI ta) (nI pa) (nI pe) pd (nI pb) pp pf pg pn rt rn (nI cd) sn (nI il) tk am at_ aa 0 0 (-1) wt wy 0 (nI rm) (nI ud) (nI nu) sd (nI qn) (nI qw) qo (nI qb) (nI qp) z90 0 (nI oc)))]) (C := RX12) (T := TX12) (N := 92) (v := .int 0) hx hb hts inlX12 tyX12 tyX12_ok nmX12 hown hK hP hD hS 0 rfl rfl 89 (by decide) w_6_4 rfl rfl rfl (Nat.le_of_ble_eq_true rfl) rfl dX12_qTakes_135 (fun H locs hP hD hS => ?_)
        exact sk_vret hx hb hr hlocks hK hP hD hS (⟨z90, rfl⟩) (Nat.le_of_ble_eq_true rfl) (Nat.le_of_ble_eq_true rfl) dX12_qTakes_138
      · skip
        refine lv_aload_n hx hb dX12_qTakes_95 rfl (lv_at hl 1 rfl) ?_
        refine sk_get (v := .int (nI qi)) (C := RX12) (T := TX12) (N := 92) hx hb hts inlX12 hown hK hP 0 rfl rfl 89 (by decide) w_6_4 rfl dX12_qTakes_96 ?_
        refine lv_if_ne (tgt := 128) hx hb dX12_qTakes_99 (by decide) (fun c_4 => ?_) (fun c_4 => ?_)
        · have c_4 : ¬ (qi = 0) := fun h => c_4 ((neq qi 0 (by omega) (by omega)).mpr h)
          refine lv_aload_n hx hb dX12_qTakes_128 rfl (lv_at hl 1 rfl) ?_
          refine lv_lload_n hx hb dX12_qTakes_129 rfl (lv_at hl 3 rfl) ?_
          refine sk_put (ws' := [(mm, .inr (12, mo g (nI ta) (nI pa) (nI pe) pd (nI pb) pp pf pg pn rt rn (nI cd) sn (nI il) tk am at_ aa 0 0 (-1) wt wy 0 (nI rm) (nI ud) (nI nu) sd (nI qn) (nI qw) qo (nI qb) (nI qp) x (nI qi) (nI oc)))]) (C := RX12) (T := TX12) (N := 92) (v := .long x) hx hb hts inlX12 tyX12 tyX12_ok nmX12 hown hK hP hD hS 0 rfl rfl 88 (by decide) w_6_3 rfl rfl rfl (Nat.le_of_ble_eq_true rfl) rfl dX12_qTakes_130 (fun H locs hP hD hS => ?_)
          refine lv_aload_n hx hb dX12_qTakes_133 rfl (lv_at hl 1 rfl) ?_
          refine lv_iconst (v := 0) hx hb dX12_qTakes_134 (by decide) ?_
          refine sk_put (ws' := [(mm, .inr (12, mo g (nI ta) (nI pa) (nI pe) pd (nI pb) pp pf pg pn rt rn (nI cd) sn (nI il) tk am at_ aa 0 0 (-1) wt wy 0 (nI rm) (nI ud) (nI nu) sd (nI qn) (nI qw) qo (nI qb) (nI qp) x 0 (nI oc)))]) (C := RX12) (T := TX12) (N := 92) (v := .int 0) hx hb hts inlX12 tyX12 tyX12_ok nmX12 hown hK hP hD hS 0 rfl rfl 89 (by decide) w_6_4 rfl rfl rfl (Nat.le_of_ble_eq_true rfl) rfl dX12_qTakes_135 (fun H locs hP hD hS => ?_)
          exact sk_vret hx hb hr hlocks hK hP hD hS (⟨x, rfl⟩) (Nat.le_of_ble_eq_true rfl) (Nat.le_of_ble_eq_true rfl) dX12_qTakes_138
        · have c_4 : qi = 0 := (neq qi 0 (by omega) (by omega)).mp c_4
          refine lv_iload_n hx hb dX12_qTakes_102 rfl (lv_at hl 2 rfl) ?_
          refine lv_iconst (v := 4) hx hb dX12_qTakes_103 (by decide) ?_
          refine lv_icmp_ne (tgt := 119) hx hb dX12_qTakes_104 (by decide) (fun c_5 => ?_) (fun c_5 => ?_)
          · skip
            refine lv_lload_n hx hb dX12_qTakes_119 rfl (lv_at hl 3 rfl) ?_
            refine lv_aload_n hx hb dX12_qTakes_120 rfl (lv_at hl 1 rfl) ?_
            refine sk_get (v := .long z90) (C := RX12) (T := TX12) (N := 92) hx hb hts inlX12 hown hK hP 0 rfl rfl 88 (by decide) w_6_3 rfl dX12_qTakes_121 ?_
            refine W.lcmp hx hb dX12_qTakes_124 ?_
            refine lv_if_ge (tgt := 133) hx hb dX12_qTakes_125 (by decide) (fun c_6 => ?_) (fun c_6 => ?_)
            · skip
              refine lv_aload_n hx hb dX12_qTakes_133 rfl (lv_at hl 1 rfl) ?_
              refine lv_iconst (v := 0) hx hb dX12_qTakes_134 (by decide) ?_
              refine sk_put (ws' := [(mm, .inr (12, mo g (nI ta) (nI pa) (nI pe) pd (nI pb) pp pf pg pn rt rn (nI cd) sn (nI il) tk am at_ aa 0 0 (-1) wt wy 0 (nI rm) (nI ud) (nI nu) sd (nI qn) (nI qw) qo (nI qb) (nI qp) z90 0 (nI oc)))]) (C := RX12) (T := TX12) (N := 92) (v := .int 0) hx hb hts inlX12 tyX12 tyX12_ok nmX12 hown hK hP hD hS 0 rfl rfl 89 (by decide) w_6_4 rfl rfl rfl (Nat.le_of_ble_eq_true rfl) rfl dX12_qTakes_135 (fun H locs hP hD hS => ?_)
              exact sk_vret hx hb hr hlocks hK hP hD hS (⟨z90, rfl⟩) (Nat.le_of_ble_eq_true rfl) (Nat.le_of_ble_eq_true rfl) dX12_qTakes_138
            · skip
              refine lv_aload_n hx hb dX12_qTakes_128 rfl (lv_at hl 1 rfl) ?_
              refine lv_lload_n hx hb dX12_qTakes_129 rfl (lv_at hl 3 rfl) ?_
              refine sk_put (ws' := [(mm, .inr (12, mo g (nI ta) (nI pa) (nI pe) pd (nI pb) pp pf pg pn rt rn (nI cd) sn (nI il) tk am at_ aa 0 0 (-1) wt wy 0 (nI rm) (nI ud) (nI nu) sd (nI qn) (nI qw) qo (nI qb) (nI qp) x (nI qi) (nI oc)))]) (C := RX12) (T := TX12) (N := 92) (v := .long x) hx hb hts inlX12 tyX12 tyX12_ok nmX12 hown hK hP hD hS 0 rfl rfl 88 (by decide) w_6_3 rfl rfl rfl (Nat.le_of_ble_eq_true rfl) rfl dX12_qTakes_130 (fun H locs hP hD hS => ?_)
              refine lv_aload_n hx hb dX12_qTakes_133 rfl (lv_at hl 1 rfl) ?_
              refine lv_iconst (v := 0) hx hb dX12_qTakes_134 (by decide) ?_
              refine sk_put (ws' := [(mm, .inr (12, mo g (nI ta) (nI pa) (nI pe) pd (nI pb) pp pf pg pn rt rn (nI cd) sn (nI il) tk am at_ aa 0 0 (-1) wt wy 0 (nI rm) (nI ud) (nI nu) sd (nI qn) (nI qw) qo (nI qb) (nI qp) x 0 (nI oc)))]) (C := RX12) (T := TX12) (N := 92) (v := .int 0) hx hb hts inlX12 tyX12 tyX12_ok nmX12 hown hK hP hD hS 0 rfl rfl 89 (by decide) w_6_4 rfl rfl rfl (Nat.le_of_ble_eq_true rfl) rfl dX12_qTakes_135 (fun H locs hP hD hS => ?_)
              exact sk_vret hx hb hr hlocks hK hP hD hS (⟨x, rfl⟩) (Nat.le_of_ble_eq_true rfl) (Nat.le_of_ble_eq_true rfl) dX12_qTakes_138
          · skip
            refine lv_lload_n hx hb dX12_qTakes_107 rfl (lv_at hl 3 rfl) ?_
            refine lv_aload_n hx hb dX12_qTakes_108 rfl (lv_at hl 1 rfl) ?_
            refine sk_get (v := .long z90) (C := RX12) (T := TX12) (N := 92) hx hb hts inlX12 hown hK hP 0 rfl rfl 88 (by decide) w_6_3 rfl dX12_qTakes_109 ?_
            refine W.lcmp hx hb dX12_qTakes_112 ?_
            refine lv_if_le (tgt := 133) hx hb dX12_qTakes_113 (by decide) (fun c_7 => ?_) (fun c_7 => ?_)
            · skip
              refine lv_aload_n hx hb dX12_qTakes_133 rfl (lv_at hl 1 rfl) ?_
              refine lv_iconst (v := 0) hx hb dX12_qTakes_134 (by decide) ?_
              refine sk_put (ws' := [(mm, .inr (12, mo g (nI ta) (nI pa) (nI pe) pd (nI pb) pp pf pg pn rt rn (nI cd) sn (nI il) tk am at_ aa 0 0 (-1) wt wy 0 (nI rm) (nI ud) (nI nu) sd (nI qn) (nI qw) qo (nI qb) (nI qp) z90 0 (nI oc)))]) (C := RX12) (T := TX12) (N := 92) (v := .int 0) hx hb hts inlX12 tyX12 tyX12_ok nmX12 hown hK hP hD hS 0 rfl rfl 89 (by decide) w_6_4 rfl rfl rfl (Nat.le_of_ble_eq_true rfl) rfl dX12_qTakes_135 (fun H locs hP hD hS => ?_)
              exact sk_vret hx hb hr hlocks hK hP hD hS (⟨z90, rfl⟩) (Nat.le_of_ble_eq_true rfl) (Nat.le_of_ble_eq_true rfl) dX12_qTakes_138
            · skip
              refine lv_goto (tgt := 128) hx hb dX12_qTakes_116 (by decide) ?_
              refine lv_aload_n hx hb dX12_qTakes_128 rfl (lv_at hl 1 rfl) ?_
              refine lv_lload_n hx hb dX12_qTakes_129 rfl (lv_at hl 3 rfl) ?_
              refine sk_put (ws' := [(mm, .inr (12, mo g (nI ta) (nI pa) (nI pe) pd (nI pb) pp pf pg pn rt rn (nI cd) sn (nI il) tk am at_ aa 0 0 (-1) wt wy 0 (nI rm) (nI ud) (nI nu) sd (nI qn) (nI qw) qo (nI qb) (nI qp) x (nI qi) (nI oc)))]) (C := RX12) (T := TX12) (N := 92) (v := .long x) hx hb hts inlX12 tyX12 tyX12_ok nmX12 hown hK hP hD hS 0 rfl rfl 88 (by decide) w_6_3 rfl rfl rfl (Nat.le_of_ble_eq_true rfl) rfl dX12_qTakes_130 (fun H locs hP hD hS => ?_)
              refine lv_aload_n hx hb dX12_qTakes_133 rfl (lv_at hl 1 rfl) ?_
              refine lv_iconst (v := 0) hx hb dX12_qTakes_134 (by decide) ?_
              refine sk_put (ws' := [(mm, .inr (12, mo g (nI ta) (nI pa) (nI pe) pd (nI pb) pp pf pg pn rt rn (nI cd) sn (nI il) tk am at_ aa 0 0 (-1) wt wy 0 (nI rm) (nI ud) (nI nu) sd (nI qn) (nI qw) qo (nI qb) (nI qp) x 0 (nI oc)))]) (C := RX12) (T := TX12) (N := 92) (v := .int 0) hx hb hts inlX12 tyX12 tyX12_ok nmX12 hown hK hP hD hS 0 rfl rfl 89 (by decide) w_6_4 rfl rfl rfl (Nat.le_of_ble_eq_true rfl) rfl dX12_qTakes_135 (fun H locs hP hD hS => ?_)
              exact sk_vret hx hb hr hlocks hK hP hD hS (⟨x, rfl⟩) (Nat.le_of_ble_eq_true rfl) (Nat.le_of_ble_eq_true rfl) dX12_qTakes_138
    have jn_8 : ∀ (z75 : Int64) (H : Heap) (locs : List Loc) (ls : Array Slot), va_P D vwCl [(mm, .inr (12, mo g (nI ta) (nI pa) (nI pe) pd (nI pb) pp pf pg pn rt rn (nI cd) sn (nI il) tk am at_ aa 0 0 (-1) wt wy 0 (nI rm) (nI ud) (nI nu) sd (nI qn) (nI qw) qo (nI qb) (nI qp) z75 (nI qi) (nI oc)))] H → va_D A [(mm, .inr (12, mo g (nI ta) (nI pa) (nI pe) pd (nI pb) pp pf pg pn rt rn (nI cd) sn (nI il) tk am at_ aa 0 0 (-1) wt wy 0 (nI rm) (nI ud) (nI nu) sd (nI qn) (nI qw) qo (nI qb) (nI qp) z75 (nI qi) (nI oc)))] → va_S A s.heap H locs → lv_has ls 6 [(5, .int (nI bq)), (0, .ref mm), (1, .int o), (2, .long x), (4, .int (nI d))] → W p l e { frames := 0, cells := 0, slots := 0, locals := 0 } s m ([.ref mm, .int o, .long x, .int (nI d)] : List Value).toArray below meth c H locs 0 0 (MQ below (skV D (skT cI cJ cC cZ cS) (fun (u : va_W) => ∃ (qa2 : Int64), u = [(mm, .inr (12, mo g (nI ta) (nI pa) (nI pe) pd (nI pb) pp pf pg pn rt rn (nI cd) sn (nI il) tk am at_ aa 0 0 (-1) wt wy 0 (nI rm) (nI ud) (nI nu) sd (nI qn) (nI qw) qo (nI qb) (nI qp) qa2 0 (nI oc)))]) A) ([.ref mm, .int o, .long x, .int (nI d)] : List Value).toArray s 0 0 A) (F0 m 75 ls []) := by
      intro z75 H locs ls  hP hD hS hl
      refine lv_iload_n hx hb dX12_qTakes_75 rfl (lv_at hl 2 rfl) ?_
      refine lv_iconst (v := 3) hx hb dX12_qTakes_76 (by decide) ?_
      refine lv_icmp_ne (tgt := 90) hx hb dX12_qTakes_77 (by decide) (fun c_9 => ?_) (fun c_9 => ?_)
      · skip
        exact jn_2 z75 _ _ _  hP hD hS (lv_sub hl [0, 1, 2, 3, 4] rfl)
      · skip
        refine lv_aload_n hx hb dX12_qTakes_80 rfl (lv_at hl 1 rfl) ?_
        refine lv_dup hx hb dX12_qTakes_81 rfl ?_
        refine sk_get (v := .long z75) (C := RX12) (T := TX12) (N := 92) hx hb hts inlX12 hown hK hP 0 rfl rfl 88 (by decide) w_6_3 rfl dX12_qTakes_82 ?_
        refine lv_lload_n hx hb dX12_qTakes_85 rfl (lv_at hl 3 rfl) ?_
        refine lv_ladd hx hb dX12_qTakes_86 ?_
        refine lv_topl (fun v_10 ev_10 => ?_)
        refine sk_put (ws' := [(mm, .inr (12, mo g (nI ta) (nI pa) (nI pe) pd (nI pb) pp pf pg pn rt rn (nI cd) sn (nI il) tk am at_ aa 0 0 (-1) wt wy 0 (nI rm) (nI ud) (nI nu) sd (nI qn) (nI qw) qo (nI qb) (nI qp) v_10 (nI qi) (nI oc)))]) (C := RX12) (T := TX12) (N := 92) (v := .long v_10) hx hb hts inlX12 tyX12 tyX12_ok nmX12 hown hK hP hD hS 0 rfl rfl 88 (by decide) w_6_3 rfl rfl rfl (Nat.le_of_ble_eq_true rfl) rfl dX12_qTakes_87 (fun H locs hP hD hS => ?_)
        exact jn_2 v_10 _ _ _  hP hD hS (lv_sub hl [0, 1, 2, 3, 4] rfl)
    have jn_11 : ∀ (z55 : Int64) (H : Heap) (locs : List Loc) (ls : Array Slot), va_P D vwCl [(mm, .inr (12, mo g (nI ta) (nI pa) (nI pe) pd (nI pb) pp pf pg pn rt rn (nI cd) sn (nI il) tk am at_ aa 0 0 (-1) wt wy 0 (nI rm) (nI ud) (nI nu) sd (nI qn) (nI qw) qo (nI qb) (nI qp) z55 (nI qi) (nI oc)))] H → va_D A [(mm, .inr (12, mo g (nI ta) (nI pa) (nI pe) pd (nI pb) pp pf pg pn rt rn (nI cd) sn (nI il) tk am at_ aa 0 0 (-1) wt wy 0 (nI rm) (nI ud) (nI nu) sd (nI qn) (nI qw) qo (nI qb) (nI qp) z55 (nI qi) (nI oc)))] → va_S A s.heap H locs → lv_has ls 6 [(5, .int (nI bq)), (0, .ref mm), (1, .int o), (2, .long x), (4, .int (nI d))] → W p l e { frames := 0, cells := 0, slots := 0, locals := 0 } s m ([.ref mm, .int o, .long x, .int (nI d)] : List Value).toArray below meth c H locs 0 0 (MQ below (skV D (skT cI cJ cC cZ cS) (fun (u : va_W) => ∃ (qa2 : Int64), u = [(mm, .inr (12, mo g (nI ta) (nI pa) (nI pe) pd (nI pb) pp pf pg pn rt rn (nI cd) sn (nI il) tk am at_ aa 0 0 (-1) wt wy 0 (nI rm) (nI ud) (nI nu) sd (nI qn) (nI qw) qo (nI qb) (nI qp) qa2 0 (nI oc)))]) A) ([.ref mm, .int o, .long x, .int (nI d)] : List Value).toArray s 0 0 A) (F0 m 55 ls []) := by
      intro z55 H locs ls  hP hD hS hl
      refine lv_iload_n hx hb dX12_qTakes_55 rfl (lv_at hl 2 rfl) ?_
      refine lv_iconst (v := 2) hx hb dX12_qTakes_56 (by decide) ?_
      refine lv_icmp_ne (tgt := 75) hx hb dX12_qTakes_57 (by decide) (fun c_12 => ?_) (fun c_12 => ?_)
      · skip
        exact jn_8 z55 _ _ _  hP hD hS (lv_sub hl [0, 1, 2, 3, 4] rfl)
      · skip
        refine lv_iload hx hb dX12_qTakes_60 (lv_at hl 0 rfl) ?_
        refine lv_if_eq (tgt := 75) hx hb dX12_qTakes_62 (by decide) (fun c_13 => ?_) (fun c_13 => ?_)
        · have c_13 : bq = 0 := (neq bq 0 (by omega) (by omega)).mp c_13
          exact jn_8 z55 _ _ _  hP hD hS (lv_sub hl [0, 1, 2, 3, 4] rfl)
        · have c_13 : ¬ (bq = 0) := fun h => c_13 ((neq bq 0 (by omega) (by omega)).mpr h)
          refine lv_aload_n hx hb dX12_qTakes_65 rfl (lv_at hl 1 rfl) ?_
          refine lv_dup hx hb dX12_qTakes_66 rfl ?_
          refine sk_get (v := .long z55) (C := RX12) (T := TX12) (N := 92) hx hb hts inlX12 hown hK hP 0 rfl rfl 88 (by decide) w_6_3 rfl dX12_qTakes_67 ?_
          refine lv_lconst (v := 1) hx hb dX12_qTakes_70 (by decide) ?_
          refine lv_ladd hx hb dX12_qTakes_71 ?_
          refine lv_topl (fun v_14 ev_14 => ?_)
          refine sk_put (ws' := [(mm, .inr (12, mo g (nI ta) (nI pa) (nI pe) pd (nI pb) pp pf pg pn rt rn (nI cd) sn (nI il) tk am at_ aa 0 0 (-1) wt wy 0 (nI rm) (nI ud) (nI nu) sd (nI qn) (nI qw) qo (nI qb) (nI qp) v_14 (nI qi) (nI oc)))]) (C := RX12) (T := TX12) (N := 92) (v := .long v_14) hx hb hts inlX12 tyX12 tyX12_ok nmX12 hown hK hP hD hS 0 rfl rfl 88 (by decide) w_6_3 rfl rfl rfl (Nat.le_of_ble_eq_true rfl) rfl dX12_qTakes_72 (fun H locs hP hD hS => ?_)
          exact jn_8 v_14 _ _ _  hP hD hS (lv_sub hl [0, 1, 2, 3, 4] rfl)
    refine lv_iload_n hx hb dX12_qTakes_18 rfl (lv_at hl 2 rfl) ?_
    refine lv_if_ne (tgt := 38) hx hb dX12_qTakes_19 (by decide) (fun c_15 => ?_) (fun c_15 => ?_)
    · skip
      refine lv_iload_n hx hb dX12_qTakes_38 rfl (lv_at hl 2 rfl) ?_
      refine lv_iconst (v := 1) hx hb dX12_qTakes_39 (by decide) ?_
      refine lv_icmp_ne (tgt := 55) hx hb dX12_qTakes_40 (by decide) (fun c_16 => ?_) (fun c_16 => ?_)
      · skip
        exact jn_11 qa _ _ _  hP hD hS (lv_sub hl [0, 1, 2, 3, 4] rfl)
      · skip
        refine lv_iload hx hb dX12_qTakes_43 (lv_at hl 0 rfl) ?_
        refine lv_if_eq (tgt := 55) hx hb dX12_qTakes_45 (by decide) (fun c_17 => ?_) (fun c_17 => ?_)
        · have c_17 : bq = 0 := (neq bq 0 (by omega) (by omega)).mp c_17
          exact jn_11 qa _ _ _  hP hD hS (lv_sub hl [0, 1, 2, 3, 4] rfl)
        · have c_17 : ¬ (bq = 0) := fun h => c_17 ((neq bq 0 (by omega) (by omega)).mpr h)
          refine lv_aload_n hx hb dX12_qTakes_48 rfl (lv_at hl 1 rfl) ?_
          refine lv_iload hx hb dX12_qTakes_49 (lv_at hl 4 rfl) ?_
          refine lv_i2l hx hb dX12_qTakes_51 rfl ?_
          refine sk_put (ws' := [(mm, .inr (12, mo g (nI ta) (nI pa) (nI pe) pd (nI pb) pp pf pg pn rt rn (nI cd) sn (nI il) tk am at_ aa 0 0 (-1) wt wy 0 (nI rm) (nI ud) (nI nu) sd (nI qn) (nI qw) qo (nI qb) (nI qp) (Int32.toInt64 (nI d)) (nI qi) (nI oc)))]) (C := RX12) (T := TX12) (N := 92) (v := .long (Int32.toInt64 (nI d))) hx hb hts inlX12 tyX12 tyX12_ok nmX12 hown hK hP hD hS 0 rfl rfl 88 (by decide) w_6_3 rfl rfl rfl (Nat.le_of_ble_eq_true rfl) rfl dX12_qTakes_52 (fun H locs hP hD hS => ?_)
          exact jn_11 (Int32.toInt64 (nI d)) _ _ _  hP hD hS (lv_sub hl [0, 1, 2, 3, 4] rfl)
    · skip
      refine lv_iload hx hb dX12_qTakes_22 (lv_at hl 0 rfl) ?_
      refine lv_if_eq (tgt := 38) hx hb dX12_qTakes_24 (by decide) (fun c_18 => ?_) (fun c_18 => ?_)
      · have c_18 : bq = 0 := (neq bq 0 (by omega) (by omega)).mp c_18
        refine lv_iload_n hx hb dX12_qTakes_38 rfl (lv_at hl 2 rfl) ?_
        refine lv_iconst (v := 1) hx hb dX12_qTakes_39 (by decide) ?_
        refine lv_icmp_ne (tgt := 55) hx hb dX12_qTakes_40 (by decide) (fun c_19 => ?_) (fun c_19 => ?_)
        · skip
          exact jn_11 qa _ _ _  hP hD hS (lv_sub hl [0, 1, 2, 3, 4] rfl)
        · skip
          refine lv_iload hx hb dX12_qTakes_43 (lv_at hl 0 rfl) ?_
          refine lv_if_eq (tgt := 55) hx hb dX12_qTakes_45 (by decide) (fun c_20 => ?_) (fun c_20 => ?_)
          · have c_20 : bq = 0 := (neq bq 0 (by omega) (by omega)).mp c_20
            exact jn_11 qa _ _ _  hP hD hS (lv_sub hl [0, 1, 2, 3, 4] rfl)
          · have c_20 : ¬ (bq = 0) := fun h => c_20 ((neq bq 0 (by omega) (by omega)).mpr h)
            refine lv_aload_n hx hb dX12_qTakes_48 rfl (lv_at hl 1 rfl) ?_
            refine lv_iload hx hb dX12_qTakes_49 (lv_at hl 4 rfl) ?_
            refine lv_i2l hx hb dX12_qTakes_51 rfl ?_
            refine sk_put (ws' := [(mm, .inr (12, mo g (nI ta) (nI pa) (nI pe) pd (nI pb) pp pf pg pn rt rn (nI cd) sn (nI il) tk am at_ aa 0 0 (-1) wt wy 0 (nI rm) (nI ud) (nI nu) sd (nI qn) (nI qw) qo (nI qb) (nI qp) (Int32.toInt64 (nI d)) (nI qi) (nI oc)))]) (C := RX12) (T := TX12) (N := 92) (v := .long (Int32.toInt64 (nI d))) hx hb hts inlX12 tyX12 tyX12_ok nmX12 hown hK hP hD hS 0 rfl rfl 88 (by decide) w_6_3 rfl rfl rfl (Nat.le_of_ble_eq_true rfl) rfl dX12_qTakes_52 (fun H locs hP hD hS => ?_)
            exact jn_11 (Int32.toInt64 (nI d)) _ _ _  hP hD hS (lv_sub hl [0, 1, 2, 3, 4] rfl)
      · have c_18 : ¬ (bq = 0) := fun h => c_18 ((neq bq 0 (by omega) (by omega)).mpr h)
        refine lv_aload_n hx hb dX12_qTakes_27 rfl (lv_at hl 1 rfl) ?_
        refine sk_get (v := .long qa) (C := RX12) (T := TX12) (N := 92) hx hb hts inlX12 hown hK hP 0 rfl rfl 88 (by decide) w_6_3 rfl dX12_qTakes_28 ?_
        refine lv_ldc2 (v := (-1)) hx hb hown (hts _ w_7_155) dX12_qTakes_31 ?_
        refine W.lcmp hx hb dX12_qTakes_34 ?_
        refine lv_if_eq (tgt := 48) hx hb dX12_qTakes_35 (by decide) (fun c_21 => ?_) (fun c_21 => ?_)
        · skip
          refine lv_aload_n hx hb dX12_qTakes_48 rfl (lv_at hl 1 rfl) ?_
          refine lv_iload hx hb dX12_qTakes_49 (lv_at hl 4 rfl) ?_
          refine lv_i2l hx hb dX12_qTakes_51 rfl ?_
          refine sk_put (ws' := [(mm, .inr (12, mo g (nI ta) (nI pa) (nI pe) pd (nI pb) pp pf pg pn rt rn (nI cd) sn (nI il) tk am at_ aa 0 0 (-1) wt wy 0 (nI rm) (nI ud) (nI nu) sd (nI qn) (nI qw) qo (nI qb) (nI qp) (Int32.toInt64 (nI d)) (nI qi) (nI oc)))]) (C := RX12) (T := TX12) (N := 92) (v := .long (Int32.toInt64 (nI d))) hx hb hts inlX12 tyX12 tyX12_ok nmX12 hown hK hP hD hS 0 rfl rfl 88 (by decide) w_6_3 rfl rfl rfl (Nat.le_of_ble_eq_true rfl) rfl dX12_qTakes_52 (fun H locs hP hD hS => ?_)
          exact jn_11 (Int32.toInt64 (nI d)) _ _ _  hP hD hS (lv_sub hl [0, 1, 2, 3, 4] rfl)
        · skip
          refine lv_iload_n hx hb dX12_qTakes_38 rfl (lv_at hl 2 rfl) ?_
          refine lv_iconst (v := 1) hx hb dX12_qTakes_39 (by decide) ?_
          refine lv_icmp_ne (tgt := 55) hx hb dX12_qTakes_40 (by decide) (fun c_22 => ?_) (fun c_22 => ?_)
          · skip
            exact jn_11 qa _ _ _  hP hD hS (lv_sub hl [0, 1, 2, 3, 4] rfl)
          · skip
            refine lv_iload hx hb dX12_qTakes_43 (lv_at hl 0 rfl) ?_
            refine lv_if_eq (tgt := 55) hx hb dX12_qTakes_45 (by decide) (fun c_23 => ?_) (fun c_23 => ?_)
            · have c_23 : bq = 0 := (neq bq 0 (by omega) (by omega)).mp c_23
              exact jn_11 qa _ _ _  hP hD hS (lv_sub hl [0, 1, 2, 3, 4] rfl)
            · have c_23 : ¬ (bq = 0) := fun h => c_23 ((neq bq 0 (by omega) (by omega)).mpr h)
              refine lv_aload_n hx hb dX12_qTakes_48 rfl (lv_at hl 1 rfl) ?_
              refine lv_iload hx hb dX12_qTakes_49 (lv_at hl 4 rfl) ?_
              refine lv_i2l hx hb dX12_qTakes_51 rfl ?_
              refine sk_put (ws' := [(mm, .inr (12, mo g (nI ta) (nI pa) (nI pe) pd (nI pb) pp pf pg pn rt rn (nI cd) sn (nI il) tk am at_ aa 0 0 (-1) wt wy 0 (nI rm) (nI ud) (nI nu) sd (nI qn) (nI qw) qo (nI qb) (nI qp) (Int32.toInt64 (nI d)) (nI qi) (nI oc)))]) (C := RX12) (T := TX12) (N := 92) (v := .long (Int32.toInt64 (nI d))) hx hb hts inlX12 tyX12 tyX12_ok nmX12 hown hK hP hD hS 0 rfl rfl 88 (by decide) w_6_3 rfl rfl rfl (Nat.le_of_ble_eq_true rfl) rfl dX12_qTakes_52 (fun H locs hP hD hS => ?_)
              exact jn_11 (Int32.toInt64 (nI d)) _ _ _  hP hD hS (lv_sub hl [0, 1, 2, 3, 4] rfl)
  refine lv_iload_n hx hb dX12_qTakes_0 rfl (lv_at hl 1 rfl) ?_
  refine lv_iconst (v := 3) hx hb dX12_qTakes_1 (by decide) ?_
  refine lv_icmp_ge (tgt := 15) hx hb dX12_qTakes_2 (by decide) (fun c_24 => ?_) (fun c_24 => ?_)
  · obtain ⟨k_25, hk_25, h1k_25, rfl⟩ := nofge' o 3 (by omega) c_24
    refine lv_iconst (v := 0) hx hb dX12_qTakes_15 (by decide) ?_
    exact jn_1 0 _ _ _ (by omega) hP hD hS (lv_sub hl [0, 1, 2, 3] rfl)
  · skip
    refine lv_lload_n hx hb dX12_qTakes_5 rfl (lv_at hl 2 rfl) ?_
    refine lv_lconst (v := 1) hx hb dX12_qTakes_6 (by decide) ?_
    refine W.lcmp hx hb dX12_qTakes_7 ?_
    refine lv_if_ne (tgt := 15) hx hb dX12_qTakes_8 (by decide) (fun c_26 => ?_) (fun c_26 => ?_)
    · skip
      refine lv_iconst (v := 0) hx hb dX12_qTakes_15 (by decide) ?_
      exact jn_1 0 _ _ _ (by omega) hP hD hS (lv_sub hl [0, 1, 2, 3] rfl)
    · skip
      refine lv_iconst (v := 1) hx hb dX12_qTakes_11 (by decide) ?_
      refine lv_goto (tgt := 16) hx hb dX12_qTakes_12 (by decide) ?_
      exact jn_1 1 _ _ _ (by omega) hP hD hS (lv_sub hl [0, 1, 2, 3] rfl)
